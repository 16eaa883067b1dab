/-! Rows.gather, gardenToMeasure -/
def acB (B : Int) (a : zAc) : Prop := (0 ≤ a.1 ∧ a.1 ≤ B) ∧ ∀ j, 0 ≤ a.2.2.2 j ∧ a.2.2.2 j ≤ B
theorem tlS_b {d mo : Nat → Int} {al B : Int} {g : Nat} {t : Nat → Int} (ha : 0 ≤ al ∧ al ≤ 6) (h : ∀ j, 0 ≤ t j ∧ t j ≤ B) : ∀ j, 0 ≤ tlS d mo al g t j ∧ tlS d mo al g t j ≤ B + 6 := by
  intro j
  have hj := h j
  unfold tlS; split
  · have hx := h ((g : Int) * 32 + (mo g - d g + 1)).toNat
    simp only [za]; split <;> omega
  · omega
theorem rgT_b {d mo : Nat → Int} {al : Int} (ha : 0 ≤ al ∧ al ≤ 6) {t : Nat → Int} {B : Int} (h : ∀ j, 0 ≤ t j ∧ t j ≤ B) (m : Nat) : ∀ j, 0 ≤ rgF (tlS d mo al) m t j ∧ rgF (tlS d mo al) m t j ≤ B + 6 * m := by
  induction m with
  | zero => intro j; have := h j; show 0 ≤ t j ∧ t j ≤ B + 6 * 0; omega
  | succ m ih => intro j; have := tlS_b (d := d) (mo := mo) (g := m) ha ih j; rw [rgF]; omega
theorem wgS_b {c k m : Nat} {d sg sd pk day : Nat → Int} {a : zAc} {B : Int} (h8 : c ≤ 8) (hm : m ≤ 3) (h : acB B a) : acB (B + 48) (wgS c k m d sg sd pk day a) := by
  have ho := orS_b (pk := pk) (i := m - 1) (by omega)
  unfold wgS; split
  · refine ⟨by have := h.1; dsimp only; omega, fun j => ?_⟩
    have := rgT_b (d := d) (mo := ngF c day) (al := (orS pk (m - 1)).1) ⟨ho.2.2.1, ho.2.2.2⟩ h.2 c j
    dsimp only; omega
  · exact ⟨by have := h.1; omega, fun j => by have := h.2 j; omega⟩
theorem pkS_b {W : (Nat → Int) → (Nat → Int) → zAc → zAc} {c : Nat} {t l : Int} (h8 : c ≤ 8) (hW : ∀ pk day a B, acB B a → acB (B + 48) (W pk day a)) : ∀ (q b : Nat) (pk day : Nat → Int) (a : zAc) (B : Int), acB B a → acB (B + 48 * (16 : Int) ^ q) (pkS W c t l q b pk day a) := by
  intro q
  induction q with
  | zero => intro b pk day a B h; rw [pkS]; simpa using hW pk day a B h
  | succ q ih =>
    intro b pk day a B h
    rw [pkS]
    have hl : ∀ (m : Nat), acB (B + 48 * (16 : Int) ^ q * m) (lpF (fun p a => pkS W c t l q p (za pk q (p : Int)) (za day (p / 2) (day (p / 2) + (if p % 2 = 0 then t else l))) a) b m a) := by
      intro m
      induction m with
      | zero => simpa [lpF] using h
      | succ m ihm =>
        have := ih (b + m) (za pk q ((b + m : Nat) : Int)) (za day ((b + m) / 2) (day ((b + m) / 2) + (if (b + m) % 2 = 0 then t else l))) _ _ ihm
        rw [lpF]
        have e : B + 48 * (16 : Int) ^ q * ((m + 1 : Nat) : Int) = B + 48 * (16 : Int) ^ q * m + 48 * (16 : Int) ^ q := by
          rw [show ((m + 1 : Nat) : Int) = (m : Int) + 1 by omega, Int.mul_add, Int.mul_one]; omega
        rw [e]; exact this
    have h1 := hl (2 * c - b)
    have hpw : (0 : Int) ≤ (16 : Int) ^ q := Int.pow_nonneg (by decide)
    have h2 : 48 * (16 : Int) ^ q * ((2 * c - b : Nat) : Int) ≤ 48 * (16 : Int) ^ (q + 1) := by
      rw [Int.pow_succ, show 48 * ((16 : Int) ^ q * 16) = 48 * (16 : Int) ^ q * 16 by rw [Int.mul_assoc]]
      exact Int.mul_le_mul_of_nonneg_left (by omega) (by omega)
    exact ⟨by have := h1.1; omega, fun j => by have := h1.2 j; omega⟩
/-- all rows of m words -/
def gaF (c k m : Nat) (d rule sg sd : Nat → Int) : zAc := pkS (wgS c k m d sg sd) c (rule 0) (rule 1) m 0 (fun _ => 0) d (0, 0, (2 : Int) ^ c - 1, fun _ => 0)
theorem gaF_b {c k m : Nat} {d rule sg sd : Nat → Int} (h8 : c ≤ 8) (hm : m ≤ 3) : acB 200000 (gaF c k m d rule sg sd) := by
  have h := pkS_b (W := wgS c k m d sg sd) (c := c) (t := rule 0) (l := rule 1) h8 (fun pk day a B h => wgS_b h8 hm h) m 0 (fun _ => 0) d (0, 0, (2 : Int) ^ c - 1, fun _ => 0) 0 ⟨⟨Int.le_refl _, Int.le_refl _⟩, fun j => ⟨Int.le_refl _, Int.le_refl _⟩⟩
  have hp : 48 * (16 : Int) ^ m ≤ 200000 := by
    obtain rfl | rfl | rfl | rfl : m = 0 ∨ m = 1 ∨ m = 2 ∨ m = 3 := by omega
    all_goals decide
  exact ⟨by have := h.1; unfold gaF; omega, fun j => by have := h.2 j; unfold gaF; omega⟩
def gaP (a : zAc) (V V' : zE) : Prop := acV V' = (a.1, a.2.1, (if a.1 = 0 then 0 else a.2.2.1), a.2.2.2) ∧ (∀ j, 0 ≤ V' 30 j ∧ V' 30 j < 16) ∧ ∀ k, k ≠ 29 → k ≠ 30 → k ≠ 31 → k ≠ 32 → k ≠ 33 → V' k = V k
section
variable {X : zXt} {μ : zM} {R : Room} {Z : zZt} {ce sl n : Nat} {S : zH} {pc : Nat} {L : List (Option zV)} {st : List zV} {Rf : zG} {V : zE}
theorem wa_gen (kk : ∀ V1 : zE, V1 = V → Wa X μ R Z ce sl n S pc L st Rf V1) : Wa X μ R Z ce sl n S pc L st Rf V := kk V rfl
end
theorem gather_rest {n : Nat} {S : zH} {Rf : zG} {V V1 : zE} {c k m : Nat} (hL : Lay S Rf) (hc : V 1 0 = (c : Int)) (h2 : 2 ≤ c) (h8 : c ≤ 8) (hk : V 1 8 = (k : Int)) (hk8 : k ≤ 8) (hm3 : m ≤ 3) (hp : ∀ j, 0 ≤ V 30 j ∧ V 30 j < 16) (hdd : ∀ j, 0 ≤ V 2 j ∧ V 2 j ≤ 999) (hu : ∀ j, 0 ≤ V 4 j ∧ V 4 j ≤ 9) (hsg : ∀ j, 0 ≤ V 7 j ∧ V 7 j < 8) (hsd : ∀ j, 0 ≤ V 8 j ∧ V 8 j ≤ 100000)
    (hgb1 : 0 ≤ (gaF c k m (V 2) (V 4) (V 7) (V 8)).1 ∧ (gaF c k m (V 2) (V 4) (V 7) (V 8)).1 ≤ 200000) (eo : ∀ q, q ≠ 29 → q ≠ 33 → q ≠ 31 → V1 q = V q) (e31 : V1 31 = V 2) (e33 : V1 33 = fun _ => 0) (e29 : V1 29 4 = (m : Int) ∧ V1 29 5 = 0 ∧ V1 29 6 = 0 ∧ V1 29 7 = 2 ^ c - 1) :
    Wa zXn mX2_gather (zrm 8 0 0) (zZm (qPN S Rf (gaP (gaF c k m (V 2) (V 4) (V 7) (V 8)) V)) (n + 0) 0 0) 0 0 n S 64 [some (zR 29), some (zR 1), some (zI (m : Int))] [] Rf V1 := by
  have ea : acV V1 = (0, 0, (2 : Int) ^ c - 1, fun _ => 0) := by simp only [acV]; rw [e29.2.1, e29.2.2.1, e29.2.2.2, e33]
  have f1 := eo 1 (by decide) (by decide) (by decide)
  refine wa_ald0 dX2_gather_64 ?_
  refine wa_ald1 dX2_gather_65 ?_
  refine wa_ild2 dX2_gather_66 ?_
  refine wa_iconst dX2_gather_67 ?_
  refine kX2_61 dX2_gather_68 rfl (ct_pickFrom (c := c) (k := k) (m := m) (d := V 2) (rule := V 4) (sg := V 7) (sd := V 8) hL h2 h8 hk8 hm3 hdd hsg hsd hu m 0 V1 (fun _ => 0) (Nat.le_refl _) (by omega) (by rw [f1]; exact hc) (by rw [f1]; exact hk) (eo 2 (by decide) (by decide) (by decide)) (eo 4 (by decide) (by decide) (by decide)) (eo 7 (by decide) (by decide) (by decide)) (eo 8 (by decide) (by decide) (by decide)) e29.1 (fun j => by rw [eo 30 (by decide) (by decide) (by decide)]; exact hp j) (fun j => by rw [e31]; have := hdd j; omega) (fun j a b => absurd a (by omega))) (by dsimp only [zrm]; omega) (Nat.le_of_ble_eq_true rfl) ⟨Nat.le_refl _, Nat.le_refl _⟩ (zpN fun V2 hp2 => ?_)
  obtain ⟨p1, p2, p3, p4, p5, p6⟩ := hp2
  rw [ea, e31, show pkS (wgS c k m (V 2) (V 7) (V 8)) c (V 4 0) (V 4 1) m 0 (fun _ => 0) (V 2) (0, 0, (2 : Int) ^ c - 1, fun _ => 0) = gaF c k m (V 2) (V 4) (V 7) (V 8) from rfl] at p1
  have q6 : V2 29 5 = (gaF c k m (V 2) (V 4) (V 7) (V 8)).1 := by rw [← p1]
  have q7 : V2 29 6 = (gaF c k m (V 2) (V 4) (V 7) (V 8)).2.1 := by rw [← p1]
  have q8 : V2 29 7 = (gaF c k m (V 2) (V 4) (V 7) (V 8)).2.2.1 := by rw [← p1]
  have q33 : V2 33 = (gaF c k m (V 2) (V 4) (V 7) (V 8)).2.2.2 := by rw [← p1]
  refine wa_ald0 dX2_gather_71 ?_
  refine gX2_28 dX2_gather_72 rfl (by first | assumption | exact hL.1 _ (by decide)) ?_
  refine wa_if_ne 83 dX2_gather_75 (by decide) (by omega) (fun c75 => ?_) (fun c75 => ?_)
  · exact wa_return dX2_gather_83 rfl rfl (Nat.le_refl _) (by first | exact ⟨rfl, rfl, rfl, by (simp only [acV]; rw [q6, q7, q8, q33, if_neg (by omega)]), p4, fun q q1 q2 q3 q4 q5 => by rw [p6 q q1 q2 q3 q4 q5, eo q q1 q5 q3]⟩ | exact ⟨rfl, rfl, rfl, by (simp only [acV, zp_s, za_s, za_n _ _ (show 5 ≠ 7 by decide), za_n _ _ (show 6 ≠ 7 by decide), zp_n _ _ (show 33 ≠ 29 by decide)]; rw [q6, q7, q33, if_pos (by omega)]), fun j => by rw [zp_n _ _ (by decide)]; exact p4 j, fun q q1 q2 q3 q4 q5 => by rw [zp_n _ _ q1, p6 q q1 q2 q3 q4 q5, eo q q1 q5 q3]⟩)
  · refine wa_ald0 dX2_gather_78 ?_
    refine wa_iconst dX2_gather_79 ?_
    refine pX2_34 dX2_gather_80 rfl (by first | assumption | exact hL.1 _ (by decide)) ?_
    exact wa_return dX2_gather_83 rfl rfl (Nat.le_refl _) (by first | exact ⟨rfl, rfl, rfl, by (simp only [acV]; rw [q6, q7, q8, q33, if_neg (by omega)]), p4, fun q q1 q2 q3 q4 q5 => by rw [p6 q q1 q2 q3 q4 q5, eo q q1 q5 q3]⟩ | exact ⟨rfl, rfl, rfl, by (simp only [acV, zp_s, za_s, za_n _ _ (show 5 ≠ 7 by decide), za_n _ _ (show 6 ≠ 7 by decide), zp_n _ _ (show 33 ≠ 29 by decide)]; rw [q6, q7, q33, if_pos (by omega)]), fun j => by rw [zp_n _ _ (by decide)]; exact p4 j, fun q q1 q2 q3 q4 q5 => by rw [zp_n _ _ q1, p6 q q1 q2 q3 q4 q5, eo q q1 q5 q3]⟩)
theorem ct_gather {n : Nat} {S : zH} {Rf : zG} {V : zE} {c k m : Nat} (hL : Lay S Rf) (hc : V 1 0 = (c : Int)) (h2 : 2 ≤ c) (h8 : c ≤ 8) (hk : V 1 8 = (k : Int)) (hk8 : k ≤ 8) (hm3 : m ≤ 3) (hp : ∀ j, 0 ≤ V 30 j ∧ V 30 j < 16) (hdd : ∀ j, 0 ≤ V 2 j ∧ V 2 j ≤ 999) (hu : ∀ j, 0 ≤ V 4 j ∧ V 4 j ≤ 9) (hsg : ∀ j, 0 ≤ V 7 j ∧ V 7 j < 8) (hsd : ∀ j, 0 ≤ V 8 j ∧ V 8 j ≤ 100000) :
    Cpv 8 mX2_gather [zR 29, zR 1, zI (m : Int)] n S Rf V (gaP (gaF c k m (V 2) (V 4) (V 7) (V 8)) V) := by
  have hgb := gaF_b (c := c) (k := k) (m := m) (d := V 2) (rule := V 4) (sg := V 7) (sd := V 8) h8 hm3
  have hgb1 := hgb.1
  refine ct_of (by decide) rfl (Nat.le_of_ble_eq_true rfl) ?_
  refine wa_ald1 dX2_gather_0 ?_
  refine wa_ifnull_r dX2_gather_1 ?_
  refine wa_ild2 dX2_gather_4 ?_
  refine wa_iconst dX2_gather_5 ?_
  refine wa_iconst dX2_gather_6 ?_
  refine kX2_37 dX2_gather_7 rfl (ct_isOutside (by omega) (by decide) (by decide)) (by decide) (Nat.le_of_ble_eq_true rfl) ⟨Nat.le_refl _, Nat.le_refl _⟩ (zdI ?_)
  refine wa_ifeq_B 14 dX2_gather_10 (by decide) (fun c10 => ?_) (fun c10 => ?_)
  · refine wa_ald0 dX2_gather_14 ?_
    refine wa_ild2 dX2_gather_15 ?_
    refine pX2_24 dX2_gather_16 rfl (by first | assumption | exact hL.1 _ (by decide)) ?_
    refine wa_ald0 dX2_gather_19 ?_
    refine wa_iconst dX2_gather_20 ?_
    refine pX2_28 dX2_gather_21 rfl (by first | assumption | exact hL.1 _ (by decide)) ?_
    refine wa_ald0 dX2_gather_24 ?_
    refine wa_iconst dX2_gather_25 ?_
    refine pX2_31 dX2_gather_26 rfl (by first | assumption | exact hL.1 _ (by decide)) ?_
    refine wa_ald0 dX2_gather_29 ?_
    refine wa_iconst dX2_gather_30 ?_
    refine wa_ald1 dX2_gather_31 ?_
    refine gX2_41 dX2_gather_32 rfl (by first | assumption | exact hL.1 _ (by decide)) ?_
    rw [zp_n _ _ (show 1 ≠ 29 by decide), zp_n _ _ (show 1 ≠ 29 by decide), zp_n _ _ (show 1 ≠ 29 by decide), hc]
    refine wa_ishl1 dX2_gather_35 (by omega) ?_
    refine wa_iconst dX2_gather_36 ?_
    refine wa_isub dX2_gather_37 ?_
    refine pX2_34 dX2_gather_38 rfl (by first | assumption | exact hL.1 _ (by decide)) ?_
    refine wa_ald0 dX2_gather_41 ?_
    refine gX2_21 dX2_gather_42 rfl (by first | assumption | exact hL.1 _ (by decide)) (by first | assumption | exact hL.2 _ _ (by decide)) ?_
    refine wa_iconst dX2_gather_45 ?_
    refine kX2_46 dX2_gather_46 rfl (ct_fill (hL.1 33 (by decide)) (by decide)) (by decide) (Nat.le_of_ble_eq_true rfl) ⟨Nat.le_refl _, Nat.le_refl _⟩ (zdN ?_)
    refine wa_ald1 dX2_gather_49 ?_
    refine gX2_52 dX2_gather_50 rfl (by first | assumption | exact hL.1 _ (by decide)) (by first | assumption | exact hL.2 _ _ (by decide)) ?_
    refine wa_iconst dX2_gather_53 ?_
    refine wa_ald0 dX2_gather_54 ?_
    refine gX2_15 dX2_gather_55 rfl (by first | assumption | exact hL.1 _ (by decide)) (by first | assumption | exact hL.2 _ _ (by decide)) ?_
    refine wa_iconst dX2_gather_58 ?_
    refine wa_bipush dX2_gather_59 (by decide) ?_
    refine wa_copy dX2_gather_61 lX2_55 w_nat_copy w_st_copy w_iSys ⟨Nat.le_of_ble_eq_true rfl, Nat.le_of_ble_eq_true rfl⟩ (by decide) rfl (by first | assumption | exact hL.1 _ (by decide)) (by first | assumption | exact hL.1 _ (by decide)) ?_
    refine wa_gen (fun V1 hV1 => ?_)
    have eo : ∀ q, q ≠ 29 → q ≠ 33 → q ≠ 31 → V1 q = V q := by intro q q1 q2 q3; rw [hV1]; simp [zp_n, q1, q2, q3]
    have e31 : V1 31 = V 2 := by rw [hV1]; simp [zp_n, zp_s]
    have e33 : V1 33 = fun _ => 0 := by rw [hV1]; simp [zp_n, zp_s]
    have e29 : V1 29 4 = (m : Int) ∧ V1 29 5 = 0 ∧ V1 29 6 = 0 ∧ V1 29 7 = 2 ^ c - 1 := by rw [hV1]; simp [zp_n, zp_s, za]
    clear hV1
    exact gather_rest hL hc h2 h8 hk hk8 hm3 hp hdd hu hsg hsd hgb1 eo e31 e33 e29
  · exact absurd c10 (by omega)
/-- the garden to measure, of the first m -/
def gmF (mx : Nat → Int) (sn : Nat → Bool) : Nat → Int
  | 0 => -6
  | m + 1 => if sn m = false ∧ (gmF mx sn m = -6 ∨ mx m < mx (gmF mx sn m).toNat) then (m : Int) else gmF mx sn m
theorem gmF_b {mx : Nat → Int} {sn : Nat → Bool} (m : Nat) : gmF mx sn m = -6 ∨ (0 ≤ gmF mx sn m ∧ gmF mx sn m < m) := by
  induction m with
  | zero => left; rfl
  | succ m ih => unfold gmF; split; (right; omega); (rcases ih with h | h; (left; exact h); (right; omega))
theorem ct_gardenToMeasure {n : Nat} {S : zH} {Rf : zG} {V : zE} {c k : Nat} (hL : Lay S Rf) (hc : V 1 0 = (c : Int)) (h2 : 2 ≤ c) (h8 : c ≤ 8) (hk : V 1 8 = (k : Int)) (hk8 : k ≤ 8) (hsg : ∀ j, 0 ≤ V 7 j ∧ V 7 j < 8) (ha : acB 200000 (acV V)) :
    Ci 3 mX2_gardenToMeasure [zR 29, zR 1] n S Rf V (if V 29 5 = 0 then -6 else gmF (fun g => mxF (fun i => V 33 (g * 32 + i)) 32) (fun g => anyB (fun i => V 7 i == (g : Int)) k) c) V := by
  have ha1 := ha.1
  dsimp only at ha1
  have hx : ∀ j, 0 ≤ V 33 j ∧ V 33 j ≤ 1000000 := fun j => by have := ha.2 j; dsimp only at this; omega
  have hmb : ∀ g : Nat, 0 ≤ mxF (fun i => V 33 (g * 32 + i)) 32 ∧ mxF (fun i => V 33 (g * 32 + i)) 32 ≤ 1000000 := fun g => mxF_b (by decide) (fun j => hx _) 32
  refine ct_of (by decide) rfl (Nat.le_of_ble_eq_true rfl) ?_
  have loop : ∀ (q i : Nat), i + q = c → Wa zXn mX2_gardenToMeasure (zrm 3 0 0) (zZm (qI (gmF (fun g => mxF (fun i => V 33 (g * 32 + i)) 32) (fun g => anyB (fun i => V 7 i == (g : Int)) k) c) S Rf V) (n + 0) 0 0) 0 0 n S 18 [some (zR 29), some (zR 1), some (zI (gmF (fun g => mxF (fun i => V 33 (g * 32 + i)) 32) (fun g => anyB (fun i => V 7 i == (g : Int)) k) i)), some (zI (i : Int))] [] Rf V := by
    intro q
    induction q with
    | zero =>
      intro i hi
      obtain rfl : i = c := by omega
      refine wa_ild3 dX2_gardenToMeasure_18 ?_
      refine wa_ald1 dX2_gardenToMeasure_19 ?_
      refine gX2_41 dX2_gardenToMeasure_20 rfl (by first | assumption | exact hL.1 _ (by decide)) ?_
      refine wa_icmp_ge 67 dX2_gardenToMeasure_23 (by decide) (by omega) (by omega) (fun c23 => ?_) (fun c23 => ?_)
      · refine wa_ild2 dX2_gardenToMeasure_67 ?_
        exact wa_ireturn dX2_gardenToMeasure_68 rfl rfl (Nat.le_refl _) (by exact ⟨rfl, rfl, rfl, rfl⟩)
      · exact absurd c23 (by omega)
    | succ q ih =>
      intro i hi
      have e1 := ih (i + 1) (by omega)
      rw [gmF] at e1
      have hgm := gmF_b (mx := fun g => mxF (fun i => V 33 (g * 32 + i)) 32) (sn := fun g => anyB (fun i => V 7 i == (g : Int)) k) i
      generalize gmF (fun g => mxF (fun i => V 33 (g * 32 + i)) 32) (fun g => anyB (fun i => V 7 i == (g : Int)) k) i = bst at e1 hgm ⊢
      have hm1 := hmb i
      have hm2 := hmb bst.toNat
      refine wa_ild3 dX2_gardenToMeasure_18 ?_
      refine wa_ald1 dX2_gardenToMeasure_19 ?_
      refine gX2_41 dX2_gardenToMeasure_20 rfl (by first | assumption | exact hL.1 _ (by decide)) ?_
      refine wa_icmp_ge 67 dX2_gardenToMeasure_23 (by decide) (by omega) (by omega) (fun c23 => ?_) (fun c23 => ?_)
      · exact absurd c23 (by omega)
      · refine wa_ild3 dX2_gardenToMeasure_26 ?_
        refine wa_bipush dX2_gardenToMeasure_27 (by decide) ?_
        refine wa_icmp_ge 67 dX2_gardenToMeasure_29 (by decide) (by omega) (by omega) (fun c29 => ?_) (fun c29 => ?_)
        · exact absurd c29 (by omega)
        · refine wa_ald1 dX2_gardenToMeasure_32 ?_
          refine wa_ild3 dX2_gardenToMeasure_33 ?_
          refine kX2_89 dX2_gardenToMeasure_34 rfl (by first | assumption | exact hL.1 _ (by decide)) (ct_isSeen (k := k) hL.s1 hk hk8 (by omega) (fun j => by show 0 ≤ V 7 j ∧ V 7 j ≤ 100; have := hsg j; omega)) (by decide) (Nat.le_of_ble_eq_true rfl) ⟨Nat.le_refl _, Nat.le_refl _⟩ (zdI ?_)
          refine wa_ifne_B 61 dX2_gardenToMeasure_37 (by decide) (fun c37 => ?_) (fun c37 => ?_)
          · refine wa_iinc3 dX2_gardenToMeasure_61 (by decide) rfl ?_
            refine wa_goto 18 dX2_gardenToMeasure_64 (by decide) ?_
            simp only [Nat.reduceAdd] at c37
            rw [if_neg (fun h => by rw [c37] at h; exact absurd h.1 (by decide))] at e1
            exact e1
          · refine wa_ild2 dX2_gardenToMeasure_40 ?_
            refine wa_bipush dX2_gardenToMeasure_41 (by decide) ?_
            refine wa_icmp_eq 59 dX2_gardenToMeasure_43 (by decide) (by omega) (by omega) (fun c43 => ?_) (fun c43 => ?_)
            · refine wa_ild3 dX2_gardenToMeasure_59 ?_
              refine wa_ist2 dX2_gardenToMeasure_60 (by decide) rfl ?_
              refine wa_iinc3 dX2_gardenToMeasure_61 (by decide) rfl ?_
              refine wa_goto 18 dX2_gardenToMeasure_64 (by decide) ?_
              simp only [Nat.reduceAdd] at c37
              rw [if_pos ⟨by simpa using c37, Or.inl c43⟩] at e1
              exact e1
            · refine wa_ald0 dX2_gardenToMeasure_46 ?_
              refine wa_ild3 dX2_gardenToMeasure_47 ?_
              refine kX2_93 dX2_gardenToMeasure_48 rfl (by first | assumption | exact hL.1 _ (by decide)) (ct_mostLeft hL (by omega) hx) (by decide) (Nat.le_of_ble_eq_true rfl) ⟨Nat.le_refl _, Nat.le_refl _⟩ (zdI ?_)
              rw [show bst = ((bst.toNat : Nat) : Int) by omega]
              refine wa_ald0 dX2_gardenToMeasure_51 ?_
              refine wa_ild2 dX2_gardenToMeasure_52 ?_
              refine kX2_93 dX2_gardenToMeasure_53 rfl (by first | assumption | exact hL.1 _ (by decide)) (ct_mostLeft hL (by omega) hx) (by decide) (Nat.le_of_ble_eq_true rfl) ⟨Nat.le_refl _, Nat.le_refl _⟩ (zdI ?_)
              refine wa_icmp_ge 61 dX2_gardenToMeasure_56 (by decide) (by omega) (by omega) (fun c56 => ?_) (fun c56 => ?_)
              · rw [show ((bst.toNat : Nat) : Int) = bst by omega]
                refine wa_iinc3 dX2_gardenToMeasure_61 (by decide) rfl ?_
                refine wa_goto 18 dX2_gardenToMeasure_64 (by decide) ?_
                rw [if_neg (fun h => by omega)] at e1
                exact e1
              · refine wa_ild3 dX2_gardenToMeasure_59 ?_
                refine wa_ist2 dX2_gardenToMeasure_60 (by decide) rfl ?_
                refine wa_iinc3 dX2_gardenToMeasure_61 (by decide) rfl ?_
                refine wa_goto 18 dX2_gardenToMeasure_64 (by decide) ?_
                simp only [Nat.reduceAdd] at c37
                rw [if_pos ⟨by simpa using c37, Or.inr c56⟩] at e1
                exact e1
  refine wa_bipush dX2_gardenToMeasure_0 (by decide) ?_
  refine wa_ist2 dX2_gardenToMeasure_2 (by decide) rfl ?_
  refine wa_ald0 dX2_gardenToMeasure_3 ?_
  refine gX2_28 dX2_gardenToMeasure_4 rfl (by first | assumption | exact hL.1 _ (by decide)) ?_
  refine wa_if_eq 14 dX2_gardenToMeasure_7 (by decide) (by omega) (fun c7 => ?_) (fun c7 => ?_)
  · refine wa_ild2 dX2_gardenToMeasure_14 ?_
    exact wa_ireturn dX2_gardenToMeasure_15 rfl rfl (Nat.le_refl _) (by exact ⟨by rw [if_pos c7], rfl, rfl, rfl⟩)
  · refine wa_ald1 dX2_gardenToMeasure_10 ?_
    refine wa_ifnonnull_r 16 dX2_gardenToMeasure_11 (by decide) ?_
    refine wa_iconst dX2_gardenToMeasure_16 ?_
    refine wa_ist3 dX2_gardenToMeasure_17 (by decide) rfl ?_
    rw [if_neg c7]
    exact loop c 0 (by omega)
