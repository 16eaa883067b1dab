/-! Places 23: tried 24, best 25, fewest 23.2 -/
def rgF {α : Type} (f : Nat → α → α) : Nat → α → α
  | 0, B => B
  | m + 1, B => f m (rgF f m B)
def sayD (rule : Nat → Int) (k g w : Int) (q : zDs) : zDs := (za q.1 g.toNat (q.1 g.toNat + wtF rule q.2 k g w), za q.2 g.toNat (zor (q.2 g.toNat) (2 ^ w.toNat)))
def canB (c : Nat) (roof rule : Nat → Int) (f0 k g w : Int) (q : zDs) : Bool := (hinF c q.1 rule q.2 k g w == 0) && (zand (ovl (sayD rule k g w q).1 roof c) (zxor f0 (-1)) == 0)
/-- all places for the words, the least first: the fewest unsaid, and where -/
def plS (c : Nat) (roof rule : Nat → Int) (f0 : Int) : List (Int × Int × Int) → Nat → zDs → (Nat → Int) → Int → Int × (Nat → Int) → Int × (Nat → Int)
  | [], _, _, t, u, B => if u < B.1 then (u, t) else B
  | x :: ws, i, q, t, u, B => plS c roof rule f0 ws (i + 1) q (za t i (-6)) (u + 1) (rgF (fun g B => if canB c roof rule f0 x.1 g x.2.2 q = true then plS c roof rule f0 ws (i + 1) (sayD rule x.1 g x.2.2 q) (za t i g) u B else B) c B)
theorem rgF_id {α : Type} {f : Nat → α → α} {B : α} {m : Nat} (h : ∀ g, f g B = B) : rgF f m B = B := by
  induction m with
  | zero => rfl
  | succ m ih => rw [rgF, ih, h]
theorem plS_le {c : Nat} {roof rule : Nat → Int} {f0 : Int} {ws : List (Int × Int × Int)} : ∀ {i : Nat} {q : zDs} {t : Nat → Int} {u : Int} {B : Int × (Nat → Int)}, B.1 ≤ u → plS c roof rule f0 ws i q t u B = B := by
  induction ws with
  | nil => intro i q t u B h; rw [plS, if_neg (by omega)]
  | cons x ws ih =>
    intro i q t u B h
    rw [plS, rgF_id (fun g => by split; exact ih h; rfl), ih (by omega)]
theorem plS_b {c : Nat} {roof rule : Nat → Int} {f0 : Int} {ws : List (Int × Int × Int)} : ∀ {i : Nat} {q : zDs} {t : Nat → Int} {u : Int} {B : Int × (Nat → Int)}, 0 ≤ u → (0 ≤ B.1 ∧ B.1 ≤ 10) → (0 ≤ (plS c roof rule f0 ws i q t u B).1 ∧ (plS c roof rule f0 ws i q t u B).1 ≤ 10) := by
  induction ws with
  | nil => intro i q t u B hu h; rw [plS]; split; (dsimp only; omega); exact h
  | cons x ws ih =>
    intro i q t u B hu h
    rw [plS]
    refine ih (by omega) ?_
    have : ∀ m : Nat, 0 ≤ (rgF (fun g B => if canB c roof rule f0 x.1 g x.2.2 q = true then plS c roof rule f0 ws (i + 1) (sayD rule x.1 g x.2.2 q) (za t i g) u B else B) m B).1 ∧ (rgF (fun g B => if canB c roof rule f0 x.1 g x.2.2 q = true then plS c roof rule f0 ws (i + 1) (sayD rule x.1 g x.2.2 q) (za t i g) u B else B) m B).1 ≤ 10 := by
      intro m
      induction m with
      | zero => exact h
      | succ m ihm => rw [rgF]; split; exact ih hu ihm; exact ihm
    exact this c
theorem ct_keep {n : Nat} {S : zH} {Rf : zG} {V : zE} {u : Int} (hL : Lay S Rf) : Cv 1 mX1_keep [zR 23, zI u] n S Rf V (zp (zp V 23 (za (V 23) 2 u)) 25 (V 24)) := by
  refine ct_of (by decide) rfl (Nat.le_of_ble_eq_true rfl) ?_
  refine wa_ald0 dX1_keep_0 ?_
  refine wa_ild1 dX1_keep_1 ?_
  refine pX1_18 dX1_keep_2 rfl (by first | assumption | exact hL.1 _ (by decide)) ?_
  refine wa_ald0 dX1_keep_5 ?_
  refine gX1_9 dX1_keep_6 rfl (by first | assumption | exact hL.1 _ (by decide)) (by first | assumption | exact hL.2 _ _ (by decide)) ?_
  refine wa_iconst dX1_keep_9 ?_
  refine wa_ald0 dX1_keep_10 ?_
  refine gX1_15 dX1_keep_11 rfl (by first | assumption | exact hL.1 _ (by decide)) (by first | assumption | exact hL.2 _ _ (by decide)) ?_
  refine wa_iconst dX1_keep_14 ?_
  refine wa_iconst dX1_keep_15 ?_
  refine wa_copy dX1_keep_16 lX1_56 w_nat_copy w_st_copy w_iSys ⟨Nat.le_of_ble_eq_true rfl, Nat.le_of_ble_eq_true rfl⟩ (by decide) rfl (by first | assumption | exact hL.1 _ (by decide)) (by first | assumption | exact hL.1 _ (by decide)) ?_
  exact wa_return dX1_keep_19 rfl rfl (Nat.le_refl _) (by exact ⟨rfl, rfl, rfl, by rw [zp_n _ _ (show 24 ≠ 23 by decide)]⟩)
def snP (c : Nat) (k g w : Int) (V : zE) (x : Int) (V' : zE) : Prop :=
  x = (if canB c (V 11) (V 12) (V 9 3) k g w (V 10, V 13) = true then 1 else 0) ∧ V' = (if hinF c (V 10) (V 12) (V 13) k g w = 0 then fallV 9 k g w V else V)
theorem ct_bearsWord {n : Nat} {S : zH} {Rf : zG} {V : zE} {c : Nat} {k g w : Int} (hL : Lay S Rf) (hc : V 9 0 = (c : Int)) (h2 : 2 ≤ c) (h8 : c ≤ 8) (hg : 0 ≤ g ∧ g < c) (hk : 0 ≤ k ∧ k ≤ 1) (hw : 0 ≤ w ∧ w < c) (hd : ∀ j, 0 ≤ V 10 j ∧ V 10 j ≤ 999) (hf : ∀ j, 0 ≤ V 11 j ∧ V 11 j ≤ 999) (hu : ∀ j, 0 ≤ V 12 j ∧ V 12 j ≤ 9) (hs : ∀ j, -2147483648 ≤ V 13 j ∧ V 13 j ≤ 2147483647) :
    Cpi 5 mX4_bearsWord [zR 9, zI k, zI g, zI w] n S Rf V (snP c k g w V) := by
  have hd' : ∀ j, 0 ≤ V (9 + 1) j ∧ V (9 + 1) j ≤ 100000 := fun j => by have := hd j; show 0 ≤ V 10 j ∧ V 10 j ≤ 100000; omega
  have hin := hinF_rg (c := c) (d := V 10) (rule := V 12) (said := V 13) (k := k) (g := g) (w := w)
  have hsp : spkV 9 c k g w V = fallV 9 k g w V := by unfold spkV; rw [if_pos (by omega)]
  have hb := spkV_b (r := 9) (c := c) (k := k) (g := g) (w := w) (V := V) (B := 999) hd hu
  have hz := zand_rg (ovl (fallV 9 k g w V 10) (V 11) c) (zxor (V 9 3) (-1))
  have e10 : fallV 9 k g w V 10 = (sayD (V 12) k g w (V 10, V 13)).1 := by simp [fallV, sayD, zp_n, zp_s]
  rw [hsp] at hb
  simp only [Nat.reduceAdd] at hb
  have e11 : fallV 9 k g w V 11 = V 11 := by simp [fallV, zp_n]
  have e9 : fallV 9 k g w V 9 = V 9 := by simp [fallV, zp_n]
  have hS := ct_speak (n := n) (S := S) (Rf := Rf) (V := V) (r := 9) (c := c) (k := k) (g := g) (w := w) hL.s9 hc h2 h8 (by omega) hg hw hd' hu hs
  rw [hsp] at hS
  refine ct_of (by decide) rfl (Nat.le_of_ble_eq_true rfl) ?_
  refine wa_ald0 dX4_bearsWord_0 ?_
  refine wa_ild1 dX4_bearsWord_1 ?_
  refine wa_ild2 dX4_bearsWord_2 ?_
  refine wa_ild3 dX4_bearsWord_3 ?_
  refine kX4_105 dX4_bearsWord_4 rfl (by first | assumption | exact hL.1 _ (by decide)) (ct_hindrance (c := c) hL.s9 hc h2 h8 (by omega) hg hw hd' hu) (by decide) (Nat.le_of_ble_eq_true rfl) ⟨Nat.le_refl _, Nat.le_refl _⟩ (zdI ?_)
  simp only [Nat.reduceAdd]
  refine wa_if_eq 12 dX4_bearsWord_7 (by decide) (by first | omega | (rw [e11, e9]; exact hz)) (fun c7 => ?_) (fun c7 => ?_)
  · refine wa_ald0 dX4_bearsWord_12 ?_
    refine wa_ild1 dX4_bearsWord_13 ?_
    refine wa_ild2 dX4_bearsWord_14 ?_
    refine wa_ild3 dX4_bearsWord_15 ?_
    refine kX4_108 dX4_bearsWord_16 rfl (by first | assumption | exact hL.1 _ (by decide)) (hS) (by decide) (Nat.le_of_ble_eq_true rfl) ⟨Nat.le_refl _, Nat.le_refl _⟩ (zdN ?_)
    refine wa_ald0 dX4_bearsWord_19 ?_
    refine kX4_111 dX4_bearsWord_20 rfl (by first | assumption | exact hL.1 _ (by decide)) (ct_overloaded (c := c) hL.s9 (by rw [e9]; exact hc) h2 h8 (fun j => by have := hb j; simp only [Nat.reduceAdd]; omega) (fun j => by simp only [Nat.reduceAdd]; rw [e11]; have := hf j; omega)) (by decide) (Nat.le_of_ble_eq_true rfl) ⟨Nat.le_refl _, Nat.le_refl _⟩ (zdI ?_)
    simp only [Nat.reduceAdd]
    refine wa_if_ne 30 dX4_bearsWord_23 (by decide) (by first | omega | (rw [e11, e9]; exact hz)) (fun c23 => ?_) (fun c23 => ?_)
    · refine wa_iconst dX4_bearsWord_30 ?_
      exact wa_breturn dX4_bearsWord_31 rfl rfl (Nat.le_refl _) (by first | exact Or.inl rfl | exact Or.inr rfl | (split <;> simp)) (by rw [e11, e9, e10] at c23; refine ⟨_, rfl, rfl, rfl, ?_, by rw [if_pos c7]⟩; unfold canB; simp only [Bool.and_eq_true, beq_iff_eq]; first | rw [if_pos (by omega)] | rw [if_neg (by omega)])
    · refine wa_iconst dX4_bearsWord_26 ?_
      refine wa_goto 31 dX4_bearsWord_27 (by decide) ?_
      exact wa_breturn dX4_bearsWord_31 rfl rfl (Nat.le_refl _) (by first | exact Or.inl rfl | exact Or.inr rfl | (split <;> simp)) (by rw [e11, e9, e10] at c23; refine ⟨_, rfl, rfl, rfl, ?_, by rw [if_pos c7]⟩; unfold canB; simp only [Bool.and_eq_true, beq_iff_eq]; first | rw [if_pos (by omega)] | rw [if_neg (by omega)])
  · refine wa_iconst dX4_bearsWord_10 ?_
    exact wa_breturn dX4_bearsWord_11 rfl rfl (Nat.le_refl _) (by first | exact Or.inl rfl | exact Or.inr rfl | (split <;> simp)) (by refine ⟨_, rfl, rfl, rfl, ?_, by rw [if_neg c7]⟩; rw [if_neg (by unfold canB; simp only [Bool.and_eq_true, beq_iff_eq]; exact fun h => c7 h.1)])
/-- what the search from word i leaves -/
def pfP (m i : Nat) (R : Int × (Nat → Int)) (V V' : zE) : Prop :=
  V' 23 2 = R.1 ∧ (∀ j, j < m → V' 25 j = R.2 j) ∧ V' 10 = V 10 ∧ V' 13 = V 13 ∧ (∀ j, j < i → V' 24 j = V 24 j) ∧ ∀ k, k ≠ 23 → k ≠ 24 → k ≠ 25 → k ≠ 10 → k ≠ 13 → k ≠ 14 → V' k = V k
theorem sayD_b {c : Nat} {rule : Nat → Int} {k g w : Int} {q : zDs} (hk : 0 ≤ k ∧ k ≤ 1) (hu : ∀ j, 0 ≤ rule j ∧ rule j ≤ 9) (hd : ∀ j, 0 ≤ q.1 j ∧ q.1 j ≤ 999) (h0 : hinF c q.1 rule q.2 k g w = 0) : ∀ j, 0 ≤ (sayD rule k g w q).1 j ∧ (sayD rule k g w q).1 j ≤ 999 := by
  intro j
  have hj := hd j
  have hg := hd g.toNat
  have hw := wtF_b (rule := rule) (said := q.2) (k := k) (g := g) (w := w) hu
  unfold hinF at h0
  rw [if_neg (by omega), if_neg (by omega)] at h0
  by_cases hgw : g = w
  · rw [if_pos hgw] at h0; omega
  · rw [if_neg hgw, if_neg (by omega)] at h0
    by_cases h9 : 999 < q.1 g.toNat + wtF rule q.2 k g w
    · rw [if_pos h9] at h0; omega
    · unfold sayD; dsimp only
      by_cases hh : j = g.toNat
      · subst hh; rw [za_s]; omega
      · rw [za_n _ _ hh]; omega
theorem sayD_s {rule : Nat → Int} {k g w : Int} {q : zDs} (hs : ∀ j, -2147483648 ≤ q.2 j ∧ q.2 j ≤ 2147483647) : ∀ j, -2147483648 ≤ (sayD rule k g w q).2 j ∧ (sayD rule k g w q).2 j ≤ 2147483647 := by
  intro j
  unfold sayD; dsimp only
  by_cases hh : j = g.toNat
  · subst hh; rw [za_s]; exact zor_rg _ _
  · rw [za_n _ _ hh]; exact hs j
theorem fall10 {k g w : Int} {V : zE} : fallV 9 k g w V 10 = (sayD (V 12) k g w (V 10, V 13)).1 := by simp [fallV, sayD, zp_n, zp_s]
theorem fall13 {k g w : Int} {V : zE} : fallV 9 k g w V 13 = (sayD (V 12) k g w (V 10, V 13)).2 := by simp [fallV, sayD, zp_n, zp_s]
theorem fallo {k g w : Int} {V : zE} {a : Nat} (h1 : a ≠ 10) (h2 : a ≠ 13) (h3 : a ≠ 14) : fallV 9 k g w V a = V a := by unfold fallV; rw [zp_n _ _ h2, zp_n _ _ h3, zp_n _ _ h1]
theorem ct_placeFrom {n : Nat} {S : zH} {Rf : zG} {c m : Nat} (hL : Lay S Rf) (h2 : 2 ≤ c) (h8 : c ≤ 8) (hm : m ≤ 4) : ∀ (ws : List (Int × Int × Int)) (i : Nat) (V : zE) (t : Nat → Int) (u : Int) (B : Int × (Nat → Int)),
    i + ws.length = m → (∀ j x, ws[j]? = some x → V 20 (i + j) = x.1 ∧ V 22 (i + j) = x.2.2 ∧ (0 ≤ x.1 ∧ x.1 ≤ 1) ∧ (0 ≤ x.2.2 ∧ x.2.2 < (c : Int))) → V 18 2 = (m : Int) → V 9 0 = (c : Int) → (∀ j, 0 ≤ V 10 j ∧ V 10 j ≤ 999) → (∀ j, 0 ≤ V 11 j ∧ V 11 j ≤ 999) → (∀ j, 0 ≤ V 12 j ∧ V 12 j ≤ 9) → (∀ j, -2147483648 ≤ V 13 j ∧ V 13 j ≤ 2147483647) →
    (0 ≤ u ∧ u ≤ (i : Int)) → (0 ≤ B.1 ∧ B.1 ≤ 10) → (∀ j, j < i → V 24 j = t j) → V 23 2 = B.1 → (∀ j, j < m → V 25 j = B.2 j) →
    Cpv (6 + ws.length) mX1_placeFrom [zR 23, zR 9, zR 18, zI (i : Int), zI u] n S Rf V (pfP m i (plS c (V 11) (V 12) (V 9 3) ws i (V 10, V 13) t u B) V) := by
  intro ws
  induction ws with
  | nil =>
    intro i V t u B hi hw hm2 hc hd hf hu hs hu0 hB ht h23 h25
    have hi' : i = m := by simpa using hi
    refine ct_of (by decide) rfl (Nat.le_of_ble_eq_true rfl) ?_
    refine wa_ild4 dX1_placeFrom_0 ?_
    refine wa_ald0 dX1_placeFrom_2 ?_
    refine gX1_18 dX1_placeFrom_3 rfl (by first | assumption | exact hL.1 _ (by decide)) ?_
    refine wa_icmp_lt 10 dX1_placeFrom_6 (by decide) (by omega) (by omega) (fun c6 => ?_) (fun c6 => ?_)
    · refine wa_ild3 dX1_placeFrom_10 ?_
      refine wa_if_lt 27 dX1_placeFrom_11 (by decide) (by omega) (fun c11 => ?_) (fun c11 => ?_)
      · exact absurd c11 (by omega)
      · refine wa_ild3 dX1_placeFrom_14 ?_
        refine wa_ald2 dX1_placeFrom_15 ?_
        refine gX1_22 dX1_placeFrom_16 rfl (by first | assumption | exact hL.1 _ (by decide)) ?_
        refine wa_icmp_ge 27 dX1_placeFrom_19 (by decide) (by omega) (by omega) (fun c19 => ?_) (fun c19 => ?_)
        · refine wa_ald0 dX1_placeFrom_27 ?_
          refine wa_ild4 dX1_placeFrom_28 ?_
          refine kX1_31 dX1_placeFrom_30 rfl (by first | assumption | exact hL.1 _ (by decide)) (ct_keep hL) (by decide) (Nat.le_of_ble_eq_true rfl) ⟨Nat.le_refl _, Nat.le_refl _⟩ (zdN ?_)
          exact wa_return dX1_placeFrom_33 rfl rfl (Nat.le_refl _) (by refine ⟨rfl, rfl, rfl, ?_⟩; rw [plS, if_pos (by omega)]; exact ⟨by rw [zp_n _ _ (by decide), zp_s, za_s], fun j hj => by rw [zp_s]; exact ht j (by omega), by rw [zp_n _ _ (by decide), zp_n _ _ (by decide)], by rw [zp_n _ _ (by decide), zp_n _ _ (by decide)], fun j _ => by rw [zp_n _ _ (by decide), zp_n _ _ (by decide)], fun k k1 k2 k3 _ _ _ => by rw [zp_n _ _ k3, zp_n _ _ k1]⟩)
        · exact absurd c19 (by omega)
    · exact wa_return dX1_placeFrom_9 rfl rfl (Nat.le_refl _) (by refine ⟨rfl, rfl, rfl, ?_⟩; rw [plS_le (by omega)]; exact ⟨h23, h25, rfl, rfl, fun _ _ => rfl, fun _ _ _ _ _ _ _ => rfl⟩)
  | cons x ws ih =>
    intro i V t u B hi hw hm2 hc hd hf hu hs hu0 hB ht h23 h25
    have hi' : i + (ws.length + 1) = m := by simpa using hi
    obtain ⟨hx1, hx2, hx3, hx4⟩ := hw 0 x rfl
    rw [Nat.add_zero] at hx1 hx2
    refine ct_of (by decide) rfl (Nat.le_of_ble_eq_true rfl) ?_
    have hlen : 6 + (x :: ws).length = 7 + ws.length := by simp; omega
    rw [hlen]
    generalize hFd : (fun (g : Nat) (B : Int × (Nat → Int)) => if canB c (V 11) (V 12) (V 9 3) x.1 g x.2.2 (V 10, V 13) = true then plS c (V 11) (V 12) (V 9 3) ws (i + 1) (sayD (V 12) x.1 g x.2.2 (V 10, V 13)) (za t i g) u B else B) = F
    have hpl : plS c (V 11) (V 12) (V 9 3) (x :: ws) i (V 10, V 13) t u B = plS c (V 11) (V 12) (V 9 3) ws (i + 1) (V 10, V 13) (za t i (-6)) (u + 1) (rgF F c B) := by rw [plS, ← hFd]
    rw [hpl]
    have hFb : ∀ (g : Nat) (B : Int × (Nat → Int)), (0 ≤ B.1 ∧ B.1 ≤ 10) → (0 ≤ (F g B).1 ∧ (F g B).1 ≤ 10) := by
      intro g B hB; rw [← hFd]; dsimp only; split
      · exact plS_b hu0.1 hB
      · exact hB
    have hrb : ∀ g : Nat, 0 ≤ (rgF F g B).1 ∧ (rgF F g B).1 ≤ 10 := by
      intro g; induction g with
      | zero => exact hB
      | succ g ihg => exact hFb g _ ihg
    have loop : ∀ (q g : Nat) (V' : zE), g + q = c → V' 23 2 = (rgF F g B).1 → (∀ j, j < m → V' 25 j = (rgF F g B).2 j) → V' 10 = V 10 → V' 13 = V 13 → (∀ j, j < i → V' 24 j = V 24 j) → (∀ k, k ≠ 23 → k ≠ 24 → k ≠ 25 → k ≠ 10 → k ≠ 13 → k ≠ 14 → V' k = V k) → Wa zXn mX1_placeFrom (zrm (7 + ws.length) 0 0) (zZm (qPN S Rf (pfP m i (plS c (V 11) (V 12) (V 9 3) ws (i + 1) (V 10, V 13) (za t i (-6)) (u + 1) (rgF F c B)) V)) (n + 0) 0 0) 0 0 n S 37 [some (zR 23), some (zR 9), some (zR 18), some (zI (i : Int)), some (zI u), some (zI (g : Int)), none, none] [] Rf V' := by
      intro q
      induction q with
      | zero =>
        intro g V' hg v23 v25 v10 v13 v24 ho
        obtain rfl : g = c := by omega
        have e9 := ho 9 (by decide) (by decide) (by decide) (by decide) (by decide) (by decide)
        have e9' : V' 9 0 = (g : Int) := by rw [e9]; exact hc
        have hz : ∀ k, k ≠ 24 → zp V' 24 (za (V' 24) i (-6)) k = V' k := fun k hk => zp_n _ _ hk
        refine wa_ild5 dX1_placeFrom_37 ?_
        refine wa_ald1 dX1_placeFrom_39 ?_
        refine gX1_35 dX1_placeFrom_40 rfl (by first | assumption | exact hL.1 _ (by decide)) ?_
        refine wa_icmp_ge 135 dX1_placeFrom_43 (by decide) (by omega) (by omega) (fun c43 => ?_) (fun c43 => ?_)
        · refine wa_ald0 dX1_placeFrom_135 ?_
          refine gX1_9 dX1_placeFrom_136 rfl (by first | assumption | exact hL.1 _ (by decide)) (by first | assumption | exact hL.2 _ _ (by decide)) ?_
          refine wa_ild3 dX1_placeFrom_139 ?_
          refine wa_bipush dX1_placeFrom_140 (by decide) ?_
          refine wa_iastore dX1_placeFrom_142 (by first | assumption | exact hL.1 _ (by decide)) (by omega) (by first | decide | omega) ?_
          rw [Int.toNat_natCast]
          refine wa_ald0 dX1_placeFrom_143 ?_
          refine wa_ald1 dX1_placeFrom_144 ?_
          refine wa_ald2 dX1_placeFrom_145 ?_
          refine wa_ild3 dX1_placeFrom_146 ?_
          refine wa_iconst dX1_placeFrom_147 ?_
          refine wa_iadd dX1_placeFrom_148 ?_
          refine wa_ild4 dX1_placeFrom_149 ?_
          refine wa_iconst dX1_placeFrom_151 ?_
          refine wa_iadd dX1_placeFrom_152 ?_
          refine kX1_27 dX1_placeFrom_153 rfl (ih (i + 1) _ (za t i (-6)) (u + 1) (rgF F g B) (by omega) (fun j y hy => by rw [hz 20 (by decide), hz 22 (by decide), ho 20 (by decide) (by decide) (by decide) (by decide) (by decide) (by decide), ho 22 (by decide) (by decide) (by decide) (by decide) (by decide) (by decide), show i + 1 + j = i + (j + 1) by omega]; exact hw (j + 1) y hy) (by rw [hz 18 (by decide), ho 18 (by decide) (by decide) (by decide) (by decide) (by decide) (by decide)]; exact hm2) (by rw [hz 9 (by decide)]; exact e9') (fun j => by rw [hz 10 (by decide), v10]; exact hd j) (fun j => by rw [hz 11 (by decide), ho 11 (by decide) (by decide) (by decide) (by decide) (by decide) (by decide)]; exact hf j) (fun j => by rw [hz 12 (by decide), ho 12 (by decide) (by decide) (by decide) (by decide) (by decide) (by decide)]; exact hu j) (fun j => by rw [hz 13 (by decide), v13]; exact hs j) (by omega) (hrb g) (fun j hj => by rw [zp_s]; by_cases h : j = i; rw [h, za_s, za_s]; rw [za_n _ _ h, za_n _ _ h, v24 j (by omega)]; exact ht j (by omega)) (by rw [hz 23 (by decide)]; exact v23) (fun j hj => by rw [hz 25 (by decide)]; exact v25 j hj)) (by dsimp only [zrm]; omega) (Nat.le_of_ble_eq_true rfl) ⟨Nat.le_refl _, Nat.le_refl _⟩ (zpN fun V2 hp2 => ?_)
          rw [hz 11 (by decide), hz 12 (by decide), hz 9 (by decide), hz 10 (by decide), hz 13 (by decide), ho 11 (by decide) (by decide) (by decide) (by decide) (by decide) (by decide), ho 12 (by decide) (by decide) (by decide) (by decide) (by decide) (by decide), e9, v10, v13] at hp2
          obtain ⟨p1, p2, p3, p4, p5, p6⟩ := hp2
          exact wa_return dX1_placeFrom_156 rfl rfl (Nat.le_refl _) (by refine ⟨rfl, rfl, rfl, p1, p2, ?_, ?_, ?_, ?_⟩; rw [p3, hz 10 (by decide), v10]; rw [p4, hz 13 (by decide), v13]; intro j hj; rw [p5 j (by omega), zp_s, za_n _ _ (by omega), v24 j hj]; intro k k1 k2 k3 k4 k5 k6; rw [p6 k k1 k2 k3 k4 k5 k6, hz k k2]; exact ho k k1 k2 k3 k4 k5 k6)
        · exact absurd c43 (by omega)
      | succ q ihq =>
        intro g V' hg v23 v25 v10 v13 v24 ho
        have e9 := ho 9 (by decide) (by decide) (by decide) (by decide) (by decide) (by decide)
        have e11 := ho 11 (by decide) (by decide) (by decide) (by decide) (by decide) (by decide)
        have e12 := ho 12 (by decide) (by decide) (by decide) (by decide) (by decide) (by decide)
        have e18 := ho 18 (by decide) (by decide) (by decide) (by decide) (by decide) (by decide)
        have e20 := ho 20 (by decide) (by decide) (by decide) (by decide) (by decide) (by decide)
        have e22 := ho 22 (by decide) (by decide) (by decide) (by decide) (by decide) (by decide)
        have e9' : V' 9 0 = (c : Int) := by rw [e9]; exact hc
        have k20 : V' 20 i = x.1 := by rw [e20]; exact hx1
        have k22 : V' 22 i = x.2.2 := by rw [e22]; exact hx2
        have hSay := ct_bearsWord (n := n) (S := S) (Rf := Rf) (V := V') (c := c) (k := x.1) (g := (g : Int)) (w := x.2.2) hL e9' h2 h8 (by omega) hx3 hx4 (fun j => by rw [v10]; exact hd j) (fun j => by rw [e11]; exact hf j) (fun j => by rw [e12]; exact hu j) (fun j => by rw [v13]; exact hs j)
        /- behind the word: deep and said there are put back -/
        have back : ∀ (V3 : zE), (∃ y, V3 10 = za (V 10) g y) → (∃ y, V3 13 = za (V 13) g y) → V3 23 2 = (rgF F (g + 1) B).1 → (∀ j, j < m → V3 25 j = (rgF F (g + 1) B).2 j) → (∀ j, j < i → V3 24 j = V 24 j) → (∀ k, k ≠ 23 → k ≠ 24 → k ≠ 25 → k ≠ 10 → k ≠ 13 → k ≠ 14 → V3 k = V k) → Wa zXn mX1_placeFrom (zrm (7 + ws.length) 0 0) (zZm (qPN S Rf (pfP m i (plS c (V 11) (V 12) (V 9 3) ws (i + 1) (V 10, V 13) (za t i (-6)) (u + 1) (rgF F c B)) V)) (n + 0) 0 0) 0 0 n S 111 [some (zR 23), some (zR 9), some (zR 18), some (zI (i : Int)), some (zI u), some (zI (g : Int)), some (zI (V 10 g)), some (zI (V 13 g))] [] Rf V3 := by
          intro V3 h10 h13 w23 w25 w24 wo
          obtain ⟨y, h10⟩ := h10
          obtain ⟨y', h13⟩ := h13
          refine wa_ald1 dX1_placeFrom_111 ?_
          refine gX1_40 dX1_placeFrom_112 rfl (by first | assumption | exact hL.1 _ (by decide)) (by first | assumption | exact hL.2 _ _ (by decide)) ?_
          refine wa_ild5 dX1_placeFrom_115 ?_
          refine wa_ild6 dX1_placeFrom_117 ?_
          refine wa_iastore dX1_placeFrom_119 (by first | assumption | exact hL.1 _ (by decide)) (by omega) (by first | decide | omega) ?_
          refine wa_ald1 dX1_placeFrom_120 ?_
          refine gX1_43 dX1_placeFrom_121 rfl (by first | assumption | exact hL.1 _ (by decide)) (by first | assumption | exact hL.2 _ _ (by decide)) ?_
          refine wa_ild5 dX1_placeFrom_124 ?_
          refine wa_ild7 dX1_placeFrom_126 ?_
          refine wa_iastore dX1_placeFrom_128 (by first | assumption | exact hL.1 _ (by decide)) (by omega) (by first | decide | omega) ?_
          refine wa_iinc5 dX1_placeFrom_129 (by decide) rfl ?_
          refine wa_goto 37 dX1_placeFrom_132 (by decide) ?_
          refine wa_drop6 (wa_drop7 ?_)
          rw [show (g : Int) + 1 = ((g + 1 : Nat) : Int) by omega]
          simp only [Int.toNat_natCast]
          refine ihq (g + 1) _ (by omega) ?_ (fun j hj => ?_) ?_ ?_ (fun j hj => ?_) (fun k k1 k2 k3 k4 k5 k6 => ?_)
          · rw [zp_n _ _ (by decide), zp_n _ _ (by decide)]; exact w23
          · rw [zp_n _ _ (by decide), zp_n _ _ (by decide)]; exact w25 j hj
          · rw [zp_n _ _ (by decide), zp_s, h10, za_za, za_self]
          · rw [zp_s, zp_n _ _ (by decide), h13, za_za, za_self]
          · rw [zp_n _ _ (by decide), zp_n _ _ (by decide)]; exact w24 j hj
          · rw [zp_n _ _ k5, zp_n _ _ k4]; exact wo k k1 k2 k3 k4 k5 k6
        refine wa_ild5 dX1_placeFrom_37 ?_
        refine wa_ald1 dX1_placeFrom_39 ?_
        refine gX1_35 dX1_placeFrom_40 rfl (by first | assumption | exact hL.1 _ (by decide)) ?_
        refine wa_icmp_ge 135 dX1_placeFrom_43 (by decide) (by omega) (by omega) (fun c43 => ?_) (fun c43 => ?_)
        · exact absurd c43 (by omega)
        · refine wa_ild5 dX1_placeFrom_46 ?_
          refine wa_bipush dX1_placeFrom_48 (by decide) ?_
          refine wa_icmp_ge 135 dX1_placeFrom_50 (by decide) (by omega) (by omega) (fun c50 => ?_) (fun c50 => ?_)
          · exact absurd c50 (by omega)
          · refine wa_ald1 dX1_placeFrom_53 ?_
            refine gX1_40 dX1_placeFrom_54 rfl (by first | assumption | exact hL.1 _ (by decide)) (by first | assumption | exact hL.2 _ _ (by decide)) ?_
            refine wa_ild5 dX1_placeFrom_57 ?_
            refine wa_iaload dX1_placeFrom_59 (by first | assumption | exact hL.1 _ (by decide)) (by omega) (by first | decide | omega) ?_
            refine wa_ist6 dX1_placeFrom_60 (by decide) rfl ?_
            refine wa_ald1 dX1_placeFrom_62 ?_
            refine gX1_43 dX1_placeFrom_63 rfl (by first | assumption | exact hL.1 _ (by decide)) (by first | assumption | exact hL.2 _ _ (by decide)) ?_
            refine wa_ild5 dX1_placeFrom_66 ?_
            refine wa_iaload dX1_placeFrom_68 (by first | assumption | exact hL.1 _ (by decide)) (by omega) (by first | decide | omega) ?_
            refine wa_ist7 dX1_placeFrom_69 (by decide) rfl ?_
            simp only [Int.toNat_natCast, v10, v13]
            refine wa_ald1 dX1_placeFrom_71 ?_
            refine wa_ald2 dX1_placeFrom_72 ?_
            refine gX1_46 dX1_placeFrom_73 rfl (by first | assumption | exact hL.1 _ (by decide)) (by first | assumption | exact hL.2 _ _ (by decide)) ?_
            refine wa_ild3 dX1_placeFrom_76 ?_
            refine wa_iaload dX1_placeFrom_77 (by first | assumption | exact hL.1 _ (by decide)) (by omega) (by first | decide | omega) ?_
            refine wa_ild5 dX1_placeFrom_78 ?_
            refine wa_ald2 dX1_placeFrom_80 ?_
            refine gX1_49 dX1_placeFrom_81 rfl (by first | assumption | exact hL.1 _ (by decide)) (by first | assumption | exact hL.2 _ _ (by decide)) ?_
            refine wa_ild3 dX1_placeFrom_84 ?_
            refine wa_iaload dX1_placeFrom_85 (by first | assumption | exact hL.1 _ (by decide)) (by omega) (by first | decide | omega) ?_
            simp only [Int.toNat_natCast, k20, k22]
            refine kX1_52 dX1_placeFrom_86 rfl (by first | assumption | exact hL.1 _ (by decide)) (hSay) (by dsimp only [zrm]; omega) (Nat.le_of_ble_eq_true rfl) ⟨Nat.le_refl _, Nat.le_refl _⟩ (zpI fun x1 V1 hp1 => ?_)
            obtain ⟨hx1', hV1⟩ := hp1
            rw [e11, e12, e9, v10, v13] at hx1'
            rw [e12, v10, v13] at hV1
            have hRg : rgF F (g + 1) B = F g (rgF F g B) := rfl
            by_cases hcan : canB c (V 11) (V 12) (V 9 3) x.1 g x.2.2 (V 10, V 13) = true
            · rw [if_pos hcan] at hx1'
              subst hx1'
              have hin0 : hinF c (V 10) (V 12) (V 13) x.1 g x.2.2 = 0 := by unfold canB at hcan; simp only [Bool.and_eq_true, beq_iff_eq] at hcan; exact hcan.1
              rw [if_pos hin0] at hV1
              subst hV1
              have f10 := fall10 (k := x.1) (g := g) (w := x.2.2) (V := V')
              have f13 := fall13 (k := x.1) (g := g) (w := x.2.2) (V := V')
              rw [e12, v10, v13] at f10 f13
              have fo : ∀ a, a ≠ 10 → a ≠ 13 → a ≠ 14 → fallV 9 x.1 g x.2.2 V' a = V' a := fun a a1 a2 a3 => fallo a1 a2 a3
              generalize fallV 9 x.1 g x.2.2 V' = V1 at f10 f13 fo ⊢
              have hz : ∀ k, k ≠ 24 → zp V1 24 (za (V1 24) i g) k = V1 k := fun k hk => zp_n _ _ hk
              have hFg : F g (rgF F g B) = plS c (V 11) (V 12) (V 9 3) ws (i + 1) (sayD (V 12) x.1 g x.2.2 (V 10, V 13)) (za t i g) u (rgF F g B) := by rw [← hFd]; dsimp only; rw [if_pos hcan]
              refine wa_if_eq 111 dX1_placeFrom_89 (by decide) (by decide) (fun c89 => absurd c89 (by decide)) (fun c89 => ?_)
              refine wa_ald0 dX1_placeFrom_92 ?_
              refine gX1_9 dX1_placeFrom_93 rfl (hL.1 _ (by decide)) (hL.2 _ _ (by decide)) ?_
              refine wa_ild3 dX1_placeFrom_96 ?_
              refine wa_ild5 dX1_placeFrom_97 ?_
              refine wa_iastore dX1_placeFrom_99 (hL.1 _ (by decide)) (by omega) (by decide) ?_
              rw [Int.toNat_natCast]
              refine wa_ald0 dX1_placeFrom_100 ?_
              refine wa_ald1 dX1_placeFrom_101 ?_
              refine wa_ald2 dX1_placeFrom_102 ?_
              refine wa_ild3 dX1_placeFrom_103 ?_
              refine wa_iconst dX1_placeFrom_104 ?_
              refine wa_iadd dX1_placeFrom_105 ?_
              refine wa_ild4 dX1_placeFrom_106 ?_
              refine kX1_27 dX1_placeFrom_108 rfl (ih (i + 1) _ (za t i g) u (rgF F g B) (by omega) (fun j y hy => ?_) ?_ ?_ (fun j => ?_) (fun j => ?_) (fun j => ?_) (fun j => ?_) (by omega) (hrb g) (fun j hj => ?_) ?_ (fun j hj => ?_)) (by dsimp only [zrm]; omega) (Nat.le_of_ble_eq_true rfl) ⟨Nat.le_refl _, Nat.le_refl _⟩ (zpN fun V2 hp2 => ?_)
              · rw [hz 20 (by decide), hz 22 (by decide), fo 20 (by decide) (by decide) (by decide), fo 22 (by decide) (by decide) (by decide), e20, e22, show i + 1 + j = i + (j + 1) by omega]; exact hw (j + 1) y hy
              · rw [hz 18 (by decide), fo 18 (by decide) (by decide) (by decide), e18]; exact hm2
              · rw [hz 9 (by decide), fo 9 (by decide) (by decide) (by decide)]; exact e9'
              · rw [hz 10 (by decide), f10]; exact sayD_b (q := (V 10, V 13)) hx3 hu hd hin0 j
              · rw [hz 11 (by decide), fo 11 (by decide) (by decide) (by decide), e11]; exact hf j
              · rw [hz 12 (by decide), fo 12 (by decide) (by decide) (by decide), e12]; exact hu j
              · rw [hz 13 (by decide), f13]; exact sayD_s (q := (V 10, V 13)) hs j
              · rw [zp_s]
                by_cases h : j = i
                · rw [h, za_s, za_s]
                · rw [za_n _ _ h, za_n _ _ h, fo 24 (by decide) (by decide) (by decide), v24 j (by omega)]; exact ht j (by omega)
              · rw [hz 23 (by decide), fo 23 (by decide) (by decide) (by decide)]; exact v23
              · rw [hz 25 (by decide), fo 25 (by decide) (by decide) (by decide)]; exact v25 j hj
              · rw [hz 11 (by decide), hz 12 (by decide), hz 9 (by decide), hz 10 (by decide), hz 13 (by decide), f10, f13, fo 11 (by decide) (by decide) (by decide), fo 12 (by decide) (by decide) (by decide), fo 9 (by decide) (by decide) (by decide), e11, e12, e9] at hp2
                obtain ⟨p1, p2, p3, p4, p5, p6⟩ := hp2
                refine back V2 ⟨_, by rw [p3, hz 10 (by decide), f10]; unfold sayD; rw [Int.toNat_natCast]⟩ ⟨_, by rw [p4, hz 13 (by decide), f13]; unfold sayD; rw [Int.toNat_natCast]⟩ (by rw [hRg, hFg]; exact p1) (fun j hj => by rw [hRg, hFg]; exact p2 j hj) (fun j hj => by rw [p5 j (by omega), zp_s, za_n _ _ (by omega), fo 24 (by decide) (by decide) (by decide), v24 j hj]) (fun k k1 k2 k3 k4 k5 k6 => by rw [p6 k k1 k2 k3 k4 k5 k6, hz k k2, fo k k4 k5 k6]; exact ho k k1 k2 k3 k4 k5 k6)
            · rw [if_neg hcan] at hx1'
              subst hx1'
              have hFg : F g (rgF F g B) = rgF F g B := by rw [← hFd]; dsimp only; rw [if_neg hcan]
              refine wa_if_eq 111 dX1_placeFrom_89 (by decide) (by decide) (fun c89 => ?_) (fun c89 => absurd rfl c89)
              by_cases hin0 : hinF c (V 10) (V 12) (V 13) x.1 g x.2.2 = 0
              · rw [if_pos hin0] at hV1
                subst hV1
                have f10 := fall10 (k := x.1) (g := g) (w := x.2.2) (V := V')
                have f13 := fall13 (k := x.1) (g := g) (w := x.2.2) (V := V')
                rw [e12, v10, v13] at f10 f13
                exact back _ ⟨_, by rw [f10]; unfold sayD; rw [Int.toNat_natCast]⟩ ⟨_, by rw [f13]; unfold sayD; rw [Int.toNat_natCast]⟩ (by rw [fallo (by decide) (by decide) (by decide), hRg, hFg]; exact v23) (fun j hj => by rw [fallo (by decide) (by decide) (by decide), hRg, hFg]; exact v25 j hj) (fun j hj => by rw [fallo (by decide) (by decide) (by decide)]; exact v24 j hj) (fun k k1 k2 k3 k4 k5 k6 => by rw [fallo k4 k5 k6]; exact ho k k1 k2 k3 k4 k5 k6)
              · rw [if_neg hin0] at hV1
                subst hV1
                exact back _ ⟨V 10 g, by rw [v10, za_self]⟩ ⟨V 13 g, by rw [v13, za_self]⟩ (by rw [hRg, hFg]; exact v23) (fun j hj => by rw [hRg, hFg]; exact v25 j hj) v24 ho
    refine wa_ild4 dX1_placeFrom_0 ?_
    refine wa_ald0 dX1_placeFrom_2 ?_
    refine gX1_18 dX1_placeFrom_3 rfl (by first | assumption | exact hL.1 _ (by decide)) ?_
    refine wa_icmp_lt 10 dX1_placeFrom_6 (by decide) (by omega) (by omega) (fun c6 => ?_) (fun c6 => ?_)
    · refine wa_ild3 dX1_placeFrom_10 ?_
      refine wa_if_lt 27 dX1_placeFrom_11 (by decide) (by omega) (fun c11 => ?_) (fun c11 => ?_)
      · exact absurd c11 (by omega)
      · refine wa_ild3 dX1_placeFrom_14 ?_
        refine wa_ald2 dX1_placeFrom_15 ?_
        refine gX1_22 dX1_placeFrom_16 rfl (by first | assumption | exact hL.1 _ (by decide)) ?_
        refine wa_icmp_ge 27 dX1_placeFrom_19 (by decide) (by omega) (by omega) (fun c19 => ?_) (fun c19 => ?_)
        · exact absurd c19 (by omega)
        · refine wa_ild3 dX1_placeFrom_22 ?_
          refine wa_iconst dX1_placeFrom_23 ?_
          refine wa_icmp_lt 34 dX1_placeFrom_24 (by decide) (by omega) (by omega) (fun c24 => ?_) (fun c24 => ?_)
          · refine wa_iconst dX1_placeFrom_34 ?_
            refine wa_ist5 dX1_placeFrom_35 (by decide) rfl ?_
            exact loop c 0 V (by omega) h23 h25 rfl rfl (fun _ _ => rfl) (fun _ _ _ _ _ _ _ => rfl)
          · exact absurd c24 (by omega)
    · exact wa_return dX1_placeFrom_9 rfl rfl (Nat.le_refl _) (by refine ⟨rfl, rfl, rfl, ?_⟩; rw [← hpl, plS_le (by omega)]; exact ⟨h23, h25, rfl, rfl, fun _ _ => rfl, fun _ _ _ _ _ _ _ => rfl⟩)
