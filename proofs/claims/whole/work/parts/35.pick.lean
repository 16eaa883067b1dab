/-! Rows: the search -/
def lpF {α : Type} (f : Nat → α → α) (l : Nat) : Nat → α → α
  | 0, a => a
  | m + 1, a => f (l + m) (lpF f l m a)
def pkS (W : (Nat → Int) → (Nat → Int) → zAc → zAc) (c : Nat) (t l : Int) : Nat → Nat → (Nat → Int) → (Nat → Int) → zAc → zAc
  | 0, _, pk, day, a => W pk day a
  | q + 1, b, pk, day, a => lpF (fun p a => pkS W c t l q p (za pk q (p : Int)) (za day (p / 2) (day (p / 2) + (if p % 2 = 0 then t else l))) a) b (2 * c - b) a
theorem orS_pk {pk pk' : Nat → Int} {i : Nat} (h : ∀ j, j ≤ i → pk j = pk' j) : orS pk i = orS pk' i := by
  induction i with
  | zero => rfl
  | succ i ih => rw [orS, orS, ih (fun j hj => h j (by omega)), h (i + 1) (by omega), h i (by omega)]
theorem btF_pk {pk pk' : Nat → Int} {m : Nat} (h : ∀ j, j < m → pk j = pk' j) : btF pk m = btF pk' m := by
  induction m with
  | zero => rfl
  | succ i ih => rw [btF, btF, ih (fun j hj => h j (by omega)), h i (by omega)]
theorem wgS_pk {c k m : Nat} {d sg sd pk pk' day : Nat → Int} {a : zAc} (h : ∀ j, j < m → pk j = pk' j) : wgS c k m d sg sd pk day a = wgS c k m d sg sd pk' day a := by
  unfold wgS
  have e1 : (orS pk (m - 1)).1 = (orS pk' (m - 1)).1 := by
    by_cases h0 : m = 0
    · subst h0; rfl
    · rw [orS_pk (fun j hj => h j (by omega))]
  rw [e1, btF_pk h]
theorem zand1 {p : Int} (h : 0 ≤ p ∧ p < 16) : zand p 1 = p % 2 := by
  have h1 : ∀ k : Fin 16, zand (k.val : Int) 1 = (k.val : Int) % 2 := by decide +kernel
  have := h1 ⟨p.toNat, by omega⟩
  dsimp only at this
  rw [Int.toNat_of_nonneg h.1] at this
  exact this
def pkP (m q : Nat) (a : zAc) (V V' : zE) : Prop := acV V' = a ∧ V' 31 = V 31 ∧ (∀ j, q ≤ j → j < m → V' 30 j = V 30 j) ∧ (∀ j, 0 ≤ V' 30 j ∧ V' 30 j < 16) ∧ (∀ j, j ≠ 5 → j ≠ 6 → j ≠ 7 → V' 29 j = V 29 j) ∧ ∀ k, k ≠ 29 → k ≠ 30 → k ≠ 31 → k ≠ 32 → k ≠ 33 → V' k = V k
theorem ct_pickFrom {n : Nat} {S : zH} {Rf : zG} {c k m : Nat} {d rule sg sd : Nat → Int} (hL : Lay S Rf) (h2 : 2 ≤ c) (h8 : c ≤ 8) (hk8 : k ≤ 8) (hm3 : m ≤ 3) (hdd : ∀ j, 0 ≤ d j ∧ d j ≤ 999) (hsg : ∀ j, 0 ≤ sg j ∧ sg j < 8) (hsd : ∀ j, 0 ≤ sd j ∧ sd j ≤ 100000) (hu : ∀ j, 0 ≤ rule j ∧ rule j ≤ 9) : ∀ (q b : Nat) (V : zE) (pk : Nat → Int),
    q ≤ m → b ≤ 2 * c → V 1 0 = (c : Int) → V 1 8 = (k : Int) → V 2 = d → V 4 = rule → V 7 = sg → V 8 = sd → V 29 4 = (m : Int) → (∀ j, 0 ≤ V 30 j ∧ V 30 j < 16) → (∀ j, 0 ≤ V 31 j ∧ V 31 j ≤ 2000 - 9 * q) → (∀ j, q ≤ j → j < m → V 30 j = pk j) →
    Cpv (4 + q) mX2_pickFrom [zR 29, zR 1, zI (q : Int), zI (b : Int)] n S Rf V (pkP m q (pkS (wgS c k m d sg sd) c (rule 0) (rule 1) q b pk (V 31) (acV V)) V) := by
  intro q
  induction q with
  | zero =>
    intro b V pk hq hb hc hk e2 e4 e7 e8 hm hp hd hpk
    refine ct_of (by decide) rfl (Nat.le_of_ble_eq_true rfl) ?_
    subst e2; subst e4; subst e7; subst e8
    refine wa_ild2 dX2_pickFrom_0 ?_
    refine wa_iconst dX2_pickFrom_1 ?_
    refine wa_icmp_lt 10 dX2_pickFrom_2 (by decide) (by omega) (by omega) (fun c2 => ?_) (fun c2 => ?_)
    · refine wa_ald0 dX2_pickFrom_10 ?_
      refine wa_ald1 dX2_pickFrom_11 ?_
      refine kX2_65 dX2_pickFrom_12 rfl (by first | assumption | exact hL.1 _ (by decide)) (ct_weigh hL hc h2 h8 hk hk8 hm hm3 hp (fun j => by have := hd j; omega) hdd hsg hsd) (by decide) (Nat.le_of_ble_eq_true rfl) ⟨Nat.le_refl _, Nat.le_refl _⟩ (zpN fun V2 hp2 => ?_)
      obtain ⟨p1, p2, p3⟩ := hp2
      exact wa_return dX2_pickFrom_15 rfl rfl (Nat.le_refl _) (by exact ⟨rfl, rfl, rfl, by rw [p1, pkS, wgS_pk (fun j hj => hpk j (by omega) hj)], p3 31 (by decide) (by decide) (by decide), fun j _ _ => by rw [p3 30 (by decide) (by decide) (by decide)], fun j => by rw [p3 30 (by decide) (by decide) (by decide)]; exact hp j, p2, fun k k1 _ _ k4 k5 => p3 k k1 k4 k5⟩)
    · exact absurd c2 (by decide)
  | succ q ih =>
    intro b V pk hq hb hc hk e2 e4 e7 e8 hm hp hd hpk
    refine ct_of (by decide) rfl (Nat.le_of_ble_eq_true rfl) ?_
    generalize hF : (fun (p : Nat) (a : zAc) => pkS (wgS c k m d sg sd) c (rule 0) (rule 1) q p (za pk q (p : Int)) (za (V 31) (p / 2) (V 31 (p / 2) + (if p % 2 = 0 then rule 0 else rule 1))) a) = F
    have hpl : pkS (wgS c k m d sg sd) c (rule 0) (rule 1) (q + 1) b pk (V 31) (acV V) = lpF F b (2 * c - b) (acV V) := by rw [pkS, ← hF]
    rw [hpl]
    have loop : ∀ (r i : Nat) (V' : zE), i + r = 2 * c - b → acV V' = lpF F b i (acV V) → V' 31 = V 31 → (∀ j, q + 1 ≤ j → j < m → V' 30 j = V 30 j) → (∀ j, 0 ≤ V' 30 j ∧ V' 30 j < 16) → (∀ j, j ≠ 5 → j ≠ 6 → j ≠ 7 → V' 29 j = V 29 j) → (∀ k, k ≠ 29 → k ≠ 30 → k ≠ 31 → k ≠ 32 → k ≠ 33 → V' k = V k) → Wa zXn mX2_pickFrom (zrm (4 + (q + 1)) 0 0) (zZm (qPN S Rf (pkP m (q + 1) (lpF F b (2 * c - b) (acV V)) V)) (n + 0) 0 0) 0 0 n S 23 [some (zR 29), some (zR 1), some (zI ((q + 1 : Nat) : Int)), some (zI (b : Int)), some (zI ((b + i : Nat) : Int)), none] [] Rf V' := by
      intro r
      induction r with
      | zero =>
        intro i V' hi ha h31 h30 hp' h29 ho
        obtain rfl : i = 2 * c - b := by omega
        have f1 : V' 1 0 = (c : Int) := by rw [ho 1 (by decide) (by decide) (by decide) (by decide) (by decide)]; exact hc
        refine wa_ild4 dX2_pickFrom_23 ?_
        refine wa_iconst dX2_pickFrom_25 ?_
        refine wa_ald1 dX2_pickFrom_26 ?_
        refine gX2_41 dX2_pickFrom_27 rfl (by first | assumption | exact hL.1 _ (by decide)) ?_
        refine wa_imul dX2_pickFrom_30 ?_
        refine wa_icmp_ge 114 dX2_pickFrom_31 (by decide) (by omega) (by omega) (fun c31 => ?_) (fun c31 => ?_)
        · exact wa_return dX2_pickFrom_114 rfl rfl (Nat.le_refl _) (by exact ⟨rfl, rfl, rfl, ha, h31, h30, hp', h29, ho⟩)
        · exact absurd c31 (by omega)
      | succ r ihr =>
        intro i V' hi ha h31 h30 hp' h29 ho
        have f1 := ho 1 (by decide) (by decide) (by decide) (by decide) (by decide)
        have f10 : V' 1 0 = (c : Int) := by rw [f1]; exact hc
        have f2 := ho 2 (by decide) (by decide) (by decide) (by decide) (by decide)
        have f4 : V' 4 = rule := by rw [ho 4 (by decide) (by decide) (by decide) (by decide) (by decide)]; exact e4
        have f7 := ho 7 (by decide) (by decide) (by decide) (by decide) (by decide)
        have f8 := ho 8 (by decide) (by decide) (by decide) (by decide) (by decide)
        generalize hp9 : b + i = p
        have hpr : 0 ≤ (p : Int) ∧ (p : Int) < 16 := by omega
        have za1 := zand1 hpr
        have zs1 := zshr1 hpr
        have tp : ((p : Int) / 2).toNat = p / 2 := by omega
        have tq : (((q + 1 : Nat) : Int) - 1).toNat = q := by omega
        have hu0 := hu 0
        have hu1 := hu 1
        have hdp := hd (p / 2)
        /- from the pick on -/
        have go : ∀ more : Int, more = (if p % 2 = 0 then rule 0 else rule 1) → Wa zXn mX2_pickFrom (zrm (4 + (q + 1)) 0 0) (zZm (qPN S Rf (pkP m (q + 1) (lpF F b (2 * c - b) (acV V)) V)) (n + 0) 0 0) 0 0 n S 60 [some (zR 29), some (zR 1), some (zI ((q + 1 : Nat) : Int)), some (zI (b : Int)), some (zI (p : Int)), some (zI more)] [] Rf V' := by
          intro more hmore
          have hmb : 0 ≤ more ∧ more ≤ 9 := by rw [hmore]; split <;> omega
          have eW : zp (zp V' 30 (za (V' 30) q p)) 31 (za (V' 31) (p / 2) (V' 31 (p / 2) + more)) = zp (zp V' 30 (za (V' 30) q p)) 31 (za (V 31) (p / 2) (V 31 (p / 2) + more)) := by rw [h31]
          generalize hV1 : zp (zp V' 30 (za (V' 30) q p)) 31 (za (V 31) (p / 2) (V 31 (p / 2) + more)) = V1 at eW
          have g30 : V1 30 = za (V' 30) q p := by rw [← hV1, zp_n _ _ (by decide), zp_s]
          have g31 : V1 31 = za (V 31) (p / 2) (V 31 (p / 2) + more) := by rw [← hV1, zp_s]
          have go' : ∀ k, k ≠ 30 → k ≠ 31 → V1 k = V' k := fun k k1 k2 => by rw [← hV1, zp_n _ _ k2, zp_n _ _ k1]
          refine wa_ald0 dX2_pickFrom_60 ?_
          refine gX2_9 dX2_pickFrom_61 rfl (by first | assumption | exact hL.1 _ (by decide)) (by first | assumption | exact hL.2 _ _ (by decide)) ?_
          refine wa_ild2 dX2_pickFrom_64 ?_
          refine wa_iconst dX2_pickFrom_65 ?_
          refine wa_isub dX2_pickFrom_66 ?_
          refine wa_ild4 dX2_pickFrom_67 ?_
          refine wa_iastore dX2_pickFrom_69 (by first | assumption | exact hL.1 _ (by decide)) (by first | omega | (simp only [zs1]; omega)) (by first | decide | omega) ?_
          refine wa_ald0 dX2_pickFrom_70 ?_
          refine gX2_15 dX2_pickFrom_71 rfl (by first | assumption | exact hL.1 _ (by decide)) (by first | assumption | exact hL.2 _ _ (by decide)) ?_
          refine wa_ild4 dX2_pickFrom_74 ?_
          refine wa_iconst dX2_pickFrom_76 ?_
          refine wa_ishr dX2_pickFrom_77 ?_
          refine wa_dup2 dX2_pickFrom_78 rfl rfl ?_
          refine wa_iaload dX2_pickFrom_79 (by first | assumption | exact hL.1 _ (by decide)) (by first | omega | (simp only [zs1]; omega)) (by first | decide | omega) ?_
          refine wa_ild5 dX2_pickFrom_80 ?_
          refine wa_iadd dX2_pickFrom_82 ?_
          refine wa_iastore dX2_pickFrom_83 (by first | assumption | exact hL.1 _ (by decide)) (by first | omega | (simp only [zs1]; omega)) (by first | decide | omega) ?_
          simp only [zs1, tp, tq, zp_n _ _ (show 31 ≠ 30 by decide)]
          rw [eW]
          refine wa_ald0 dX2_pickFrom_84 ?_
          refine wa_ald1 dX2_pickFrom_85 ?_
          refine wa_ild2 dX2_pickFrom_86 ?_
          refine wa_iconst dX2_pickFrom_87 ?_
          refine wa_isub dX2_pickFrom_88 ?_
          refine wa_ild4 dX2_pickFrom_89 ?_
          rw [show ((q + 1 : Nat) : Int) - 1 = (q : Int) by omega]
          refine kX2_61 dX2_pickFrom_91 rfl (ih p V1 (za pk q p) (by omega) (by omega) (by rw [go' 1 (by decide) (by decide)]; exact f10) (by rw [go' 1 (by decide) (by decide), f1]; exact hk) (by rw [go' 2 (by decide) (by decide), f2]; exact e2) (by rw [go' 4 (by decide) (by decide)]; exact f4) (by rw [go' 7 (by decide) (by decide), f7]; exact e7) (by rw [go' 8 (by decide) (by decide), f8]; exact e8) (by rw [go' 29 (by decide) (by decide), h29 4 (by decide) (by decide) (by decide)]; exact hm) (fun j => by rw [g30]; by_cases h : j = q; rw [h, za_s]; omega; rw [za_n _ _ h]; exact hp' j) (fun j => by rw [g31]; by_cases h : j = p / 2; rw [h, za_s]; omega; rw [za_n _ _ h]; have := hd j; omega) (fun j hj1 hj2 => by rw [g30]; by_cases h : j = q; rw [h, za_s, za_s]; rw [za_n _ _ h, za_n _ _ h, h30 j (by omega) hj2]; exact hpk j (by omega) hj2)) (by dsimp only [zrm]; omega) (Nat.le_of_ble_eq_true rfl) ⟨Nat.le_refl _, Nat.le_refl _⟩ (zpN fun V2 hp2 => ?_)
          obtain ⟨p1, p2, p3, p4, p5, p6⟩ := hp2
          refine wa_ald0 dX2_pickFrom_94 ?_
          refine gX2_15 dX2_pickFrom_95 rfl (by first | assumption | exact hL.1 _ (by decide)) (by first | assumption | exact hL.2 _ _ (by decide)) ?_
          refine wa_ild4 dX2_pickFrom_98 ?_
          refine wa_iconst dX2_pickFrom_100 ?_
          refine wa_ishr dX2_pickFrom_101 ?_
          refine wa_dup2 dX2_pickFrom_102 rfl rfl ?_
          refine wa_iaload dX2_pickFrom_103 (by first | assumption | exact hL.1 _ (by decide)) (by first | omega | (simp only [zs1]; omega)) (by first | decide | omega) ?_
          refine wa_ild5 dX2_pickFrom_104 ?_
          refine wa_isub dX2_pickFrom_106 ?_
          refine wa_iastore dX2_pickFrom_107 (by first | assumption | exact hL.1 _ (by decide)) (by first | omega | (simp only [zs1]; omega)) (by first | decide | omega) ?_
          refine wa_iinc4 dX2_pickFrom_108 (by decide) rfl ?_
          refine wa_goto 23 dX2_pickFrom_111 (by decide) ?_
          refine wa_drop5 ?_
          simp only [zs1, tp]
          rw [show (p : Int) + 1 = ((b + (i + 1) : Nat) : Int) by omega]
          have hac : acV V1 = acV V' := by simp only [acV]; rw [go' 29 (by decide) (by decide), go' 33 (by decide) (by decide)]
          refine ihr (i + 1) _ (by omega) ?_ ?_ (fun j j1 j2 => ?_) (fun j => ?_) (fun j a1 a2 a3 => ?_) (fun k k1 k2 k3 k4 k5 => ?_)
          · rw [lpF, ← ha, ← hac, hp9, ← hF]
            dsimp only
            rw [← hmore, ← g31, ← p1]
            simp only [acV]; rw [zp_n _ _ (show 29 ≠ 31 by decide), zp_n _ _ (show 33 ≠ 31 by decide)]
          · rw [zp_s, p2, g31, za_s, za_za, show V 31 (p / 2) + more - more = V 31 (p / 2) by omega, za_self]
          · rw [zp_n _ _ (by decide), p3 j (by omega) j2, g30, za_n _ _ (by omega)]; exact h30 j j1 j2
          · rw [zp_n _ _ (by decide)]; exact p4 j
          · rw [zp_n _ _ (by decide), p5 j a1 a2 a3, go' 29 (by decide) (by decide)]; exact h29 j a1 a2 a3
          · rw [zp_n _ _ k3, p6 k k1 k2 k3 k4 k5, go' k k2 k3]; exact ho k k1 k2 k3 k4 k5
        refine wa_ild4 dX2_pickFrom_23 ?_
        refine wa_iconst dX2_pickFrom_25 ?_
        refine wa_ald1 dX2_pickFrom_26 ?_
        refine gX2_41 dX2_pickFrom_27 rfl (by first | assumption | exact hL.1 _ (by decide)) ?_
        refine wa_imul dX2_pickFrom_30 ?_
        refine wa_icmp_ge 114 dX2_pickFrom_31 (by decide) (by first | omega | (rw [za1]; omega)) (by first | omega | (rw [za1]; omega)) (fun c31 => ?_) (fun c31 => ?_)
        · exact absurd c31 (by omega)
        · refine wa_ild4 dX2_pickFrom_34 ?_
          refine wa_bipush dX2_pickFrom_36 (by decide) ?_
          refine wa_icmp_ge 114 dX2_pickFrom_38 (by decide) (by first | omega | (rw [za1]; omega)) (by first | omega | (rw [za1]; omega)) (fun c38 => ?_) (fun c38 => ?_)
          · exact absurd c38 (by omega)
          · refine wa_ald1 dX2_pickFrom_41 ?_
            refine gX2_75 dX2_pickFrom_42 rfl (by first | assumption | exact hL.1 _ (by decide)) (by first | assumption | exact hL.2 _ _ (by decide)) ?_
            refine wa_ild4 dX2_pickFrom_45 ?_
            refine wa_iconst dX2_pickFrom_47 ?_
            refine wa_iand dX2_pickFrom_48 ?_
            refine wa_if_ne 56 dX2_pickFrom_49 (by decide) (by first | omega | (rw [za1]; omega)) (fun c49 => ?_) (fun c49 => ?_)
            · refine wa_iconst dX2_pickFrom_56 ?_
              refine wa_iaload dX2_pickFrom_57 (by first | assumption | exact hL.1 _ (by decide)) (by first | omega | (rw [za1]; omega)) (by first | decide | omega) ?_
              refine wa_ist5 dX2_pickFrom_58 (by decide) rfl ?_
              rw [za1] at c49
              rw [f4]
              first
              | exact go _ (by rw [if_pos (by omega)]; rfl)
              | exact go _ (by rw [if_neg (by omega)]; rfl)
            · refine wa_iconst dX2_pickFrom_52 ?_
              refine wa_goto 57 dX2_pickFrom_53 (by decide) ?_
              refine wa_iaload dX2_pickFrom_57 (by first | assumption | exact hL.1 _ (by decide)) (by first | omega | (rw [za1]; omega)) (by first | decide | omega) ?_
              refine wa_ist5 dX2_pickFrom_58 (by decide) rfl ?_
              rw [za1] at c49
              rw [f4]
              first
              | exact go _ (by rw [if_pos (by omega)]; rfl)
              | exact go _ (by rw [if_neg (by omega)]; rfl)
    refine wa_ild2 dX2_pickFrom_0 ?_
    refine wa_iconst dX2_pickFrom_1 ?_
    refine wa_icmp_lt 10 dX2_pickFrom_2 (by decide) (by omega) (by omega) (fun c2 => ?_) (fun c2 => ?_)
    · exact absurd c2 (by omega)
    · refine wa_ild2 dX2_pickFrom_5 ?_
      refine wa_iconst dX2_pickFrom_6 ?_
      refine wa_icmp_le 16 dX2_pickFrom_7 (by decide) (by omega) (by omega) (fun c7 => ?_) (fun c7 => ?_)
      · refine wa_iconst dX2_pickFrom_16 ?_
        refine wa_ild3 dX2_pickFrom_17 ?_
        refine wa_max dX2_pickFrom_18 lX2_69 w_st_max w_iMath w_co_max ⟨Nat.le_of_ble_eq_true rfl, Nat.le_of_ble_eq_true rfl⟩ ⟨Nat.zero_le _, Nat.zero_le _⟩ (by omega) (by omega) ?_
        refine wa_ist4 dX2_pickFrom_21 (by decide) rfl ?_
        rw [show max (0 : Int) (b : Int) = (b : Int) by omega]
        exact loop (2 * c - b) 0 V (by omega) rfl rfl (fun _ _ _ => rfl) hp (fun _ _ _ _ => rfl) (fun _ _ _ _ _ _ => rfl)
      · exact absurd c7 (by omega)
