/-! the reference: sights, laws -/
theorem allB_no {p : Nat → Bool} {i : Nat} (h : ¬ allB p i = true) : ¬ allB p (i + 1) = true := by
  rw [allB]; intro q; exact h (by simp at q; exact q.1)
theorem cm_holdsNow {n k : Nat} {S : zH} {Rf : zG} {V : zE} {sg sd : Nat → Int} (hL : Lay S Rf) (hk : V 37 11 = (k : Int)) (hk8 : k ≤ 8) (h42 : ∀ i, i < 8 → V 42 (2 * i) = sg i ∧ V 42 (2 * i + 1) = sd i) (hsg : ∀ j, 0 ≤ sg j ∧ sg j < 8) (hsd : ∀ j, 0 ≤ sd j ∧ sd j ≤ 999) (hd : ∀ j, 0 ≤ V 44 j ∧ V 44 j ≤ 100000) : Ci 1 mX7_holdsNow [zR 37] n S Rf V (if allB (fun i => V 44 (sg i).toNat == sd i) k = true then 1 else 0) V := by
  refine ct_of (by decide) rfl (Nat.le_of_ble_eq_true rfl) ?_
  generalize hpp : (fun i => V 44 (sg i).toNat == sd i) = p
  generalize hres : (if allB p k = true then (1 : Int) else 0) = X
  have loop : ∀ (m i : Nat), i + m = k → Wa zXn mX7_holdsNow (zrm 1 0 0) (zZm (qI X S Rf V) (n + 0) 0 0) 0 0 n S 4 [some (zR 37), some (zI (if allB p i = true then 1 else 0)), some (zI (i : Int))] [] Rf V := by
    intro m
    induction m with
    | zero =>
      intro i hi
      obtain rfl : i = k := by omega
      refine wa_ild2 dX7_holdsNow_4 ?_
      refine wa_ald0 dX7_holdsNow_5 ?_
      refine gX7_88 dX7_holdsNow_6 rfl (by first | assumption | exact hL.1 _ (by decide)) ?_
      refine wa_icmp_ge 54 dX7_holdsNow_9 (by decide) (by omega) (by omega) (fun c9 => ?_) (fun c9 => ?_)
      · refine wa_ild1 dX7_holdsNow_54 ?_
        exact wa_breturn dX7_holdsNow_55 rfl rfl (Nat.le_refl _) (by first | exact Or.inl rfl | exact Or.inr rfl | (split <;> simp)) (by exact ⟨by rw [hres], rfl, rfl, rfl⟩)
      · exact absurd c9 (by omega)
    | succ m ih =>
      intro i hi
      have e1 := ih (i + 1) (by omega)
      obtain ⟨h1, h3⟩ := h42 i (by omega)
      have hsi := hsg i
      have hdi := hsd i
      have hdg := hd (sg i).toNat
      have t1 : (2 * (i : Int)).toNat = 2 * i := by omega
      have t2 : (2 * (i : Int) + 1).toNat = 2 * i + 1 := by omega
      have hpi : p i = (V 44 (sg i).toNat == sd i) := by rw [← hpp]
      refine wa_ild2 dX7_holdsNow_4 ?_
      refine wa_ald0 dX7_holdsNow_5 ?_
      refine gX7_88 dX7_holdsNow_6 rfl (by first | assumption | exact hL.1 _ (by decide)) ?_
      refine wa_icmp_ge 54 dX7_holdsNow_9 (by decide) (by first | omega | (split <;> omega) | (simp only [t1, h1]; omega) | (simp only [t1, t2, h1, h3]; omega)) (by first | omega | (split <;> omega) | (simp only [t1, h1]; omega) | (simp only [t1, t2, h1, h3]; omega)) (fun c9 => ?_) (fun c9 => ?_)
      · exact absurd c9 (by omega)
      · refine wa_ild1 dX7_holdsNow_12 ?_
        refine wa_if_eq 46 dX7_holdsNow_13 (by decide) (by first | omega | (split <;> omega) | (simp only [t1, h1]; omega) | (simp only [t1, t2, h1, h3]; omega)) (fun c13 => ?_) (fun c13 => ?_)
        · refine wa_iconst dX7_holdsNow_46 ?_
          refine wa_ist1 dX7_holdsNow_47 (by decide) rfl ?_
          refine wa_iinc2 dX7_holdsNow_48 (by decide) rfl ?_
          refine wa_goto 4 dX7_holdsNow_51 (by decide) ?_
          first
            | (rw [if_neg (allB_no (fun q => by rw [if_pos q] at c13; exact absurd c13 (by decide)))] at e1; exact e1)
            | (have hq : allB p i = true := by
                 by_cases q : allB p i = true
                 · exact q
                 · rw [if_neg q] at c13; exact absurd rfl c13
               simp only [t1, t2, h1, h3] at c39
               rw [allB, hq, hpi] at e1
               simp only [Bool.true_and, beq_iff_eq] at e1
               first
                 | (rw [if_pos c39] at e1; exact e1)
                 | (rw [if_neg c39] at e1; exact e1))
        · refine wa_ald0 dX7_holdsNow_16 ?_
          refine gX7_44 dX7_holdsNow_17 rfl (by first | assumption | exact hL.1 _ (by decide)) (by first | assumption | exact hL.2 _ _ (by decide)) ?_
          refine wa_ald0 dX7_holdsNow_20 ?_
          refine gX7_38 dX7_holdsNow_21 rfl (by first | assumption | exact hL.1 _ (by decide)) (by first | assumption | exact hL.2 _ _ (by decide)) ?_
          refine wa_iconst dX7_holdsNow_24 ?_
          refine wa_ild2 dX7_holdsNow_25 ?_
          refine wa_imul dX7_holdsNow_26 ?_
          refine wa_iaload dX7_holdsNow_27 (by first | assumption | exact hL.1 _ (by decide)) (by first | omega | (split <;> omega) | (simp only [t1, h1]; omega) | (simp only [t1, t2, h1, h3]; omega)) (by first | decide | omega) ?_
          refine wa_iaload dX7_holdsNow_28 (by first | assumption | exact hL.1 _ (by decide)) (by first | omega | (split <;> omega) | (simp only [t1, h1]; omega) | (simp only [t1, t2, h1, h3]; omega)) (by first | decide | omega) ?_
          refine wa_ald0 dX7_holdsNow_29 ?_
          refine gX7_38 dX7_holdsNow_30 rfl (by first | assumption | exact hL.1 _ (by decide)) (by first | assumption | exact hL.2 _ _ (by decide)) ?_
          refine wa_iconst dX7_holdsNow_33 ?_
          refine wa_ild2 dX7_holdsNow_34 ?_
          refine wa_imul dX7_holdsNow_35 ?_
          refine wa_iconst dX7_holdsNow_36 ?_
          refine wa_iadd dX7_holdsNow_37 ?_
          refine wa_iaload dX7_holdsNow_38 (by first | assumption | exact hL.1 _ (by decide)) (by first | omega | (split <;> omega) | (simp only [t1, h1]; omega) | (simp only [t1, t2, h1, h3]; omega)) (by first | decide | omega) ?_
          refine wa_icmp_ne 46 dX7_holdsNow_39 (by decide) (by first | omega | (split <;> omega) | (simp only [t1, h1]; omega) | (simp only [t1, t2, h1, h3]; omega)) (by first | omega | (split <;> omega) | (simp only [t1, h1]; omega) | (simp only [t1, t2, h1, h3]; omega)) (fun c39 => ?_) (fun c39 => ?_)
          · refine wa_iconst dX7_holdsNow_46 ?_
            refine wa_ist1 dX7_holdsNow_47 (by decide) rfl ?_
            refine wa_iinc2 dX7_holdsNow_48 (by decide) rfl ?_
            refine wa_goto 4 dX7_holdsNow_51 (by decide) ?_
            first
              | (rw [if_neg (allB_no (fun q => by rw [if_pos q] at c13; exact absurd c13 (by decide)))] at e1; exact e1)
              | (have hq : allB p i = true := by
                   by_cases q : allB p i = true
                   · exact q
                   · rw [if_neg q] at c13; exact absurd rfl c13
                 simp only [t1, t2, h1, h3] at c39
                 rw [allB, hq, hpi] at e1
                 simp only [Bool.true_and, beq_iff_eq] at e1
                 first
                   | (rw [if_pos c39] at e1; exact e1)
                   | (rw [if_neg c39] at e1; exact e1))
          · refine wa_iconst dX7_holdsNow_42 ?_
            refine wa_goto 47 dX7_holdsNow_43 (by decide) ?_
            refine wa_ist1 dX7_holdsNow_47 (by decide) rfl ?_
            refine wa_iinc2 dX7_holdsNow_48 (by decide) rfl ?_
            refine wa_goto 4 dX7_holdsNow_51 (by decide) ?_
            first
              | (rw [if_neg (allB_no (fun q => by rw [if_pos q] at c13; exact absurd c13 (by decide)))] at e1; exact e1)
              | (have hq : allB p i = true := by
                   by_cases q : allB p i = true
                   · exact q
                   · rw [if_neg q] at c13; exact absurd rfl c13
                 simp only [t1, t2, h1, h3] at c39
                 rw [allB, hq, hpi] at e1
                 simp only [Bool.true_and, beq_iff_eq] at e1
                 first
                   | (rw [if_pos c39] at e1; exact e1)
                   | (rw [if_neg c39] at e1; exact e1))
  refine wa_iconst dX7_holdsNow_0 ?_
  refine wa_ist1 dX7_holdsNow_1 (by decide) rfl ?_
  refine wa_iconst dX7_holdsNow_2 ?_
  refine wa_ist2 dX7_holdsNow_3 (by decide) rfl ?_
  exact loop k 0 (by omega)
theorem cm_isSeen {n k : Nat} {S : zH} {Rf : zG} {V : zE} {sg : Nat → Int} {g : Int} (hL : Lay S Rf) (hk : V 37 11 = (k : Int)) (hk8 : k ≤ 8) (h42 : ∀ i, i < 8 → V 42 (2 * i) = sg i) (hsg : ∀ j, 0 ≤ sg j ∧ sg j < 8) (hg : 0 ≤ g ∧ g < 8) : Ci 1 mX7_isSeen [zR 37, zI g] n S Rf V (if anyB (fun i => sg i == g) k = true then 1 else 0) V := by
  refine ct_of (by decide) rfl (Nat.le_of_ble_eq_true rfl) ?_
  generalize hpp : (fun i => sg i == g) = p
  generalize hres : (if anyB p k = true then (1 : Int) else 0) = X
  have loop : ∀ (m i : Nat), i + m = k → Wa zXn mX7_isSeen (zrm 1 0 0) (zZm (qI X S Rf V) (n + 0) 0 0) 0 0 n S 4 [some (zR 37), some (zI g), some (zI (if anyB p i = true then 1 else 0)), some (zI (i : Int))] [] Rf V := by
    intro m
    induction m with
    | zero =>
      intro i hi
      obtain rfl : i = k := by omega
      refine wa_ild3 dX7_isSeen_4 ?_
      refine wa_ald0 dX7_isSeen_5 ?_
      refine gX7_88 dX7_isSeen_6 rfl (by first | assumption | exact hL.1 _ (by decide)) ?_
      refine wa_icmp_ge 40 dX7_isSeen_9 (by decide) (by omega) (by omega) (fun c9 => ?_) (fun c9 => ?_)
      · refine wa_ild2 dX7_isSeen_40 ?_
        exact wa_breturn dX7_isSeen_41 rfl rfl (Nat.le_refl _) (by first | exact Or.inl rfl | exact Or.inr rfl | (split <;> simp)) (by exact ⟨by rw [hres], rfl, rfl, rfl⟩)
      · exact absurd c9 (by omega)
    | succ m ih =>
      intro i hi
      have e1 := ih (i + 1) (by omega)
      have h1 := h42 i (by omega)
      have hsi := hsg i
      have t1 : (2 * (i : Int)).toNat = 2 * i := by omega
      have hpi : p i = (sg i == g) := by rw [← hpp]
      refine wa_ild3 dX7_isSeen_4 ?_
      refine wa_ald0 dX7_isSeen_5 ?_
      refine gX7_88 dX7_isSeen_6 rfl (by first | assumption | exact hL.1 _ (by decide)) ?_
      refine wa_icmp_ge 40 dX7_isSeen_9 (by decide) (by first | omega | (split <;> omega) | (simp only [t1, h1]; omega)) (by first | omega | (split <;> omega) | (simp only [t1, h1]; omega)) (fun c9 => ?_) (fun c9 => ?_)
      · exact absurd c9 (by omega)
      · refine wa_ild2 dX7_isSeen_12 ?_
        refine wa_if_ne 28 dX7_isSeen_13 (by decide) (by first | omega | (split <;> omega) | (simp only [t1, h1]; omega)) (fun c13 => ?_) (fun c13 => ?_)
        · refine wa_iconst dX7_isSeen_28 ?_
          refine wa_goto 33 dX7_isSeen_29 (by decide) ?_
          refine wa_ist2 dX7_isSeen_33 (by decide) rfl ?_
          refine wa_iinc3 dX7_isSeen_34 (by decide) rfl ?_
          refine wa_goto 4 dX7_isSeen_37 (by decide) ?_
          by_cases hq : anyB p i = true
          · first
              | (rw [if_pos hq] at c13; exact absurd c13 (by decide))
              | (rw [anyB, hq] at e1; exact e1)
          · first
              | (rw [if_neg hq] at c13; exact absurd rfl c13)
              | (simp only [t1, h1] at c25
                 rw [anyB, hpi] at e1
                 simp only [Bool.or_eq_true, hq, Bool.false_eq_true, false_or, beq_iff_eq] at e1
                 first
                   | (rw [if_pos c25] at e1; exact e1)
                   | (rw [if_neg c25] at e1; exact e1))
        · refine wa_ald0 dX7_isSeen_16 ?_
          refine gX7_38 dX7_isSeen_17 rfl (by first | assumption | exact hL.1 _ (by decide)) (by first | assumption | exact hL.2 _ _ (by decide)) ?_
          refine wa_iconst dX7_isSeen_20 ?_
          refine wa_ild3 dX7_isSeen_21 ?_
          refine wa_imul dX7_isSeen_22 ?_
          refine wa_iaload dX7_isSeen_23 (by first | assumption | exact hL.1 _ (by decide)) (by first | omega | (split <;> omega) | (simp only [t1, h1]; omega)) (by first | decide | omega) ?_
          refine wa_ild1 dX7_isSeen_24 ?_
          refine wa_icmp_ne 32 dX7_isSeen_25 (by decide) (by first | omega | (split <;> omega) | (simp only [t1, h1]; omega)) (by first | omega | (split <;> omega) | (simp only [t1, h1]; omega)) (fun c25 => ?_) (fun c25 => ?_)
          · refine wa_iconst dX7_isSeen_32 ?_
            refine wa_ist2 dX7_isSeen_33 (by decide) rfl ?_
            refine wa_iinc3 dX7_isSeen_34 (by decide) rfl ?_
            refine wa_goto 4 dX7_isSeen_37 (by decide) ?_
            by_cases hq : anyB p i = true
            · first
                | (rw [if_pos hq] at c13; exact absurd c13 (by decide))
                | (rw [anyB, hq] at e1; exact e1)
            · first
                | (rw [if_neg hq] at c13; exact absurd rfl c13)
                | (simp only [t1, h1] at c25
                   rw [anyB, hpi] at e1
                   simp only [Bool.or_eq_true, hq, Bool.false_eq_true, false_or, beq_iff_eq] at e1
                   first
                     | (rw [if_pos c25] at e1; exact e1)
                     | (rw [if_neg c25] at e1; exact e1))
          · refine wa_iconst dX7_isSeen_28 ?_
            refine wa_goto 33 dX7_isSeen_29 (by decide) ?_
            refine wa_ist2 dX7_isSeen_33 (by decide) rfl ?_
            refine wa_iinc3 dX7_isSeen_34 (by decide) rfl ?_
            refine wa_goto 4 dX7_isSeen_37 (by decide) ?_
            by_cases hq : anyB p i = true
            · first
                | (rw [if_pos hq] at c13; exact absurd c13 (by decide))
                | (rw [anyB, hq] at e1; exact e1)
            · first
                | (rw [if_neg hq] at c13; exact absurd rfl c13)
                | (simp only [t1, h1] at c25
                   rw [anyB, hpi] at e1
                   simp only [Bool.or_eq_true, hq, Bool.false_eq_true, false_or, beq_iff_eq] at e1
                   first
                     | (rw [if_pos c25] at e1; exact e1)
                     | (rw [if_neg c25] at e1; exact e1))
  refine wa_iconst dX7_isSeen_0 ?_
  refine wa_ist2 dX7_isSeen_1 (by decide) rfl ?_
  refine wa_iconst dX7_isSeen_2 ?_
  refine wa_ist3 dX7_isSeen_3 (by decide) rfl ?_
  exact loop k 0 (by omega)
