/-! the reference: faults -/
theorem prs_2 {c : Nat} {s : Int → Int} {len f a : Nat} (ha : a < len) : (prs c s len (f + 1) a).2 = if s a = 46 ∨ s a = 119 then (prs c s len f (a + 1)).2 else if ¬ (0 ≤ s a - 97 ∧ s a - 97 < c) then (a : Int) else if s ((a : Int) + 1) = 42 then (prs c s len f (a + 2)).2 else if ¬ (0 ≤ s ((a : Int) + 1) - 65 ∧ s ((a : Int) + 1) - 65 < c) then (a : Int) + 1 else if kdF (s ((a : Int) + 2)) = -6 then (a : Int) + 2 else (prs c s len f (a + 3)).2 := by
  by_cases h1 : s a = 46
  · have e : pwF c s a = (1, 4, 0, 0) := by rw [pwF, if_pos h1]
    rw [if_pos (show s a = 46 ∨ s a = 119 by omega), prs, if_pos ha, e]; rfl
  by_cases h2 : s a = 119
  · have e : pwF c s a = (1, 5, 0, 0) := by rw [pwF, if_neg h1, if_pos h2]
    rw [if_pos (show s a = 46 ∨ s a = 119 by omega), prs, if_pos ha, e]; rfl
  rw [if_neg (show ¬ (s a = 46 ∨ s a = 119) by omega)]
  by_cases h3 : ¬ (0 ≤ s a - 97 ∧ s a - 97 < c)
  · have e : pwF c s a = (-(a : Int), 0, 0, 0) := by rw [pwF, if_neg h1, if_neg h2, if_pos h3]
    rw [if_pos h3, prs, if_pos ha, e]
    have h0 : (-(a : Int)) < 1 := by omega
    simp only [h0, if_true, Int.neg_neg]
  rw [if_neg h3]
  by_cases h4 : s ((a : Int) + 1) = 42
  · have e : pwF c s a = (2, 3, s a - 97, 0) := by rw [pwF, if_neg h1, if_neg h2, if_neg h3, if_pos h4]
    rw [if_pos h4, prs, if_pos ha, e]; rfl
  rw [if_neg h4]
  by_cases h5 : ¬ (0 ≤ s ((a : Int) + 1) - 65 ∧ s ((a : Int) + 1) - 65 < c)
  · have e : pwF c s a = (-((a : Int) + 1), 0, 0, 0) := by rw [pwF, if_neg h1, if_neg h2, if_neg h3, if_neg h4, if_pos h5]
    rw [if_pos h5, prs, if_pos ha, e]
    have h0 : (-((a : Int) + 1)) < 1 := by omega
    simp only [h0, if_true, Int.neg_neg]
  rw [if_neg h5]
  by_cases h6 : kdF (s ((a : Int) + 2)) = -6
  · have e : pwF c s a = (-((a : Int) + 2), 0, 0, 0) := by rw [pwF, if_neg h1, if_neg h2, if_neg h3, if_neg h4, if_neg h5, if_pos h6]
    rw [if_pos h6, prs, if_pos ha, e]
    have h0 : (-((a : Int) + 2)) < 1 := by omega
    simp only [h0, if_true, Int.neg_neg]
  rw [if_neg h6]
  have e : pwF c s a = (3, kdF (s ((a : Int) + 2)), s a - 97, s ((a : Int) + 1) - 65) := by rw [pwF, if_neg h1, if_neg h2, if_neg h3, if_neg h4, if_neg h5, if_neg h6]
  rw [prs, if_pos ha, e]; rfl
theorem kdF_no {x : Int} : kdF x = -6 ↔ x ≠ 116 ∧ x ≠ 108 ∧ x ≠ 43 := by
  unfold kdF
  (repeat' split) <;> omega
theorem cm_faultOf {n c len : Nat} {S : zH} {Rf : zG} {V : zE} (hL : Lay S Rf) (hc : V 37 0 = (c : Int)) (h2 : 2 ≤ c) (h8 : c ≤ 8) (hl : V 37 13 = (len : Int)) (h60 : len ≤ 60) (hp : ∀ j, 0 ≤ V 43 j ∧ V 43 j ≤ 126) : Ci 3 mX7_faultOf [zR 37] n S Rf V (prs c (sgF (V 43) len) len 60 0).2 V := by
  refine ct_of (by decide) rfl (Nat.le_of_ble_eq_true rfl) ?_
  have loop : ∀ (f a : Nat), len ≤ a + f → a ≤ len → (prs c (sgF (V 43) len) len 60 0).2 = (prs c (sgF (V 43) len) len f a).2 → Wa zXn mX7_faultOf (zrm 3 0 0) (zZm (qI (prs c (sgF (V 43) len) len 60 0).2 S Rf V) (n + 0) 0 0) 0 0 n S 4 [some (zR 37), some (zI 0), some (zI (a : Int)), none, none] [] Rf V := by
    intro f
    induction f with
    | zero =>
      intro a hf' haf hpr
      rw [prs] at hpr
      refine wa_ild2 dX7_faultOf_4 ?_
      refine wa_ald0 dX7_faultOf_5 ?_
      refine gX7_99 dX7_faultOf_6 rfl (by first | assumption | exact hL.1 _ (by decide)) ?_
      refine wa_icmp_ge 162 dX7_faultOf_9 (by decide) (by omega) (by omega) (fun c9 => ?_) (fun c9 => ?_)
      · refine wa_ild1 dX7_faultOf_162 ?_
        refine wa_if_ne 171 dX7_faultOf_163 (by decide) (by omega) (fun c163 => absurd c163 (by decide)) (fun c163 => ?_)
        refine wa_bipush dX7_faultOf_166 (by decide) ?_
        refine wa_goto 175 dX7_faultOf_168 (by decide) ?_
        exact wa_ireturn dX7_faultOf_175 rfl rfl (Nat.le_refl _) (by exact ⟨by rw [hpr], rfl, rfl, rfl⟩)
      · exact absurd c9 (by omega)
    | succ f ih =>
      intro a hf' haf hpr
      by_cases hal : len ≤ a
      · rw [prs_out hal] at hpr
        refine wa_ild2 dX7_faultOf_4 ?_
        refine wa_ald0 dX7_faultOf_5 ?_
        refine gX7_99 dX7_faultOf_6 rfl (by first | assumption | exact hL.1 _ (by decide)) ?_
        refine wa_icmp_ge 162 dX7_faultOf_9 (by decide) (by omega) (by omega) (fun c9 => ?_) (fun c9 => ?_)
        · refine wa_ild1 dX7_faultOf_162 ?_
          refine wa_if_ne 171 dX7_faultOf_163 (by decide) (by omega) (fun c163 => absurd c163 (by decide)) (fun c163 => ?_)
          refine wa_bipush dX7_faultOf_166 (by decide) ?_
          refine wa_goto 175 dX7_faultOf_168 (by decide) ?_
          exact wa_ireturn dX7_faultOf_175 rfl rfl (Nat.le_refl _) (by exact ⟨by rw [hpr], rfl, rfl, rfl⟩)
        · exact absurd c9 (by omega)
      have hal' : a < len := by omega
      rw [prs_2 hal', sgF_in hal'] at hpr
      have hpa := hp a
      generalize hX : (prs c (sgF (V 43) len) len 60 0).2 = X at hpr ih ⊢
      have e1 : ((a : Int) + 1).toNat = a + 1 := by omega
      have e2 : ((a : Int) + 2).toNat = a + 2 := by omega
      have es1 : a + 1 < len → sgF (V 43) len ((a : Int) + 1) = V 43 (a + 1) := fun h => by rw [sgF, if_pos (by omega), e1]
      have es2 : a + 2 < len → sgF (V 43) len ((a : Int) + 2) = V 43 (a + 2) := fun h => by rw [sgF, if_pos (by omega), e2]
      have eo1 : len ≤ a + 1 → sgF (V 43) len ((a : Int) + 1) = 0 := fun h => by rw [sgF, if_neg (by omega)]
      have eo2 : len ≤ a + 2 → sgF (V 43) len ((a : Int) + 2) = 0 := fun h => by rw [sgF, if_neg (by omega)]
      have P2 : a + 1 < len → X = (if kdF (sgF (V 43) len ((a : Int) + 2)) = -6 then (a : Int) + 2 else (prs c (sgF (V 43) len) len f (a + 3)).2) → Wa zXn mX7_faultOf (zrm 3 0 0) (zZm (qI X S Rf V) (n + 0) 0 0) 0 0 n S 4 [some (zR 37), some (zI 2), some (zI ((a : Int) + 2)), none, none] [] Rf V := by
        intro hal1 hx
        have hp2 := hp (a + 2)
        refine wa_ild2 dX7_faultOf_4 ?_
        refine wa_ald0 dX7_faultOf_5 ?_
        refine gX7_99 dX7_faultOf_6 rfl (by first | assumption | exact hL.1 _ (by decide)) ?_
        refine wa_icmp_ge 162 dX7_faultOf_9 (by decide) (by first | omega | (simp only [e2]; omega)) (by first | omega | (simp only [e2]; omega)) (fun c9 => ?_) (fun c9 => ?_)
        · refine wa_ild1 dX7_faultOf_162 ?_
          refine wa_if_ne 171 dX7_faultOf_163 (by decide) (by decide) (fun c163 => ?_) (fun c163 => absurd c163 (by decide))
          refine wa_ald0 dX7_faultOf_171 ?_
          refine gX7_99 dX7_faultOf_172 rfl (by exact hL.1 _ (by decide)) ?_
          refine wa_ireturn dX7_faultOf_175 rfl rfl (Nat.le_refl _) ⟨?_, rfl, rfl, rfl⟩
          rw [hx, if_pos (by rw [eo2 (by omega)]; decide)]
          congr 2; omega
        · refine wa_ald0 dX7_faultOf_12 ?_
          refine gX7_41 dX7_faultOf_13 rfl (by first | assumption | exact hL.1 _ (by decide)) (by first | assumption | exact hL.2 _ _ (by decide)) ?_
          refine wa_ild2 dX7_faultOf_16 ?_
          refine wa_iaload dX7_faultOf_17 (by first | assumption | exact hL.1 _ (by decide)) (by first | omega | (simp only [e2]; omega)) (by first | decide | omega) ?_
          simp only [e2]
          refine wa_ist3 dX7_faultOf_18 (by decide) rfl ?_
          refine wa_ild1 dX7_faultOf_19 ?_
          refine wa_if_ne 54 dX7_faultOf_20 (by decide) (by first | omega | (simp only [e2]; omega)) (fun c20 => ?_) (fun c20 => absurd c20 (by decide))
          refine wa_ild1 dX7_faultOf_54 ?_
          refine wa_iconst dX7_faultOf_55 ?_
          refine wa_icmp_ne 84 dX7_faultOf_56 (by decide) (by first | omega | (simp only [e2]; omega)) (by first | omega | (simp only [e2]; omega)) (fun c56 => ?_) (fun c56 => absurd c56 (by decide))
          refine wa_ild3 dX7_faultOf_84 ?_
          refine wa_bipush dX7_faultOf_85 (by decide) ?_
          refine wa_icmp_eq 102 dX7_faultOf_87 (by decide) (by first | omega | (simp only [e2]; omega)) (by first | omega | (simp only [e2]; omega)) (fun c87 => ?_) (fun c87 => ?_)
          · refine wa_iconst dX7_faultOf_102 ?_
            refine wa_goto 107 dX7_faultOf_103 (by decide) ?_
            refine wa_ist4 dX7_faultOf_107 (by decide) rfl ?_
            refine wa_ild4 dX7_faultOf_109 ?_
            refine wa_if_ne 116 dX7_faultOf_111 (by decide) (by decide) (fun c111 => ?_) (fun c111 => absurd c111 (by decide))
            refine wa_ild1 dX7_faultOf_116 ?_
            refine wa_if_ne 139 dX7_faultOf_117 (by decide) (by first | omega | (simp only [e2]; omega)) (fun c117 => ?_) (fun c117 => absurd c117 (by decide))
            refine wa_ild1 dX7_faultOf_139 ?_
            refine wa_iconst dX7_faultOf_140 ?_
            refine wa_icmp_ne 154 dX7_faultOf_141 (by decide) (by first | omega | (simp only [e2]; omega)) (by first | omega | (simp only [e2]; omega)) (fun c141 => ?_) (fun c141 => absurd c141 (by decide))
            refine wa_iconst dX7_faultOf_154 ?_
            refine wa_ist1 dX7_faultOf_155 (by decide) rfl ?_
            refine wa_iinc2 dX7_faultOf_156 (by decide) rfl ?_
            refine wa_goto 4 dX7_faultOf_159 (by decide) ?_
            refine wa_drop4 (wa_drop3 ?_)
            have h5 := ih (a + 3) (by omega) (by omega) (by rw [hx, if_neg (by rw [es2 (by omega), kdF_no]; omega)])
            rw [show ((a + 3 : Nat) : Int) = (a : Int) + 2 + 1 from by omega] at h5
            exact h5
          · refine wa_ild3 dX7_faultOf_90 ?_
            refine wa_bipush dX7_faultOf_91 (by decide) ?_
            refine wa_icmp_eq 102 dX7_faultOf_93 (by decide) (by first | omega | (simp only [e2]; omega)) (by first | omega | (simp only [e2]; omega)) (fun c93 => ?_) (fun c93 => ?_)
            · refine wa_iconst dX7_faultOf_102 ?_
              refine wa_goto 107 dX7_faultOf_103 (by decide) ?_
              refine wa_ist4 dX7_faultOf_107 (by decide) rfl ?_
              refine wa_ild4 dX7_faultOf_109 ?_
              refine wa_if_ne 116 dX7_faultOf_111 (by decide) (by decide) (fun c111 => ?_) (fun c111 => absurd c111 (by decide))
              refine wa_ild1 dX7_faultOf_116 ?_
              refine wa_if_ne 139 dX7_faultOf_117 (by decide) (by first | omega | (simp only [e2]; omega)) (fun c117 => ?_) (fun c117 => absurd c117 (by decide))
              refine wa_ild1 dX7_faultOf_139 ?_
              refine wa_iconst dX7_faultOf_140 ?_
              refine wa_icmp_ne 154 dX7_faultOf_141 (by decide) (by first | omega | (simp only [e2]; omega)) (by first | omega | (simp only [e2]; omega)) (fun c141 => ?_) (fun c141 => absurd c141 (by decide))
              refine wa_iconst dX7_faultOf_154 ?_
              refine wa_ist1 dX7_faultOf_155 (by decide) rfl ?_
              refine wa_iinc2 dX7_faultOf_156 (by decide) rfl ?_
              refine wa_goto 4 dX7_faultOf_159 (by decide) ?_
              refine wa_drop4 (wa_drop3 ?_)
              have h5 := ih (a + 3) (by omega) (by omega) (by rw [hx, if_neg (by rw [es2 (by omega), kdF_no]; omega)])
              rw [show ((a + 3 : Nat) : Int) = (a : Int) + 2 + 1 from by omega] at h5
              exact h5
            · refine wa_ild3 dX7_faultOf_96 ?_
              refine wa_bipush dX7_faultOf_97 (by decide) ?_
              refine wa_icmp_ne 106 dX7_faultOf_99 (by decide) (by first | omega | (simp only [e2]; omega)) (by first | omega | (simp only [e2]; omega)) (fun c99 => ?_) (fun c99 => ?_)
              · refine wa_iconst dX7_faultOf_106 ?_
                refine wa_ist4 dX7_faultOf_107 (by decide) rfl ?_
                refine wa_ild4 dX7_faultOf_109 ?_
                refine wa_if_ne 116 dX7_faultOf_111 (by decide) (by decide) (fun c111 => absurd c111 (by decide)) (fun c111 => ?_)
                refine wa_ild2 dX7_faultOf_114 ?_
                refine wa_ireturn dX7_faultOf_115 rfl rfl (Nat.le_refl _) ?_
                refine ⟨?_, rfl, rfl, rfl⟩
                rw [hx, if_pos (by rw [es2 (by omega), kdF_no]; omega)]
              · refine wa_iconst dX7_faultOf_102 ?_
                refine wa_goto 107 dX7_faultOf_103 (by decide) ?_
                refine wa_ist4 dX7_faultOf_107 (by decide) rfl ?_
                refine wa_ild4 dX7_faultOf_109 ?_
                refine wa_if_ne 116 dX7_faultOf_111 (by decide) (by decide) (fun c111 => ?_) (fun c111 => absurd c111 (by decide))
                refine wa_ild1 dX7_faultOf_116 ?_
                refine wa_if_ne 139 dX7_faultOf_117 (by decide) (by first | omega | (simp only [e2]; omega)) (fun c117 => ?_) (fun c117 => absurd c117 (by decide))
                refine wa_ild1 dX7_faultOf_139 ?_
                refine wa_iconst dX7_faultOf_140 ?_
                refine wa_icmp_ne 154 dX7_faultOf_141 (by decide) (by first | omega | (simp only [e2]; omega)) (by first | omega | (simp only [e2]; omega)) (fun c141 => ?_) (fun c141 => absurd c141 (by decide))
                refine wa_iconst dX7_faultOf_154 ?_
                refine wa_ist1 dX7_faultOf_155 (by decide) rfl ?_
                refine wa_iinc2 dX7_faultOf_156 (by decide) rfl ?_
                refine wa_goto 4 dX7_faultOf_159 (by decide) ?_
                refine wa_drop4 (wa_drop3 ?_)
                have h5 := ih (a + 3) (by omega) (by omega) (by rw [hx, if_neg (by rw [es2 (by omega), kdF_no]; omega)])
                rw [show ((a + 3 : Nat) : Int) = (a : Int) + 2 + 1 from by omega] at h5
                exact h5
      have P1 : X = (if sgF (V 43) len ((a : Int) + 1) = 42 then (prs c (sgF (V 43) len) len f (a + 2)).2 else if ¬ (0 ≤ sgF (V 43) len ((a : Int) + 1) - 65 ∧ sgF (V 43) len ((a : Int) + 1) - 65 < c) then (a : Int) + 1 else if kdF (sgF (V 43) len ((a : Int) + 2)) = -6 then (a : Int) + 2 else (prs c (sgF (V 43) len) len f (a + 3)).2) → Wa zXn mX7_faultOf (zrm 3 0 0) (zZm (qI X S Rf V) (n + 0) 0 0) 0 0 n S 4 [some (zR 37), some (zI 1), some (zI ((a : Int) + 1)), none, none] [] Rf V := by
        intro hx
        have hp1 := hp (a + 1)
        have q1 : a + 1 < len → (0 ≤ V 43 (a + 1) - 65 ∧ V 43 (a + 1) - 65 < c) → Wa zXn mX7_faultOf (zrm 3 0 0) (zZm (qI X S Rf V) (n + 0) 0 0) 0 0 n S 4 [some (zR 37), some (zI 2), some (zI ((a : Int) + 1 + 1)), none, none] [] Rf V := by
          intro h1 h3
          rw [es1 h1, if_neg (by omega), if_neg (by omega)] at hx
          rw [Int.add_assoc]; exact P2 h1 hx
        have q0 : a + 1 < len → V 43 (a + 1) = 42 → Wa zXn mX7_faultOf (zrm 3 0 0) (zZm (qI X S Rf V) (n + 0) 0 0) 0 0 n S 4 [some (zR 37), some (zI 0), some (zI ((a : Int) + 1 + 1)), none, none] [] Rf V := by
          intro h1 h3
          rw [es1 h1, if_pos h3] at hx
          have h5 := ih (a + 2) (by omega) (by omega) hx
          rw [show ((a + 2 : Nat) : Int) = (a : Int) + 1 + 1 from by omega] at h5
          exact h5
        refine wa_ild2 dX7_faultOf_4 ?_
        refine wa_ald0 dX7_faultOf_5 ?_
        refine gX7_99 dX7_faultOf_6 rfl (by first | assumption | exact hL.1 _ (by decide)) ?_
        refine wa_icmp_ge 162 dX7_faultOf_9 (by decide) (by first | omega | (simp only [e1]; omega)) (by first | omega | (simp only [e1]; omega)) (fun c9 => ?_) (fun c9 => ?_)
        · refine wa_ild1 dX7_faultOf_162 ?_
          refine wa_if_ne 171 dX7_faultOf_163 (by decide) (by decide) (fun c163 => ?_) (fun c163 => absurd c163 (by decide))
          refine wa_ald0 dX7_faultOf_171 ?_
          refine gX7_99 dX7_faultOf_172 rfl (by exact hL.1 _ (by decide)) ?_
          refine wa_ireturn dX7_faultOf_175 rfl rfl (Nat.le_refl _) ⟨?_, rfl, rfl, rfl⟩
          rw [eo1 (by omega), if_neg (by decide), if_pos (by omega)] at hx
          rw [hx]; congr 2; omega
        · refine wa_ald0 dX7_faultOf_12 ?_
          refine gX7_41 dX7_faultOf_13 rfl (by first | assumption | exact hL.1 _ (by decide)) (by first | assumption | exact hL.2 _ _ (by decide)) ?_
          refine wa_ild2 dX7_faultOf_16 ?_
          refine wa_iaload dX7_faultOf_17 (by first | assumption | exact hL.1 _ (by decide)) (by first | omega | (simp only [e1]; omega)) (by first | decide | omega) ?_
          simp only [e1]
          refine wa_ist3 dX7_faultOf_18 (by decide) rfl ?_
          refine wa_ild1 dX7_faultOf_19 ?_
          refine wa_if_ne 54 dX7_faultOf_20 (by decide) (by first | omega | (simp only [e1]; omega)) (fun c20 => ?_) (fun c20 => absurd c20 (by decide))
          refine wa_ild1 dX7_faultOf_54 ?_
          refine wa_iconst dX7_faultOf_55 ?_
          refine wa_icmp_ne 84 dX7_faultOf_56 (by decide) (by first | omega | (simp only [e1]; omega)) (by first | omega | (simp only [e1]; omega)) (fun c56 => absurd c56 (by decide)) (fun c56 => ?_)
          refine wa_ald0 dX7_faultOf_59 ?_
          refine wa_ild3 dX7_faultOf_60 ?_
          refine wa_bipush dX7_faultOf_61 (by decide) ?_
          refine wa_isub dX7_faultOf_63 ?_
          refine kX7_95 dX7_faultOf_64 rfl (by first | assumption | exact hL.1 _ (by decide)) (cm_isGarden hL hc h8 (by omega)) (by decide) (Nat.le_of_ble_eq_true rfl) ⟨Nat.le_refl _, Nat.le_refl _⟩ (zdI ?_)
          refine wa_ifne_B 76 dX7_faultOf_67 (by decide) (fun c67 => ?_) (fun c67 => ?_)
          · refine wa_iconst dX7_faultOf_76 ?_
            refine wa_goto 107 dX7_faultOf_77 (by decide) ?_
            refine wa_ist4 dX7_faultOf_107 (by decide) rfl ?_
            refine wa_ild4 dX7_faultOf_109 ?_
            refine wa_if_ne 116 dX7_faultOf_111 (by decide) (by decide) (fun c111 => ?_) (fun c111 => absurd c111 (by decide))
            refine wa_ild1 dX7_faultOf_116 ?_
            refine wa_if_ne 139 dX7_faultOf_117 (by decide) (by first | omega | (simp only [e1]; omega)) (fun c117 => ?_) (fun c117 => absurd c117 (by decide))
            refine wa_ild1 dX7_faultOf_139 ?_
            refine wa_iconst dX7_faultOf_140 ?_
            refine wa_icmp_ne 154 dX7_faultOf_141 (by decide) (by first | omega | (simp only [e1]; omega)) (by first | omega | (simp only [e1]; omega)) (fun c141 => absurd c141 (by decide)) (fun c141 => ?_)
            refine wa_ild3 dX7_faultOf_144 ?_
            refine wa_bipush dX7_faultOf_145 (by decide) ?_
            refine wa_icmp_eq 154 dX7_faultOf_147 (by decide) (by first | omega | (simp only [e1]; omega)) (by first | omega | (simp only [e1]; omega)) (fun c147 => ?_) (fun c147 => ?_)
            · refine wa_iconst dX7_faultOf_154 ?_
              refine wa_ist1 dX7_faultOf_155 (by decide) rfl ?_
              refine wa_iinc2 dX7_faultOf_156 (by decide) rfl ?_
              refine wa_goto 4 dX7_faultOf_159 (by decide) ?_
              refine wa_drop4 (wa_drop3 ?_)
              first
                | (exfalso; omega)
                | exact q1 (by omega) (by omega)
                | exact q0 (by omega) (by omega)
            · refine wa_iconst dX7_faultOf_150 ?_
              refine wa_goto 155 dX7_faultOf_151 (by decide) ?_
              refine wa_ist1 dX7_faultOf_155 (by decide) rfl ?_
              refine wa_iinc2 dX7_faultOf_156 (by decide) rfl ?_
              refine wa_goto 4 dX7_faultOf_159 (by decide) ?_
              refine wa_drop4 (wa_drop3 ?_)
              first
                | (exfalso; omega)
                | exact q1 (by omega) (by omega)
                | exact q0 (by omega) (by omega)
          · refine wa_ild3 dX7_faultOf_70 ?_
            refine wa_bipush dX7_faultOf_71 (by decide) ?_
            refine wa_icmp_ne 80 dX7_faultOf_73 (by decide) (by first | omega | (simp only [e1]; omega)) (by first | omega | (simp only [e1]; omega)) (fun c73 => ?_) (fun c73 => ?_)
            · refine wa_iconst dX7_faultOf_80 ?_
              refine wa_goto 107 dX7_faultOf_81 (by decide) ?_
              refine wa_ist4 dX7_faultOf_107 (by decide) rfl ?_
              refine wa_ild4 dX7_faultOf_109 ?_
              refine wa_if_ne 116 dX7_faultOf_111 (by decide) (by decide) (fun c111 => absurd c111 (by decide)) (fun c111 => ?_)
              refine wa_ild2 dX7_faultOf_114 ?_
              refine wa_ireturn dX7_faultOf_115 rfl rfl (Nat.le_refl _) ?_
              refine ⟨?_, rfl, rfl, rfl⟩
              rw [es1 (by omega), if_neg (by omega), if_pos (by omega)] at hx
              rw [hx]
            · refine wa_iconst dX7_faultOf_76 ?_
              refine wa_goto 107 dX7_faultOf_77 (by decide) ?_
              refine wa_ist4 dX7_faultOf_107 (by decide) rfl ?_
              refine wa_ild4 dX7_faultOf_109 ?_
              refine wa_if_ne 116 dX7_faultOf_111 (by decide) (by decide) (fun c111 => ?_) (fun c111 => absurd c111 (by decide))
              refine wa_ild1 dX7_faultOf_116 ?_
              refine wa_if_ne 139 dX7_faultOf_117 (by decide) (by first | omega | (simp only [e1]; omega)) (fun c117 => ?_) (fun c117 => absurd c117 (by decide))
              refine wa_ild1 dX7_faultOf_139 ?_
              refine wa_iconst dX7_faultOf_140 ?_
              refine wa_icmp_ne 154 dX7_faultOf_141 (by decide) (by first | omega | (simp only [e1]; omega)) (by first | omega | (simp only [e1]; omega)) (fun c141 => absurd c141 (by decide)) (fun c141 => ?_)
              refine wa_ild3 dX7_faultOf_144 ?_
              refine wa_bipush dX7_faultOf_145 (by decide) ?_
              refine wa_icmp_eq 154 dX7_faultOf_147 (by decide) (by first | omega | (simp only [e1]; omega)) (by first | omega | (simp only [e1]; omega)) (fun c147 => ?_) (fun c147 => ?_)
              · refine wa_iconst dX7_faultOf_154 ?_
                refine wa_ist1 dX7_faultOf_155 (by decide) rfl ?_
                refine wa_iinc2 dX7_faultOf_156 (by decide) rfl ?_
                refine wa_goto 4 dX7_faultOf_159 (by decide) ?_
                refine wa_drop4 (wa_drop3 ?_)
                first
                  | (exfalso; omega)
                  | exact q1 (by omega) (by omega)
                  | exact q0 (by omega) (by omega)
              · refine wa_iconst dX7_faultOf_150 ?_
                refine wa_goto 155 dX7_faultOf_151 (by decide) ?_
                refine wa_ist1 dX7_faultOf_155 (by decide) rfl ?_
                refine wa_iinc2 dX7_faultOf_156 (by decide) rfl ?_
                refine wa_goto 4 dX7_faultOf_159 (by decide) ?_
                refine wa_drop4 (wa_drop3 ?_)
                first
                  | (exfalso; omega)
                  | exact q1 (by omega) (by omega)
                  | exact q0 (by omega) (by omega)
      have q1 : (0 ≤ V 43 a - 97 ∧ V 43 a - 97 < c) → Wa zXn mX7_faultOf (zrm 3 0 0) (zZm (qI X S Rf V) (n + 0) 0 0) 0 0 n S 4 [some (zR 37), some (zI 1), some (zI ((a : Int) + 1)), none, none] [] Rf V := by
        intro h1
        rw [if_neg (by omega), if_neg (by omega)] at hpr
        exact P1 hpr
      have q0 : (V 43 a = 46 ∨ V 43 a = 119) → Wa zXn mX7_faultOf (zrm 3 0 0) (zZm (qI X S Rf V) (n + 0) 0 0) 0 0 n S 4 [some (zR 37), some (zI 0), some (zI ((a : Int) + 1)), none, none] [] Rf V := by
        intro h1
        rw [if_pos h1] at hpr
        have h5 := ih (a + 1) (by omega) (by omega) hpr
        rw [show ((a + 1 : Nat) : Int) = (a : Int) + 1 from by omega] at h5
        exact h5
      refine wa_ild2 dX7_faultOf_4 ?_
      refine wa_ald0 dX7_faultOf_5 ?_
      refine gX7_99 dX7_faultOf_6 rfl (by first | assumption | exact hL.1 _ (by decide)) ?_
      refine wa_icmp_ge 162 dX7_faultOf_9 (by decide) (by first | omega | (simp only [Int.toNat_natCast]; omega)) (by first | omega | (simp only [Int.toNat_natCast]; omega)) (fun c9 => ?_) (fun c9 => ?_)
      · exact absurd c9 (by omega)
      · refine wa_ald0 dX7_faultOf_12 ?_
        refine gX7_41 dX7_faultOf_13 rfl (by first | assumption | exact hL.1 _ (by decide)) (by first | assumption | exact hL.2 _ _ (by decide)) ?_
        refine wa_ild2 dX7_faultOf_16 ?_
        refine wa_iaload dX7_faultOf_17 (by first | assumption | exact hL.1 _ (by decide)) (by first | omega | (simp only [Int.toNat_natCast]; omega)) (by first | decide | omega) ?_
        simp only [Int.toNat_natCast]
        refine wa_ist3 dX7_faultOf_18 (by decide) rfl ?_
        refine wa_ild1 dX7_faultOf_19 ?_
        refine wa_if_ne 54 dX7_faultOf_20 (by decide) (by first | omega | (simp only [Int.toNat_natCast]; omega)) (fun c20 => absurd c20 (by decide)) (fun c20 => ?_)
        refine wa_ald0 dX7_faultOf_23 ?_
        refine wa_ild3 dX7_faultOf_24 ?_
        refine wa_bipush dX7_faultOf_25 (by decide) ?_
        refine wa_isub dX7_faultOf_27 ?_
        refine kX7_95 dX7_faultOf_28 rfl (by first | assumption | exact hL.1 _ (by decide)) (cm_isGarden hL hc h8 (by omega)) (by decide) (Nat.le_of_ble_eq_true rfl) ⟨Nat.le_refl _, Nat.le_refl _⟩ (zdI ?_)
        refine wa_ifne_B 46 dX7_faultOf_31 (by decide) (fun c31 => ?_) (fun c31 => ?_)
        · refine wa_iconst dX7_faultOf_46 ?_
          refine wa_goto 107 dX7_faultOf_47 (by decide) ?_
          refine wa_ist4 dX7_faultOf_107 (by decide) rfl ?_
          refine wa_ild4 dX7_faultOf_109 ?_
          refine wa_if_ne 116 dX7_faultOf_111 (by decide) (by decide) (fun c111 => ?_) (fun c111 => absurd c111 (by decide))
          refine wa_ild1 dX7_faultOf_116 ?_
          refine wa_if_ne 139 dX7_faultOf_117 (by decide) (by first | omega | (simp only [Int.toNat_natCast]; omega)) (fun c117 => absurd c117 (by decide)) (fun c117 => ?_)
          refine wa_ald0 dX7_faultOf_120 ?_
          refine wa_ild3 dX7_faultOf_121 ?_
          refine wa_bipush dX7_faultOf_122 (by decide) ?_
          refine wa_isub dX7_faultOf_124 ?_
          refine kX7_95 dX7_faultOf_125 rfl (by first | assumption | exact hL.1 _ (by decide)) (cm_isGarden hL hc h8 (by omega)) (by decide) (Nat.le_of_ble_eq_true rfl) ⟨Nat.le_refl _, Nat.le_refl _⟩ (zdI ?_)
          refine wa_ifeq_B 135 dX7_faultOf_128 (by decide) (fun c128 => ?_) (fun c128 => ?_)
          · refine wa_iconst dX7_faultOf_135 ?_
            refine wa_goto 155 dX7_faultOf_136 (by decide) ?_
            refine wa_ist1 dX7_faultOf_155 (by decide) rfl ?_
            refine wa_iinc2 dX7_faultOf_156 (by decide) rfl ?_
            refine wa_goto 4 dX7_faultOf_159 (by decide) ?_
            refine wa_drop4 (wa_drop3 ?_)
            first
              | (exfalso; omega)
              | exact q1 (by omega)
              | exact q0 (by omega)
          · refine wa_iconst dX7_faultOf_131 ?_
            refine wa_goto 155 dX7_faultOf_132 (by decide) ?_
            refine wa_ist1 dX7_faultOf_155 (by decide) rfl ?_
            refine wa_iinc2 dX7_faultOf_156 (by decide) rfl ?_
            refine wa_goto 4 dX7_faultOf_159 (by decide) ?_
            refine wa_drop4 (wa_drop3 ?_)
            first
              | (exfalso; omega)
              | exact q1 (by omega)
              | exact q0 (by omega)
        · refine wa_ild3 dX7_faultOf_34 ?_
          refine wa_bipush dX7_faultOf_35 (by decide) ?_
          refine wa_icmp_eq 46 dX7_faultOf_37 (by decide) (by first | omega | (simp only [Int.toNat_natCast]; omega)) (by first | omega | (simp only [Int.toNat_natCast]; omega)) (fun c37 => ?_) (fun c37 => ?_)
          · refine wa_iconst dX7_faultOf_46 ?_
            refine wa_goto 107 dX7_faultOf_47 (by decide) ?_
            refine wa_ist4 dX7_faultOf_107 (by decide) rfl ?_
            refine wa_ild4 dX7_faultOf_109 ?_
            refine wa_if_ne 116 dX7_faultOf_111 (by decide) (by decide) (fun c111 => ?_) (fun c111 => absurd c111 (by decide))
            refine wa_ild1 dX7_faultOf_116 ?_
            refine wa_if_ne 139 dX7_faultOf_117 (by decide) (by first | omega | (simp only [Int.toNat_natCast]; omega)) (fun c117 => absurd c117 (by decide)) (fun c117 => ?_)
            refine wa_ald0 dX7_faultOf_120 ?_
            refine wa_ild3 dX7_faultOf_121 ?_
            refine wa_bipush dX7_faultOf_122 (by decide) ?_
            refine wa_isub dX7_faultOf_124 ?_
            refine kX7_95 dX7_faultOf_125 rfl (by first | assumption | exact hL.1 _ (by decide)) (cm_isGarden hL hc h8 (by omega)) (by decide) (Nat.le_of_ble_eq_true rfl) ⟨Nat.le_refl _, Nat.le_refl _⟩ (zdI ?_)
            refine wa_ifeq_B 135 dX7_faultOf_128 (by decide) (fun c128 => ?_) (fun c128 => ?_)
            · refine wa_iconst dX7_faultOf_135 ?_
              refine wa_goto 155 dX7_faultOf_136 (by decide) ?_
              refine wa_ist1 dX7_faultOf_155 (by decide) rfl ?_
              refine wa_iinc2 dX7_faultOf_156 (by decide) rfl ?_
              refine wa_goto 4 dX7_faultOf_159 (by decide) ?_
              refine wa_drop4 (wa_drop3 ?_)
              first
                | (exfalso; omega)
                | exact q1 (by omega)
                | exact q0 (by omega)
            · refine wa_iconst dX7_faultOf_131 ?_
              refine wa_goto 155 dX7_faultOf_132 (by decide) ?_
              refine wa_ist1 dX7_faultOf_155 (by decide) rfl ?_
              refine wa_iinc2 dX7_faultOf_156 (by decide) rfl ?_
              refine wa_goto 4 dX7_faultOf_159 (by decide) ?_
              refine wa_drop4 (wa_drop3 ?_)
              first
                | (exfalso; omega)
                | exact q1 (by omega)
                | exact q0 (by omega)
          · refine wa_ild3 dX7_faultOf_40 ?_
            refine wa_bipush dX7_faultOf_41 (by decide) ?_
            refine wa_icmp_ne 50 dX7_faultOf_43 (by decide) (by first | omega | (simp only [Int.toNat_natCast]; omega)) (by first | omega | (simp only [Int.toNat_natCast]; omega)) (fun c43 => ?_) (fun c43 => ?_)
            · refine wa_iconst dX7_faultOf_50 ?_
              refine wa_goto 107 dX7_faultOf_51 (by decide) ?_
              refine wa_ist4 dX7_faultOf_107 (by decide) rfl ?_
              refine wa_ild4 dX7_faultOf_109 ?_
              refine wa_if_ne 116 dX7_faultOf_111 (by decide) (by decide) (fun c111 => absurd c111 (by decide)) (fun c111 => ?_)
              refine wa_ild2 dX7_faultOf_114 ?_
              refine wa_ireturn dX7_faultOf_115 rfl rfl (Nat.le_refl _) ?_
              refine ⟨?_, rfl, rfl, rfl⟩
              rw [if_neg (by omega), if_pos (by omega)] at hpr
              rw [hpr]
            · refine wa_iconst dX7_faultOf_46 ?_
              refine wa_goto 107 dX7_faultOf_47 (by decide) ?_
              refine wa_ist4 dX7_faultOf_107 (by decide) rfl ?_
              refine wa_ild4 dX7_faultOf_109 ?_
              refine wa_if_ne 116 dX7_faultOf_111 (by decide) (by decide) (fun c111 => ?_) (fun c111 => absurd c111 (by decide))
              refine wa_ild1 dX7_faultOf_116 ?_
              refine wa_if_ne 139 dX7_faultOf_117 (by decide) (by first | omega | (simp only [Int.toNat_natCast]; omega)) (fun c117 => absurd c117 (by decide)) (fun c117 => ?_)
              refine wa_ald0 dX7_faultOf_120 ?_
              refine wa_ild3 dX7_faultOf_121 ?_
              refine wa_bipush dX7_faultOf_122 (by decide) ?_
              refine wa_isub dX7_faultOf_124 ?_
              refine kX7_95 dX7_faultOf_125 rfl (by first | assumption | exact hL.1 _ (by decide)) (cm_isGarden hL hc h8 (by omega)) (by decide) (Nat.le_of_ble_eq_true rfl) ⟨Nat.le_refl _, Nat.le_refl _⟩ (zdI ?_)
              refine wa_ifeq_B 135 dX7_faultOf_128 (by decide) (fun c128 => ?_) (fun c128 => ?_)
              · refine wa_iconst dX7_faultOf_135 ?_
                refine wa_goto 155 dX7_faultOf_136 (by decide) ?_
                refine wa_ist1 dX7_faultOf_155 (by decide) rfl ?_
                refine wa_iinc2 dX7_faultOf_156 (by decide) rfl ?_
                refine wa_goto 4 dX7_faultOf_159 (by decide) ?_
                refine wa_drop4 (wa_drop3 ?_)
                first
                  | (exfalso; omega)
                  | exact q1 (by omega)
                  | exact q0 (by omega)
              · refine wa_iconst dX7_faultOf_131 ?_
                refine wa_goto 155 dX7_faultOf_132 (by decide) ?_
                refine wa_ist1 dX7_faultOf_155 (by decide) rfl ?_
                refine wa_iinc2 dX7_faultOf_156 (by decide) rfl ?_
                refine wa_goto 4 dX7_faultOf_159 (by decide) ?_
                refine wa_drop4 (wa_drop3 ?_)
                first
                  | (exfalso; omega)
                  | exact q1 (by omega)
                  | exact q0 (by omega)
  refine wa_iconst dX7_faultOf_0 ?_
  refine wa_ist1 dX7_faultOf_1 (by decide) rfl ?_
  refine wa_iconst dX7_faultOf_2 ?_
  refine wa_ist2 dX7_faultOf_3 (by decide) rfl ?_
  exact loop 60 0 (by omega) (by omega) rfl
