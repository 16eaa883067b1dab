/-! the reference: build -/
theorem be_le {d l t : Int} {m k : Nat} (ht : 0 ≤ t ∧ t ≤ 10) (hm : m ≤ 12) (hl : 1 ≤ l) (hk : k ≤ m) : beF d l (d + (k : Int) * l) t m = rsF (fun j => coF t m j) (k + 1) := by
  rw [be_up ht hm, up_co ht hm (m + 1) (Nat.le_refl _), show m + 1 = (k + 1) + (m - k) by omega, rsF_add]
  have h1 : rsF (fun j => (if d + (j : Int) * l ≤ d + (k : Int) * l then 1 else 0) * coF t m j) (k + 1) = rsF (fun j => coF t m j) (k + 1) := by
    refine rsF_c _ (fun j hj => ?_)
    have h3 : (j : Int) * l ≤ (k : Int) * l := Int.mul_le_mul_of_nonneg_right (by omega) (by omega)
    rw [if_pos (by omega), Int.one_mul]
  have h2 : rsF (fun i => (if d + ((k + 1 + i : Nat) : Int) * l ≤ d + (k : Int) * l then 1 else 0) * coF t m (k + 1 + i)) (m - k) = rsF (fun _ => 0) (m - k) := by
    refine rsF_c _ (fun j hj => ?_)
    have h3 : ((k + 1 + j : Nat) : Int) * l = (k : Int) * l + ((1 + j : Nat) : Int) * l := by rw [← Int.add_mul]; congr 1; omega
    have h4 : 0 < ((1 + j : Nat) : Int) * l := Int.mul_pos (by omega) (by omega)
    rw [if_neg (by omega), Int.zero_mul]
  have h5 : ∀ q, rsF (fun _ => 0) q = 0 := by
    intro q
    induction q with
    | zero => rfl
    | succ q ih => rw [rsF, ih]; rfl
  rw [h1, h2, h5, Int.add_zero]
theorem be_all {d t : Int} {m : Nat} (ht : 0 ≤ t ∧ t ≤ 10) (hm : m ≤ 12) : beF d 0 d t m = 10 ^ m := by
  rw [be_up ht hm, up_co ht hm (m + 1) (Nat.le_refl _), ← tot_ch ht hm]
  refine rsF_c _ (fun j hj => ?_)
  rw [if_pos (by rw [Int.mul_zero]; omega), Int.one_mul]
theorem bu_big {d l t a b : Int} {m : Nat} (hl : 0 ≤ l) : ∀ (q j : Nat) (u : Int), 1000 ≤ d + (j : Int) * l → buF d l t a b m q j u = -6 := by
  intro q
  induction q with
  | zero => intro j u _; rfl
  | succ q ih =>
    intro j u h
    rw [buF]
    split
    · rw [if_neg (by omega)]
    · refine ih (j + 1) _ ?_
      rw [Int.natCast_add, Int.add_mul]; simp; omega
theorem bu_0 {d t a b : Int} {m : Nat} (hd : d ≤ 999) (ht : 0 ≤ t ∧ t ≤ 10) (hm : m ≤ 12) (hab : a ≤ b) : ∀ (q j : Nat), j + (q + 1) = m + 1 → buF d 0 t a b m (q + 1) j (rsF (fun j => coF t m j) j) = d := by
  intro q
  induction q with
  | zero =>
    intro j hj
    obtain rfl : j = m := by omega
    have h1 : rsF (fun i => coF t j i) j + chF t j j = 10 ^ j := by
      rw [ch_co ht hm (Nat.le_refl _), ← tot_ch ht hm]; rfl
    have h2 := (p10 hm).2
    rw [buF, if_pos (by rw [h1, Int.mul_comm]; exact Int.mul_le_mul_of_nonneg_left hab (by omega)), if_pos (by rw [Int.mul_zero]; omega), Int.mul_zero, Int.add_zero]
  | succ q ih =>
    intro j hj
    rw [buF]
    split
    · rw [if_pos (by rw [Int.mul_zero]; omega), Int.mul_zero, Int.add_zero]
    · rw [ch_co ht hm (by omega)]
      exact ih (j + 1) (by omega)
theorem cm_build {n c k len : Nat} {S : zH} {Rf : zG} {W V : zE} {F g t m a b : Int} (hL : Lay S Rf) (hI : CI c k len F W) (hR : RI c k len W V) (hg : -2147483648 ≤ g ∧ g ≤ 2147483647) (ht : -2147483648 ≤ t ∧ t ≤ 2147483647) (hm : -2147483648 ≤ m ∧ m ≤ 2147483647) (ha : -2147483648 ≤ a ∧ a ≤ 2147483647) (hb : -2147483648 ≤ b ∧ b ≤ 2147483647) : Ci 3 mX7_build [zR 37, zI g, zI t, zI m, zI a, zI b] n S Rf V (buX c g t m a b W) V := by
  obtain ⟨hc, h2, h8, hd, hf, hu, hu3, hs, hflk, hF, hfa, hk, hk8, hsg, hsd, hl, h60, hpp, hsc⟩ := hI
  obtain ⟨r0, r38, r39, r40, r41, r3, r4, r7, r8, r9, r10, r11, r42, r13, r43⟩ := hR
  have hdg := hd g.toNat
  have hu1 := hu 1
  refine ct_of (by decide) rfl (Nat.le_of_ble_eq_true rfl) ?_
  unfold buX
  have rest : ∀ (M : Nat), m = (M : Int) → M ≤ 12 → (0 ≤ g ∧ g < (c : Int)) → (0 ≤ t ∧ t ≤ 10) → (1 ≤ b ∧ b ≤ 100) → (0 ≤ a ∧ a ≤ b) → Wa zXn mX7_build (zrm 3 0 0) (zZm (qI (buF (W 2 g.toNat) (W 4 1) t a b M (M + 1) 0 0) S Rf V) (n + 0) 0 0) 0 0 n S 65 [some (zR 37), some (zI g), some (zI t), some (zI m), some (zI a), some (zI b), some (zI 0), none] [] Rf V := by
    intro M hM hM12 hgc ht1 hb1 ha1
    subst hM
    have h10 := p10 hM12
    generalize hX : buF (W 2 g.toNat) (W 4 1) t a b M (M + 1) 0 0 = X
    generalize hdd : W 2 g.toNat = d at hdg hX
    generalize hll : W 4 1 = l at hu1 hX
    have loop : ∀ (q i : Nat) (o : Option zV), i + q = M + 1 → (X = buF d l t a b M q i (rsF (fun j => coF t M j) i) ∨ (X = -6 ∧ 1000 ≤ d + (i : Int) * l)) → Wa zXn mX7_build (zrm 3 0 0) (zZm (qI X S Rf V) (n + 0) 0 0) 0 0 n S 65 [some (zR 37), some (zI g), some (zI t), some (zI (M : Int)), some (zI a), some (zI b), some (zI (i : Int)), o] [] Rf V := by
      intro q
      induction q with
      | zero =>
        intro i o hi hx
        have hx6 : X = -6 := by
          rcases hx with h | h
          · rw [h]; rfl
          · exact h.1
        refine wa_ild6 dX7_build_65 ?_
        refine wa_ild3 dX7_build_67 ?_
        refine wa_icmp_gt 129 dX7_build_68 (by decide) (by omega) (by omega) (fun c68 => ?_) (fun c68 => ?_)
        · refine wa_bipush dX7_build_129 (by decide) ?_
          exact wa_ireturn dX7_build_131 rfl rfl (Nat.le_refl _) (by exact ⟨by rw [hx6], rfl, rfl, rfl⟩)
        · exact absurd c68 (by omega)
      | succ q ih =>
        intro i o hi hx
        have hmb : 0 ≤ (i : Int) * l ∧ (i : Int) * l ≤ 108 := ⟨Int.mul_nonneg (by omega) hu1.1, by
          have := Int.mul_le_mul (show (i : Int) ≤ 12 by omega) hu1.2 hu1.1 (by decide : (0 : Int) ≤ 12); omega⟩
        have hbe : 0 ≤ beF d l (d + (i : Int) * l) t M ∧ beF d l (d + (i : Int) * l) t M ≤ 924000000000000 * ((M + 1 : Nat) : Int) := by
          rw [be_up ht1 hM12]; exact upF_b ht1 hM12 (M + 1) (Nat.le_refl _)
        have hst : ((i + 1 : Nat) : Int) * l = (i : Int) * l + l := by rw [Int.natCast_add, Int.add_mul]; simp
        generalize hB : beF d l (d + (i : Int) * l) t M = B at hbe
        have hP : 0 ≤ B * b ∧ B * b ≤ 2000000000000000000 := ⟨Int.mul_nonneg hbe.1 (by omega), by
          have := Int.mul_le_mul (show B ≤ 12012000000000000 by omega) hb1.2 (by omega) (by decide : (0 : Int) ≤ 12012000000000000); omega⟩
        have hQ : 0 ≤ (10 : Int) ^ M * a ∧ (10 : Int) ^ M * a ≤ 100000000000000 := ⟨Int.mul_nonneg (by omega) ha1.1, by
          have := Int.mul_le_mul h10.1 (show a ≤ 100 by omega) ha1.1 (by decide : (0 : Int) ≤ 1000000000000); omega⟩
        have hcm : -2147483648 ≤ zcmp (B * b) (10 ^ M * a) ∧ zcmp (B * b) (10 ^ M * a) ≤ 2147483647 := by unfold zcmp; (repeat' split) <;> decide
        have hcz : zcmp (B * b) (10 ^ M * a) < 0 ↔ B * b < 10 ^ M * a := by unfold zcmp; (repeat' split) <;> omega
        refine wa_ild6 dX7_build_65 ?_
        refine wa_ild3 dX7_build_67 ?_
        refine wa_icmp_gt 129 dX7_build_68 (by decide) (by first | omega | (simp only [r38, r8, hdd, hll]; omega) | exact hcm) (by first | omega | (simp only [r38, r8, hdd, hll]; omega) | exact hcm) (fun c68 => ?_) (fun c68 => ?_)
        · exact absurd c68 (by omega)
        · refine wa_ald0 dX7_build_71 ?_
          refine gX7_13 dX7_build_72 rfl (by first | assumption | exact hL.1 _ (by decide)) (by first | assumption | exact hL.2 _ _ (by decide)) ?_
          refine wa_ild1 dX7_build_75 ?_
          refine wa_iaload dX7_build_76 (by first | assumption | exact hL.1 _ (by decide)) (by first | omega | (simp only [r38, r8, hdd, hll]; omega) | exact hcm) (by first | decide | omega) ?_
          refine wa_ild6 dX7_build_77 ?_
          refine wa_ald0 dX7_build_79 ?_
          refine gX7_29 dX7_build_80 rfl (by first | assumption | exact hL.1 _ (by decide)) ?_
          refine wa_imul dX7_build_83 ?_
          refine wa_iadd dX7_build_84 ?_
          simp only [r38, r8, hdd, hll]
          refine wa_ist7 dX7_build_85 (by decide) rfl ?_
          refine wa_ild7 dX7_build_87 ?_
          refine wa_sipush dX7_build_89 (by decide) ?_
          refine wa_icmp_ge 123 dX7_build_92 (by decide) (by first | omega | (simp only [r38, r8, hdd, hll]; omega) | exact hcm) (by first | omega | (simp only [r38, r8, hdd, hll]; omega) | exact hcm) (fun c92 => ?_) (fun c92 => ?_)
          · refine wa_iinc6 dX7_build_123 (by decide) rfl ?_
            refine wa_goto 65 dX7_build_126 (by decide) ?_
            refine ih (i + 1) _ (by omega) ?_
            rw [hst]
            first
              | (rw [hcz] at c117
                 rcases hx with h | h
                 · by_cases hl0 : l = 0
                   · exfalso
                     subst hl0
                     rw [Int.mul_zero, Int.add_zero, be_all ht1 hM12] at hB
                     have h9 := Int.mul_le_mul_of_nonneg_left ha1.2 (show 0 ≤ (10 : Int) ^ M by omega)
                     rw [← hB] at c117
                     omega
                   · left
                     rw [be_le ht1 hM12 (by omega) (by omega)] at hB
                     have h7 : rsF (fun j => coF t M j) i + chF t M i = B := by rw [ch_co ht1 hM12 (by omega), ← hB]; rfl
                     rw [h, buF, h7, if_neg (by rw [Int.mul_comm a]; omega), ← hB]
                 · exact Or.inr ⟨h.1, by omega⟩)
              | (right
                 refine ⟨?_, by omega⟩
                 rcases hx with h | h
                 · rw [h]; exact bu_big hu1.1 _ _ _ (by omega)
                 · exact h.1)
          · refine wa_ald0 dX7_build_95 ?_
            refine wa_ild1 dX7_build_96 ?_
            refine wa_ild2 dX7_build_97 ?_
            refine wa_ild3 dX7_build_98 ?_
            refine wa_ild7 dX7_build_99 ?_
            refine kX7_222 dX7_build_101 rfl (by first | assumption | exact hL.1 _ (by decide)) (cm_bearing (l := l) hL (r8.trans hll) hu1 (by omega) (by rw [r38, hdd]; exact hdg) ht1 hM12 (by omega)) (by decide) (Nat.le_of_ble_eq_true rfl) ⟨Nat.le_refl _, Nat.le_refl _⟩ (zdL ?_)
            rw [r38, hdd, hB]
            refine wa_ild5 dX7_build_104 ?_
            refine wa_i2l dX7_build_106 (by first | omega | (simp only [r38, r8, hdd, hll]; omega) | exact hcm) ?_
            refine wa_lmul dX7_build_107 ?_
            refine wa_ild3 dX7_build_108 ?_
            refine kX7_226 dX7_build_109 rfl (cm_tens hM12) (by decide) (Nat.le_of_ble_eq_true rfl) ⟨Nat.le_refl _, Nat.le_refl _⟩ (zdL ?_)
            refine wa_ild4 dX7_build_112 ?_
            refine wa_i2l dX7_build_114 (by first | omega | (simp only [r38, r8, hdd, hll]; omega) | exact hcm) ?_
            refine wa_lmul dX7_build_115 ?_
            refine wa_lcmp dX7_build_116 (by first | omega | (simp only [r38, r8, hdd, hll]; omega) | exact hcm) (by first | omega | (simp only [r38, r8, hdd, hll]; omega) | exact hcm) ?_
            refine wa_if_lt 123 dX7_build_117 (by decide) (by first | omega | (simp only [r38, r8, hdd, hll]; omega) | exact hcm) (fun c117 => ?_) (fun c117 => ?_)
            · refine wa_iinc6 dX7_build_123 (by decide) rfl ?_
              refine wa_goto 65 dX7_build_126 (by decide) ?_
              refine ih (i + 1) _ (by omega) ?_
              rw [hst]
              first
                | (rw [hcz] at c117
                   rcases hx with h | h
                   · by_cases hl0 : l = 0
                     · exfalso
                       subst hl0
                       rw [Int.mul_zero, Int.add_zero, be_all ht1 hM12] at hB
                       have h9 := Int.mul_le_mul_of_nonneg_left ha1.2 (show 0 ≤ (10 : Int) ^ M by omega)
                       rw [← hB] at c117
                       omega
                     · left
                       rw [be_le ht1 hM12 (by omega) (by omega)] at hB
                       have h7 : rsF (fun j => coF t M j) i + chF t M i = B := by rw [ch_co ht1 hM12 (by omega), ← hB]; rfl
                       rw [h, buF, h7, if_neg (by rw [Int.mul_comm a]; omega), ← hB]
                   · exact Or.inr ⟨h.1, by omega⟩)
                | (right
                   refine ⟨?_, by omega⟩
                   rcases hx with h | h
                   · rw [h]; exact bu_big hu1.1 _ _ _ (by omega)
                   · exact h.1)
            · refine wa_ild7 dX7_build_120 ?_
              refine wa_ireturn dX7_build_122 rfl rfl (Nat.le_refl _) ?_
              have c117b : ¬ B * b < 10 ^ M * a := fun h => by have := hcz.mpr h; omega
              refine ⟨?_, rfl, rfl, rfl⟩
              rcases hx with h | h
              · by_cases hl0 : l = 0
                · subst hl0
                  rw [h, bu_0 (by omega) ht1 hM12 ha1.2 q i (by omega)]; simp
                · rw [be_le ht1 hM12 (by omega) (by omega)] at hB
                  have h7 : rsF (fun j => coF t M j) i + chF t M i = B := by rw [ch_co ht1 hM12 (by omega), ← hB]; rfl
                  rw [h, buF, h7, if_pos (by rw [Int.mul_comm a]; omega), if_pos (by omega)]
              · exfalso; omega
    exact loop (M + 1) 0 _ (by omega) (Or.inl hX.symm)
  by_cases hm0 : 0 ≤ m
  · obtain ⟨M, rfl⟩ : ∃ M : Nat, m = M := ⟨m.toNat, by omega⟩
    rw [Int.toNat_natCast]
    refine wa_ald0 dX7_build_0 ?_
    refine wa_ild1 dX7_build_1 ?_
    refine kX7_95 dX7_build_2 rfl (by first | assumption | exact hL.1 _ (by decide)) (cm_isGarden hL r0 h8 hg) (by decide) (Nat.le_of_ble_eq_true rfl) ⟨Nat.le_refl _, Nat.le_refl _⟩ (zdI ?_)
    refine wa_ifne_B 10 dX7_build_5 (by decide) (fun c5 => ?_) (fun c5 => ?_)
    · refine wa_ild2 dX7_build_10 ?_
      refine wa_iconst dX7_build_11 ?_
      refine wa_bipush dX7_build_12 (by decide) ?_
      refine kX7_91 dX7_build_14 rfl (cm_in ht (by decide) (by decide)) (by decide) (Nat.le_of_ble_eq_true rfl) ⟨Nat.le_refl _, Nat.le_refl _⟩ (zdI ?_)
      refine wa_ifeq_B 52 dX7_build_17 (by decide) (fun c17 => ?_) (fun c17 => ?_)
      · refine wa_bipush dX7_build_52 (by decide) ?_
        exact wa_ireturn dX7_build_54 rfl rfl (Nat.le_refl _) (by exact ⟨by rw [if_neg (fun q => q c5), if_pos (by omega)], rfl, rfl, rfl⟩)
      · refine wa_ild3 dX7_build_20 ?_
        refine wa_iconst dX7_build_21 ?_
        refine wa_bipush dX7_build_22 (by decide) ?_
        refine kX7_91 dX7_build_24 rfl (cm_in hm (by decide) (by decide)) (by decide) (Nat.le_of_ble_eq_true rfl) ⟨Nat.le_refl _, Nat.le_refl _⟩ (zdI ?_)
        refine wa_ifeq_B 52 dX7_build_27 (by decide) (fun c27 => ?_) (fun c27 => ?_)
        · refine wa_bipush dX7_build_52 (by decide) ?_
          exact wa_ireturn dX7_build_54 rfl rfl (Nat.le_refl _) (by exact ⟨by rw [if_neg (fun q => q c5), if_pos (by omega)], rfl, rfl, rfl⟩)
        · refine wa_ild5 dX7_build_30 ?_
          refine wa_iconst dX7_build_32 ?_
          refine wa_bipush dX7_build_33 (by decide) ?_
          refine kX7_91 dX7_build_35 rfl (cm_in hb (by decide) (by decide)) (by decide) (Nat.le_of_ble_eq_true rfl) ⟨Nat.le_refl _, Nat.le_refl _⟩ (zdI ?_)
          refine wa_ifeq_B 52 dX7_build_38 (by decide) (fun c38 => ?_) (fun c38 => ?_)
          · refine wa_bipush dX7_build_52 (by decide) ?_
            exact wa_ireturn dX7_build_54 rfl rfl (Nat.le_refl _) (by exact ⟨by rw [if_neg (fun q => q c5), if_pos (by omega)], rfl, rfl, rfl⟩)
          · refine wa_ild4 dX7_build_41 ?_
            refine wa_iconst dX7_build_43 ?_
            refine wa_ild5 dX7_build_44 ?_
            refine kX7_91 dX7_build_46 rfl (cm_in ha (by decide) hb) (by decide) (Nat.le_of_ble_eq_true rfl) ⟨Nat.le_refl _, Nat.le_refl _⟩ (zdI ?_)
            refine wa_ifne_B 55 dX7_build_49 (by decide) (fun c49 => ?_) (fun c49 => ?_)
            · refine wa_ild4 dX7_build_55 ?_
              refine wa_if_ne 62 dX7_build_57 (by decide) (by omega) (fun c57 => ?_) (fun c57 => ?_)
              · refine wa_iconst dX7_build_62 ?_
                refine wa_ist6 dX7_build_63 (by decide) rfl ?_
                rw [if_neg (fun q => q c5), if_neg (by omega), if_neg c57]
                exact rest M rfl (by omega) c5 c17 c38 c49
              · refine wa_iconst dX7_build_60 ?_
                exact wa_ireturn dX7_build_61 rfl rfl (Nat.le_refl _) (by exact ⟨by rw [if_neg (fun q => q c5), if_neg (by omega), if_pos c57], rfl, rfl, rfl⟩)
            · refine wa_bipush dX7_build_52 (by decide) ?_
              exact wa_ireturn dX7_build_54 rfl rfl (Nat.le_refl _) (by exact ⟨by rw [if_neg (fun q => q c5), if_pos (by omega)], rfl, rfl, rfl⟩)
    · refine wa_iconst dX7_build_8 ?_
      exact wa_ireturn dX7_build_9 rfl rfl (Nat.le_refl _) (by exact ⟨by rw [if_pos c5], rfl, rfl, rfl⟩)
  · refine wa_ald0 dX7_build_0 ?_
    refine wa_ild1 dX7_build_1 ?_
    refine kX7_95 dX7_build_2 rfl (by first | assumption | exact hL.1 _ (by decide)) (cm_isGarden hL r0 h8 hg) (by decide) (Nat.le_of_ble_eq_true rfl) ⟨Nat.le_refl _, Nat.le_refl _⟩ (zdI ?_)
    refine wa_ifne_B 10 dX7_build_5 (by decide) (fun c5 => ?_) (fun c5 => ?_)
    · refine wa_ild2 dX7_build_10 ?_
      refine wa_iconst dX7_build_11 ?_
      refine wa_bipush dX7_build_12 (by decide) ?_
      refine kX7_91 dX7_build_14 rfl (cm_in ht (by decide) (by decide)) (by decide) (Nat.le_of_ble_eq_true rfl) ⟨Nat.le_refl _, Nat.le_refl _⟩ (zdI ?_)
      refine wa_ifeq_B 52 dX7_build_17 (by decide) (fun c17 => ?_) (fun c17 => ?_)
      · refine wa_bipush dX7_build_52 (by decide) ?_
        exact wa_ireturn dX7_build_54 rfl rfl (Nat.le_refl _) (by exact ⟨by rw [if_neg (fun q => q c5), if_pos (by omega)], rfl, rfl, rfl⟩)
      · refine wa_ild3 dX7_build_20 ?_
        refine wa_iconst dX7_build_21 ?_
        refine wa_bipush dX7_build_22 (by decide) ?_
        refine kX7_91 dX7_build_24 rfl (cm_in hm (by decide) (by decide)) (by decide) (Nat.le_of_ble_eq_true rfl) ⟨Nat.le_refl _, Nat.le_refl _⟩ (zdI ?_)
        refine wa_ifeq_B 52 dX7_build_27 (by decide) (fun c27 => ?_) (fun c27 => absurd c27 (by omega))
        refine wa_bipush dX7_build_52 (by decide) ?_
        exact wa_ireturn dX7_build_54 rfl rfl (Nat.le_refl _) (by exact ⟨by rw [if_neg (fun q => q c5), if_pos (by omega)], rfl, rfl, rfl⟩)
    · refine wa_iconst dX7_build_8 ?_
      exact wa_ireturn dX7_build_9 rfl rfl (Nat.le_refl _) (by exact ⟨by rw [if_pos c5], rfl, rfl, rfl⟩)
