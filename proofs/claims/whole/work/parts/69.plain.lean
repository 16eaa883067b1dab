/-! the reference: isPlain, unsaid -/
def plY (c len : Nat) (W : zE) : Prop := (wdF c len W).2 = -6 ∧ onlyB (wdF c len W).1
theorem cm_isPlain {n c k len : Nat} {S : zH} {Rf : zG} {W V : zE} {F : Int} (hL : Lay S Rf) (hI : CI c k len F W) (hR : RI c k len W V) : Cpi 4 mX7_isPlain [zR 37] n S Rf V (fun x V' => V' = V ∧ (x = 1 ∧ plY c len W ∨ x = 0 ∧ ¬ plY c len W)) := by
  have hI0 := hI
  have hR0 := hR
  obtain ⟨hc, h2, h8, hd, hf, hu, hu3, hs, hflk, hF, hfa, hk, hk8, hsg, hsd, hl, h60, hp, hsc⟩ := hI
  obtain ⟨r0, r38, r39, r40, r41, r3, r4, r7, r8, r9, r10, r11, r42, r13, r43⟩ := hR
  have hq := wd_sg (c := c) (W := W) h60
  refine ct_of (by decide) rfl (Nat.le_of_ble_eq_true rfl) ?_
  have no : ¬ plY c len W → ∀ (k1 : Int), (0 ≤ k1 ∧ k1 ≤ 100) → Wa zXn mX7_isPlain (zrm 4 0 0) (zZm (qPI S Rf (fun x V' => V' = V ∧ (x = 1 ∧ plY c len W ∨ x = 0 ∧ ¬ plY c len W))) (n + 0) 0 0) 0 0 n S 24 [some (zR 37), some (zI 0), some (zI k1)] [] Rf V := by
    intro hn k1 hk1
    refine wa_ild2 dX7_isPlain_24 ?_
    refine wa_ald0 dX7_isPlain_25 ?_
    refine gX7_99 dX7_isPlain_26 rfl (by first | assumption | exact hL.1 _ (by decide)) ?_
    refine wa_icmp_ge 126 dX7_isPlain_29 (by decide) (by omega) (by omega) (fun c29 => ?_) (fun c29 => ?_)
    · refine wa_ild1 dX7_isPlain_126 ?_
      exact wa_breturn dX7_isPlain_127 rfl rfl (Nat.le_refl _) (by first | exact Or.inl rfl | exact Or.inr rfl | (split <;> simp)) (by exact ⟨_, rfl, rfl, rfl, rfl, Or.inr ⟨rfl, hn⟩⟩)
    · refine wa_ild1 dX7_isPlain_32 ?_
      refine wa_if_eq 126 dX7_isPlain_33 (by decide) (by omega) (fun c33 => ?_) (fun c33 => absurd c33 (by decide))
      refine wa_ild1 dX7_isPlain_126 ?_
      exact wa_breturn dX7_isPlain_127 rfl rfl (Nat.le_refl _) (by first | exact Or.inl rfl | exact Or.inr rfl | (split <;> simp)) (by exact ⟨_, rfl, rfl, rfl, rfl, Or.inr ⟨rfl, hn⟩⟩)
  have loop : ∀ (f a : Nat) (us : List (Int × Int × Int)), a ≤ len → len ≤ a + f → (len - a) % 3 = 0 → (wdF c len W).2 = -6 → prs c (sgF (W 19) len) len f a = (us, -6) → (plY c len W ↔ onlyB us) → Wa zXn mX7_isPlain (zrm 4 0 0) (zZm (qPI S Rf (fun x V' => V' = V ∧ (x = 1 ∧ plY c len W ∨ x = 0 ∧ ¬ plY c len W))) (n + 0) 0 0) 0 0 n S 24 [some (zR 37), some (zI 1), some (zI (a : Int))] [] Rf V := by
    intro f
    induction f with
    | zero =>
      intro a us h1 h2' h3 h6 hpr hiff
      rw [prs] at hpr
      obtain rfl : [] = us := (Prod.mk.inj hpr).1
      have hy := hiff.mpr (fun q hq => by simp at hq)
      refine wa_ild2 dX7_isPlain_24 ?_
      refine wa_ald0 dX7_isPlain_25 ?_
      refine gX7_99 dX7_isPlain_26 rfl (by first | assumption | exact hL.1 _ (by decide)) ?_
      refine wa_icmp_ge 126 dX7_isPlain_29 (by decide) (by omega) (by omega) (fun c29 => ?_) (fun c29 => ?_)
      · refine wa_ild1 dX7_isPlain_126 ?_
        exact wa_breturn dX7_isPlain_127 rfl rfl (Nat.le_refl _) (by first | exact Or.inl rfl | exact Or.inr rfl | (split <;> simp)) (by exact ⟨_, rfl, rfl, rfl, rfl, Or.inl ⟨rfl, hy⟩⟩)
      · exact absurd c29 (by omega)
    | succ f ih =>
      intro a us h1 h2' h3 h6 hpr hiff
      by_cases hal : len ≤ a
      · rw [prs_out hal] at hpr
        obtain rfl : [] = us := (Prod.mk.inj hpr).1
        have hy := hiff.mpr (fun q hq => by simp at hq)
        refine wa_ild2 dX7_isPlain_24 ?_
        refine wa_ald0 dX7_isPlain_25 ?_
        refine gX7_99 dX7_isPlain_26 rfl (by first | assumption | exact hL.1 _ (by decide)) ?_
        refine wa_icmp_ge 126 dX7_isPlain_29 (by decide) (by omega) (by omega) (fun c29 => ?_) (fun c29 => ?_)
        · refine wa_ild1 dX7_isPlain_126 ?_
          exact wa_breturn dX7_isPlain_127 rfl rfl (Nat.le_refl _) (by first | exact Or.inl rfl | exact Or.inr rfl | (split <;> simp)) (by exact ⟨_, rfl, rfl, rfl, rfl, Or.inl ⟨rfl, hy⟩⟩)
        · exact absurd c29 (by omega)
      have hal' : a < len := by omega
      obtain ⟨s1, s2, s3⟩ := prs_step hal' (by rw [hpr])
      have hcs := pw_cases (by omega) s1
      have hsa := sgF_in (p := W 19) hal'
      rw [hpr] at s2
      dsimp only at s2
      subst s2
      rcases hpw : pwF c (sgF (W 19) len) (a : Int) with ⟨p1, kd, g, w⟩
      rw [hpw] at s1 s3 hcs hiff
      dsimp only at s1 s3 hiff
      rw [hsa] at hcs
      have hp0 := hp a
      have hp1 := hp (a + 1)
      have hp2 := hp (a + 2)
      have e1 : ((a : Int) + 1).toNat = a + 1 := by omega
      have e2 : ((a : Int) + 2).toNat = a + 2 := by omega
      have es1 : sgF (W 19) len ((a : Int) + 1) = W 19 (a + 1) := by rw [sgF, if_pos (by omega), e1]
      have es2 : sgF (W 19) len ((a : Int) + 2) = W 19 (a + 2) := by rw [sgF, if_pos (by omega), e2]
      rw [es1, es2] at hcs
      have bad : (¬ (kd ≤ 1 ∧ g ≠ w)) → ¬ plY c len W := fun h1 h2 => h1 (hiff.mp h2 _ List.mem_cons_self)
      rcases hcs with ⟨hb, hq⟩ | ⟨hb, hq⟩ | ⟨hb, hb1, hb2, hb3, hq⟩ | ⟨hb, hb1, hb2, hb3, hb4, hb5, hq⟩
      · obtain ⟨rfl, rfl, rfl, rfl⟩ : p1 = 1 ∧ kd = 4 ∧ g = 0 ∧ w = 0 := by simpa using hq
        have hn := bad (by omega)
        refine wa_ild2 dX7_isPlain_24 ?_
        refine wa_ald0 dX7_isPlain_25 ?_
        refine gX7_99 dX7_isPlain_26 rfl (by first | assumption | exact hL.1 _ (by decide)) ?_
        refine wa_icmp_ge 126 dX7_isPlain_29 (by decide) (by omega) (by omega) (fun c29 => ?_) (fun c29 => ?_)
        · exact absurd c29 (by omega)
        · refine wa_ild1 dX7_isPlain_32 ?_
          refine wa_if_eq 126 dX7_isPlain_33 (by decide) (by omega) (fun c33 => absurd c33 (by decide)) (fun c33 => ?_)
          refine wa_ald0 dX7_isPlain_36 ?_
          refine wa_ald0 dX7_isPlain_37 ?_
          refine gX7_41 dX7_isPlain_38 rfl (by first | assumption | exact hL.1 _ (by decide)) (by first | assumption | exact hL.2 _ _ (by decide)) ?_
          refine wa_ild2 dX7_isPlain_41 ?_
          refine wa_iaload dX7_isPlain_42 (by first | assumption | exact hL.1 _ (by decide)) (by omega) (by first | decide | omega) ?_
          refine wa_bipush dX7_isPlain_43 (by decide) ?_
          refine wa_isub dX7_isPlain_45 ?_
          simp only [Int.toNat_natCast, r43]
          refine kX7_95 dX7_isPlain_46 rfl (by first | assumption | exact hL.1 _ (by decide)) (cm_isGarden hL r0 h8 (by omega)) (by decide) (Nat.le_of_ble_eq_true rfl) ⟨Nat.le_refl _, Nat.le_refl _⟩ (zdI ?_)
          refine wa_ifeq_B 118 dX7_isPlain_49 (by decide) (fun c49 => ?_) (fun c49 => ?_)
          · refine wa_iconst dX7_isPlain_118 ?_
            refine wa_ist1 dX7_isPlain_119 (by decide) rfl ?_
            refine wa_iinc2 dX7_isPlain_120 (by decide) rfl ?_
            refine wa_goto 24 dX7_isPlain_123 (by decide) ?_
            exact no hn _ (by omega)
          · exact absurd c49 (by omega)
      · obtain ⟨rfl, rfl, rfl, rfl⟩ : p1 = 1 ∧ kd = 5 ∧ g = 0 ∧ w = 0 := by simpa using hq
        have hn := bad (by omega)
        refine wa_ild2 dX7_isPlain_24 ?_
        refine wa_ald0 dX7_isPlain_25 ?_
        refine gX7_99 dX7_isPlain_26 rfl (by first | assumption | exact hL.1 _ (by decide)) ?_
        refine wa_icmp_ge 126 dX7_isPlain_29 (by decide) (by omega) (by omega) (fun c29 => ?_) (fun c29 => ?_)
        · exact absurd c29 (by omega)
        · refine wa_ild1 dX7_isPlain_32 ?_
          refine wa_if_eq 126 dX7_isPlain_33 (by decide) (by omega) (fun c33 => absurd c33 (by decide)) (fun c33 => ?_)
          refine wa_ald0 dX7_isPlain_36 ?_
          refine wa_ald0 dX7_isPlain_37 ?_
          refine gX7_41 dX7_isPlain_38 rfl (by first | assumption | exact hL.1 _ (by decide)) (by first | assumption | exact hL.2 _ _ (by decide)) ?_
          refine wa_ild2 dX7_isPlain_41 ?_
          refine wa_iaload dX7_isPlain_42 (by first | assumption | exact hL.1 _ (by decide)) (by omega) (by first | decide | omega) ?_
          refine wa_bipush dX7_isPlain_43 (by decide) ?_
          refine wa_isub dX7_isPlain_45 ?_
          simp only [Int.toNat_natCast, r43]
          refine kX7_95 dX7_isPlain_46 rfl (by first | assumption | exact hL.1 _ (by decide)) (cm_isGarden hL r0 h8 (by omega)) (by decide) (Nat.le_of_ble_eq_true rfl) ⟨Nat.le_refl _, Nat.le_refl _⟩ (zdI ?_)
          refine wa_ifeq_B 118 dX7_isPlain_49 (by decide) (fun c49 => ?_) (fun c49 => ?_)
          · refine wa_iconst dX7_isPlain_118 ?_
            refine wa_ist1 dX7_isPlain_119 (by decide) rfl ?_
            refine wa_iinc2 dX7_isPlain_120 (by decide) rfl ?_
            refine wa_goto 24 dX7_isPlain_123 (by decide) ?_
            exact no hn _ (by omega)
          · exact absurd c49 (by omega)
      · obtain ⟨rfl, rfl, -, -⟩ : p1 = 2 ∧ kd = 3 ∧ g = W 19 a - 97 ∧ w = 0 := by simpa using hq
        have hn := bad (by omega)
        refine wa_ild2 dX7_isPlain_24 ?_
        refine wa_ald0 dX7_isPlain_25 ?_
        refine gX7_99 dX7_isPlain_26 rfl (by first | assumption | exact hL.1 _ (by decide)) ?_
        refine wa_icmp_ge 126 dX7_isPlain_29 (by decide) (by first | omega | (simp only [e1, r43]; omega)) (by first | omega | (simp only [e1, r43]; omega)) (fun c29 => ?_) (fun c29 => ?_)
        · exact absurd c29 (by omega)
        · refine wa_ild1 dX7_isPlain_32 ?_
          refine wa_if_eq 126 dX7_isPlain_33 (by decide) (by first | omega | (simp only [e1, r43]; omega)) (fun c33 => absurd c33 (by decide)) (fun c33 => ?_)
          refine wa_ald0 dX7_isPlain_36 ?_
          refine wa_ald0 dX7_isPlain_37 ?_
          refine gX7_41 dX7_isPlain_38 rfl (by first | assumption | exact hL.1 _ (by decide)) (by first | assumption | exact hL.2 _ _ (by decide)) ?_
          refine wa_ild2 dX7_isPlain_41 ?_
          refine wa_iaload dX7_isPlain_42 (by first | assumption | exact hL.1 _ (by decide)) (by first | omega | (simp only [e1, r43]; omega)) (by first | decide | omega) ?_
          refine wa_bipush dX7_isPlain_43 (by decide) ?_
          refine wa_isub dX7_isPlain_45 ?_
          simp only [Int.toNat_natCast, r43]
          refine kX7_95 dX7_isPlain_46 rfl (by first | assumption | exact hL.1 _ (by decide)) (cm_isGarden hL r0 h8 (by omega)) (by decide) (Nat.le_of_ble_eq_true rfl) ⟨Nat.le_refl _, Nat.le_refl _⟩ (zdI ?_)
          refine wa_ifeq_B 118 dX7_isPlain_49 (by decide) (fun c49 => ?_) (fun c49 => ?_)
          · exact absurd hb c49
          · refine wa_ald0 dX7_isPlain_52 ?_
            refine gX7_41 dX7_isPlain_53 rfl (by first | assumption | exact hL.1 _ (by decide)) (by first | assumption | exact hL.2 _ _ (by decide)) ?_
            refine wa_ild2 dX7_isPlain_56 ?_
            refine wa_iconst dX7_isPlain_57 ?_
            refine wa_iadd dX7_isPlain_58 ?_
            refine wa_iaload dX7_isPlain_59 (by first | assumption | exact hL.1 _ (by decide)) (by first | omega | (simp only [e1, r43]; omega)) (by first | decide | omega) ?_
            refine wa_bipush dX7_isPlain_60 (by decide) ?_
            refine wa_icmp_eq 118 dX7_isPlain_62 (by decide) (by first | omega | (simp only [e1, r43]; omega)) (by first | omega | (simp only [e1, r43]; omega)) (fun c62 => ?_) (fun c62 => absurd c62 (by simp only [e1, r43]; omega))
            refine wa_iconst dX7_isPlain_118 ?_
            refine wa_ist1 dX7_isPlain_119 (by decide) rfl ?_
            refine wa_iinc2 dX7_isPlain_120 (by decide) rfl ?_
            refine wa_goto 24 dX7_isPlain_123 (by decide) ?_
            exact no hn _ (by omega)
      · obtain ⟨rfl, rfl, rfl, rfl⟩ : p1 = 3 ∧ kd = kdF (W 19 (a + 2)) ∧ g = W 19 a - 97 ∧ w = W 19 (a + 1) - 65 := by simpa [es1, es2] using hq
        have hkh := kdF_h hb5
        rw [show ((3 : Int)).toNat = 3 from rfl] at s3 hiff
        have hus : prs c (sgF (W 19) len) len f (a + 3) = ((prs c (sgF (W 19) len) len f (a + 3)).1, -6) := by rw [← s3]
        generalize (prs c (sgF (W 19) len) len f (a + 3)).1 = us at hus hiff
        have e3 : (kdF (W 19 (a + 2)) ≤ 1 ∧ W 19 a - 97 ≠ W 19 (a + 1) - 65) → Wa zXn mX7_isPlain (zrm 4 0 0) (zZm (qPI S Rf (fun x V' => V' = V ∧ (x = 1 ∧ plY c len W ∨ x = 0 ∧ ¬ plY c len W))) (n + 0) 0 0) 0 0 n S 24 [some (zR 37), some (zI 1), some (zI ((a : Int) + 3))] [] Rf V := fun hgood =>
          ih (a + 3) us (by omega) (by omega) (by omega) h6 hus ⟨fun h q hq => hiff.mp h q (List.mem_cons_of_mem _ hq), fun h => hiff.mpr (fun q hq => by
            rcases List.mem_cons.mp hq with rfl | hq
            · exact hgood
            · exact h q hq)⟩
        refine wa_ild2 dX7_isPlain_24 ?_
        refine wa_ald0 dX7_isPlain_25 ?_
        refine gX7_99 dX7_isPlain_26 rfl (by first | assumption | exact hL.1 _ (by decide)) ?_
        refine wa_icmp_ge 126 dX7_isPlain_29 (by decide) (by first | omega | (simp only [Int.toNat_natCast, e1, e2, r43]; omega)) (by first | omega | (simp only [Int.toNat_natCast, e1, e2, r43]; omega)) (fun c29 => ?_) (fun c29 => ?_)
        · exact absurd c29 (by omega)
        · refine wa_ild1 dX7_isPlain_32 ?_
          refine wa_if_eq 126 dX7_isPlain_33 (by decide) (by first | omega | (simp only [Int.toNat_natCast, e1, e2, r43]; omega)) (fun c33 => absurd c33 (by decide)) (fun c33 => ?_)
          refine wa_ald0 dX7_isPlain_36 ?_
          refine wa_ald0 dX7_isPlain_37 ?_
          refine gX7_41 dX7_isPlain_38 rfl (by first | assumption | exact hL.1 _ (by decide)) (by first | assumption | exact hL.2 _ _ (by decide)) ?_
          refine wa_ild2 dX7_isPlain_41 ?_
          refine wa_iaload dX7_isPlain_42 (by first | assumption | exact hL.1 _ (by decide)) (by first | omega | (simp only [Int.toNat_natCast, e1, e2, r43]; omega)) (by first | decide | omega) ?_
          refine wa_bipush dX7_isPlain_43 (by decide) ?_
          refine wa_isub dX7_isPlain_45 ?_
          simp only [Int.toNat_natCast, r43]
          refine kX7_95 dX7_isPlain_46 rfl (by first | assumption | exact hL.1 _ (by decide)) (cm_isGarden hL r0 h8 (by omega)) (by decide) (Nat.le_of_ble_eq_true rfl) ⟨Nat.le_refl _, Nat.le_refl _⟩ (zdI ?_)
          refine wa_ifeq_B 118 dX7_isPlain_49 (by decide) (fun c49 => ?_) (fun c49 => ?_)
          · exact absurd hb c49
          · refine wa_ald0 dX7_isPlain_52 ?_
            refine gX7_41 dX7_isPlain_53 rfl (by first | assumption | exact hL.1 _ (by decide)) (by first | assumption | exact hL.2 _ _ (by decide)) ?_
            refine wa_ild2 dX7_isPlain_56 ?_
            refine wa_iconst dX7_isPlain_57 ?_
            refine wa_iadd dX7_isPlain_58 ?_
            refine wa_iaload dX7_isPlain_59 (by first | assumption | exact hL.1 _ (by decide)) (by first | omega | (simp only [Int.toNat_natCast, e1, e2, r43]; omega)) (by first | decide | omega) ?_
            refine wa_bipush dX7_isPlain_60 (by decide) ?_
            refine wa_icmp_eq 118 dX7_isPlain_62 (by decide) (by first | omega | (simp only [Int.toNat_natCast, e1, e2, r43]; omega)) (by first | omega | (simp only [Int.toNat_natCast, e1, e2, r43]; omega)) (fun c62 => absurd c62 (by simp only [e1, r43]; omega)) (fun c62 => ?_)
            refine wa_ald0 dX7_isPlain_65 ?_
            refine gX7_41 dX7_isPlain_66 rfl (by first | assumption | exact hL.1 _ (by decide)) (by first | assumption | exact hL.2 _ _ (by decide)) ?_
            refine wa_ild2 dX7_isPlain_69 ?_
            refine wa_iconst dX7_isPlain_70 ?_
            refine wa_iadd dX7_isPlain_71 ?_
            refine wa_iaload dX7_isPlain_72 (by first | assumption | exact hL.1 _ (by decide)) (by first | omega | (simp only [Int.toNat_natCast, e1, e2, r43]; omega)) (by first | decide | omega) ?_
            refine wa_bipush dX7_isPlain_73 (by decide) ?_
            refine wa_icmp_eq 91 dX7_isPlain_75 (by decide) (by first | omega | (simp only [Int.toNat_natCast, e1, e2, r43]; omega)) (by first | omega | (simp only [Int.toNat_natCast, e1, e2, r43]; omega)) (fun c75 => ?_) (fun c75 => ?_)
            · refine wa_ald0 dX7_isPlain_91 ?_
              refine gX7_41 dX7_isPlain_92 rfl (by first | assumption | exact hL.1 _ (by decide)) (by first | assumption | exact hL.2 _ _ (by decide)) ?_
              refine wa_ild2 dX7_isPlain_95 ?_
              refine wa_iaload dX7_isPlain_96 (by first | assumption | exact hL.1 _ (by decide)) (by first | omega | (simp only [Int.toNat_natCast, e1, e2, r43]; omega)) (by first | decide | omega) ?_
              refine wa_bipush dX7_isPlain_97 (by decide) ?_
              refine wa_isub dX7_isPlain_99 ?_
              refine wa_ald0 dX7_isPlain_100 ?_
              refine gX7_41 dX7_isPlain_101 rfl (by first | assumption | exact hL.1 _ (by decide)) (by first | assumption | exact hL.2 _ _ (by decide)) ?_
              refine wa_ild2 dX7_isPlain_104 ?_
              refine wa_iconst dX7_isPlain_105 ?_
              refine wa_iadd dX7_isPlain_106 ?_
              refine wa_iaload dX7_isPlain_107 (by first | assumption | exact hL.1 _ (by decide)) (by first | omega | (simp only [Int.toNat_natCast, e1, e2, r43]; omega)) (by first | decide | omega) ?_
              refine wa_bipush dX7_isPlain_108 (by decide) ?_
              refine wa_isub dX7_isPlain_110 ?_
              refine wa_icmp_eq 118 dX7_isPlain_111 (by decide) (by first | omega | (simp only [Int.toNat_natCast, e1, e2, r43]; omega)) (by first | omega | (simp only [Int.toNat_natCast, e1, e2, r43]; omega)) (fun c111 => ?_) (fun c111 => ?_)
              · refine wa_iconst dX7_isPlain_118 ?_
                refine wa_ist1 dX7_isPlain_119 (by decide) rfl ?_
                refine wa_iinc2 dX7_isPlain_120 (by decide) rfl ?_
                refine wa_goto 24 dX7_isPlain_123 (by decide) ?_
                try simp only [Int.toNat_natCast, e1, e2, r43] at c75
                try simp only [Int.toNat_natCast, e1, e2, r43] at c88
                try simp only [Int.toNat_natCast, e1, e2, r43] at c111
                first
                  | exact e3 (by omega)
                  | exact no (bad (by omega)) _ (by omega)
              · refine wa_iconst dX7_isPlain_114 ?_
                refine wa_goto 119 dX7_isPlain_115 (by decide) ?_
                refine wa_ist1 dX7_isPlain_119 (by decide) rfl ?_
                refine wa_iinc2 dX7_isPlain_120 (by decide) rfl ?_
                refine wa_goto 24 dX7_isPlain_123 (by decide) ?_
                try simp only [Int.toNat_natCast, e1, e2, r43] at c75
                try simp only [Int.toNat_natCast, e1, e2, r43] at c88
                try simp only [Int.toNat_natCast, e1, e2, r43] at c111
                first
                  | exact e3 (by omega)
                  | exact no (bad (by omega)) _ (by omega)
            · refine wa_ald0 dX7_isPlain_78 ?_
              refine gX7_41 dX7_isPlain_79 rfl (by first | assumption | exact hL.1 _ (by decide)) (by first | assumption | exact hL.2 _ _ (by decide)) ?_
              refine wa_ild2 dX7_isPlain_82 ?_
              refine wa_iconst dX7_isPlain_83 ?_
              refine wa_iadd dX7_isPlain_84 ?_
              refine wa_iaload dX7_isPlain_85 (by first | assumption | exact hL.1 _ (by decide)) (by first | omega | (simp only [Int.toNat_natCast, e1, e2, r43]; omega)) (by first | decide | omega) ?_
              refine wa_bipush dX7_isPlain_86 (by decide) ?_
              refine wa_icmp_ne 118 dX7_isPlain_88 (by decide) (by first | omega | (simp only [Int.toNat_natCast, e1, e2, r43]; omega)) (by first | omega | (simp only [Int.toNat_natCast, e1, e2, r43]; omega)) (fun c88 => ?_) (fun c88 => ?_)
              · refine wa_iconst dX7_isPlain_118 ?_
                refine wa_ist1 dX7_isPlain_119 (by decide) rfl ?_
                refine wa_iinc2 dX7_isPlain_120 (by decide) rfl ?_
                refine wa_goto 24 dX7_isPlain_123 (by decide) ?_
                try simp only [Int.toNat_natCast, e1, e2, r43] at c75
                try simp only [Int.toNat_natCast, e1, e2, r43] at c88
                try simp only [Int.toNat_natCast, e1, e2, r43] at c111
                first
                  | exact e3 (by omega)
                  | exact no (bad (by omega)) _ (by omega)
              · refine wa_ald0 dX7_isPlain_91 ?_
                refine gX7_41 dX7_isPlain_92 rfl (by first | assumption | exact hL.1 _ (by decide)) (by first | assumption | exact hL.2 _ _ (by decide)) ?_
                refine wa_ild2 dX7_isPlain_95 ?_
                refine wa_iaload dX7_isPlain_96 (by first | assumption | exact hL.1 _ (by decide)) (by first | omega | (simp only [Int.toNat_natCast, e1, e2, r43]; omega)) (by first | decide | omega) ?_
                refine wa_bipush dX7_isPlain_97 (by decide) ?_
                refine wa_isub dX7_isPlain_99 ?_
                refine wa_ald0 dX7_isPlain_100 ?_
                refine gX7_41 dX7_isPlain_101 rfl (by first | assumption | exact hL.1 _ (by decide)) (by first | assumption | exact hL.2 _ _ (by decide)) ?_
                refine wa_ild2 dX7_isPlain_104 ?_
                refine wa_iconst dX7_isPlain_105 ?_
                refine wa_iadd dX7_isPlain_106 ?_
                refine wa_iaload dX7_isPlain_107 (by first | assumption | exact hL.1 _ (by decide)) (by first | omega | (simp only [Int.toNat_natCast, e1, e2, r43]; omega)) (by first | decide | omega) ?_
                refine wa_bipush dX7_isPlain_108 (by decide) ?_
                refine wa_isub dX7_isPlain_110 ?_
                refine wa_icmp_eq 118 dX7_isPlain_111 (by decide) (by first | omega | (simp only [Int.toNat_natCast, e1, e2, r43]; omega)) (by first | omega | (simp only [Int.toNat_natCast, e1, e2, r43]; omega)) (fun c111 => ?_) (fun c111 => ?_)
                · refine wa_iconst dX7_isPlain_118 ?_
                  refine wa_ist1 dX7_isPlain_119 (by decide) rfl ?_
                  refine wa_iinc2 dX7_isPlain_120 (by decide) rfl ?_
                  refine wa_goto 24 dX7_isPlain_123 (by decide) ?_
                  try simp only [Int.toNat_natCast, e1, e2, r43] at c75
                  try simp only [Int.toNat_natCast, e1, e2, r43] at c88
                  try simp only [Int.toNat_natCast, e1, e2, r43] at c111
                  first
                    | exact e3 (by omega)
                    | exact no (bad (by omega)) _ (by omega)
                · refine wa_iconst dX7_isPlain_114 ?_
                  refine wa_goto 119 dX7_isPlain_115 (by decide) ?_
                  refine wa_ist1 dX7_isPlain_119 (by decide) rfl ?_
                  refine wa_iinc2 dX7_isPlain_120 (by decide) rfl ?_
                  refine wa_goto 24 dX7_isPlain_123 (by decide) ?_
                  try simp only [Int.toNat_natCast, e1, e2, r43] at c75
                  try simp only [Int.toNat_natCast, e1, e2, r43] at c88
                  try simp only [Int.toNat_natCast, e1, e2, r43] at c111
                  first
                    | exact e3 (by omega)
                    | exact no (bad (by omega)) _ (by omega)
  refine wa_ald0 dX7_isPlain_0 ?_
  refine kX7_102 dX7_isPlain_1 rfl (by first | assumption | exact hL.1 _ (by decide)) (cm_flt hL hI0 hR0) (by decide) (Nat.le_of_ble_eq_true rfl) ⟨Nat.le_refl _, Nat.le_refl _⟩ (zdI ?_)
  refine wa_if_ge 20 dX7_isPlain_4 (by decide) (by omega) (fun c4 => ?_) (fun c4 => ?_)
  · refine wa_iconst dX7_isPlain_20 ?_
    refine wa_ist1 dX7_isPlain_21 (by decide) rfl ?_
    refine wa_iconst dX7_isPlain_22 ?_
    refine wa_ist2 dX7_isPlain_23 (by decide) rfl ?_
    by_cases h6 : (wdF c len W).2 = -6
    · by_cases h3 : len % 3 = 0
      · first
        | (exfalso; omega)
        | exact loop 60 0 (wdF c len W).1 (by omega) (by omega) (by omega) h6 (by rw [← h6]) ⟨fun h => h.2, fun h => ⟨h6, h⟩⟩
      · first
        | (exfalso; omega)
        | exact no (fun h => by have := (pl_len 60 0 (wdF c len W).1 (by omega) (by omega) (by rw [← h6]) h.2).1; omega) 0 (by decide)
    · first
      | (exfalso; omega)
      | exact no (fun h => h6 h.1) 0 (by decide)
  · refine wa_ald0 dX7_isPlain_7 ?_
    refine gX7_99 dX7_isPlain_8 rfl (by first | assumption | exact hL.1 _ (by decide)) ?_
    refine wa_iconst dX7_isPlain_11 ?_
    refine wa_irem dX7_isPlain_12 (by omega) (by omega) ?_
    refine wa_if_ne 20 dX7_isPlain_13 (by decide) (by omega) (fun c13 => ?_) (fun c13 => ?_)
    · refine wa_iconst dX7_isPlain_20 ?_
      refine wa_ist1 dX7_isPlain_21 (by decide) rfl ?_
      refine wa_iconst dX7_isPlain_22 ?_
      refine wa_ist2 dX7_isPlain_23 (by decide) rfl ?_
      by_cases h6 : (wdF c len W).2 = -6
      · by_cases h3 : len % 3 = 0
        · first
          | (exfalso; omega)
          | exact loop 60 0 (wdF c len W).1 (by omega) (by omega) (by omega) h6 (by rw [← h6]) ⟨fun h => h.2, fun h => ⟨h6, h⟩⟩
        · first
          | (exfalso; omega)
          | exact no (fun h => by have := (pl_len 60 0 (wdF c len W).1 (by omega) (by omega) (by rw [← h6]) h.2).1; omega) 0 (by decide)
      · first
        | (exfalso; omega)
        | exact no (fun h => h6 h.1) 0 (by decide)
    · refine wa_iconst dX7_isPlain_16 ?_
      refine wa_goto 21 dX7_isPlain_17 (by decide) ?_
      refine wa_ist1 dX7_isPlain_21 (by decide) rfl ?_
      refine wa_iconst dX7_isPlain_22 ?_
      refine wa_ist2 dX7_isPlain_23 (by decide) rfl ?_
      by_cases h6 : (wdF c len W).2 = -6
      · by_cases h3 : len % 3 = 0
        · first
          | (exfalso; omega)
          | exact loop 60 0 (wdF c len W).1 (by omega) (by omega) (by omega) h6 (by rw [← h6]) ⟨fun h => h.2, fun h => ⟨h6, h⟩⟩
        · first
          | (exfalso; omega)
          | exact no (fun h => by have := (pl_len 60 0 (wdF c len W).1 (by omega) (by omega) (by rw [← h6]) h.2).1; omega) 0 (by decide)
      · first
        | (exfalso; omega)
        | exact no (fun h => h6 h.1) 0 (by decide)
def ufr (V V' : zE) : Prop := (∀ j, ¬ (19 ≤ j ∧ j ≤ 26) → V' 37 j = V 37 j) ∧ ∀ k, k ≠ 37 → ¬ (44 ≤ k ∧ k ≤ 47) → V' k = V k
theorem ufr.r {V V' : zE} (h : ufr V V') : rfr V V' := ⟨fun k a b => h.2 k a (by omega), fun j a => h.1 j (by omega)⟩
theorem ufr.sm {V V1 V2 : zE} {q : zSt} (h : ufr V V1) (g : smP q V1 V2) : ufr V V2 := ⟨fun j a => (g.2.1 j (by omega) (by omega)).trans (h.1 j a), fun k a b => (g.2.2 k a b).trans (h.2 k a b)⟩
theorem as_u {V : zE} : ufr V (asV V) := by
  unfold asV
  refine ⟨fun j a => ?_, fun k a b => ?_⟩
  · rw [zp_n _ _ (by decide), zp_n _ _ (by decide), zp_n _ _ (by decide), zp_s, za_n _ _ (by omega), za_n _ _ (by omega), za_n _ _ (by omega), za_n _ _ (by omega), za_n _ _ (by omega)]
  · rw [zp_n _ _ (by omega), zp_n _ _ (by omega), zp_n _ _ (by omega), zp_n _ _ a]
/-- the words that stand on the pad -/
def pdW (c : Nat) (p : Nat → Int) (ws : List (Int × Int × Int)) : Prop := ∀ j x, ws[j]? = some x → x.2.2 = p (3 * j + 1) - 65 ∧ (0 ≤ x.2.2 ∧ x.2.2 < (c : Int)) ∧ ((x.1 = 0 ∧ p (3 * j + 2) = 116) ∨ (x.1 = 1 ∧ p (3 * j + 2) = 108))
theorem cm_unsaid {n c k len m : Nat} {S : zH} {Rf : zG} {W V : zE} {F : Int} {ws : List (Int × Int × Int)} (hL : Lay S Rf) (hI : CI c k len F W) (hR : RI c k len W V) (hm : V 37 29 = (m : Int)) (hm4 : m ≤ 4) (hws : ws.length = m) (hpd : pdW c (W 19) ws) (hpl : ∀ j, j < m → 0 ≤ V 48 j ∧ V 48 j ≤ (c : Int)) : Cpi 5 mX7_unsaid [zR 37] n S Rf V (fun x V' => x = unP c (W 3) (W 4) (W 1 3) (V 48) ws 0 (W 2, W 5) 0 ∧ ufr V V') := by
  obtain ⟨hc, h2, h8, hd, hf, hu, hu3, hs, hflk, hF, hfa, hk, hk8, hsg, hsd, hl, h60, hp, hsc⟩ := hI
  obtain ⟨a1, a2⟩ := as_vr hR
  have hRa := hR.go as_r
  obtain ⟨r0, r38, r39, r40, r41, r3, r4, r7, r8, r9, r10, r11, r42, r13, r43⟩ := hR
  refine ct_of (by decide) rfl (Nat.le_of_ble_eq_true rfl) ?_
  generalize hX : unP c (W 3) (W 4) (W 1 3) (V 48) ws 0 (W 2, W 5) 0 = X
  have loop : ∀ (us : List (Int × Int × Int)) (i : Nat) (u : Int) (V1 : zE), i + us.length = m → (∀ j, us[j]? = ws[i + j]?) → (0 ≤ u ∧ u ≤ i) → ufr V V1 → Rl (W 4) V1 → V1 37 19 = W 1 3 → (∀ j, 0 ≤ V1 44 j ∧ V1 44 j ≤ 999) → X = unP c (W 3) (W 4) (W 1 3) (V 48) us i (V1 44, V1 46) u → Wa zXn mX7_unsaid (zrm 5 0 0) (zZm (qPI S Rf (fun x V' => x = X ∧ ufr V V')) (n + 0) 0 0) 0 0 n S 8 [some (zR 37), some (zI u), some (zI (i : Int)), none, none] [] Rf V1 := by
    intro us
    induction us with
    | nil =>
      intro i u V1 hi hus hub hf1 hr1 h19 hd1 hx
      have m1 := (hf1.1 29 (by decide)).trans hm
      have hi' : i = m := by simpa using hi
      rw [unP] at hx
      refine wa_ild2 dX7_unsaid_8 ?_
      refine wa_ald0 dX7_unsaid_9 ?_
      refine gX7_178 dX7_unsaid_10 rfl (by first | assumption | exact hL.1 _ (by decide)) ?_
      refine wa_icmp_ge 117 dX7_unsaid_13 (by decide) (by omega) (by omega) (fun c13 => ?_) (fun c13 => ?_)
      · refine wa_ild1 dX7_unsaid_117 ?_
        exact wa_ireturn dX7_unsaid_118 rfl rfl (Nat.le_refl _) (by exact ⟨_, rfl, rfl, rfl, hx.symm, hf1⟩)
      · exact absurd c13 (by omega)
    | cons x us ih =>
      intro i u V1 hi hus hub hf1 hr1 h19 hd1 hx
      have m1 := (hf1.1 29 (by decide)).trans hm
      have r01 := (hf1.1 0 (by decide)).trans r0
      have r31 := (hf1.1 3 (by decide)).trans r3
      have r431 := (hf1.2 43 (by decide) (by decide)).trans r43
      have r391 := (hf1.2 39 (by decide) (by decide)).trans r39
      have r481 := hf1.2 48 (by decide) (by decide)
      have hi' : i + (us.length + 1) = m := by simpa using hi
      have hx0 := hpd i x (by have := hus 0; rw [Nat.add_zero] at this; rw [← this]; rfl)
      have hus' : ∀ j, us[j]? = ws[i + 1 + j]? := fun j => by have := hus (j + 1); rw [List.getElem?_cons_succ] at this; rw [this, show i + (j + 1) = i + 1 + j by omega]
      obtain ⟨x1, x2, x3⟩ := hx0
      have hpi := hpl i (by omega)
      have hpw1 := hp (3 * i + 1)
      have hpw2 := hp (3 * i + 2)
      have t1 : (3 * (i : Int) + 1).toNat = 3 * i + 1 := by omega
      have t2 : (3 * (i : Int) + 2).toNat = 3 * i + 2 := by omega
      rw [unP] at hx
      have hb' : ∀ j, 0 ≤ V1 44 j ∧ V1 44 j ≤ 100000 := fun j => by have := hd1 j; omega
      by_cases hpc : V 48 i = (c : Int)
      · rw [if_pos hpc] at hx
        have e1 := ih (i + 1) (u + 1) V1 (by omega) hus' (by omega) hf1 hr1 h19 hd1 hx
        refine wa_ild2 dX7_unsaid_8 ?_
        refine wa_ald0 dX7_unsaid_9 ?_
        refine gX7_178 dX7_unsaid_10 rfl (by first | assumption | exact hL.1 _ (by decide)) ?_
        refine wa_icmp_ge 117 dX7_unsaid_13 (by decide) (by first | omega | (simp only [Int.toNat_natCast, t1, t2, r431, r481]; omega)) (by first | omega | (simp only [Int.toNat_natCast, t1, t2, r431, r481]; omega)) (fun c13 => ?_) (fun c13 => ?_)
        · exact absurd c13 (by omega)
        · refine wa_ald0 dX7_unsaid_16 ?_
          refine gX7_41 dX7_unsaid_17 rfl (by first | assumption | exact hL.1 _ (by decide)) (by first | assumption | exact hL.2 _ _ (by decide)) ?_
          refine wa_iconst dX7_unsaid_20 ?_
          refine wa_ild2 dX7_unsaid_21 ?_
          refine wa_imul dX7_unsaid_22 ?_
          refine wa_iconst dX7_unsaid_23 ?_
          refine wa_iadd dX7_unsaid_24 ?_
          refine wa_iaload dX7_unsaid_25 (by first | assumption | exact hL.1 _ (by decide)) (by first | omega | (simp only [Int.toNat_natCast, t1, t2, r431, r481]; omega)) (by first | decide | omega) ?_
          refine wa_bipush dX7_unsaid_26 (by decide) ?_
          refine wa_isub dX7_unsaid_28 ?_
          refine wa_ist3 dX7_unsaid_29 (by decide) rfl ?_
          refine wa_ald0 dX7_unsaid_30 ?_
          refine gX7_41 dX7_unsaid_31 rfl (by first | assumption | exact hL.1 _ (by decide)) (by first | assumption | exact hL.2 _ _ (by decide)) ?_
          refine wa_iconst dX7_unsaid_34 ?_
          refine wa_ild2 dX7_unsaid_35 ?_
          refine wa_imul dX7_unsaid_36 ?_
          refine wa_iconst dX7_unsaid_37 ?_
          refine wa_iadd dX7_unsaid_38 ?_
          refine wa_iaload dX7_unsaid_39 (by first | assumption | exact hL.1 _ (by decide)) (by first | omega | (simp only [Int.toNat_natCast, t1, t2, r431, r481]; omega)) (by first | decide | omega) ?_
          refine wa_ist4 dX7_unsaid_40 (by decide) rfl ?_
          refine wa_ald0 dX7_unsaid_42 ?_
          refine gX7_56 dX7_unsaid_43 rfl (by first | assumption | exact hL.1 _ (by decide)) (by first | assumption | exact hL.2 _ _ (by decide)) ?_
          refine wa_ild2 dX7_unsaid_46 ?_
          refine wa_iaload dX7_unsaid_47 (by first | assumption | exact hL.1 _ (by decide)) (by first | omega | (simp only [Int.toNat_natCast, t1, t2, r431, r481]; omega)) (by first | decide | omega) ?_
          refine wa_ald0 dX7_unsaid_48 ?_
          refine gX7_7 dX7_unsaid_49 rfl (by first | assumption | exact hL.1 _ (by decide)) ?_
          refine wa_icmp_ne 61 dX7_unsaid_52 (by decide) (by first | omega | (simp only [Int.toNat_natCast, t1, t2, r431, r481]; omega)) (by first | omega | (simp only [Int.toNat_natCast, t1, t2, r431, r481]; omega)) (fun c52 => absurd c52 (by simp only [Int.toNat_natCast, r481]; omega)) (fun c52 => ?_)
          refine wa_iinc1 dX7_unsaid_55 (by decide) rfl ?_
          refine wa_goto 111 dX7_unsaid_58 (by decide) ?_
          refine wa_iinc2 dX7_unsaid_111 (by decide) rfl ?_
          refine wa_goto 8 dX7_unsaid_114 (by decide) ?_
          refine wa_drop4 (wa_drop3 ?_)
          exact e1
      · rw [if_neg hpc] at hx
        generalize hpv : V 48 i = g at hpc hpi hx
        have hkd : 0 ≤ x.1 ∧ x.1 ≤ 1 := by omega
        have hrg := hinF_rg (c := c) (d := V1 44) (rule := W 4) (said := V1 46) (k := x.1) (g := g) (w := x.2.2)
        have hcan : canB c (W 3) (W 4) (W 1 3) x.1 g x.2.2 (V1 44, V1 46) = true ↔ hinF c (V1 44) (W 4) (V1 46) x.1 g x.2.2 = 0 ∧ zand (ovl (sayD (W 4) x.1 g x.2.2 (V1 44, V1 46)).1 (W 3) c) (zxor (W 1 3) (-1)) = 0 := by
          unfold canB; simp only [Bool.and_eq_true, beq_iff_eq]
        refine wa_ild2 dX7_unsaid_8 ?_
        refine wa_ald0 dX7_unsaid_9 ?_
        refine gX7_178 dX7_unsaid_10 rfl (by first | assumption | exact hL.1 _ (by decide)) ?_
        refine wa_icmp_ge 117 dX7_unsaid_13 (by decide) (by first | omega | (simp only [Int.toNat_natCast, t1, t2, r431, r481, hpv]; omega) | (rw [z19]; exact zor_rg _ _) | (rw [z3]; omega)) (by first | omega | (simp only [Int.toNat_natCast, t1, t2, r431, r481, hpv]; omega) | (rw [z19]; exact zor_rg _ _) | (rw [z3]; omega)) (fun c13 => ?_) (fun c13 => ?_)
        · exact absurd c13 (by omega)
        · refine wa_ald0 dX7_unsaid_16 ?_
          refine gX7_41 dX7_unsaid_17 rfl (by first | assumption | exact hL.1 _ (by decide)) (by first | assumption | exact hL.2 _ _ (by decide)) ?_
          refine wa_iconst dX7_unsaid_20 ?_
          refine wa_ild2 dX7_unsaid_21 ?_
          refine wa_imul dX7_unsaid_22 ?_
          refine wa_iconst dX7_unsaid_23 ?_
          refine wa_iadd dX7_unsaid_24 ?_
          refine wa_iaload dX7_unsaid_25 (by first | assumption | exact hL.1 _ (by decide)) (by first | omega | (simp only [Int.toNat_natCast, t1, t2, r431, r481, hpv]; omega) | (rw [z19]; exact zor_rg _ _) | (rw [z3]; omega)) (by first | decide | omega) ?_
          refine wa_bipush dX7_unsaid_26 (by decide) ?_
          refine wa_isub dX7_unsaid_28 ?_
          simp only [t1, r431]
          rw [← x1]
          refine wa_ist3 dX7_unsaid_29 (by decide) rfl ?_
          refine wa_ald0 dX7_unsaid_30 ?_
          refine gX7_41 dX7_unsaid_31 rfl (by first | assumption | exact hL.1 _ (by decide)) (by first | assumption | exact hL.2 _ _ (by decide)) ?_
          refine wa_iconst dX7_unsaid_34 ?_
          refine wa_ild2 dX7_unsaid_35 ?_
          refine wa_imul dX7_unsaid_36 ?_
          refine wa_iconst dX7_unsaid_37 ?_
          refine wa_iadd dX7_unsaid_38 ?_
          refine wa_iaload dX7_unsaid_39 (by first | assumption | exact hL.1 _ (by decide)) (by first | omega | (simp only [Int.toNat_natCast, t1, t2, r431, r481, hpv]; omega) | (rw [z19]; exact zor_rg _ _) | (rw [z3]; omega)) (by first | decide | omega) ?_
          simp only [t2, r431]
          refine wa_ist4 dX7_unsaid_40 (by decide) rfl ?_
          refine wa_ald0 dX7_unsaid_42 ?_
          refine gX7_56 dX7_unsaid_43 rfl (by first | assumption | exact hL.1 _ (by decide)) (by first | assumption | exact hL.2 _ _ (by decide)) ?_
          refine wa_ild2 dX7_unsaid_46 ?_
          refine wa_iaload dX7_unsaid_47 (by first | assumption | exact hL.1 _ (by decide)) (by first | omega | (simp only [Int.toNat_natCast, t1, t2, r431, r481, hpv]; omega) | (rw [z19]; exact zor_rg _ _) | (rw [z3]; omega)) (by first | decide | omega) ?_
          refine wa_ald0 dX7_unsaid_48 ?_
          refine gX7_7 dX7_unsaid_49 rfl (by first | assumption | exact hL.1 _ (by decide)) ?_
          refine wa_icmp_ne 61 dX7_unsaid_52 (by decide) (by first | omega | (simp only [Int.toNat_natCast, t1, t2, r431, r481, hpv]; omega) | (rw [z19]; exact zor_rg _ _) | (rw [z3]; omega)) (by first | omega | (simp only [Int.toNat_natCast, t1, t2, r431, r481, hpv]; omega) | (rw [z19]; exact zor_rg _ _) | (rw [z3]; omega)) (fun c52 => ?_) (fun c52 => absurd c52 (by simp only [Int.toNat_natCast, r481, hpv]; omega))
          refine wa_ald0 dX7_unsaid_61 ?_
          refine wa_ald0 dX7_unsaid_62 ?_
          refine gX7_56 dX7_unsaid_63 rfl (by first | assumption | exact hL.1 _ (by decide)) (by first | assumption | exact hL.2 _ _ (by decide)) ?_
          refine wa_ild2 dX7_unsaid_66 ?_
          refine wa_iaload dX7_unsaid_67 (by first | assumption | exact hL.1 _ (by decide)) (by first | omega | (simp only [Int.toNat_natCast, t1, t2, r431, r481, hpv]; omega) | (rw [z19]; exact zor_rg _ _) | (rw [z3]; omega)) (by first | decide | omega) ?_
          refine wa_ild3 dX7_unsaid_68 ?_
          refine wa_ild4 dX7_unsaid_69 ?_
          simp only [Int.toNat_natCast, r481, hpv]
          refine kX7_159 dX7_unsaid_71 rfl (by first | assumption | exact hL.1 _ (by decide)) (cm_whyNot (k := x.1) hL hr1 hu h8 (by omega) x2 hb' (by omega)) (by decide) (Nat.le_of_ble_eq_true rfl) ⟨Nat.le_refl _, Nat.le_refl _⟩ (zdI ?_)
          refine wa_if_le 80 dX7_unsaid_74 (by decide) (by first | omega | (simp only [Int.toNat_natCast, t1, t2, r431, r481, hpv]; omega) | (rw [z19]; exact zor_rg _ _) | (rw [z3]; omega)) (fun c74 => ?_) (fun c74 => ?_)
          · refine wa_ald0 dX7_unsaid_80 ?_
            refine wa_ald0 dX7_unsaid_81 ?_
            refine gX7_56 dX7_unsaid_82 rfl (by first | assumption | exact hL.1 _ (by decide)) (by first | assumption | exact hL.2 _ _ (by decide)) ?_
            refine wa_ild2 dX7_unsaid_85 ?_
            refine wa_iaload dX7_unsaid_86 (by first | assumption | exact hL.1 _ (by decide)) (by first | omega | (simp only [Int.toNat_natCast, t1, t2, r431, r481, hpv]; omega) | (rw [z19]; exact zor_rg _ _) | (rw [z3]; omega)) (by first | decide | omega) ?_
            refine wa_ild3 dX7_unsaid_87 ?_
            refine wa_ild4 dX7_unsaid_88 ?_
            simp only [Int.toNat_natCast, r481, hpv]
            refine kX7_162 dX7_unsaid_90 rfl (by first | assumption | exact hL.1 _ (by decide)) (cm_speak (c := c) (k := x.1) hL hr1 hu h8 (by omega) x2 hb' (by omega)) (by decide) (Nat.le_of_ble_eq_true rfl) ⟨Nat.le_refl _, Nat.le_refl _⟩ (zpN fun V2 p2 => ?_)
            have h00 : hinF c (V1 44) (W 4) (V1 46) x.1 g x.2.2 = 0 := by omega
            have hf2 := hf1.sm p2
            have r02 := (hf2.1 0 (by decide)).trans r0
            have r392 := (hf2.2 39 (by decide) (by decide)).trans r39
            have q2 : vr V2 = (V2 44, V2 46, V2 47, V2 37 19, V2 37 20) := rfl
            have s2 := p2.1
            rw [spkS, if_pos (by omega)] at s2
            simp only [vr, Prod.mk.injEq] at s2
            obtain ⟨s44, s46, s47, s19, s20⟩ := s2
            have t44 : V2 44 = (sayD (W 4) x.1 g x.2.2 (V1 44, V1 46)).1 := s44
            have t46 : V2 46 = (sayD (W 4) x.1 g x.2.2 (V1 44, V1 46)).2 := s46
            have hd2 := sayD_b (c := c) (q := (V1 44, V1 46)) hkd hu hd1 h00
            refine wa_ald0 dX7_unsaid_93 ?_
            refine kX7_165 dX7_unsaid_94 rfl (by first | assumption | exact hL.1 _ (by decide)) (cm_collapse hL r02 h8 (fun j => by rw [t44]; have := hd2 j; omega) (fun j => by rw [r392]; have := hf j; omega) (by rw [s19, h19]; exact hfa)) (by decide) (Nat.le_of_ble_eq_true rfl) ⟨Nat.le_refl _, Nat.le_refl _⟩ (zpN fun V3 p3 => ?_)
            have hf3 := hf2.sm p3
            have s3 := p3.1
            simp only [vr, Prod.mk.injEq] at s3
            obtain ⟨u44, u46, u47, z19, u20⟩ := s3
            have z3 := (hf3.1 3 (by decide)).trans r3
            rw [s19, h19, t44, r392] at z19
            have hz := zor_fell (f := W 1 3) (o := ovl (sayD (W 4) x.1 g x.2.2 (V1 44, V1 46)).1 (W 3) c) hfa
            refine wa_ald0 dX7_unsaid_97 ?_
            refine gX7_106 dX7_unsaid_98 rfl (by first | assumption | exact hL.1 _ (by decide)) ?_
            refine wa_ald0 dX7_unsaid_101 ?_
            refine gX7_82 dX7_unsaid_102 rfl (by first | assumption | exact hL.1 _ (by decide)) ?_
            refine wa_icmp_eq 111 dX7_unsaid_105 (by decide) (by first | omega | (simp only [Int.toNat_natCast, t1, t2, r431, r481, hpv]; omega) | (rw [z19]; exact zor_rg _ _) | (rw [z3]; omega)) (by first | omega | (simp only [Int.toNat_natCast, t1, t2, r431, r481, hpv]; omega) | (rw [z19]; exact zor_rg _ _) | (rw [z3]; omega)) (fun c105 => ?_) (fun c105 => ?_)
            · refine wa_iinc2 dX7_unsaid_111 (by decide) rfl ?_
              refine wa_goto 8 dX7_unsaid_114 (by decide) ?_
              rw [z19, z3] at c105
              rw [if_pos (hcan.mpr ⟨h00, hz.mp c105⟩)] at hx
              refine wa_drop4 (wa_drop3 ?_)
              exact ih (i + 1) u V3 (by omega) hus' (by omega) hf3 ((hr1.go p2).go p3) (by rw [z19]; exact c105) (fun j => by rw [u44, t44]; exact hd2 j) (by rw [u44, u46, t44, t46]; exact hx)
            · refine wa_ldc dX7_unsaid_108 coX7_181 10000000 (by decide) ?_
              refine wa_ireturn dX7_unsaid_110 rfl rfl (Nat.le_refl _) ?_
              refine ⟨_, rfl, rfl, rfl, ?_, hf3⟩
              rw [z19, z3] at c105
              rw [hx, if_neg (fun h => c105 (hz.mpr (hcan.mp h).2))]
          · refine wa_ldc dX7_unsaid_77 coX7_181 10000000 (by decide) ?_
            refine wa_ireturn dX7_unsaid_79 rfl rfl (Nat.le_refl _) ?_
            refine ⟨_, rfl, rfl, rfl, ?_, hf1⟩
            rw [hx, if_neg (fun h => by have := (hcan.mp h).1; omega)]
  refine wa_iconst dX7_unsaid_0 ?_
  refine wa_ist1 dX7_unsaid_1 (by decide) rfl ?_
  refine wa_ald0 dX7_unsaid_2 ?_
  refine kX7_168 dX7_unsaid_3 rfl (by first | assumption | exact hL.1 _ (by decide)) (cm_asNow hL) (by decide) (Nat.le_of_ble_eq_true rfl) ⟨Nat.le_refl _, Nat.le_refl _⟩ (zdN ?_)
  refine wa_iconst dX7_unsaid_6 ?_
  refine wa_ist2 dX7_unsaid_7 (by decide) rfl ?_
  have v44 : asV V 44 = W 2 := congrArg (fun z : zSt => z.1) a1
  have v46 : asV V 46 = W 5 := congrArg (fun z : zSt => z.2.1) a1
  have v19 : asV V 37 19 = W 1 3 := congrArg (fun z : zSt => z.2.2.2.1) a1
  exact loop ws 0 0 (asV V) (by omega) (fun j => by rw [Nat.zero_add]) (by decide) as_u a2 v19 (fun j => by rw [v44]; exact hd j) (by rw [v44, v46]; exact hX.symm)
