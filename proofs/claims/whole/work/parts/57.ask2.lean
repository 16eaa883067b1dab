/-! the reference: recognised, cleared, told, slide, holds -/
theorem cm_recognised {n c k len : Nat} {S : zH} {Rf : zG} {W V : zE} {F g : Int} (hL : Lay S Rf) (hI : CI c k len F W) (hR : RI c k len W V) (hg : -2147483648 ≤ g ∧ g ≤ 2147483647) : Ct 3 0 0 mX7_recognised [zR 37, zI g] n S Rf V (rQ S Rf V (rcX c g W)) := by
  obtain ⟨hc, h2, h8, hd, hf, hu, hu3, hs, hflk, hF, hfa, hk, hk8, hsg, hsd, hl, h60, hp, hsc⟩ := hI
  obtain ⟨r0, r38, r39, r40, r41, r3, r4, r7, r8, r9, r10, r11, r42, r13, r43⟩ := hR
  refine ct_of (by decide) rfl (Nat.le_of_ble_eq_true rfl) ?_
  unfold rcX
  have loop : ∀ (m i : Nat), 0 ≤ g ∧ g < (c : Int) → i + m = c → Wa zXn mX7_recognised (zrm 3 0 0) (zZm (rQ S Rf V (msF (fun i => W 6 (8 * g.toNat + i)) c).2) (n + 0) 0 0) 0 0 n S 18 [some (zR 37), some (zI g), some (zI (msF (fun i => W 6 (8 * g.toNat + i)) i).2), some (zI (msF (fun i => W 6 (8 * g.toNat + i)) i).1), some (zI (i : Int))] [] Rf V := by
    intro m
    induction m with
    | zero =>
      intro i hgc hi
      obtain rfl : i = c := by omega
      refine wa_ild4 dX7_recognised_18 ?_
      refine wa_ald0 dX7_recognised_20 ?_
      refine gX7_7 dX7_recognised_21 rfl (by first | assumption | exact hL.1 _ (by decide)) ?_
      refine wa_icmp_ge 89 dX7_recognised_24 (by decide) (by omega) (by omega) (fun c24 => ?_) (fun c24 => ?_)
      · refine wa_ild2 dX7_recognised_89 ?_
        exact wa_ireturn dX7_recognised_90 rfl rfl (Nat.le_refl _) (by exact ⟨rfl, rfl, rfl, rfr_rf⟩)
      · exact absurd c24 (by omega)
    | succ m ih =>
      intro i hgc hi
      have e1 := ih (i + 1) hgc (by omega)
      have hr1 := msF_rg (f := fun i => W 6 (8 * g.toNat + i)) (fun j => by have := hflk (8 * g.toNat + j); omega) i
      have hfi := hflk (8 * g.toNat + i)
      have ti : (8 * g + (i : Int)).toNat = 8 * g.toNat + i := by omega
      rw [msF] at e1
      refine wa_ild4 dX7_recognised_18 ?_
      refine wa_ald0 dX7_recognised_20 ?_
      refine gX7_7 dX7_recognised_21 rfl (by first | assumption | exact hL.1 _ (by decide)) ?_
      refine wa_icmp_ge 89 dX7_recognised_24 (by decide) (by first | omega | (simp only [ti, r41]; omega) | exact hr1) (by first | omega | (simp only [ti, r41]; omega) | exact hr1) (fun c24 => ?_) (fun c24 => ?_)
      · exact absurd c24 (by omega)
      · refine wa_ald0 dX7_recognised_27 ?_
        refine gX7_23 dX7_recognised_28 rfl (by first | assumption | exact hL.1 _ (by decide)) (by first | assumption | exact hL.2 _ _ (by decide)) ?_
        refine wa_bipush dX7_recognised_31 (by decide) ?_
        refine wa_ild1 dX7_recognised_33 ?_
        refine wa_imul dX7_recognised_34 ?_
        refine wa_ild4 dX7_recognised_35 ?_
        refine wa_iadd dX7_recognised_37 ?_
        refine wa_iaload dX7_recognised_38 (by first | assumption | exact hL.1 _ (by decide)) (by first | omega | (simp only [ti, r41]; omega) | exact hr1) (by first | decide | omega) ?_
        refine wa_ild3 dX7_recognised_39 ?_
        refine wa_icmp_le 48 dX7_recognised_40 (by decide) (by first | omega | (simp only [ti, r41]; omega) | exact hr1) (by first | omega | (simp only [ti, r41]; omega) | exact hr1) (fun c40 => ?_) (fun c40 => ?_)
        · refine wa_ild2 dX7_recognised_48 ?_
          refine wa_ist2 dX7_recognised_49 (by decide) rfl ?_
          refine wa_ald0 dX7_recognised_50 ?_
          refine gX7_23 dX7_recognised_51 rfl (by first | assumption | exact hL.1 _ (by decide)) (by first | assumption | exact hL.2 _ _ (by decide)) ?_
          refine wa_bipush dX7_recognised_54 (by decide) ?_
          refine wa_ild1 dX7_recognised_56 ?_
          refine wa_imul dX7_recognised_57 ?_
          refine wa_ild4 dX7_recognised_58 ?_
          refine wa_iadd dX7_recognised_60 ?_
          refine wa_iaload dX7_recognised_61 (by first | assumption | exact hL.1 _ (by decide)) (by first | omega | (simp only [ti, r41]; omega) | exact hr1) (by first | decide | omega) ?_
          refine wa_ild3 dX7_recognised_62 ?_
          refine wa_icmp_le 81 dX7_recognised_63 (by decide) (by first | omega | (simp only [ti, r41]; omega) | exact hr1) (by first | omega | (simp only [ti, r41]; omega) | exact hr1) (fun c63 => ?_) (fun c63 => ?_)
          · refine wa_ild3 dX7_recognised_81 ?_
            refine wa_ist3 dX7_recognised_82 (by decide) rfl ?_
            refine wa_iinc4 dX7_recognised_83 (by decide) rfl ?_
            refine wa_goto 18 dX7_recognised_86 (by decide) ?_
            simp only [ti, r41] at c40 c63 ⊢
            first
              | (exfalso; omega)
              | (rw [if_pos c40] at e1; exact e1)
              | (rw [if_neg (Int.not_lt.mpr c40)] at e1; exact e1)
          · refine wa_ald0 dX7_recognised_66 ?_
            refine gX7_23 dX7_recognised_67 rfl (by first | assumption | exact hL.1 _ (by decide)) (by first | assumption | exact hL.2 _ _ (by decide)) ?_
            refine wa_bipush dX7_recognised_70 (by decide) ?_
            refine wa_ild1 dX7_recognised_72 ?_
            refine wa_imul dX7_recognised_73 ?_
            refine wa_ild4 dX7_recognised_74 ?_
            refine wa_iadd dX7_recognised_76 ?_
            refine wa_iaload dX7_recognised_77 (by first | assumption | exact hL.1 _ (by decide)) (by first | omega | (simp only [ti, r41]; omega) | exact hr1) (by first | decide | omega) ?_
            refine wa_goto 82 dX7_recognised_78 (by decide) ?_
            refine wa_ist3 dX7_recognised_82 (by decide) rfl ?_
            refine wa_iinc4 dX7_recognised_83 (by decide) rfl ?_
            refine wa_goto 18 dX7_recognised_86 (by decide) ?_
            simp only [ti, r41] at c40 c63 ⊢
            first
              | (exfalso; omega)
              | (rw [if_pos c40] at e1; exact e1)
              | (rw [if_neg (Int.not_lt.mpr c40)] at e1; exact e1)
        · refine wa_ild4 dX7_recognised_43 ?_
          refine wa_goto 49 dX7_recognised_45 (by decide) ?_
          refine wa_ist2 dX7_recognised_49 (by decide) rfl ?_
          refine wa_ald0 dX7_recognised_50 ?_
          refine gX7_23 dX7_recognised_51 rfl (by first | assumption | exact hL.1 _ (by decide)) (by first | assumption | exact hL.2 _ _ (by decide)) ?_
          refine wa_bipush dX7_recognised_54 (by decide) ?_
          refine wa_ild1 dX7_recognised_56 ?_
          refine wa_imul dX7_recognised_57 ?_
          refine wa_ild4 dX7_recognised_58 ?_
          refine wa_iadd dX7_recognised_60 ?_
          refine wa_iaload dX7_recognised_61 (by first | assumption | exact hL.1 _ (by decide)) (by first | omega | (simp only [ti, r41]; omega) | exact hr1) (by first | decide | omega) ?_
          refine wa_ild3 dX7_recognised_62 ?_
          refine wa_icmp_le 81 dX7_recognised_63 (by decide) (by first | omega | (simp only [ti, r41]; omega) | exact hr1) (by first | omega | (simp only [ti, r41]; omega) | exact hr1) (fun c63 => ?_) (fun c63 => ?_)
          · refine wa_ild3 dX7_recognised_81 ?_
            refine wa_ist3 dX7_recognised_82 (by decide) rfl ?_
            refine wa_iinc4 dX7_recognised_83 (by decide) rfl ?_
            refine wa_goto 18 dX7_recognised_86 (by decide) ?_
            simp only [ti, r41] at c40 c63 ⊢
            first
              | (exfalso; omega)
              | (rw [if_pos c40] at e1; exact e1)
              | (rw [if_neg (Int.not_lt.mpr c40)] at e1; exact e1)
          · refine wa_ald0 dX7_recognised_66 ?_
            refine gX7_23 dX7_recognised_67 rfl (by first | assumption | exact hL.1 _ (by decide)) (by first | assumption | exact hL.2 _ _ (by decide)) ?_
            refine wa_bipush dX7_recognised_70 (by decide) ?_
            refine wa_ild1 dX7_recognised_72 ?_
            refine wa_imul dX7_recognised_73 ?_
            refine wa_ild4 dX7_recognised_74 ?_
            refine wa_iadd dX7_recognised_76 ?_
            refine wa_iaload dX7_recognised_77 (by first | assumption | exact hL.1 _ (by decide)) (by first | omega | (simp only [ti, r41]; omega) | exact hr1) (by first | decide | omega) ?_
            refine wa_goto 82 dX7_recognised_78 (by decide) ?_
            refine wa_ist3 dX7_recognised_82 (by decide) rfl ?_
            refine wa_iinc4 dX7_recognised_83 (by decide) rfl ?_
            refine wa_goto 18 dX7_recognised_86 (by decide) ?_
            simp only [ti, r41] at c40 c63 ⊢
            first
              | (exfalso; omega)
              | (rw [if_pos c40] at e1; exact e1)
              | (rw [if_neg (Int.not_lt.mpr c40)] at e1; exact e1)
  refine wa_ald0 dX7_recognised_0 ?_
  refine wa_ild1 dX7_recognised_1 ?_
  refine kX7_95 dX7_recognised_2 rfl (by first | assumption | exact hL.1 _ (by decide)) (cm_isGarden hL r0 h8 hg) (by decide) (Nat.le_of_ble_eq_true rfl) ⟨Nat.le_refl _, Nat.le_refl _⟩ (zdI ?_)
  refine wa_ifne_B 10 dX7_recognised_5 (by decide) (fun c5 => ?_) (fun c5 => ?_)
  · refine wa_bipush dX7_recognised_10 (by decide) ?_
    refine wa_ist2 dX7_recognised_12 (by decide) rfl ?_
    refine wa_iconst dX7_recognised_13 ?_
    refine wa_ist3 dX7_recognised_14 (by decide) rfl ?_
    refine wa_iconst dX7_recognised_15 ?_
    refine wa_ist4 dX7_recognised_16 (by decide) rfl ?_
    rw [if_pos c5]
    exact loop c 0 c5 (by omega)
  · refine wa_iconst dX7_recognised_8 ?_
    exact wa_ireturn dX7_recognised_9 rfl rfl (Nat.le_refl _) (by exact ⟨by rw [if_neg c5], rfl, rfl, rfr_rf⟩)
theorem cm_cleared {n c k len : Nat} {S : zH} {Rf : zG} {W V : zE} {F v : Int} (hL : Lay S Rf) (hI : CI c k len F W) (hR : RI c k len W V) (hv : -2147483648 ≤ v ∧ v ≤ 2147483647) : Ct 2 0 0 mX7_cleared [zR 37, zI v] n S Rf V (rQ S Rf V (clX c v W)) := by
  obtain ⟨hc, h2, h8, hd, hf, hu, hu3, hs, hflk, hF, hfa, hk, hk8, hsg, hsd, hl, h60, hp, hsc⟩ := hI
  obtain ⟨r0, r38, r39, r40, r41, r3, r4, r7, r8, r9, r10, r11, r42, r13, r43⟩ := hR
  have hu33 := hu 3
  refine ct_of (by decide) rfl (Nat.le_of_ble_eq_true rfl) ?_
  unfold clX
  have loop : ∀ (q i : Nat), 0 ≤ v ∧ v ≤ 999 → i + q = c → Wa zXn mX7_cleared (zrm 2 0 0) (zZm (rQ S Rf V (clF (W 2) v (W 4 3) c)) (n + 0) 0 0) 0 0 n S 18 [some (zR 37), some (zI v), some (zI (clF (W 2) v (W 4 3) i)), some (zI (i : Int)), none] [] Rf V := by
    intro q
    induction q with
    | zero =>
      intro i h0 hi
      obtain rfl : i = c := by omega
      refine wa_ild3 dX7_cleared_18 ?_
      refine wa_ald0 dX7_cleared_19 ?_
      refine gX7_7 dX7_cleared_20 rfl (by first | assumption | exact hL.1 _ (by decide)) ?_
      refine wa_icmp_ge 61 dX7_cleared_23 (by decide) (by omega) (by omega) (fun c23 => ?_) (fun c23 => ?_)
      · refine wa_ild2 dX7_cleared_61 ?_
        exact wa_ireturn dX7_cleared_62 rfl rfl (Nat.le_refl _) (by exact ⟨rfl, rfl, rfl, rfr_rf⟩)
      · exact absurd c23 (by omega)
    | succ q ih =>
      intro i h0 hi
      have hdi := hd i
      have e1 := ih (i + 1) h0 (by omega)
      rw [clF] at e1
      refine wa_ild3 dX7_cleared_18 ?_
      refine wa_ald0 dX7_cleared_19 ?_
      refine gX7_7 dX7_cleared_20 rfl (by first | assumption | exact hL.1 _ (by decide)) ?_
      refine wa_icmp_ge 61 dX7_cleared_23 (by decide) (by first | omega | (simp only [Int.toNat_natCast, r10]; omega)) (by first | omega | (simp only [Int.toNat_natCast, r10]; omega)) (fun c23 => ?_) (fun c23 => ?_)
      · exact absurd c23 (by omega)
      · refine wa_ald0 dX7_cleared_26 ?_
        refine gX7_13 dX7_cleared_27 rfl (by first | assumption | exact hL.1 _ (by decide)) (by first | assumption | exact hL.2 _ _ (by decide)) ?_
        refine wa_ild3 dX7_cleared_30 ?_
        refine wa_iaload dX7_cleared_31 (by first | assumption | exact hL.1 _ (by decide)) (by first | omega | (simp only [Int.toNat_natCast, r10]; omega)) (by first | decide | omega) ?_
        refine wa_ild1 dX7_cleared_32 ?_
        simp only [Int.toNat_natCast, r38]
        refine kX7_129 dX7_cleared_33 rfl (cm_less (by omega) (by omega)) (by decide) (Nat.le_of_ble_eq_true rfl) ⟨Nat.le_refl _, Nat.le_refl _⟩ (zdI ?_)
        refine wa_ist4 dX7_cleared_36 (by decide) rfl ?_
        refine wa_ild2 dX7_cleared_38 ?_
        refine wa_ild4 dX7_cleared_39 ?_
        refine wa_ald0 dX7_cleared_41 ?_
        refine gX7_35 dX7_cleared_42 rfl (by first | assumption | exact hL.1 _ (by decide)) ?_
        refine wa_iadd dX7_cleared_45 ?_
        refine wa_iconst dX7_cleared_46 ?_
        refine wa_isub dX7_cleared_47 ?_
        refine wa_ald0 dX7_cleared_48 ?_
        refine gX7_35 dX7_cleared_49 rfl (by first | assumption | exact hL.1 _ (by decide)) ?_
        refine wa_idiv dX7_cleared_52 (by first | omega | (simp only [Int.toNat_natCast, r10]; omega)) (by first | omega | (simp only [Int.toNat_natCast, r10]; omega)) ?_
        refine wa_iadd dX7_cleared_53 ?_
        refine wa_ist2 dX7_cleared_54 (by decide) rfl ?_
        refine wa_iinc3 dX7_cleared_55 (by decide) rfl ?_
        refine wa_goto 18 dX7_cleared_58 (by decide) ?_
        refine wa_drop4 ?_
        simp only [r10]
        exact e1
  refine wa_ild1 dX7_cleared_0 ?_
  refine wa_iconst dX7_cleared_1 ?_
  refine wa_sipush dX7_cleared_2 (by decide) ?_
  refine kX7_91 dX7_cleared_5 rfl (cm_in hv (by decide) (by decide)) (by decide) (Nat.le_of_ble_eq_true rfl) ⟨Nat.le_refl _, Nat.le_refl _⟩ (zdI ?_)
  refine wa_ifne_B 14 dX7_cleared_8 (by decide) (fun c8 => ?_) (fun c8 => ?_)
  · refine wa_iconst dX7_cleared_14 ?_
    refine wa_ist2 dX7_cleared_15 (by decide) rfl ?_
    refine wa_iconst dX7_cleared_16 ?_
    refine wa_ist3 dX7_cleared_17 (by decide) rfl ?_
    rw [if_neg (by omega)]
    exact loop c 0 c8 (by omega)
  · refine wa_bipush dX7_cleared_11 (by decide) ?_
    exact wa_ireturn dX7_cleared_13 rfl rfl (Nat.le_refl _) (by exact ⟨by rw [if_pos (by omega)], rfl, rfl, rfr_rf⟩)
theorem cm_told {n c k len : Nat} {S : zH} {Rf : zG} {W V : zE} {F w : Int} (hL : Lay S Rf) (hI : CI c k len F W) (hR : RI c k len W V) (hw : -2147483648 ≤ w ∧ w ≤ 2147483647) : Ct 3 0 0 mX7_told [zR 37, zI w] n S Rf V (rQ S Rf V (tdX c w W)) := by
  obtain ⟨hc, h2, h8, hd, hf, hu, hu3, hs, hflk, hF, hfa, hk, hk8, hsg, hsd, hl, h60, hp, hsc⟩ := hI
  obtain ⟨r0, r38, r39, r40, r41, r3, r4, r7, r8, r9, r10, r11, r42, r13, r43⟩ := hR
  refine ct_of (by decide) rfl (Nat.le_of_ble_eq_true rfl) ?_
  unfold tdX
  have tab : w < 10 → Wa zXn mX7_told (zrm 3 0 0) (zZm (rQ S Rf V (if 0 ≤ w - 10 ∧ w - 10 < (c : Int) then W 3 (w - 10).toNat else if w = 0 then W 18 1 else if w = 1 then W 1 0 else if w = 2 then W 1 4 else if 3 ≤ w ∧ w ≤ 6 then W 4 (w - 3).toNat else if w = 7 then W 1 8 else -2)) (n + 0) 0 0) 0 0 n S 32 [some (zR 37), some (zI w)] [] Rf V := by
    intro h0
    rw [if_neg (by omega)]
    refine wa_ild1 dX7_told_32 ?_
    by_cases h : 0 ≤ w ∧ w ≤ 6
    · obtain rfl | rfl | rfl | rfl | rfl | rfl | rfl : w = 0 ∨ w = 1 ∨ w = 2 ∨ w = 3 ∨ w = 4 ∨ w = 5 ∨ w = 6 := by omega
      · refine wa_table 76 dX7_told_33 (by decide) (by decide) (off := 43) rfl (by decide) ?_
        refine wa_ald0 dX7_told_76 ?_
        refine gX7_99 dX7_told_77 rfl (by first | assumption | exact hL.1 _ (by decide)) ?_
        exact wa_ireturn dX7_told_80 rfl rfl (Nat.le_refl _) (by exact ⟨by rw [r13, if_pos rfl, hl], rfl, rfl, rfr_rf⟩)
      · refine wa_table 81 dX7_told_33 (by decide) (by decide) (off := 48) rfl (by decide) ?_
        refine wa_ald0 dX7_told_81 ?_
        refine gX7_7 dX7_told_82 rfl (by first | assumption | exact hL.1 _ (by decide)) ?_
        exact wa_ireturn dX7_told_85 rfl rfl (Nat.le_refl _) (by exact ⟨by rw [r0, if_neg (by decide), if_pos rfl, hc], rfl, rfl, rfr_rf⟩)
      · refine wa_table 86 dX7_told_33 (by decide) (by decide) (off := 53) rfl (by decide) ?_
        refine wa_ald0 dX7_told_86 ?_
        refine gX7_85 dX7_told_87 rfl (by first | assumption | exact hL.1 _ (by decide)) ?_
        exact wa_ireturn dX7_told_90 rfl rfl (Nat.le_refl _) (by exact ⟨by rw [r4, if_neg (by decide), if_neg (by decide), if_pos rfl], rfl, rfl, rfr_rf⟩)
      · refine wa_table 91 dX7_told_33 (by decide) (by decide) (off := 58) rfl (by decide) ?_
        refine wa_ald0 dX7_told_91 ?_
        refine gX7_26 dX7_told_92 rfl (by first | assumption | exact hL.1 _ (by decide)) ?_
        exact wa_ireturn dX7_told_95 rfl rfl (Nat.le_refl _) (by exact ⟨by rw [r7, if_neg (by decide), if_neg (by decide), if_neg (by decide), if_pos (by decide)]; rfl, rfl, rfl, rfr_rf⟩)
      · refine wa_table 96 dX7_told_33 (by decide) (by decide) (off := 63) rfl (by decide) ?_
        refine wa_ald0 dX7_told_96 ?_
        refine gX7_29 dX7_told_97 rfl (by first | assumption | exact hL.1 _ (by decide)) ?_
        exact wa_ireturn dX7_told_100 rfl rfl (Nat.le_refl _) (by exact ⟨by rw [r8, if_neg (by decide), if_neg (by decide), if_neg (by decide), if_pos (by decide)]; rfl, rfl, rfl, rfr_rf⟩)
      · refine wa_table 101 dX7_told_33 (by decide) (by decide) (off := 68) rfl (by decide) ?_
        refine wa_ald0 dX7_told_101 ?_
        refine gX7_32 dX7_told_102 rfl (by first | assumption | exact hL.1 _ (by decide)) ?_
        exact wa_ireturn dX7_told_105 rfl rfl (Nat.le_refl _) (by exact ⟨by rw [r9, if_neg (by decide), if_neg (by decide), if_neg (by decide), if_pos (by decide)]; rfl, rfl, rfl, rfr_rf⟩)
      · refine wa_table 106 dX7_told_33 (by decide) (by decide) (off := 73) rfl (by decide) ?_
        refine wa_ald0 dX7_told_106 ?_
        refine gX7_35 dX7_told_107 rfl (by first | assumption | exact hL.1 _ (by decide)) ?_
        exact wa_ireturn dX7_told_110 rfl rfl (Nat.le_refl _) (by exact ⟨by rw [r10, if_neg (by decide), if_neg (by decide), if_neg (by decide), if_pos (by decide)]; rfl, rfl, rfl, rfr_rf⟩)
    · rw [if_neg (by omega), if_neg (by omega), if_neg (by omega), if_neg (by omega)]
      refine wa_tabled 111 dX7_told_33 hw (by omega) (by decide) ?_
      refine wa_ild1 dX7_told_111 ?_
      refine wa_bipush dX7_told_112 (by decide) ?_
      refine wa_icmp_ne 124 dX7_told_114 (by decide) (by omega) (by omega) (fun c114 => ?_) (fun c114 => ?_)
      · refine wa_bipush dX7_told_124 (by decide) ?_
        refine wa_ireturn dX7_told_126 rfl rfl (Nat.le_refl _) ?_
        refine ⟨?_, rfl, rfl, rfr_rf⟩
        first | rw [if_pos (by omega), r11, hk] | rw [if_neg (by omega)]
      · refine wa_ald0 dX7_told_117 ?_
        refine gX7_88 dX7_told_118 rfl (by first | assumption | exact hL.1 _ (by decide)) ?_
        refine wa_goto 126 dX7_told_121 (by decide) ?_
        refine wa_ireturn dX7_told_126 rfl rfl (Nat.le_refl _) ?_
        refine ⟨?_, rfl, rfl, rfr_rf⟩
        first | rw [if_pos (by omega), r11, hk] | rw [if_neg (by omega)]
  refine wa_ild1 dX7_told_0 ?_
  refine wa_bipush dX7_told_1 (by decide) ?_
  refine wa_icmp_lt 32 dX7_told_3 (by decide) (by omega) (by omega) (fun c3 => ?_) (fun c3 => ?_)
  · exact tab c3
  · refine wa_ald0 dX7_told_6 ?_
    refine wa_ild1 dX7_told_7 ?_
    refine wa_bipush dX7_told_8 (by decide) ?_
    refine wa_isub dX7_told_10 ?_
    refine kX7_95 dX7_told_11 rfl (by first | assumption | exact hL.1 _ (by decide)) (cm_isGarden hL r0 h8 (by omega)) (by decide) (Nat.le_of_ble_eq_true rfl) ⟨Nat.le_refl _, Nat.le_refl _⟩ (zdI ?_)
    refine wa_ifeq_B 29 dX7_told_14 (by decide) (fun c14 => ?_) (fun c14 => ?_)
    · refine wa_bipush dX7_told_29 (by decide) ?_
      refine wa_ireturn dX7_told_31 rfl rfl (Nat.le_refl _) ?_
      refine ⟨?_, rfl, rfl, rfr_rf⟩
      first | rw [if_pos c14, r39] | rw [if_neg c14, if_neg (by omega), if_neg (by omega), if_neg (by omega), if_neg (by omega), if_neg (by omega)]
    · refine wa_ald0 dX7_told_17 ?_
      refine gX7_17 dX7_told_18 rfl (by first | assumption | exact hL.1 _ (by decide)) (by first | assumption | exact hL.2 _ _ (by decide)) ?_
      refine wa_ild1 dX7_told_21 ?_
      refine wa_bipush dX7_told_22 (by decide) ?_
      refine wa_isub dX7_told_24 ?_
      refine wa_iaload dX7_told_25 (by first | assumption | exact hL.1 _ (by decide)) (by omega) (by first | decide | omega) ?_
      refine wa_goto 31 dX7_told_26 (by decide) ?_
      refine wa_ireturn dX7_told_31 rfl rfl (Nat.le_refl _) ?_
      refine ⟨?_, rfl, rfl, rfr_rf⟩
      first | rw [if_pos c14, r39] | rw [if_neg c14, if_neg (by omega), if_neg (by omega), if_neg (by omega), if_neg (by omega), if_neg (by omega)]
theorem cm_slideOf {n c : Nat} {S : zH} {Rf : zG} {V : zE} {g v : Int} (hL : Lay S Rf) (hc : V 37 0 = (c : Int)) (h2 : 2 ≤ c) (h8 : c ≤ 8) (hg : 0 ≤ g ∧ g < c) (hv : 1 ≤ v ∧ v ≤ 999) (hd : ∀ j, 0 ≤ V 38 j ∧ V 38 j ≤ 999) : Ci 1 mX7_slideOf [zR 37, zI g, zI v] n S Rf V (if (slR (V 38) v (c - 1 - g.toNat) (g.toNat + 1) (V 38 g.toNat)).2 < c then ((slR (V 38) v (c - 1 - g.toNat) (g.toNat + 1) (V 38 g.toNat)).2 : Int) else -6) (zp V 37 (za (V 37) 30 (slR (V 38) v (c - 1 - g.toNat) (g.toNat + 1) (V 38 g.toNat)).1)) := by
  refine ct_of (by decide) rfl (Nat.le_of_ble_eq_true rfl) ?_
  generalize hr : slR (V 38) v (c - 1 - g.toNat) (g.toNat + 1) (V 38 g.toNat) = r
  have loop : ∀ (q a : Nat) (cm : Int), a + q = c → slR (V 38) v q a cm = r → Wa zXn mX7_slideOf (zrm 1 0 0) (zZm (qI (if r.2 < c then (r.2 : Int) else -6) S Rf (zp V 37 (za (V 37) 30 r.1))) (n + 0) 0 0) 0 0 n S 14 [some (zR 37), some (zI g), some (zI v), some (zI (a : Int))] [] Rf (zp V 37 (za (V 37) 30 cm)) := by
    intro q
    induction q with
    | zero =>
      intro a cm ha he
      rw [slR] at he
      subst he
      refine wa_ild3 dX7_slideOf_14 ?_
      refine wa_ald0 dX7_slideOf_15 ?_
      refine gX7_7 dX7_slideOf_16 rfl (by first | assumption | exact hL.1 _ (by decide)) ?_
      refine wa_icmp_ge 53 dX7_slideOf_19 (by decide) (by first | omega | (simp (decide := true) only [zp_s, za_n, ne_eq]; omega)) (by first | omega | (simp (decide := true) only [zp_s, za_n, ne_eq]; omega)) (fun c19 => ?_) (fun c19 => ?_)
      · refine wa_ild3 dX7_slideOf_53 ?_
        refine wa_ald0 dX7_slideOf_54 ?_
        refine gX7_7 dX7_slideOf_55 rfl (by first | assumption | exact hL.1 _ (by decide)) ?_
        refine wa_icmp_ge 65 dX7_slideOf_58 (by decide) (by first | omega | (simp (decide := true) only [zp_s, za_n, ne_eq]; omega)) (by first | omega | (simp (decide := true) only [zp_s, za_n, ne_eq]; omega)) (fun c58 => ?_) (fun c58 => ?_)
        · refine wa_bipush dX7_slideOf_65 (by decide) ?_
          exact wa_ireturn dX7_slideOf_67 rfl rfl (Nat.le_refl _) (by exact ⟨by rw [if_neg (by omega)], rfl, rfl, rfl⟩)
        · simp (decide := true) only [zp_s, za_n, ne_eq] at c58; omega
      · simp (decide := true) only [zp_s, za_n, ne_eq] at c19; omega
    | succ q ih =>
      intro a cm ha he
      have hda := hd a
      rw [slR] at he
      refine wa_ild3 dX7_slideOf_14 ?_
      refine wa_ald0 dX7_slideOf_15 ?_
      refine gX7_7 dX7_slideOf_16 rfl (by first | assumption | exact hL.1 _ (by decide)) ?_
      refine wa_icmp_ge 53 dX7_slideOf_19 (by decide) (by first | omega | (simp (decide := true) only [zp_s, zp_n, za_n, ne_eq, Int.toNat_natCast]; omega)) (by first | omega | (simp (decide := true) only [zp_s, zp_n, za_n, ne_eq, Int.toNat_natCast]; omega)) (fun c19 => ?_) (fun c19 => ?_)
      · simp (decide := true) only [zp_s, za_n, ne_eq] at c19; omega
      · refine wa_ald0 dX7_slideOf_22 ?_
        refine gX7_13 dX7_slideOf_23 rfl (by first | assumption | exact hL.1 _ (by decide)) (by first | assumption | exact hL.2 _ _ (by decide)) ?_
        refine wa_ild3 dX7_slideOf_26 ?_
        refine wa_iaload dX7_slideOf_27 (by first | assumption | exact hL.1 _ (by decide)) (by first | omega | (simp (decide := true) only [zp_s, zp_n, za_n, ne_eq, Int.toNat_natCast]; omega)) (by first | decide | omega) ?_
        refine wa_ild2 dX7_slideOf_28 ?_
        refine wa_icmp_lt 53 dX7_slideOf_29 (by decide) (by first | omega | (simp (decide := true) only [zp_s, zp_n, za_n, ne_eq, Int.toNat_natCast]; omega)) (by first | omega | (simp (decide := true) only [zp_s, zp_n, za_n, ne_eq, Int.toNat_natCast]; omega)) (fun c29 => ?_) (fun c29 => ?_)
        · simp (decide := true) only [zp_n, ne_eq, Int.toNat_natCast] at c29
          rw [if_neg (by omega)] at he
          subst he
          have stp : Wa zXn mX7_slideOf (zrm 1 0 0) (zZm (qI (if a < c then (a : Int) else -6) S Rf (zp V 37 (za (V 37) 30 cm))) (n + 0) 0 0) 0 0 n S 53 [some (zR 37), some (zI g), some (zI v), some (zI (a : Int))] [] Rf (zp V 37 (za (V 37) 30 cm)) := by
            refine wa_ild3 dX7_slideOf_53 ?_
            refine wa_ald0 dX7_slideOf_54 ?_
            refine gX7_7 dX7_slideOf_55 rfl (hL.1 _ (by decide)) ?_
            refine wa_icmp_ge 65 dX7_slideOf_58 (by decide) (by omega) (by simp (decide := true) only [zp_s, za_n, ne_eq]; omega) (fun c58 => ?_) (fun c58 => ?_)
            · simp (decide := true) only [zp_s, za_n, ne_eq] at c58; omega
            · refine wa_ild3 dX7_slideOf_61 ?_
              refine wa_goto 67 dX7_slideOf_62 (by decide) ?_
              exact wa_ireturn dX7_slideOf_67 rfl rfl (Nat.le_refl _) ⟨by rw [if_pos (by omega)], rfl, rfl, rfl⟩
          exact stp
        · refine wa_ald0 dX7_slideOf_32 ?_
          refine wa_dup dX7_slideOf_33 rfl ?_
          refine gX7_189 dX7_slideOf_34 rfl (by first | assumption | exact hL.1 _ (by decide)) ?_
          refine wa_ald0 dX7_slideOf_37 ?_
          refine gX7_13 dX7_slideOf_38 rfl (by first | assumption | exact hL.1 _ (by decide)) (by first | assumption | exact hL.2 _ _ (by decide)) ?_
          refine wa_ild3 dX7_slideOf_41 ?_
          refine wa_iaload dX7_slideOf_42 (by first | assumption | exact hL.1 _ (by decide)) (by first | omega | (simp (decide := true) only [zp_s, zp_n, za_n, ne_eq, Int.toNat_natCast]; omega)) (by first | decide | omega) ?_
          refine wa_iadd dX7_slideOf_43 ?_
          refine pX7_189 dX7_slideOf_44 rfl (by first | assumption | exact hL.1 _ (by decide)) ?_
          refine wa_iinc3 dX7_slideOf_47 (by decide) rfl ?_
          refine wa_goto 14 dX7_slideOf_50 (by decide) ?_
          simp (decide := true) only [zp_n, ne_eq, Int.toNat_natCast] at c29
          rw [if_pos (by omega)] at he
          have h5 := ih (a + 1) (cm + V 38 a) (by omega) he
          simp (decide := true) only [zp_zp, zp_s, zp_n, za_za, za_s, ne_eq, Int.toNat_natCast]
          exact h5
  refine wa_ald0 dX7_slideOf_0 ?_
  refine wa_ald0 dX7_slideOf_1 ?_
  refine gX7_13 dX7_slideOf_2 rfl (by first | assumption | exact hL.1 _ (by decide)) (by first | assumption | exact hL.2 _ _ (by decide)) ?_
  refine wa_ild1 dX7_slideOf_5 ?_
  refine wa_iaload dX7_slideOf_6 (by first | assumption | exact hL.1 _ (by decide)) (by omega) (by first | decide | omega) ?_
  refine pX7_189 dX7_slideOf_7 rfl (by first | assumption | exact hL.1 _ (by decide)) ?_
  refine wa_ild1 dX7_slideOf_10 ?_
  refine wa_iconst dX7_slideOf_11 ?_
  refine wa_iadd dX7_slideOf_12 ?_
  refine wa_ist3 dX7_slideOf_13 (by decide) rfl ?_
  have h5 := loop (c - 1 - g.toNat) (g.toNat + 1) (V 38 g.toNat) (by omega) hr
  rw [show ((g.toNat + 1 : Nat) : Int) = g + 1 from by omega] at h5
  exact h5
theorem r30 {V : zE} {x : Int} : rfr V (zp V 37 (za (V 37) 30 x)) := ⟨fun k a _ => by rw [zp_n _ _ a], fun j a => by rw [zp_s, za_n _ _ (by omega)]⟩
theorem cm_slide {n c k len : Nat} {S : zH} {Rf : zG} {W V : zE} {F g v w : Int} (hL : Lay S Rf) (hI : CI c k len F W) (hR : RI c k len W V) (hg : -2147483648 ≤ g ∧ g ≤ 2147483647) (hv : -2147483648 ≤ v ∧ v ≤ 2147483647) (hw : -2147483648 ≤ w ∧ w ≤ 2147483647) : Ct 3 0 0 mX7_slide [zR 37, zI g, zI v, zI w] n S Rf V (rQ S Rf V (slX c g v w W)) := by
  obtain ⟨hc, h2, h8, hd, hf, hu, hu3, hs, hflk, hF, hfa, hk, hk8, hsg, hsd, hl, h60, hp, hsc⟩ := hI
  obtain ⟨r0, r38, r39, r40, r41, r3, r4, r7, r8, r9, r10, r11, r42, r13, r43⟩ := hR
  have hdg := hd g.toNat
  refine ct_of (by decide) rfl (Nat.le_of_ble_eq_true rfl) ?_
  unfold slX
  refine wa_ald0 dX7_slide_0 ?_
  refine wa_ild1 dX7_slide_1 ?_
  refine kX7_95 dX7_slide_2 rfl (by first | assumption | exact hL.1 _ (by decide)) (cm_isGarden hL r0 h8 hg) (by decide) (Nat.le_of_ble_eq_true rfl) ⟨Nat.le_refl _, Nat.le_refl _⟩ (zdI ?_)
  refine wa_ifne_B 10 dX7_slide_5 (by decide) (fun c5 => ?_) (fun c5 => ?_)
  · refine wa_ild2 dX7_slide_10 ?_
    refine wa_iconst dX7_slide_11 ?_
    refine wa_sipush dX7_slide_12 (by decide) ?_
    refine kX7_91 dX7_slide_15 rfl (cm_in hv (by decide) (by decide)) (by decide) (Nat.le_of_ble_eq_true rfl) ⟨Nat.le_refl _, Nat.le_refl _⟩ (zdI ?_)
    refine wa_ifeq_B 30 dX7_slide_18 (by decide) (fun c18 => ?_) (fun c18 => ?_)
    · refine wa_bipush dX7_slide_30 (by decide) ?_
      exact wa_ireturn dX7_slide_32 rfl rfl (Nat.le_refl _) (by exact ⟨by rw [if_neg (fun q => q c5), if_pos (by omega)], rfl, rfl, rfr_rf⟩)
    · refine wa_ild3 dX7_slide_21 ?_
      refine wa_iconst dX7_slide_22 ?_
      refine wa_iconst dX7_slide_23 ?_
      refine kX7_91 dX7_slide_24 rfl (cm_in hw (by decide) (by decide)) (by decide) (Nat.le_of_ble_eq_true rfl) ⟨Nat.le_refl _, Nat.le_refl _⟩ (zdI ?_)
      refine wa_ifne_B 33 dX7_slide_27 (by decide) (fun c27 => ?_) (fun c27 => ?_)
      · refine wa_ald0 dX7_slide_33 ?_
        refine gX7_13 dX7_slide_34 rfl (by first | assumption | exact hL.1 _ (by decide)) (by first | assumption | exact hL.2 _ _ (by decide)) ?_
        refine wa_ild1 dX7_slide_37 ?_
        refine wa_iaload dX7_slide_38 (by first | assumption | exact hL.1 _ (by decide)) (by first | omega | (rw [r38]; omega)) (by first | decide | omega) ?_
        refine wa_ild2 dX7_slide_39 ?_
        refine wa_icmp_ge 46 dX7_slide_40 (by decide) (by first | omega | (rw [r38]; omega)) (by first | omega | (rw [r38]; omega)) (fun c40 => ?_) (fun c40 => ?_)
        · refine wa_ald0 dX7_slide_46 ?_
          refine wa_ild1 dX7_slide_47 ?_
          refine wa_ild2 dX7_slide_48 ?_
          refine kX7_192 dX7_slide_49 rfl (by first | assumption | exact hL.1 _ (by decide)) (cm_slideOf hL r0 h2 h8 c5 c18 (fun j => by rw [r38]; exact hd j)) (by decide) (Nat.le_of_ble_eq_true rfl) ⟨Nat.le_refl _, Nat.le_refl _⟩ (zdI ?_)
          refine wa_ist4 dX7_slide_52 (by decide) rfl ?_
          refine wa_ild3 dX7_slide_54 ?_
          refine wa_if_ne 63 dX7_slide_55 (by decide) (by first | omega | (rw [r38]; omega)) (fun c55 => ?_) (fun c55 => ?_)
          · refine wa_ald0 dX7_slide_63 ?_
            refine gX7_189 dX7_slide_64 rfl (by first | assumption | exact hL.1 _ (by decide)) ?_
            refine wa_ireturn dX7_slide_67 rfl rfl (Nat.le_refl _) ?_
            rw [r38] at c40
            refine ⟨?_, rfl, rfl, r30⟩
            have n0 : ¬ ¬ (0 ≤ g ∧ g < (c : Int)) := fun q => q c5
            have n1 : ¬ ((v < 1 ∨ 999 < v) ∨ (w < 0 ∨ 1 < w)) := by omega
            have n2 : ¬ W 2 g.toNat < v := by omega
            by_cases hw1 : w = 1
            · first | (exfalso; omega) | simp only [if_neg n0, if_neg n1, if_neg n2, if_pos hw1, r38, zp_s, za_s]
            · first | (exfalso; omega) | simp only [if_neg n0, if_neg n1, if_neg n2, if_neg hw1, r38]
          · refine wa_ild4 dX7_slide_58 ?_
            refine wa_goto 67 dX7_slide_60 (by decide) ?_
            refine wa_ireturn dX7_slide_67 rfl rfl (Nat.le_refl _) ?_
            rw [r38] at c40
            refine ⟨?_, rfl, rfl, r30⟩
            have n0 : ¬ ¬ (0 ≤ g ∧ g < (c : Int)) := fun q => q c5
            have n1 : ¬ ((v < 1 ∨ 999 < v) ∨ (w < 0 ∨ 1 < w)) := by omega
            have n2 : ¬ W 2 g.toNat < v := by omega
            by_cases hw1 : w = 1
            · first | (exfalso; omega) | simp only [if_neg n0, if_neg n1, if_neg n2, if_pos hw1, r38, zp_s, za_s]
            · first | (exfalso; omega) | simp only [if_neg n0, if_neg n1, if_neg n2, if_neg hw1, r38]
        · refine wa_bipush dX7_slide_43 (by decide) ?_
          refine wa_ireturn dX7_slide_45 rfl rfl (Nat.le_refl _) ?_
          rw [r38] at c40
          exact ⟨by rw [if_neg (fun q => q c5), if_neg (by omega), if_pos c40], rfl, rfl, rfr_rf⟩
      · refine wa_bipush dX7_slide_30 (by decide) ?_
        exact wa_ireturn dX7_slide_32 rfl rfl (Nat.le_refl _) (by exact ⟨by rw [if_neg (fun q => q c5), if_pos (by omega)], rfl, rfl, rfr_rf⟩)
  · refine wa_iconst dX7_slide_8 ?_
    exact wa_ireturn dX7_slide_9 rfl rfl (Nat.le_refl _) (by exact ⟨by rw [if_pos c5], rfl, rfl, rfr_rf⟩)
theorem slR_h {d : Nat → Int} {v : Int} : ∀ (q a : Nat) (cm : Int), (slR d v q a cm).2 < a + q ↔ ∃ j, j < q ∧ d (a + j) < v := by
  intro q
  induction q with
  | zero => intro a cm; simp [slR]
  | succ q ih =>
    intro a cm
    rw [slR]
    split
    · next h =>
      rw [show a + (q + 1) = (a + 1) + q by omega, ih]
      constructor
      · rintro ⟨j, h1, h2⟩; exact ⟨j + 1, by omega, by rw [show a + (j + 1) = a + 1 + j by omega]; exact h2⟩
      · rintro ⟨j, h1, h2⟩
        rcases j with _ | j
        · rw [Nat.add_zero] at h2; omega
        · exact ⟨j, by omega, by rw [show a + 1 + j = a + (j + 1) by omega]; exact h2⟩
    · next h =>
      exact ⟨fun _ => ⟨0, by omega, by rw [Nat.add_zero]; omega⟩, fun _ => by dsimp only; omega⟩
theorem hlF_h {d : Nat → Int} {v : Int} {a : Nat} (hv : v ≤ 999) : ∀ q, hlF d a q ≤ v ↔ ∃ j, j < q ∧ d (a + j) < v := by
  intro q
  induction q with
  | zero => rw [hlF]; exact ⟨fun h => by omega, fun ⟨j, h, _⟩ => by omega⟩
  | succ q ih =>
    rw [hlF]
    constructor
    · intro h
      by_cases h1 : d (a + q) < v
      · exact ⟨q, by omega, h1⟩
      · obtain ⟨j, h2, h3⟩ := ih.mp (by omega); exact ⟨j, by omega, h3⟩
    · rintro ⟨j, h2, h3⟩
      by_cases h1 : j = q
      · subst h1; omega
      · have := ih.mpr ⟨j, by omega, h3⟩; omega
theorem cm_holds {n c k len : Nat} {S : zH} {Rf : zG} {W V : zE} {F g : Int} (hL : Lay S Rf) (hI : CI c k len F W) (hR : RI c k len W V) (hg : -2147483648 ≤ g ∧ g ≤ 2147483647) : Ct 3 0 0 mX7_holds [zR 37, zI g] n S Rf V (rQ S Rf V (hoX c g W)) := by
  obtain ⟨hc, h2, h8, hd, hf, hu, hu3, hs, hflk, hF, hfa, hk, hk8, hsg, hsd, hl, h60, hp, hsc⟩ := hI
  have hR0 := hR
  obtain ⟨r0, r38, r39, r40, r41, r3, r4, r7, r8, r9, r10, r11, r42, r13, r43⟩ := hR
  have hdg := hd g.toNat
  refine ct_of (by decide) rfl (Nat.le_of_ble_eq_true rfl) ?_
  unfold hoX
  have loop : ∀ (m v : Nat) (V1 : zE), 0 ≤ g ∧ g < (c : Int) → rfr V V1 → (v : Int) + m = W 2 g.toNat + 1 → 1 ≤ v → (v : Int) ≤ hlF (W 2) (g.toNat + 1) (c - 1 - g.toNat) → Wa zXn mX7_holds (zrm 3 0 0) (zZm (rQ S Rf V (if hlF (W 2) (g.toNat + 1) (c - 1 - g.toNat) ≤ W 2 g.toNat then hlF (W 2) (g.toNat + 1) (c - 1 - g.toNat) else -6)) (n + 0) 0 0) 0 0 n S 24 [some (zR 37), some (zI g), some (zI (v : Int))] [] Rf V1 := by
    intro m
    induction m with
    | zero =>
      intro v V1 hgc hf1 hv h1 hlo
      have s38 := (hf1.1 38 (by decide) (by decide)).trans r38
      refine wa_ild2 dX7_holds_24 ?_
      refine wa_ald0 dX7_holds_25 ?_
      refine gX7_13 dX7_holds_26 rfl (by first | assumption | exact hL.1 _ (by decide)) (by first | assumption | exact hL.2 _ _ (by decide)) ?_
      refine wa_ild1 dX7_holds_29 ?_
      refine wa_iaload dX7_holds_30 (by first | assumption | exact hL.1 _ (by decide)) (by first | omega | (rw [s38]; omega)) (by first | decide | omega) ?_
      refine wa_icmp_gt 51 dX7_holds_31 (by decide) (by first | omega | (rw [s38]; omega)) (by first | omega | (rw [s38]; omega)) (fun c31 => ?_) (fun c31 => ?_)
      · refine wa_bipush dX7_holds_51 (by decide) ?_
        exact wa_ireturn dX7_holds_53 rfl rfl (Nat.le_refl _) (by exact ⟨by rw [if_neg (by omega)], rfl, rfl, hf1⟩)
      · rw [s38] at c31; omega
    | succ m ih =>
      intro v V1 hgc hf1 hv h1 hlo
      have s38 := (hf1.1 38 (by decide) (by decide)).trans r38
      have s0 := (hf1.2 0 (by decide)).trans r0
      have key : (slR (W 2) v (c - 1 - g.toNat) (g.toNat + 1) (W 2 g.toNat)).2 < c ↔ hlF (W 2) (g.toNat + 1) (c - 1 - g.toNat) ≤ v := by
        rw [hlF_h (by omega), ← slR_h (c - 1 - g.toNat) (g.toNat + 1) (W 2 g.toNat), show g.toNat + 1 + (c - 1 - g.toNat) = c by omega]
      refine wa_ild2 dX7_holds_24 ?_
      refine wa_ald0 dX7_holds_25 ?_
      refine gX7_13 dX7_holds_26 rfl (by first | assumption | exact hL.1 _ (by decide)) (by first | assumption | exact hL.2 _ _ (by decide)) ?_
      refine wa_ild1 dX7_holds_29 ?_
      refine wa_iaload dX7_holds_30 (by first | assumption | exact hL.1 _ (by decide)) (by first | omega | (rw [s38]; omega) | (split <;> omega)) (by first | decide | omega) ?_
      refine wa_icmp_gt 51 dX7_holds_31 (by decide) (by first | omega | (rw [s38]; omega) | (split <;> omega)) (by first | omega | (rw [s38]; omega) | (split <;> omega)) (fun c31 => ?_) (fun c31 => ?_)
      · rw [s38] at c31; omega
      · refine wa_ald0 dX7_holds_34 ?_
        refine wa_ild1 dX7_holds_35 ?_
        refine wa_ild2 dX7_holds_36 ?_
        refine kX7_192 dX7_holds_37 rfl (by first | assumption | exact hL.1 _ (by decide)) (cm_slideOf hL s0 h2 h8 hgc (by omega) (fun j => by rw [s38]; exact hd j)) (by decide) (Nat.le_of_ble_eq_true rfl) ⟨Nat.le_refl _, Nat.le_refl _⟩ (zdI ?_)
        rw [s38]
        have hb := slR_le (d := W 2) (v := (v : Int)) (c - 1 - g.toNat) (g.toNat + 1) (W 2 g.toNat)
        refine wa_if_lt 45 dX7_holds_40 (by decide) (by first | omega | (rw [s38]; omega) | (split <;> omega)) (fun c40 => ?_) (fun c40 => ?_)
        · refine wa_iinc2 dX7_holds_45 (by decide) rfl ?_
          refine wa_goto 24 dX7_holds_48 (by decide) ?_
          by_cases hq : (slR (W 2) v (c - 1 - g.toNat) (g.toNat + 1) (W 2 g.toNat)).2 < c
          · rw [if_pos hq] at c40; omega
          · have h5 := fun h => hq (key.mpr h)
            exact ih (v + 1) _ hgc (hf1.trans r30) (by omega) (by omega) (by omega)
        · refine wa_ild2 dX7_holds_43 ?_
          refine wa_ireturn dX7_holds_44 rfl rfl (Nat.le_refl _) ?_
          by_cases hq : (slR (W 2) v (c - 1 - g.toNat) (g.toNat + 1) (W 2 g.toNat)).2 < c
          · have h5 := key.mp hq
            refine ⟨?_, rfl, rfl, hf1.trans r30⟩
            rw [if_pos (by omega)]; congr 2; omega
          · rw [if_neg hq] at c40; omega
  refine wa_ald0 dX7_holds_0 ?_
  refine wa_ild1 dX7_holds_1 ?_
  refine kX7_95 dX7_holds_2 rfl (by first | assumption | exact hL.1 _ (by decide)) (cm_isGarden hL r0 h8 hg) (by decide) (Nat.le_of_ble_eq_true rfl) ⟨Nat.le_refl _, Nat.le_refl _⟩ (zdI ?_)
  refine wa_ifne_B 10 dX7_holds_5 (by decide) (fun c5 => ?_) (fun c5 => ?_)
  · refine wa_ald0 dX7_holds_10 ?_
    refine gX7_13 dX7_holds_11 rfl (by first | assumption | exact hL.1 _ (by decide)) (by first | assumption | exact hL.2 _ _ (by decide)) ?_
    refine wa_ild1 dX7_holds_14 ?_
    refine wa_iaload dX7_holds_15 (by first | assumption | exact hL.1 _ (by decide)) (by first | omega | (rw [r38]; omega)) (by first | decide | omega) ?_
    refine wa_if_ne 22 dX7_holds_16 (by decide) (by first | omega | (rw [r38]; omega)) (fun c16 => ?_) (fun c16 => ?_)
    · refine wa_iconst dX7_holds_22 ?_
      refine wa_ist2 dX7_holds_23 (by decide) rfl ?_
      rw [r38] at c16
      rw [if_neg (fun q => q c5), if_neg c16]
      exact loop (W 2 g.toNat).toNat 1 V c5 rfr_rf (by omega) (by omega) (hlF_b hd _).1
    · refine wa_bipush dX7_holds_19 (by decide) ?_
      refine wa_ireturn dX7_holds_21 rfl rfl (Nat.le_refl _) ?_
      rw [r38] at c16
      exact ⟨by rw [if_neg (fun q => q c5), if_pos c16], rfl, rfl, rfr_rf⟩
  · refine wa_iconst dX7_holds_8 ?_
    exact wa_ireturn dX7_holds_9 rfl rfl (Nat.le_refl _) (by exact ⟨by rw [if_pos c5], rfl, rfl, rfr_rf⟩)
