/-! the reference: calls that change -/
def rfm (V V' : zE) : Prop := ∀ k, k < 37 ∨ 52 < k → V' k = V k
abbrev rM (S : zH) (Rf : zG) (V : zE) (x : Int) (c k len : Nat) (W : zE) : zQ := fun v S' Rf' V' => v = some (zI x) ∧ S' = S ∧ Rf' = Rf ∧ rfm V V' ∧ RI c k len W V'
theorem rfr.m {V V' : zE} (h : rfr V V') : rfm V V' := fun k hk => h.1 k (by omega) (by omega)
def clV (F : Nat → Int) (V : zE) : zE := zp (zp (zp (zp (zp V 37 (za (za (za (V 37) 3 0) 4 0) 11 0)) 38 (fun _ => 0)) 39 (fun _ => 20)) 40 (fun _ => 0)) 41 F
theorem cm_clear {n : Nat} {S : zH} {Rf : zG} {V : zE} (F : Nat → Int) (hF : ∀ j, j < 64 → F j = 0) (hL : Lay S Rf) : Cv 1 mX7_clear [zR 37] n S Rf V (clV F V) := by
  refine ct_of (by decide) rfl (Nat.le_of_ble_eq_true rfl) ?_
  have loop2 : ∀ (m i : Nat) (V1 : zE) (f : Nat → Int), i + m = 64 → (∀ j, j < i → f j = 0) → zp V1 41 F = clV F V → Wa zXn mX7_clear (zrm 1 0 0) (zZm (qN S Rf (clV F V)) (n + 0) 0 0) 0 0 n S 53 [some (zR 37), some (zI (i : Int))] [] Rf (zp V1 41 f) := by
    intro m
    induction m with
    | zero =>
      intro i V1 f hi hf he
      refine wa_row (hL.1 41 (by decide)) F (fun j hj => by rw [zp_s, hF j hj]; exact hf j (by omega)) ?_
      rw [zp_zp]
      refine wa_ild1 dX7_clear_53 ?_
      refine wa_bipush dX7_clear_54 (by decide) ?_
      refine wa_icmp_ge 72 dX7_clear_56 (by decide) (by omega) (by omega) (fun c56 => ?_) (fun c56 => ?_)
      · exact wa_return dX7_clear_72 rfl rfl (Nat.le_refl _) (by exact ⟨rfl, rfl, rfl, he⟩)
      · exact absurd c56 (by omega)
    | succ m ih =>
      intro i V1 f hi hf he
      refine wa_ild1 dX7_clear_53 ?_
      refine wa_bipush dX7_clear_54 (by decide) ?_
      refine wa_icmp_ge 72 dX7_clear_56 (by decide) (by omega) (by omega) (fun c56 => ?_) (fun c56 => ?_)
      · exact absurd c56 (by omega)
      · refine wa_ald0 dX7_clear_59 ?_
        refine gX7_23 dX7_clear_60 rfl (by first | assumption | exact hL.1 _ (by decide)) (by first | assumption | exact hL.2 _ _ (by decide)) ?_
        refine wa_ild1 dX7_clear_63 ?_
        refine wa_iconst dX7_clear_64 ?_
        refine wa_iastore dX7_clear_65 (by first | assumption | exact hL.1 _ (by decide)) (by omega) (by first | decide | omega) ?_
        refine wa_iinc1 dX7_clear_66 (by decide) rfl ?_
        refine wa_goto 53 dX7_clear_69 (by decide) ?_
        rw [zp_zp, zp_s, Int.toNat_natCast]
        exact ih (i + 1) V1 (za f i 0) (by omega) (fun j hj => by by_cases h : j = i; subst h; rw [za_s]; rw [za_n _ _ h]; exact hf j (by omega)) he
  have loop1 : ∀ (m i : Nat) (V1 : zE) (f g h : Nat → Int), i + m = 8 → (∀ j, j < i → f j = 0) → (∀ j, j < i → g j = 20) → (∀ j, j < i → h j = 0) → zp (zp (zp (zp V1 38 (fun _ => 0)) 39 (fun _ => 20)) 40 (fun _ => 0)) 41 F = clV F V → Wa zXn mX7_clear (zrm 1 0 0) (zZm (qN S Rf (clV F V)) (n + 0) 0 0) 0 0 n S 17 [some (zR 37), some (zI (i : Int))] [] Rf (zp (zp (zp V1 38 f) 39 g) 40 h) := by
    intro m
    induction m with
    | zero =>
      intro i V1 f g h hi hf hg hh he
      refine wa_row (hL.1 40 (by decide)) (fun _ => 0) (fun j hj => by rw [zp_s]; exact hh j (by omega)) ?_
      refine wa_row (hL.1 39 (by decide)) (fun _ => 20) (fun j hj => by rw [zp_n _ _ (by decide), zp_n _ _ (by decide), zp_s]; exact hg j (by omega)) ?_
      refine wa_row (hL.1 38 (by decide)) (fun _ => 0) (fun j hj => by rw [zp_n _ _ (by decide), zp_n _ _ (by decide), zp_n _ _ (by decide), zp_n _ _ (by decide), zp_s]; exact hf j (by omega)) ?_
      refine wa_eqV (V' := zp (zp (zp V1 38 (fun _ => 0)) 39 (fun _ => 20)) 40 (fun _ => 0)) ?_ ?_
      · refine zp_of3 (by decide) (by decide) (by decide) (fun k a1 a2 a3 => ?_) ?_ ?_ ?_
        · simp only [zp_n _ _ a1, zp_n _ _ a2, zp_n _ _ a3]
        · simp (decide := true) only [zp_s, zp_n, ne_eq]
        · simp (decide := true) only [zp_s, zp_n, ne_eq]
        · simp (decide := true) only [zp_s, zp_n, ne_eq]
      refine wa_ild1 dX7_clear_17 ?_
      refine wa_bipush dX7_clear_18 (by decide) ?_
      refine wa_icmp_ge 51 dX7_clear_20 (by decide) (by omega) (by omega) (fun c20 => ?_) (fun c20 => ?_)
      · refine wa_iconst dX7_clear_51 ?_
        refine wa_ist1 dX7_clear_52 (by decide) rfl ?_
        refine wa_eqV (zp_self _ 41).symm ?_
        exact loop2 64 0 _ _ (by omega) (fun j hj => absurd hj (by omega)) he
      · exact absurd c20 (by omega)
    | succ m ih =>
      intro i V1 f g h hi hf hg hh he
      refine wa_ild1 dX7_clear_17 ?_
      refine wa_bipush dX7_clear_18 (by decide) ?_
      refine wa_icmp_ge 51 dX7_clear_20 (by decide) (by omega) (by omega) (fun c20 => ?_) (fun c20 => ?_)
      · exact absurd c20 (by omega)
      · refine wa_ald0 dX7_clear_23 ?_
        refine gX7_13 dX7_clear_24 rfl (by first | assumption | exact hL.1 _ (by decide)) (by first | assumption | exact hL.2 _ _ (by decide)) ?_
        refine wa_ild1 dX7_clear_27 ?_
        refine wa_iconst dX7_clear_28 ?_
        refine wa_iastore dX7_clear_29 (by first | assumption | exact hL.1 _ (by decide)) (by omega) (by first | decide | omega) ?_
        refine wa_ald0 dX7_clear_30 ?_
        refine gX7_17 dX7_clear_31 rfl (by first | assumption | exact hL.1 _ (by decide)) (by first | assumption | exact hL.2 _ _ (by decide)) ?_
        refine wa_ild1 dX7_clear_34 ?_
        refine wa_bipush dX7_clear_35 (by decide) ?_
        refine wa_iastore dX7_clear_37 (by first | assumption | exact hL.1 _ (by decide)) (by omega) (by first | decide | omega) ?_
        refine wa_ald0 dX7_clear_38 ?_
        refine gX7_20 dX7_clear_39 rfl (by first | assumption | exact hL.1 _ (by decide)) (by first | assumption | exact hL.2 _ _ (by decide)) ?_
        refine wa_ild1 dX7_clear_42 ?_
        refine wa_iconst dX7_clear_43 ?_
        refine wa_iastore dX7_clear_44 (by first | assumption | exact hL.1 _ (by decide)) (by omega) (by first | decide | omega) ?_
        refine wa_iinc1 dX7_clear_45 (by decide) rfl ?_
        refine wa_goto 17 dX7_clear_48 (by decide) ?_
        refine wa_eqV ?_ (ih (i + 1) V1 (za f i 0) (za g i 20) (za h i 0) (by omega) (fun j hj => by by_cases q : j = i; subst q; rw [za_s]; rw [za_n _ _ q]; exact hf j (by omega)) (fun j hj => by by_cases q : j = i; subst q; rw [za_s]; rw [za_n _ _ q]; exact hg j (by omega)) (fun j hj => by by_cases q : j = i; subst q; rw [za_s]; rw [za_n _ _ q]; exact hh j (by omega)) he)
        refine zp_of3 (by decide) (by decide) (by decide) (fun k a1 a2 a3 => ?_) ?_ ?_ ?_
        · simp only [zp_n _ _ a1, zp_n _ _ a2, zp_n _ _ a3]
        · simp (decide := true) only [zp_s, zp_n, ne_eq, Int.toNat_natCast]
        · simp (decide := true) only [zp_s, zp_n, ne_eq, Int.toNat_natCast]
        · simp (decide := true) only [zp_s, zp_n, ne_eq, Int.toNat_natCast]
  refine wa_ald0 dX7_clear_0 ?_
  refine wa_iconst dX7_clear_1 ?_
  refine pX7_82 dX7_clear_2 rfl (by first | assumption | exact hL.1 _ (by decide)) ?_
  refine wa_ald0 dX7_clear_5 ?_
  refine wa_iconst dX7_clear_6 ?_
  refine pX7_85 dX7_clear_7 rfl (by first | assumption | exact hL.1 _ (by decide)) ?_
  refine wa_ald0 dX7_clear_10 ?_
  refine wa_iconst dX7_clear_11 ?_
  refine pX7_88 dX7_clear_12 rfl (by first | assumption | exact hL.1 _ (by decide)) ?_
  refine wa_iconst dX7_clear_15 ?_
  refine wa_ist1 dX7_clear_16 (by decide) rfl ?_
  refine wa_eqV (V' := zp V 37 (za (za (za (V 37) 3 0) 4 0) 11 0)) ?_ ?_
  · simp (decide := true) only [zp_zp, zp_s, za_n, ne_eq]
  · have hh := loop1 8 0 (zp V 37 (za (za (za (V 37) 3 0) 4 0) 11 0)) (zp V 37 (za (za (za (V 37) 3 0) 4 0) 11 0) 38) (zp V 37 (za (za (za (V 37) 3 0) 4 0) 11 0) 39) (zp V 37 (za (za (za (V 37) 3 0) 4 0) 11 0) 40) (by omega) (fun j hj => absurd hj (by omega)) (fun j hj => absurd hj (by omega)) (fun j hj => absurd hj (by omega)) rfl
    rw [zp_self, zp_self, zp_self] at hh
    exact hh
theorem cm_gardens {n c k len : Nat} {S : zH} {Rf : zG} {W V : zE} {F m : Int} (hL : Lay S Rf) (hI : CI c k len F W) (hfl : flI c (vw 1 W)) (hR : RI c k len W V) (hm : -2147483648 ≤ m ∧ m ≤ 2147483647) : Ct 2 0 0 mX7_gardens [zR 37, zI m] n S Rf V (rM S Rf V (gnX m W) (if m < 2 ∨ 8 < m then c else m.toNat) (if m < 2 ∨ 8 < m then k else 0) len (gnV m W)) := by
  have hR0 := hR
  obtain ⟨r0, r38, r39, r40, r41, r3, r4, r7, r8, r9, r10, r11, r42, r13, r43⟩ := hR
  refine ct_of (by decide) rfl (Nat.le_of_ble_eq_true rfl) ?_
  unfold gnX gnV
  refine wa_ild1 dX7_gardens_0 ?_
  refine wa_iconst dX7_gardens_1 ?_
  refine wa_bipush dX7_gardens_2 (by decide) ?_
  refine kX7_91 dX7_gardens_4 rfl (cm_in hm (by decide) (by decide)) (by decide) (Nat.le_of_ble_eq_true rfl) ⟨Nat.le_refl _, Nat.le_refl _⟩ (zdI ?_)
  refine wa_ifne_B 13 dX7_gardens_7 (by decide) (fun c7 => ?_) (fun c7 => ?_)
  · refine wa_ald0 dX7_gardens_13 ?_
    refine gX7_7 dX7_gardens_14 rfl (by first | assumption | exact hL.1 _ (by decide)) ?_
    refine wa_ist2 dX7_gardens_17 (by decide) rfl ?_
    refine wa_ald0 dX7_gardens_18 ?_
    refine wa_ild1 dX7_gardens_19 ?_
    refine pX7_7 dX7_gardens_20 rfl (by first | assumption | exact hL.1 _ (by decide)) ?_
    refine wa_ald0 dX7_gardens_23 ?_
    refine kX7_79 dX7_gardens_24 rfl (by first | assumption | exact hL.1 _ (by decide)) (cm_clear (fgF (W 5) (W 6)) (fgF_0 hfl) hL) (by decide) (Nat.le_of_ble_eq_true rfl) ⟨Nat.le_refl _, Nat.le_refl _⟩ (zdN ?_)
    refine wa_ild2 dX7_gardens_27 ?_
    refine wa_ireturn dX7_gardens_28 rfl rfl (Nat.le_refl _) ?_
    have hc0 := hI.1
    refine ⟨by rw [if_neg (by omega), r0, hc0], rfl, rfl, fun q hq => ?_, ?_⟩
    · unfold clV; repeat rw [zp_n _ _ (by omega)]
    · rw [if_neg (by omega), if_neg (by omega), if_neg (by omega)]
      unfold RI clV begV forgV
      have hm2 : ((m.toNat : Nat) : Int) = m := by omega
      simp (decide := true) only [zp_zp, zp_s, zp_n, za_s, za_n, ne_eq, hm2, r7, r8, r9, r10, r13, r43]
      simp (decide := true) only [Nat.reduceAdd, zp_s, zp_n, za_s, za_n, ne_eq, true_and, Int.natCast_zero, Int.ofNat_zero]
      first | exact r42 | (refine ⟨r42, ?_⟩; simp)
  · refine wa_bipush dX7_gardens_10 (by decide) ?_
    refine wa_ireturn dX7_gardens_12 rfl rfl (Nat.le_refl _) ?_
    refine ⟨by rw [if_pos (by omega)], rfl, rfl, fun _ _ => rfl, ?_⟩
    rw [if_pos (by omega), if_pos (by omega), if_pos (by omega)]; exact hR0
theorem cm_garden {n c k len : Nat} {S : zH} {Rf : zG} {W V : zE} {F g w v : Int} (hL : Lay S Rf) (hI : CI c k len F W) (hR : RI c k len W V) (hg : -2147483648 ≤ g ∧ g ≤ 2147483647) (hw : -2147483648 ≤ w ∧ w ≤ 2147483647) (hv : -2147483648 ≤ v ∧ v ≤ 2147483647) : Ct 3 0 0 mX7_garden [zR 37, zI g, zI w, zI v] n S Rf V (rM S Rf V (gdX c g w v W) c k len (gdV c g w v W)) := by
  have hR0 := hR
  have h8 := hI.2.2.1
  obtain ⟨r0, r38, r39, r40, r41, r3, r4, r7, r8, r9, r10, r11, r42, r13, r43⟩ := hR
  refine ct_of (by decide) rfl (Nat.le_of_ble_eq_true rfl) ?_
  unfold gdX gdV
  refine wa_ald0 dX7_garden_0 ?_
  refine wa_ild1 dX7_garden_1 ?_
  refine kX7_95 dX7_garden_2 rfl (by first | assumption | exact hL.1 _ (by decide)) (cm_isGarden hL r0 h8 hg) (by decide) (Nat.le_of_ble_eq_true rfl) ⟨Nat.le_refl _, Nat.le_refl _⟩ (zdI ?_)
  refine wa_ifne_B 10 dX7_garden_5 (by decide) (fun c5 => ?_) (fun c5 => ?_)
  · refine wa_ild2 dX7_garden_10 ?_
    refine wa_iconst dX7_garden_11 ?_
    refine wa_iconst dX7_garden_12 ?_
    refine kX7_91 dX7_garden_13 rfl (cm_in hw (by decide) (by decide)) (by decide) (Nat.le_of_ble_eq_true rfl) ⟨Nat.le_refl _, Nat.le_refl _⟩ (zdI ?_)
    refine wa_ifeq_B 30 dX7_garden_16 (by decide) (fun c16 => ?_) (fun c16 => ?_)
    · refine wa_bipush dX7_garden_30 (by decide) ?_
      exact wa_ireturn dX7_garden_32 rfl rfl (Nat.le_refl _) (by exact ⟨by rw [if_neg (fun q => q c5), if_pos (by omega)], rfl, rfl, fun _ _ => rfl, by rw [if_neg (fun q => q c5), if_pos (by omega)]; exact hR0⟩)
    · refine wa_ild3 dX7_garden_19 ?_
      refine wa_iconst dX7_garden_20 ?_
      refine wa_sipush dX7_garden_21 (by decide) ?_
      refine kX7_91 dX7_garden_24 rfl (cm_in hv (by decide) (by decide)) (by decide) (Nat.le_of_ble_eq_true rfl) ⟨Nat.le_refl _, Nat.le_refl _⟩ (zdI ?_)
      refine wa_ifne_B 33 dX7_garden_27 (by decide) (fun c27 => ?_) (fun c27 => ?_)
      · refine wa_ild2 dX7_garden_33 ?_
        refine wa_if_ne 46 dX7_garden_34 (by decide) (by omega) (fun c34 => ?_) (fun c34 => ?_)
        · refine wa_ald0 dX7_garden_46 ?_
          refine gX7_17 dX7_garden_47 rfl (by first | assumption | exact hL.1 _ (by decide)) (by first | assumption | exact hL.2 _ _ (by decide)) ?_
          refine wa_ild1 dX7_garden_50 ?_
          refine wa_iaload dX7_garden_51 (by first | assumption | exact hL.1 _ (by decide)) (by omega) (by first | decide | omega) ?_
          refine wa_ist4 dX7_garden_52 (by decide) rfl ?_
          refine wa_ild2 dX7_garden_54 ?_
          refine wa_if_ne 68 dX7_garden_55 (by decide) (by omega) (fun c55 => ?_) (fun c55 => ?_)
          · refine wa_ald0 dX7_garden_68 ?_
            refine gX7_17 dX7_garden_69 rfl (by first | assumption | exact hL.1 _ (by decide)) (by first | assumption | exact hL.2 _ _ (by decide)) ?_
            refine wa_ild1 dX7_garden_72 ?_
            refine wa_ild3 dX7_garden_73 ?_
            refine wa_iastore dX7_garden_74 (by first | assumption | exact hL.1 _ (by decide)) (by omega) (by first | decide | omega) ?_
            refine wa_ald0 dX7_garden_75 ?_
            refine wa_dup dX7_garden_76 rfl ?_
            refine gX7_82 dX7_garden_77 rfl (by first | assumption | exact hL.1 _ (by decide)) ?_
            refine wa_iconst dX7_garden_80 ?_
            refine wa_ild1 dX7_garden_81 ?_
            refine wa_ishl1 dX7_garden_82 (by omega) ?_
            refine wa_iconst dX7_garden_83 ?_
            refine wa_ixor dX7_garden_84 ?_
            refine wa_iand dX7_garden_85 ?_
            refine pX7_82 dX7_garden_86 rfl (by first | assumption | exact hL.1 _ (by decide)) ?_
            refine wa_ild4 dX7_garden_89 ?_
            refine wa_ireturn dX7_garden_91 rfl rfl (Nat.le_refl _) ?_
            first
              | (exfalso; omega)
              | (have n1 : ¬ ¬ (0 ≤ g ∧ g < (c : Int)) := fun q => q c5
                 have n2 : ¬ ((w < 0 ∨ 1 < w) ∨ v < 0 ∨ 999 < v) := by omega
                 by_cases hw0 : w = 0
                 · first
                     | (exfalso; omega)
                     | (simp only [if_neg n1, if_neg n2, if_pos hw0]
                        refine ⟨by rw [r38], rfl, rfl, fun q hq => by rw [zp_n _ _ (by omega)], ?_⟩
                        unfold RI
                        simp (decide := true) only [zp_s, zp_n, ne_eq, r0, r38, r39, r40, r41, r3, r4, r7, r8, r9, r10, r11, r13, r43, true_and]
                        first | exact r42 | (refine ⟨r42, ?_⟩; simp))
                 · first
                     | (exfalso; omega)
                     | (simp only [if_neg n1, if_neg n2, if_neg hw0]
                        refine ⟨by rw [r39], rfl, rfl, fun q hq => by rw [zp_n _ _ (by omega), zp_n _ _ (by omega)], ?_⟩
                        unfold RI
                        simp (decide := true) only [zp_s, zp_n, za_s, za_n, ne_eq, r0, r38, r39, r40, r41, r3, r4, r7, r8, r9, r10, r11, r13, r43, true_and]
                        first | exact r42 | (refine ⟨r42, ?_⟩; simp)))
          · refine wa_ald0 dX7_garden_58 ?_
            refine gX7_13 dX7_garden_59 rfl (by first | assumption | exact hL.1 _ (by decide)) (by first | assumption | exact hL.2 _ _ (by decide)) ?_
            refine wa_ild1 dX7_garden_62 ?_
            refine wa_ild3 dX7_garden_63 ?_
            refine wa_iastore dX7_garden_64 (by first | assumption | exact hL.1 _ (by decide)) (by omega) (by first | decide | omega) ?_
            refine wa_goto 89 dX7_garden_65 (by decide) ?_
            refine wa_ild4 dX7_garden_89 ?_
            refine wa_ireturn dX7_garden_91 rfl rfl (Nat.le_refl _) ?_
            first
              | (exfalso; omega)
              | (have n1 : ¬ ¬ (0 ≤ g ∧ g < (c : Int)) := fun q => q c5
                 have n2 : ¬ ((w < 0 ∨ 1 < w) ∨ v < 0 ∨ 999 < v) := by omega
                 by_cases hw0 : w = 0
                 · first
                     | (exfalso; omega)
                     | (simp only [if_neg n1, if_neg n2, if_pos hw0]
                        refine ⟨by rw [r38], rfl, rfl, fun q hq => by rw [zp_n _ _ (by omega)], ?_⟩
                        unfold RI
                        simp (decide := true) only [zp_s, zp_n, ne_eq, r0, r38, r39, r40, r41, r3, r4, r7, r8, r9, r10, r11, r13, r43, true_and]
                        first | exact r42 | (refine ⟨r42, ?_⟩; simp))
                 · first
                     | (exfalso; omega)
                     | (simp only [if_neg n1, if_neg n2, if_neg hw0]
                        refine ⟨by rw [r39], rfl, rfl, fun q hq => by rw [zp_n _ _ (by omega), zp_n _ _ (by omega)], ?_⟩
                        unfold RI
                        simp (decide := true) only [zp_s, zp_n, za_s, za_n, ne_eq, r0, r38, r39, r40, r41, r3, r4, r7, r8, r9, r10, r11, r13, r43, true_and]
                        first | exact r42 | (refine ⟨r42, ?_⟩; simp)))
        · refine wa_ald0 dX7_garden_37 ?_
          refine gX7_13 dX7_garden_38 rfl (by first | assumption | exact hL.1 _ (by decide)) (by first | assumption | exact hL.2 _ _ (by decide)) ?_
          refine wa_ild1 dX7_garden_41 ?_
          refine wa_iaload dX7_garden_42 (by first | assumption | exact hL.1 _ (by decide)) (by omega) (by first | decide | omega) ?_
          refine wa_goto 52 dX7_garden_43 (by decide) ?_
          refine wa_ist4 dX7_garden_52 (by decide) rfl ?_
          refine wa_ild2 dX7_garden_54 ?_
          refine wa_if_ne 68 dX7_garden_55 (by decide) (by omega) (fun c55 => ?_) (fun c55 => ?_)
          · refine wa_ald0 dX7_garden_68 ?_
            refine gX7_17 dX7_garden_69 rfl (by first | assumption | exact hL.1 _ (by decide)) (by first | assumption | exact hL.2 _ _ (by decide)) ?_
            refine wa_ild1 dX7_garden_72 ?_
            refine wa_ild3 dX7_garden_73 ?_
            refine wa_iastore dX7_garden_74 (by first | assumption | exact hL.1 _ (by decide)) (by omega) (by first | decide | omega) ?_
            refine wa_ald0 dX7_garden_75 ?_
            refine wa_dup dX7_garden_76 rfl ?_
            refine gX7_82 dX7_garden_77 rfl (by first | assumption | exact hL.1 _ (by decide)) ?_
            refine wa_iconst dX7_garden_80 ?_
            refine wa_ild1 dX7_garden_81 ?_
            refine wa_ishl1 dX7_garden_82 (by omega) ?_
            refine wa_iconst dX7_garden_83 ?_
            refine wa_ixor dX7_garden_84 ?_
            refine wa_iand dX7_garden_85 ?_
            refine pX7_82 dX7_garden_86 rfl (by first | assumption | exact hL.1 _ (by decide)) ?_
            refine wa_ild4 dX7_garden_89 ?_
            refine wa_ireturn dX7_garden_91 rfl rfl (Nat.le_refl _) ?_
            first
              | (exfalso; omega)
              | (have n1 : ¬ ¬ (0 ≤ g ∧ g < (c : Int)) := fun q => q c5
                 have n2 : ¬ ((w < 0 ∨ 1 < w) ∨ v < 0 ∨ 999 < v) := by omega
                 by_cases hw0 : w = 0
                 · first
                     | (exfalso; omega)
                     | (simp only [if_neg n1, if_neg n2, if_pos hw0]
                        refine ⟨by rw [r38], rfl, rfl, fun q hq => by rw [zp_n _ _ (by omega)], ?_⟩
                        unfold RI
                        simp (decide := true) only [zp_s, zp_n, ne_eq, r0, r38, r39, r40, r41, r3, r4, r7, r8, r9, r10, r11, r13, r43, true_and]
                        first | exact r42 | (refine ⟨r42, ?_⟩; simp))
                 · first
                     | (exfalso; omega)
                     | (simp only [if_neg n1, if_neg n2, if_neg hw0]
                        refine ⟨by rw [r39], rfl, rfl, fun q hq => by rw [zp_n _ _ (by omega), zp_n _ _ (by omega)], ?_⟩
                        unfold RI
                        simp (decide := true) only [zp_s, zp_n, za_s, za_n, ne_eq, r0, r38, r39, r40, r41, r3, r4, r7, r8, r9, r10, r11, r13, r43, true_and]
                        first | exact r42 | (refine ⟨r42, ?_⟩; simp)))
          · refine wa_ald0 dX7_garden_58 ?_
            refine gX7_13 dX7_garden_59 rfl (by first | assumption | exact hL.1 _ (by decide)) (by first | assumption | exact hL.2 _ _ (by decide)) ?_
            refine wa_ild1 dX7_garden_62 ?_
            refine wa_ild3 dX7_garden_63 ?_
            refine wa_iastore dX7_garden_64 (by first | assumption | exact hL.1 _ (by decide)) (by omega) (by first | decide | omega) ?_
            refine wa_goto 89 dX7_garden_65 (by decide) ?_
            refine wa_ild4 dX7_garden_89 ?_
            refine wa_ireturn dX7_garden_91 rfl rfl (Nat.le_refl _) ?_
            first
              | (exfalso; omega)
              | (have n1 : ¬ ¬ (0 ≤ g ∧ g < (c : Int)) := fun q => q c5
                 have n2 : ¬ ((w < 0 ∨ 1 < w) ∨ v < 0 ∨ 999 < v) := by omega
                 by_cases hw0 : w = 0
                 · first
                     | (exfalso; omega)
                     | (simp only [if_neg n1, if_neg n2, if_pos hw0]
                        refine ⟨by rw [r38], rfl, rfl, fun q hq => by rw [zp_n _ _ (by omega)], ?_⟩
                        unfold RI
                        simp (decide := true) only [zp_s, zp_n, ne_eq, r0, r38, r39, r40, r41, r3, r4, r7, r8, r9, r10, r11, r13, r43, true_and]
                        first | exact r42 | (refine ⟨r42, ?_⟩; simp))
                 · first
                     | (exfalso; omega)
                     | (simp only [if_neg n1, if_neg n2, if_neg hw0]
                        refine ⟨by rw [r39], rfl, rfl, fun q hq => by rw [zp_n _ _ (by omega), zp_n _ _ (by omega)], ?_⟩
                        unfold RI
                        simp (decide := true) only [zp_s, zp_n, za_s, za_n, ne_eq, r0, r38, r39, r40, r41, r3, r4, r7, r8, r9, r10, r11, r13, r43, true_and]
                        first | exact r42 | (refine ⟨r42, ?_⟩; simp)))
      · refine wa_bipush dX7_garden_30 (by decide) ?_
        exact wa_ireturn dX7_garden_32 rfl rfl (Nat.le_refl _) (by exact ⟨by rw [if_neg (fun q => q c5), if_pos (by omega)], rfl, rfl, fun _ _ => rfl, by rw [if_neg (fun q => q c5), if_pos (by omega)]; exact hR0⟩)
  · refine wa_iconst dX7_garden_8 ?_
    exact wa_ireturn dX7_garden_9 rfl rfl (Nat.le_refl _) (by exact ⟨by rw [if_pos c5], rfl, rfl, fun _ _ => rfl, by rw [if_pos c5]; exact hR0⟩)
theorem cm_set {n c k len : Nat} {S : zH} {Rf : zG} {W V : zE} {w v : Int} (hL : Lay S Rf) (hR : RI c k len W V) (hw : -2147483648 ≤ w ∧ w ≤ 2147483647) (hv : -2147483648 ≤ v ∧ v ≤ 2147483647) : Ct 2 0 0 mX7_set [zR 37, zI w, zI v] n S Rf V (rM S Rf V (seX w v W) c k len (seV w v W)) := by
  have hR0 := hR
  obtain ⟨r0, r38, r39, r40, r41, r3, r4, r7, r8, r9, r10, r11, r42, r13, r43⟩ := hR
  refine ct_of (by decide) rfl (Nat.le_of_ble_eq_true rfl) ?_
  unfold seX seV
  have rest : ∀ u : Int, u = W 4 w.toNat → 0 ≤ w ∧ w ≤ 3 → ¬ ((w < 0 ∨ 3 < w) ∨ (v < (if w = 3 then 1 else 0) ∨ 9 < v)) → Wa zXn mX7_set (zrm 2 0 0) (zZm (rM S Rf V (if (w < 0 ∨ 3 < w) ∨ (v < (if w = 3 then 1 else 0) ∨ 9 < v) then -2 else W 4 w.toNat) c k len (if (w < 0 ∨ 3 < w) ∨ (v < (if w = 3 then 1 else 0) ∨ 9 < v) then W else zp W 4 (za (W 4) w.toNat v))) (n + 0) 0 0) 0 0 n S 71 [some (zR 37), some (zI w), some (zI v), some (zI u)] [] Rf V := by
    intro u hu0 hw3 hno
    rw [if_neg hno, if_neg hno, hu0]
    clear hno hu0
    refine wa_ald0 dX7_set_71 ?_
    refine wa_ild1 dX7_set_72 ?_
    refine wa_if_ne 80 dX7_set_73 (by decide) (by omega) (fun c73 => ?_) (fun c73 => ?_)
    · refine wa_ald0 dX7_set_80 ?_
      refine gX7_26 dX7_set_81 rfl (by first | assumption | exact hL.1 _ (by decide)) ?_
      refine pX7_26 dX7_set_84 rfl (by first | assumption | exact hL.1 _ (by decide)) ?_
      refine wa_ald0 dX7_set_87 ?_
      refine wa_ild1 dX7_set_88 ?_
      refine wa_iconst dX7_set_89 ?_
      refine wa_icmp_ne 97 dX7_set_90 (by decide) (by omega) (by omega) (fun c90 => ?_) (fun c90 => ?_)
      · refine wa_ald0 dX7_set_97 ?_
        refine gX7_29 dX7_set_98 rfl (by first | assumption | exact hL.1 _ (by decide)) ?_
        refine pX7_29 dX7_set_101 rfl (by first | assumption | exact hL.1 _ (by decide)) ?_
        refine wa_ald0 dX7_set_104 ?_
        refine wa_ild1 dX7_set_105 ?_
        refine wa_iconst dX7_set_106 ?_
        refine wa_icmp_ne 114 dX7_set_107 (by decide) (by omega) (by omega) (fun c107 => ?_) (fun c107 => ?_)
        · refine wa_ald0 dX7_set_114 ?_
          refine gX7_32 dX7_set_115 rfl (by first | assumption | exact hL.1 _ (by decide)) ?_
          refine pX7_32 dX7_set_118 rfl (by first | assumption | exact hL.1 _ (by decide)) ?_
          refine wa_ald0 dX7_set_121 ?_
          refine wa_ild1 dX7_set_122 ?_
          refine wa_iconst dX7_set_123 ?_
          refine wa_icmp_ne 131 dX7_set_124 (by decide) (by omega) (by omega) (fun c124 => ?_) (fun c124 => ?_)
          · refine wa_ald0 dX7_set_131 ?_
            refine gX7_35 dX7_set_132 rfl (by first | assumption | exact hL.1 _ (by decide)) ?_
            refine pX7_35 dX7_set_135 rfl (by first | assumption | exact hL.1 _ (by decide)) ?_
            refine wa_ild3 dX7_set_138 ?_
            refine wa_ireturn dX7_set_139 rfl rfl (Nat.le_refl _) ?_
            first
              | (exfalso; omega)
              | (refine ⟨rfl, rfl, rfl, fun q hq => by simp only [zp_zp, zp_s]; rw [zp_n _ _ (by omega)], ?_⟩
                 unfold RI
                 obtain rfl | rfl | rfl | rfl : w = 0 ∨ w = 1 ∨ w = 2 ∨ w = 3 := by omega
                 all_goals first
                   | (exfalso; omega)
                   | (simp (decide := true) only [show (0 : Int).toNat = 0 from rfl, show (1 : Int).toNat = 1 from rfl, show (2 : Int).toNat = 2 from rfl, show (3 : Int).toNat = 3 from rfl, zp_zp, zp_s, zp_n, za_s, za_n, ne_eq, r0, r38, r39, r40, r41, r3, r4, r7, r8, r9, r10, r11, r13, r43, true_and]
                      first | exact r42 | (refine ⟨r42, ?_⟩; simp)))
          · refine wa_ild2 dX7_set_127 ?_
            refine wa_goto 135 dX7_set_128 (by decide) ?_
            refine pX7_35 dX7_set_135 rfl (by first | assumption | exact hL.1 _ (by decide)) ?_
            refine wa_ild3 dX7_set_138 ?_
            refine wa_ireturn dX7_set_139 rfl rfl (Nat.le_refl _) ?_
            first
              | (exfalso; omega)
              | (refine ⟨rfl, rfl, rfl, fun q hq => by simp only [zp_zp, zp_s]; rw [zp_n _ _ (by omega)], ?_⟩
                 unfold RI
                 obtain rfl | rfl | rfl | rfl : w = 0 ∨ w = 1 ∨ w = 2 ∨ w = 3 := by omega
                 all_goals first
                   | (exfalso; omega)
                   | (simp (decide := true) only [show (0 : Int).toNat = 0 from rfl, show (1 : Int).toNat = 1 from rfl, show (2 : Int).toNat = 2 from rfl, show (3 : Int).toNat = 3 from rfl, zp_zp, zp_s, zp_n, za_s, za_n, ne_eq, r0, r38, r39, r40, r41, r3, r4, r7, r8, r9, r10, r11, r13, r43, true_and]
                      first | exact r42 | (refine ⟨r42, ?_⟩; simp)))
        · refine wa_ild2 dX7_set_110 ?_
          refine wa_goto 118 dX7_set_111 (by decide) ?_
          refine pX7_32 dX7_set_118 rfl (by first | assumption | exact hL.1 _ (by decide)) ?_
          refine wa_ald0 dX7_set_121 ?_
          refine wa_ild1 dX7_set_122 ?_
          refine wa_iconst dX7_set_123 ?_
          refine wa_icmp_ne 131 dX7_set_124 (by decide) (by omega) (by omega) (fun c124 => ?_) (fun c124 => ?_)
          · refine wa_ald0 dX7_set_131 ?_
            refine gX7_35 dX7_set_132 rfl (by first | assumption | exact hL.1 _ (by decide)) ?_
            refine pX7_35 dX7_set_135 rfl (by first | assumption | exact hL.1 _ (by decide)) ?_
            refine wa_ild3 dX7_set_138 ?_
            refine wa_ireturn dX7_set_139 rfl rfl (Nat.le_refl _) ?_
            first
              | (exfalso; omega)
              | (refine ⟨rfl, rfl, rfl, fun q hq => by simp only [zp_zp, zp_s]; rw [zp_n _ _ (by omega)], ?_⟩
                 unfold RI
                 obtain rfl | rfl | rfl | rfl : w = 0 ∨ w = 1 ∨ w = 2 ∨ w = 3 := by omega
                 all_goals first
                   | (exfalso; omega)
                   | (simp (decide := true) only [show (0 : Int).toNat = 0 from rfl, show (1 : Int).toNat = 1 from rfl, show (2 : Int).toNat = 2 from rfl, show (3 : Int).toNat = 3 from rfl, zp_zp, zp_s, zp_n, za_s, za_n, ne_eq, r0, r38, r39, r40, r41, r3, r4, r7, r8, r9, r10, r11, r13, r43, true_and]
                      first | exact r42 | (refine ⟨r42, ?_⟩; simp)))
          · refine wa_ild2 dX7_set_127 ?_
            refine wa_goto 135 dX7_set_128 (by decide) ?_
            refine pX7_35 dX7_set_135 rfl (by first | assumption | exact hL.1 _ (by decide)) ?_
            refine wa_ild3 dX7_set_138 ?_
            refine wa_ireturn dX7_set_139 rfl rfl (Nat.le_refl _) ?_
            first
              | (exfalso; omega)
              | (refine ⟨rfl, rfl, rfl, fun q hq => by simp only [zp_zp, zp_s]; rw [zp_n _ _ (by omega)], ?_⟩
                 unfold RI
                 obtain rfl | rfl | rfl | rfl : w = 0 ∨ w = 1 ∨ w = 2 ∨ w = 3 := by omega
                 all_goals first
                   | (exfalso; omega)
                   | (simp (decide := true) only [show (0 : Int).toNat = 0 from rfl, show (1 : Int).toNat = 1 from rfl, show (2 : Int).toNat = 2 from rfl, show (3 : Int).toNat = 3 from rfl, zp_zp, zp_s, zp_n, za_s, za_n, ne_eq, r0, r38, r39, r40, r41, r3, r4, r7, r8, r9, r10, r11, r13, r43, true_and]
                      first | exact r42 | (refine ⟨r42, ?_⟩; simp)))
      · refine wa_ild2 dX7_set_93 ?_
        refine wa_goto 101 dX7_set_94 (by decide) ?_
        refine pX7_29 dX7_set_101 rfl (by first | assumption | exact hL.1 _ (by decide)) ?_
        refine wa_ald0 dX7_set_104 ?_
        refine wa_ild1 dX7_set_105 ?_
        refine wa_iconst dX7_set_106 ?_
        refine wa_icmp_ne 114 dX7_set_107 (by decide) (by omega) (by omega) (fun c107 => ?_) (fun c107 => ?_)
        · refine wa_ald0 dX7_set_114 ?_
          refine gX7_32 dX7_set_115 rfl (by first | assumption | exact hL.1 _ (by decide)) ?_
          refine pX7_32 dX7_set_118 rfl (by first | assumption | exact hL.1 _ (by decide)) ?_
          refine wa_ald0 dX7_set_121 ?_
          refine wa_ild1 dX7_set_122 ?_
          refine wa_iconst dX7_set_123 ?_
          refine wa_icmp_ne 131 dX7_set_124 (by decide) (by omega) (by omega) (fun c124 => ?_) (fun c124 => ?_)
          · refine wa_ald0 dX7_set_131 ?_
            refine gX7_35 dX7_set_132 rfl (by first | assumption | exact hL.1 _ (by decide)) ?_
            refine pX7_35 dX7_set_135 rfl (by first | assumption | exact hL.1 _ (by decide)) ?_
            refine wa_ild3 dX7_set_138 ?_
            refine wa_ireturn dX7_set_139 rfl rfl (Nat.le_refl _) ?_
            first
              | (exfalso; omega)
              | (refine ⟨rfl, rfl, rfl, fun q hq => by simp only [zp_zp, zp_s]; rw [zp_n _ _ (by omega)], ?_⟩
                 unfold RI
                 obtain rfl | rfl | rfl | rfl : w = 0 ∨ w = 1 ∨ w = 2 ∨ w = 3 := by omega
                 all_goals first
                   | (exfalso; omega)
                   | (simp (decide := true) only [show (0 : Int).toNat = 0 from rfl, show (1 : Int).toNat = 1 from rfl, show (2 : Int).toNat = 2 from rfl, show (3 : Int).toNat = 3 from rfl, zp_zp, zp_s, zp_n, za_s, za_n, ne_eq, r0, r38, r39, r40, r41, r3, r4, r7, r8, r9, r10, r11, r13, r43, true_and]
                      first | exact r42 | (refine ⟨r42, ?_⟩; simp)))
          · refine wa_ild2 dX7_set_127 ?_
            refine wa_goto 135 dX7_set_128 (by decide) ?_
            refine pX7_35 dX7_set_135 rfl (by first | assumption | exact hL.1 _ (by decide)) ?_
            refine wa_ild3 dX7_set_138 ?_
            refine wa_ireturn dX7_set_139 rfl rfl (Nat.le_refl _) ?_
            first
              | (exfalso; omega)
              | (refine ⟨rfl, rfl, rfl, fun q hq => by simp only [zp_zp, zp_s]; rw [zp_n _ _ (by omega)], ?_⟩
                 unfold RI
                 obtain rfl | rfl | rfl | rfl : w = 0 ∨ w = 1 ∨ w = 2 ∨ w = 3 := by omega
                 all_goals first
                   | (exfalso; omega)
                   | (simp (decide := true) only [show (0 : Int).toNat = 0 from rfl, show (1 : Int).toNat = 1 from rfl, show (2 : Int).toNat = 2 from rfl, show (3 : Int).toNat = 3 from rfl, zp_zp, zp_s, zp_n, za_s, za_n, ne_eq, r0, r38, r39, r40, r41, r3, r4, r7, r8, r9, r10, r11, r13, r43, true_and]
                      first | exact r42 | (refine ⟨r42, ?_⟩; simp)))
        · refine wa_ild2 dX7_set_110 ?_
          refine wa_goto 118 dX7_set_111 (by decide) ?_
          refine pX7_32 dX7_set_118 rfl (by first | assumption | exact hL.1 _ (by decide)) ?_
          refine wa_ald0 dX7_set_121 ?_
          refine wa_ild1 dX7_set_122 ?_
          refine wa_iconst dX7_set_123 ?_
          refine wa_icmp_ne 131 dX7_set_124 (by decide) (by omega) (by omega) (fun c124 => ?_) (fun c124 => ?_)
          · refine wa_ald0 dX7_set_131 ?_
            refine gX7_35 dX7_set_132 rfl (by first | assumption | exact hL.1 _ (by decide)) ?_
            refine pX7_35 dX7_set_135 rfl (by first | assumption | exact hL.1 _ (by decide)) ?_
            refine wa_ild3 dX7_set_138 ?_
            refine wa_ireturn dX7_set_139 rfl rfl (Nat.le_refl _) ?_
            first
              | (exfalso; omega)
              | (refine ⟨rfl, rfl, rfl, fun q hq => by simp only [zp_zp, zp_s]; rw [zp_n _ _ (by omega)], ?_⟩
                 unfold RI
                 obtain rfl | rfl | rfl | rfl : w = 0 ∨ w = 1 ∨ w = 2 ∨ w = 3 := by omega
                 all_goals first
                   | (exfalso; omega)
                   | (simp (decide := true) only [show (0 : Int).toNat = 0 from rfl, show (1 : Int).toNat = 1 from rfl, show (2 : Int).toNat = 2 from rfl, show (3 : Int).toNat = 3 from rfl, zp_zp, zp_s, zp_n, za_s, za_n, ne_eq, r0, r38, r39, r40, r41, r3, r4, r7, r8, r9, r10, r11, r13, r43, true_and]
                      first | exact r42 | (refine ⟨r42, ?_⟩; simp)))
          · refine wa_ild2 dX7_set_127 ?_
            refine wa_goto 135 dX7_set_128 (by decide) ?_
            refine pX7_35 dX7_set_135 rfl (by first | assumption | exact hL.1 _ (by decide)) ?_
            refine wa_ild3 dX7_set_138 ?_
            refine wa_ireturn dX7_set_139 rfl rfl (Nat.le_refl _) ?_
            first
              | (exfalso; omega)
              | (refine ⟨rfl, rfl, rfl, fun q hq => by simp only [zp_zp, zp_s]; rw [zp_n _ _ (by omega)], ?_⟩
                 unfold RI
                 obtain rfl | rfl | rfl | rfl : w = 0 ∨ w = 1 ∨ w = 2 ∨ w = 3 := by omega
                 all_goals first
                   | (exfalso; omega)
                   | (simp (decide := true) only [show (0 : Int).toNat = 0 from rfl, show (1 : Int).toNat = 1 from rfl, show (2 : Int).toNat = 2 from rfl, show (3 : Int).toNat = 3 from rfl, zp_zp, zp_s, zp_n, za_s, za_n, ne_eq, r0, r38, r39, r40, r41, r3, r4, r7, r8, r9, r10, r11, r13, r43, true_and]
                      first | exact r42 | (refine ⟨r42, ?_⟩; simp)))
    · refine wa_ild2 dX7_set_76 ?_
      refine wa_goto 84 dX7_set_77 (by decide) ?_
      refine pX7_26 dX7_set_84 rfl (by first | assumption | exact hL.1 _ (by decide)) ?_
      refine wa_ald0 dX7_set_87 ?_
      refine wa_ild1 dX7_set_88 ?_
      refine wa_iconst dX7_set_89 ?_
      refine wa_icmp_ne 97 dX7_set_90 (by decide) (by omega) (by omega) (fun c90 => ?_) (fun c90 => ?_)
      · refine wa_ald0 dX7_set_97 ?_
        refine gX7_29 dX7_set_98 rfl (by first | assumption | exact hL.1 _ (by decide)) ?_
        refine pX7_29 dX7_set_101 rfl (by first | assumption | exact hL.1 _ (by decide)) ?_
        refine wa_ald0 dX7_set_104 ?_
        refine wa_ild1 dX7_set_105 ?_
        refine wa_iconst dX7_set_106 ?_
        refine wa_icmp_ne 114 dX7_set_107 (by decide) (by omega) (by omega) (fun c107 => ?_) (fun c107 => ?_)
        · refine wa_ald0 dX7_set_114 ?_
          refine gX7_32 dX7_set_115 rfl (by first | assumption | exact hL.1 _ (by decide)) ?_
          refine pX7_32 dX7_set_118 rfl (by first | assumption | exact hL.1 _ (by decide)) ?_
          refine wa_ald0 dX7_set_121 ?_
          refine wa_ild1 dX7_set_122 ?_
          refine wa_iconst dX7_set_123 ?_
          refine wa_icmp_ne 131 dX7_set_124 (by decide) (by omega) (by omega) (fun c124 => ?_) (fun c124 => ?_)
          · refine wa_ald0 dX7_set_131 ?_
            refine gX7_35 dX7_set_132 rfl (by first | assumption | exact hL.1 _ (by decide)) ?_
            refine pX7_35 dX7_set_135 rfl (by first | assumption | exact hL.1 _ (by decide)) ?_
            refine wa_ild3 dX7_set_138 ?_
            refine wa_ireturn dX7_set_139 rfl rfl (Nat.le_refl _) ?_
            first
              | (exfalso; omega)
              | (refine ⟨rfl, rfl, rfl, fun q hq => by simp only [zp_zp, zp_s]; rw [zp_n _ _ (by omega)], ?_⟩
                 unfold RI
                 obtain rfl | rfl | rfl | rfl : w = 0 ∨ w = 1 ∨ w = 2 ∨ w = 3 := by omega
                 all_goals first
                   | (exfalso; omega)
                   | (simp (decide := true) only [show (0 : Int).toNat = 0 from rfl, show (1 : Int).toNat = 1 from rfl, show (2 : Int).toNat = 2 from rfl, show (3 : Int).toNat = 3 from rfl, zp_zp, zp_s, zp_n, za_s, za_n, ne_eq, r0, r38, r39, r40, r41, r3, r4, r7, r8, r9, r10, r11, r13, r43, true_and]
                      first | exact r42 | (refine ⟨r42, ?_⟩; simp)))
          · refine wa_ild2 dX7_set_127 ?_
            refine wa_goto 135 dX7_set_128 (by decide) ?_
            refine pX7_35 dX7_set_135 rfl (by first | assumption | exact hL.1 _ (by decide)) ?_
            refine wa_ild3 dX7_set_138 ?_
            refine wa_ireturn dX7_set_139 rfl rfl (Nat.le_refl _) ?_
            first
              | (exfalso; omega)
              | (refine ⟨rfl, rfl, rfl, fun q hq => by simp only [zp_zp, zp_s]; rw [zp_n _ _ (by omega)], ?_⟩
                 unfold RI
                 obtain rfl | rfl | rfl | rfl : w = 0 ∨ w = 1 ∨ w = 2 ∨ w = 3 := by omega
                 all_goals first
                   | (exfalso; omega)
                   | (simp (decide := true) only [show (0 : Int).toNat = 0 from rfl, show (1 : Int).toNat = 1 from rfl, show (2 : Int).toNat = 2 from rfl, show (3 : Int).toNat = 3 from rfl, zp_zp, zp_s, zp_n, za_s, za_n, ne_eq, r0, r38, r39, r40, r41, r3, r4, r7, r8, r9, r10, r11, r13, r43, true_and]
                      first | exact r42 | (refine ⟨r42, ?_⟩; simp)))
        · refine wa_ild2 dX7_set_110 ?_
          refine wa_goto 118 dX7_set_111 (by decide) ?_
          refine pX7_32 dX7_set_118 rfl (by first | assumption | exact hL.1 _ (by decide)) ?_
          refine wa_ald0 dX7_set_121 ?_
          refine wa_ild1 dX7_set_122 ?_
          refine wa_iconst dX7_set_123 ?_
          refine wa_icmp_ne 131 dX7_set_124 (by decide) (by omega) (by omega) (fun c124 => ?_) (fun c124 => ?_)
          · refine wa_ald0 dX7_set_131 ?_
            refine gX7_35 dX7_set_132 rfl (by first | assumption | exact hL.1 _ (by decide)) ?_
            refine pX7_35 dX7_set_135 rfl (by first | assumption | exact hL.1 _ (by decide)) ?_
            refine wa_ild3 dX7_set_138 ?_
            refine wa_ireturn dX7_set_139 rfl rfl (Nat.le_refl _) ?_
            first
              | (exfalso; omega)
              | (refine ⟨rfl, rfl, rfl, fun q hq => by simp only [zp_zp, zp_s]; rw [zp_n _ _ (by omega)], ?_⟩
                 unfold RI
                 obtain rfl | rfl | rfl | rfl : w = 0 ∨ w = 1 ∨ w = 2 ∨ w = 3 := by omega
                 all_goals first
                   | (exfalso; omega)
                   | (simp (decide := true) only [show (0 : Int).toNat = 0 from rfl, show (1 : Int).toNat = 1 from rfl, show (2 : Int).toNat = 2 from rfl, show (3 : Int).toNat = 3 from rfl, zp_zp, zp_s, zp_n, za_s, za_n, ne_eq, r0, r38, r39, r40, r41, r3, r4, r7, r8, r9, r10, r11, r13, r43, true_and]
                      first | exact r42 | (refine ⟨r42, ?_⟩; simp)))
          · refine wa_ild2 dX7_set_127 ?_
            refine wa_goto 135 dX7_set_128 (by decide) ?_
            refine pX7_35 dX7_set_135 rfl (by first | assumption | exact hL.1 _ (by decide)) ?_
            refine wa_ild3 dX7_set_138 ?_
            refine wa_ireturn dX7_set_139 rfl rfl (Nat.le_refl _) ?_
            first
              | (exfalso; omega)
              | (refine ⟨rfl, rfl, rfl, fun q hq => by simp only [zp_zp, zp_s]; rw [zp_n _ _ (by omega)], ?_⟩
                 unfold RI
                 obtain rfl | rfl | rfl | rfl : w = 0 ∨ w = 1 ∨ w = 2 ∨ w = 3 := by omega
                 all_goals first
                   | (exfalso; omega)
                   | (simp (decide := true) only [show (0 : Int).toNat = 0 from rfl, show (1 : Int).toNat = 1 from rfl, show (2 : Int).toNat = 2 from rfl, show (3 : Int).toNat = 3 from rfl, zp_zp, zp_s, zp_n, za_s, za_n, ne_eq, r0, r38, r39, r40, r41, r3, r4, r7, r8, r9, r10, r11, r13, r43, true_and]
                      first | exact r42 | (refine ⟨r42, ?_⟩; simp)))
      · refine wa_ild2 dX7_set_93 ?_
        refine wa_goto 101 dX7_set_94 (by decide) ?_
        refine pX7_29 dX7_set_101 rfl (by first | assumption | exact hL.1 _ (by decide)) ?_
        refine wa_ald0 dX7_set_104 ?_
        refine wa_ild1 dX7_set_105 ?_
        refine wa_iconst dX7_set_106 ?_
        refine wa_icmp_ne 114 dX7_set_107 (by decide) (by omega) (by omega) (fun c107 => ?_) (fun c107 => ?_)
        · refine wa_ald0 dX7_set_114 ?_
          refine gX7_32 dX7_set_115 rfl (by first | assumption | exact hL.1 _ (by decide)) ?_
          refine pX7_32 dX7_set_118 rfl (by first | assumption | exact hL.1 _ (by decide)) ?_
          refine wa_ald0 dX7_set_121 ?_
          refine wa_ild1 dX7_set_122 ?_
          refine wa_iconst dX7_set_123 ?_
          refine wa_icmp_ne 131 dX7_set_124 (by decide) (by omega) (by omega) (fun c124 => ?_) (fun c124 => ?_)
          · refine wa_ald0 dX7_set_131 ?_
            refine gX7_35 dX7_set_132 rfl (by first | assumption | exact hL.1 _ (by decide)) ?_
            refine pX7_35 dX7_set_135 rfl (by first | assumption | exact hL.1 _ (by decide)) ?_
            refine wa_ild3 dX7_set_138 ?_
            refine wa_ireturn dX7_set_139 rfl rfl (Nat.le_refl _) ?_
            first
              | (exfalso; omega)
              | (refine ⟨rfl, rfl, rfl, fun q hq => by simp only [zp_zp, zp_s]; rw [zp_n _ _ (by omega)], ?_⟩
                 unfold RI
                 obtain rfl | rfl | rfl | rfl : w = 0 ∨ w = 1 ∨ w = 2 ∨ w = 3 := by omega
                 all_goals first
                   | (exfalso; omega)
                   | (simp (decide := true) only [show (0 : Int).toNat = 0 from rfl, show (1 : Int).toNat = 1 from rfl, show (2 : Int).toNat = 2 from rfl, show (3 : Int).toNat = 3 from rfl, zp_zp, zp_s, zp_n, za_s, za_n, ne_eq, r0, r38, r39, r40, r41, r3, r4, r7, r8, r9, r10, r11, r13, r43, true_and]
                      first | exact r42 | (refine ⟨r42, ?_⟩; simp)))
          · refine wa_ild2 dX7_set_127 ?_
            refine wa_goto 135 dX7_set_128 (by decide) ?_
            refine pX7_35 dX7_set_135 rfl (by first | assumption | exact hL.1 _ (by decide)) ?_
            refine wa_ild3 dX7_set_138 ?_
            refine wa_ireturn dX7_set_139 rfl rfl (Nat.le_refl _) ?_
            first
              | (exfalso; omega)
              | (refine ⟨rfl, rfl, rfl, fun q hq => by simp only [zp_zp, zp_s]; rw [zp_n _ _ (by omega)], ?_⟩
                 unfold RI
                 obtain rfl | rfl | rfl | rfl : w = 0 ∨ w = 1 ∨ w = 2 ∨ w = 3 := by omega
                 all_goals first
                   | (exfalso; omega)
                   | (simp (decide := true) only [show (0 : Int).toNat = 0 from rfl, show (1 : Int).toNat = 1 from rfl, show (2 : Int).toNat = 2 from rfl, show (3 : Int).toNat = 3 from rfl, zp_zp, zp_s, zp_n, za_s, za_n, ne_eq, r0, r38, r39, r40, r41, r3, r4, r7, r8, r9, r10, r11, r13, r43, true_and]
                      first | exact r42 | (refine ⟨r42, ?_⟩; simp)))
        · refine wa_ild2 dX7_set_110 ?_
          refine wa_goto 118 dX7_set_111 (by decide) ?_
          refine pX7_32 dX7_set_118 rfl (by first | assumption | exact hL.1 _ (by decide)) ?_
          refine wa_ald0 dX7_set_121 ?_
          refine wa_ild1 dX7_set_122 ?_
          refine wa_iconst dX7_set_123 ?_
          refine wa_icmp_ne 131 dX7_set_124 (by decide) (by omega) (by omega) (fun c124 => ?_) (fun c124 => ?_)
          · refine wa_ald0 dX7_set_131 ?_
            refine gX7_35 dX7_set_132 rfl (by first | assumption | exact hL.1 _ (by decide)) ?_
            refine pX7_35 dX7_set_135 rfl (by first | assumption | exact hL.1 _ (by decide)) ?_
            refine wa_ild3 dX7_set_138 ?_
            refine wa_ireturn dX7_set_139 rfl rfl (Nat.le_refl _) ?_
            first
              | (exfalso; omega)
              | (refine ⟨rfl, rfl, rfl, fun q hq => by simp only [zp_zp, zp_s]; rw [zp_n _ _ (by omega)], ?_⟩
                 unfold RI
                 obtain rfl | rfl | rfl | rfl : w = 0 ∨ w = 1 ∨ w = 2 ∨ w = 3 := by omega
                 all_goals first
                   | (exfalso; omega)
                   | (simp (decide := true) only [show (0 : Int).toNat = 0 from rfl, show (1 : Int).toNat = 1 from rfl, show (2 : Int).toNat = 2 from rfl, show (3 : Int).toNat = 3 from rfl, zp_zp, zp_s, zp_n, za_s, za_n, ne_eq, r0, r38, r39, r40, r41, r3, r4, r7, r8, r9, r10, r11, r13, r43, true_and]
                      first | exact r42 | (refine ⟨r42, ?_⟩; simp)))
          · refine wa_ild2 dX7_set_127 ?_
            refine wa_goto 135 dX7_set_128 (by decide) ?_
            refine pX7_35 dX7_set_135 rfl (by first | assumption | exact hL.1 _ (by decide)) ?_
            refine wa_ild3 dX7_set_138 ?_
            refine wa_ireturn dX7_set_139 rfl rfl (Nat.le_refl _) ?_
            first
              | (exfalso; omega)
              | (refine ⟨rfl, rfl, rfl, fun q hq => by simp only [zp_zp, zp_s]; rw [zp_n _ _ (by omega)], ?_⟩
                 unfold RI
                 obtain rfl | rfl | rfl | rfl : w = 0 ∨ w = 1 ∨ w = 2 ∨ w = 3 := by omega
                 all_goals first
                   | (exfalso; omega)
                   | (simp (decide := true) only [show (0 : Int).toNat = 0 from rfl, show (1 : Int).toNat = 1 from rfl, show (2 : Int).toNat = 2 from rfl, show (3 : Int).toNat = 3 from rfl, zp_zp, zp_s, zp_n, za_s, za_n, ne_eq, r0, r38, r39, r40, r41, r3, r4, r7, r8, r9, r10, r11, r13, r43, true_and]
                      first | exact r42 | (refine ⟨r42, ?_⟩; simp)))
  refine wa_ild1 dX7_set_0 ?_
  refine wa_iconst dX7_set_1 ?_
  refine wa_iconst dX7_set_2 ?_
  refine kX7_91 dX7_set_3 rfl (cm_in hw (by decide) (by decide)) (by decide) (Nat.le_of_ble_eq_true rfl) ⟨Nat.le_refl _, Nat.le_refl _⟩ (zdI ?_)
  refine wa_ifeq_B 28 dX7_set_6 (by decide) (fun c6 => ?_) (fun c6 => ?_)
  · refine wa_bipush dX7_set_28 (by decide) ?_
    refine wa_ireturn dX7_set_30 rfl rfl (Nat.le_refl _) ?_
    have hyes : (w < 0 ∨ 3 < w) ∨ (v < (if w = 3 then 1 else 0) ∨ 9 < v) := by first | omega | (rw [if_pos (by omega)]; omega) | (rw [if_neg (by omega)]; omega)
    exact ⟨by rw [if_pos hyes], rfl, rfl, fun _ _ => rfl, by rw [if_pos hyes]; exact hR0⟩
  · refine wa_ild2 dX7_set_9 ?_
    refine wa_ild1 dX7_set_10 ?_
    refine wa_iconst dX7_set_11 ?_
    refine wa_icmp_ne 19 dX7_set_12 (by decide) (by omega) (by omega) (fun c12 => ?_) (fun c12 => ?_)
    · refine wa_iconst dX7_set_19 ?_
      refine wa_bipush dX7_set_20 (by decide) ?_
      refine kX7_91 dX7_set_22 rfl (cm_in hv (by decide) (by decide)) (by decide) (Nat.le_of_ble_eq_true rfl) ⟨Nat.le_refl _, Nat.le_refl _⟩ (zdI ?_)
      refine wa_ifne_B 31 dX7_set_25 (by decide) (fun c25 => ?_) (fun c25 => ?_)
      · refine wa_ild1 dX7_set_31 ?_
        refine wa_if_ne 42 dX7_set_32 (by decide) (by omega) (fun c32 => ?_) (fun c32 => ?_)
        · refine wa_ild1 dX7_set_42 ?_
          refine wa_iconst dX7_set_43 ?_
          refine wa_icmp_ne 54 dX7_set_44 (by decide) (by omega) (by omega) (fun c44 => ?_) (fun c44 => ?_)
          · refine wa_ild1 dX7_set_54 ?_
            refine wa_iconst dX7_set_55 ?_
            refine wa_icmp_ne 66 dX7_set_56 (by decide) (by omega) (by omega) (fun c56 => ?_) (fun c56 => ?_)
            · refine wa_ald0 dX7_set_66 ?_
              refine gX7_35 dX7_set_67 rfl (by first | assumption | exact hL.1 _ (by decide)) ?_
              refine wa_ist3 dX7_set_70 (by decide) rfl ?_
              refine rest _ ?_ (by omega) ?_
              · obtain rfl | rfl | rfl | rfl : w = 0 ∨ w = 1 ∨ w = 2 ∨ w = 3 := by omega
                all_goals first
                  | (exfalso; omega)
                  | exact r7
                  | exact r8
                  | exact r9
                  | exact r10
              · by_cases h3 : w = 3
                · rw [if_pos h3]; omega
                · rw [if_neg h3]; omega
            · refine wa_ald0 dX7_set_59 ?_
              refine gX7_32 dX7_set_60 rfl (by first | assumption | exact hL.1 _ (by decide)) ?_
              refine wa_goto 70 dX7_set_63 (by decide) ?_
              refine wa_ist3 dX7_set_70 (by decide) rfl ?_
              refine rest _ ?_ (by omega) ?_
              · obtain rfl | rfl | rfl | rfl : w = 0 ∨ w = 1 ∨ w = 2 ∨ w = 3 := by omega
                all_goals first
                  | (exfalso; omega)
                  | exact r7
                  | exact r8
                  | exact r9
                  | exact r10
              · by_cases h3 : w = 3
                · rw [if_pos h3]; omega
                · rw [if_neg h3]; omega
          · refine wa_ald0 dX7_set_47 ?_
            refine gX7_29 dX7_set_48 rfl (by first | assumption | exact hL.1 _ (by decide)) ?_
            refine wa_goto 70 dX7_set_51 (by decide) ?_
            refine wa_ist3 dX7_set_70 (by decide) rfl ?_
            refine rest _ ?_ (by omega) ?_
            · obtain rfl | rfl | rfl | rfl : w = 0 ∨ w = 1 ∨ w = 2 ∨ w = 3 := by omega
              all_goals first
                | (exfalso; omega)
                | exact r7
                | exact r8
                | exact r9
                | exact r10
            · by_cases h3 : w = 3
              · rw [if_pos h3]; omega
              · rw [if_neg h3]; omega
        · refine wa_ald0 dX7_set_35 ?_
          refine gX7_26 dX7_set_36 rfl (by first | assumption | exact hL.1 _ (by decide)) ?_
          refine wa_goto 70 dX7_set_39 (by decide) ?_
          refine wa_ist3 dX7_set_70 (by decide) rfl ?_
          refine rest _ ?_ (by omega) ?_
          · obtain rfl | rfl | rfl | rfl : w = 0 ∨ w = 1 ∨ w = 2 ∨ w = 3 := by omega
            all_goals first
              | (exfalso; omega)
              | exact r7
              | exact r8
              | exact r9
              | exact r10
          · by_cases h3 : w = 3
            · rw [if_pos h3]; omega
            · rw [if_neg h3]; omega
      · refine wa_bipush dX7_set_28 (by decide) ?_
        refine wa_ireturn dX7_set_30 rfl rfl (Nat.le_refl _) ?_
        have hyes : (w < 0 ∨ 3 < w) ∨ (v < (if w = 3 then 1 else 0) ∨ 9 < v) := by first | omega | (rw [if_pos (by omega)]; omega) | (rw [if_neg (by omega)]; omega)
        exact ⟨by rw [if_pos hyes], rfl, rfl, fun _ _ => rfl, by rw [if_pos hyes]; exact hR0⟩
    · refine wa_iconst dX7_set_15 ?_
      refine wa_goto 20 dX7_set_16 (by decide) ?_
      refine wa_bipush dX7_set_20 (by decide) ?_
      refine kX7_91 dX7_set_22 rfl (cm_in hv (by decide) (by decide)) (by decide) (Nat.le_of_ble_eq_true rfl) ⟨Nat.le_refl _, Nat.le_refl _⟩ (zdI ?_)
      refine wa_ifne_B 31 dX7_set_25 (by decide) (fun c25 => ?_) (fun c25 => ?_)
      · refine wa_ild1 dX7_set_31 ?_
        refine wa_if_ne 42 dX7_set_32 (by decide) (by omega) (fun c32 => ?_) (fun c32 => ?_)
        · refine wa_ild1 dX7_set_42 ?_
          refine wa_iconst dX7_set_43 ?_
          refine wa_icmp_ne 54 dX7_set_44 (by decide) (by omega) (by omega) (fun c44 => ?_) (fun c44 => ?_)
          · refine wa_ild1 dX7_set_54 ?_
            refine wa_iconst dX7_set_55 ?_
            refine wa_icmp_ne 66 dX7_set_56 (by decide) (by omega) (by omega) (fun c56 => ?_) (fun c56 => ?_)
            · refine wa_ald0 dX7_set_66 ?_
              refine gX7_35 dX7_set_67 rfl (by first | assumption | exact hL.1 _ (by decide)) ?_
              refine wa_ist3 dX7_set_70 (by decide) rfl ?_
              refine rest _ ?_ (by omega) ?_
              · obtain rfl | rfl | rfl | rfl : w = 0 ∨ w = 1 ∨ w = 2 ∨ w = 3 := by omega
                all_goals first
                  | (exfalso; omega)
                  | exact r7
                  | exact r8
                  | exact r9
                  | exact r10
              · by_cases h3 : w = 3
                · rw [if_pos h3]; omega
                · rw [if_neg h3]; omega
            · refine wa_ald0 dX7_set_59 ?_
              refine gX7_32 dX7_set_60 rfl (by first | assumption | exact hL.1 _ (by decide)) ?_
              refine wa_goto 70 dX7_set_63 (by decide) ?_
              refine wa_ist3 dX7_set_70 (by decide) rfl ?_
              refine rest _ ?_ (by omega) ?_
              · obtain rfl | rfl | rfl | rfl : w = 0 ∨ w = 1 ∨ w = 2 ∨ w = 3 := by omega
                all_goals first
                  | (exfalso; omega)
                  | exact r7
                  | exact r8
                  | exact r9
                  | exact r10
              · by_cases h3 : w = 3
                · rw [if_pos h3]; omega
                · rw [if_neg h3]; omega
          · refine wa_ald0 dX7_set_47 ?_
            refine gX7_29 dX7_set_48 rfl (by first | assumption | exact hL.1 _ (by decide)) ?_
            refine wa_goto 70 dX7_set_51 (by decide) ?_
            refine wa_ist3 dX7_set_70 (by decide) rfl ?_
            refine rest _ ?_ (by omega) ?_
            · obtain rfl | rfl | rfl | rfl : w = 0 ∨ w = 1 ∨ w = 2 ∨ w = 3 := by omega
              all_goals first
                | (exfalso; omega)
                | exact r7
                | exact r8
                | exact r9
                | exact r10
            · by_cases h3 : w = 3
              · rw [if_pos h3]; omega
              · rw [if_neg h3]; omega
        · refine wa_ald0 dX7_set_35 ?_
          refine gX7_26 dX7_set_36 rfl (by first | assumption | exact hL.1 _ (by decide)) ?_
          refine wa_goto 70 dX7_set_39 (by decide) ?_
          refine wa_ist3 dX7_set_70 (by decide) rfl ?_
          refine rest _ ?_ (by omega) ?_
          · obtain rfl | rfl | rfl | rfl : w = 0 ∨ w = 1 ∨ w = 2 ∨ w = 3 := by omega
            all_goals first
              | (exfalso; omega)
              | exact r7
              | exact r8
              | exact r9
              | exact r10
          · by_cases h3 : w = 3
            · rw [if_pos h3]; omega
            · rw [if_neg h3]; omega
      · refine wa_bipush dX7_set_28 (by decide) ?_
        refine wa_ireturn dX7_set_30 rfl rfl (Nat.le_refl _) ?_
        have hyes : (w < 0 ∨ 3 < w) ∨ (v < (if w = 3 then 1 else 0) ∨ 9 < v) := by first | omega | (rw [if_pos (by omega)]; omega) | (rw [if_neg (by omega)]; omega)
        exact ⟨by rw [if_pos hyes], rfl, rfl, fun _ _ => rfl, by rw [if_pos hyes]; exact hR0⟩
theorem cm_say {n c k len : Nat} {S : zH} {Rf : zG} {W V : zE} {F s : Int} (hL : Lay S Rf) (hI : CI c k len F W) (hR : RI c k len W V) (hv : -2147483648 ≤ s ∧ s ≤ 2147483647) : Ct 2 0 0 mX7_say [zR 37, zI s] n S Rf V (rM S Rf V (sayX s W) c k (if s < 33 ∨ 126 < s then len else if 60 ≤ len then len else len + 1) (sayV s W)) := by
  have hR0 := hR
  have h60 := hI.2.2.2.2.2.2.2.2.2.2.2.2.2.2.2.2.1
  have hl := hI.2.2.2.2.2.2.2.2.2.2.2.2.2.2.2.1
  obtain ⟨r0, r38, r39, r40, r41, r3, r4, r7, r8, r9, r10, r11, r42, r13, r43⟩ := hR
  refine ct_of (by decide) rfl (Nat.le_of_ble_eq_true rfl) ?_
  unfold sayX sayV
  rw [hl]
  refine wa_ild1 dX7_say_0 ?_
  refine wa_bipush dX7_say_1 (by decide) ?_
  refine wa_bipush dX7_say_3 (by decide) ?_
  refine kX7_91 dX7_say_5 rfl (cm_in hv (by decide) (by decide)) (by decide) (Nat.le_of_ble_eq_true rfl) ⟨Nat.le_refl _, Nat.le_refl _⟩ (zdI ?_)
  refine wa_ifne_B 14 dX7_say_8 (by decide) (fun c8 => ?_) (fun c8 => ?_)
  · refine wa_ald0 dX7_say_14 ?_
    refine gX7_99 dX7_say_15 rfl (by first | assumption | exact hL.1 _ (by decide)) ?_
    refine wa_bipush dX7_say_18 (by decide) ?_
    refine wa_icmp_ne 26 dX7_say_20 (by decide) (by first | omega | (simp (decide := true) only [zp_n, ne_eq]; omega)) (by first | omega | (simp (decide := true) only [zp_n, ne_eq]; omega)) (fun c20 => ?_) (fun c20 => ?_)
    · refine wa_ald0 dX7_say_26 ?_
      refine gX7_41 dX7_say_27 rfl (by first | assumption | exact hL.1 _ (by decide)) (by first | assumption | exact hL.2 _ _ (by decide)) ?_
      refine wa_ald0 dX7_say_30 ?_
      refine gX7_99 dX7_say_31 rfl (by first | assumption | exact hL.1 _ (by decide)) ?_
      refine wa_ild1 dX7_say_34 ?_
      refine wa_iastore dX7_say_35 (by first | assumption | exact hL.1 _ (by decide)) (by first | omega | (simp (decide := true) only [zp_n, ne_eq]; omega)) (by first | decide | omega) ?_
      refine wa_ald0 dX7_say_36 ?_
      refine wa_dup dX7_say_37 rfl ?_
      refine gX7_99 dX7_say_38 rfl (by first | assumption | exact hL.1 _ (by decide)) ?_
      refine wa_iconst dX7_say_41 ?_
      refine wa_iadd dX7_say_42 ?_
      refine pX7_99 dX7_say_43 rfl (by first | assumption | exact hL.1 _ (by decide)) ?_
      refine wa_ald0 dX7_say_46 ?_
      refine gX7_99 dX7_say_47 rfl (by first | assumption | exact hL.1 _ (by decide)) ?_
      refine wa_ireturn dX7_say_50 rfl rfl (Nat.le_refl _) ?_
      have n1 : ¬ (s < 33 ∨ 126 < s) := by omega
      have n2 : ¬ (60 : Int) ≤ (len : Int) := by omega
      have n3 : ¬ 60 ≤ len := by omega
      simp only [if_neg n1, if_neg n2, if_neg n3]
      refine ⟨?_, rfl, rfl, fun q hq => by rw [zp_n _ _ (by omega), zp_n _ _ (by omega)], ?_⟩
      · simp (decide := true) only [zp_s, zp_n, za_s, ne_eq, r13]
      · unfold RI
        simp (decide := true) only [zp_s, zp_n, za_s, za_n, ne_eq, r0, r38, r39, r40, r41, r3, r4, r7, r8, r9, r10, r11, r13, r43, true_and]
        first | exact ⟨r42, by omega⟩ | (refine ⟨r42, ?_⟩; simp)
    · refine wa_bipush dX7_say_23 (by decide) ?_
      refine wa_ireturn dX7_say_25 rfl rfl (Nat.le_refl _) ?_
      have n1 : ¬ (s < 33 ∨ 126 < s) := by omega
      have n2 : (60 : Int) ≤ (len : Int) := by omega
      have n3 : 60 ≤ len := by omega
      simp only [if_neg n1, if_pos n2, if_pos n3]
      exact ⟨rfl, rfl, rfl, fun _ _ => rfl, hR0⟩
  · refine wa_bipush dX7_say_11 (by decide) ?_
    refine wa_ireturn dX7_say_13 rfl rfl (Nat.le_refl _) ?_
    have n1 : s < 33 ∨ 126 < s := by omega
    simp only [if_pos n1]
    exact ⟨rfl, rfl, rfl, fun _ _ => rfl, hR0⟩
theorem cm_wipe {n c k len : Nat} {S : zH} {Rf : zG} {W V : zE} {F : Int} (hL : Lay S Rf) (hI : CI c k len F W) (hR : RI c k len W V) : Ct 1 0 0 mX7_wipe [zR 37] n S Rf V (rM S Rf V (W 18 1) c k 0 (zp W 18 (za (W 18) 1 0))) := by
  have hl := hI.2.2.2.2.2.2.2.2.2.2.2.2.2.2.2.1
  obtain ⟨r0, r38, r39, r40, r41, r3, r4, r7, r8, r9, r10, r11, r42, r13, r43⟩ := hR
  refine ct_of (by decide) rfl (Nat.le_of_ble_eq_true rfl) ?_
  refine wa_ald0 dX7_wipe_0 ?_
  refine gX7_99 dX7_wipe_1 rfl (by first | assumption | exact hL.1 _ (by decide)) ?_
  refine wa_ist1 dX7_wipe_4 (by decide) rfl ?_
  refine wa_ald0 dX7_wipe_5 ?_
  refine wa_iconst dX7_wipe_6 ?_
  refine pX7_99 dX7_wipe_7 rfl (by first | assumption | exact hL.1 _ (by decide)) ?_
  refine wa_ild1 dX7_wipe_10 ?_
  refine wa_ireturn dX7_wipe_11 rfl rfl (Nat.le_refl _) ?_
  refine ⟨by rw [r13, hl], rfl, rfl, fun q hq => by rw [zp_n _ _ (by omega)], ?_⟩
  unfold RI
  simp (decide := true) only [zp_s, zp_n, za_s, za_n, ne_eq, r0, r38, r39, r40, r41, r3, r4, r7, r8, r9, r10, r11, r13, r43, true_and]
  first | exact ⟨r42, rfl⟩ | (refine ⟨r42, ?_⟩; simp)
theorem cm_forget {n c k len : Nat} {S : zH} {Rf : zG} {W V : zE} {F : Int} (hL : Lay S Rf) (hI : CI c k len F W) (hR : RI c k len W V) : Ct 1 0 0 mX7_forget [zR 37] n S Rf V (rM S Rf V (W 1 8) c 0 len (zp W 1 (za (W 1) 8 0))) := by
  have hk := hI.2.2.2.2.2.2.2.2.2.2.2.1
  obtain ⟨r0, r38, r39, r40, r41, r3, r4, r7, r8, r9, r10, r11, r42, r13, r43⟩ := hR
  refine ct_of (by decide) rfl (Nat.le_of_ble_eq_true rfl) ?_
  refine wa_ald0 dX7_forget_0 ?_
  refine gX7_88 dX7_forget_1 rfl (by first | assumption | exact hL.1 _ (by decide)) ?_
  refine wa_ist1 dX7_forget_4 (by decide) rfl ?_
  refine wa_ald0 dX7_forget_5 ?_
  refine wa_iconst dX7_forget_6 ?_
  refine pX7_88 dX7_forget_7 rfl (by first | assumption | exact hL.1 _ (by decide)) ?_
  refine wa_ild1 dX7_forget_10 ?_
  refine wa_ireturn dX7_forget_11 rfl rfl (Nat.le_refl _) ?_
  refine ⟨by rw [r11, hk], rfl, rfl, fun q hq => by rw [zp_n _ _ (by omega)], ?_⟩
  unfold RI
  simp (decide := true) only [zp_s, zp_n, za_s, za_n, ne_eq, r0, r38, r39, r40, r41, r3, r4, r7, r8, r9, r10, r11, r13, r43, true_and]
  first | exact r42 | (refine ⟨r42, ?_⟩; simp)
theorem cm_seen {n c k len : Nat} {S : zH} {Rf : zG} {W V : zE} {F g v : Int} (hL : Lay S Rf) (hI : CI c k len F W) (hR : RI c k len W V) (hg : -2147483648 ≤ g ∧ g ≤ 2147483647) (hv : -2147483648 ≤ v ∧ v ≤ 2147483647) : Ct 3 0 0 mX7_seen [zR 37, zI g, zI v] n S Rf V (rM S Rf V (snX c g v W) c (if ¬ (0 ≤ g ∧ g < c) then k else if v < 0 ∨ 999 < v then k else if 8 ≤ k then k else k + 1) len (snV c g v W)) := by
  have hR0 := hR
  have h8 := hI.2.2.1
  have hk := hI.2.2.2.2.2.2.2.2.2.2.2.1
  have hk8 := hI.2.2.2.2.2.2.2.2.2.2.2.2.1
  obtain ⟨r0, r38, r39, r40, r41, r3, r4, r7, r8, r9, r10, r11, r42, r13, r43⟩ := hR
  refine ct_of (by decide) rfl (Nat.le_of_ble_eq_true rfl) ?_
  unfold snX snV
  rw [hk]
  refine wa_ald0 dX7_seen_0 ?_
  refine wa_ild1 dX7_seen_1 ?_
  refine kX7_95 dX7_seen_2 rfl (by first | assumption | exact hL.1 _ (by decide)) (cm_isGarden hL r0 h8 hg) (by decide) (Nat.le_of_ble_eq_true rfl) ⟨Nat.le_refl _, Nat.le_refl _⟩ (zdI ?_)
  refine wa_ifne_B 10 dX7_seen_5 (by decide) (fun c5 => ?_) (fun c5 => ?_)
  · refine wa_ild2 dX7_seen_10 ?_
    refine wa_iconst dX7_seen_11 ?_
    refine wa_sipush dX7_seen_12 (by decide) ?_
    refine kX7_91 dX7_seen_15 rfl (cm_in hv (by decide) (by decide)) (by decide) (Nat.le_of_ble_eq_true rfl) ⟨Nat.le_refl _, Nat.le_refl _⟩ (zdI ?_)
    refine wa_ifne_B 24 dX7_seen_18 (by decide) (fun c18 => ?_) (fun c18 => ?_)
    · refine wa_ald0 dX7_seen_24 ?_
      refine gX7_88 dX7_seen_25 rfl (by first | assumption | exact hL.1 _ (by decide)) ?_
      refine wa_bipush dX7_seen_28 (by decide) ?_
      refine wa_icmp_ne 36 dX7_seen_30 (by decide) (by first | omega | (simp (decide := true) only [zp_n, ne_eq]; omega)) (by first | omega | (simp (decide := true) only [zp_n, ne_eq]; omega)) (fun c30 => ?_) (fun c30 => ?_)
      · refine wa_ald0 dX7_seen_36 ?_
        refine gX7_38 dX7_seen_37 rfl (by first | assumption | exact hL.1 _ (by decide)) (by first | assumption | exact hL.2 _ _ (by decide)) ?_
        refine wa_iconst dX7_seen_40 ?_
        refine wa_ald0 dX7_seen_41 ?_
        refine gX7_88 dX7_seen_42 rfl (by first | assumption | exact hL.1 _ (by decide)) ?_
        refine wa_imul dX7_seen_45 ?_
        refine wa_ild1 dX7_seen_46 ?_
        refine wa_iastore dX7_seen_47 (by first | assumption | exact hL.1 _ (by decide)) (by first | omega | (simp (decide := true) only [zp_n, ne_eq]; omega)) (by first | decide | omega) ?_
        refine wa_ald0 dX7_seen_48 ?_
        refine gX7_38 dX7_seen_49 rfl (by first | assumption | exact hL.1 _ (by decide)) (by first | assumption | exact hL.2 _ _ (by decide)) ?_
        refine wa_iconst dX7_seen_52 ?_
        refine wa_ald0 dX7_seen_53 ?_
        refine gX7_88 dX7_seen_54 rfl (by first | assumption | exact hL.1 _ (by decide)) ?_
        refine wa_imul dX7_seen_57 ?_
        refine wa_iconst dX7_seen_58 ?_
        refine wa_iadd dX7_seen_59 ?_
        refine wa_ild2 dX7_seen_60 ?_
        refine wa_iastore dX7_seen_61 (by first | assumption | exact hL.1 _ (by decide)) (by first | omega | (simp (decide := true) only [zp_n, ne_eq]; omega)) (by first | decide | omega) ?_
        refine wa_ald0 dX7_seen_62 ?_
        refine wa_dup dX7_seen_63 rfl ?_
        refine gX7_88 dX7_seen_64 rfl (by first | assumption | exact hL.1 _ (by decide)) ?_
        refine wa_iconst dX7_seen_67 ?_
        refine wa_iadd dX7_seen_68 ?_
        refine pX7_88 dX7_seen_69 rfl (by first | assumption | exact hL.1 _ (by decide)) ?_
        refine wa_ald0 dX7_seen_72 ?_
        refine gX7_88 dX7_seen_73 rfl (by first | assumption | exact hL.1 _ (by decide)) ?_
        refine wa_ireturn dX7_seen_76 rfl rfl (Nat.le_refl _) ?_
        have n0 : ¬ ¬ (0 ≤ g ∧ g < (c : Int)) := fun q => q c5
        have n1 : ¬ (v < 0 ∨ 999 < v) := by omega
        have n2 : ¬ (8 : Int) ≤ (k : Int) := by omega
        have n3 : ¬ 8 ≤ k := by omega
        have e1 : (2 * (k : Int)).toNat = 2 * k := by omega
        have e2 : (2 * (k : Int) + 1).toNat = 2 * k + 1 := by omega
        simp only [if_neg n0, if_neg n1, if_neg n2, if_neg n3]
        refine ⟨?_, rfl, rfl, fun q hq => by rw [zp_n _ _ (by omega), zp_n _ _ (by omega), zp_n _ _ (by omega)], ?_⟩
        · simp (decide := true) only [zp_s, zp_n, za_s, ne_eq, r11]
        · unfold RI
          simp (decide := true) only [zp_zp, zp_s, zp_n, za_s, za_n, ne_eq, r0, r38, r39, r40, r41, r3, r4, r7, r8, r9, r10, r11, r13, r43, true_and, e1, e2, Int.toNat_natCast]
          refine ⟨by omega, fun i hi => ?_, by simp⟩
          by_cases hik : i = k
          · subst hik
            rw [za_s, za_s, za_s, za_n _ _ (by omega), za_s]; exact ⟨rfl, rfl⟩
          · repeat rw [za_n _ _ (by omega)]
            exact r42 i hi
      · refine wa_bipush dX7_seen_33 (by decide) ?_
        refine wa_ireturn dX7_seen_35 rfl rfl (Nat.le_refl _) ?_
        have n0 : ¬ ¬ (0 ≤ g ∧ g < (c : Int)) := fun q => q c5
        have n1 : ¬ (v < 0 ∨ 999 < v) := by omega
        have n2 : (8 : Int) ≤ (k : Int) := by omega
        have n3 : 8 ≤ k := by omega
        simp only [if_neg n0, if_neg n1, if_pos n2, if_pos n3]
        exact ⟨rfl, rfl, rfl, fun _ _ => rfl, hR0⟩
    · refine wa_bipush dX7_seen_21 (by decide) ?_
      refine wa_ireturn dX7_seen_23 rfl rfl (Nat.le_refl _) ?_
      have n0 : ¬ ¬ (0 ≤ g ∧ g < (c : Int)) := fun q => q c5
      have n1 : v < 0 ∨ 999 < v := by omega
      simp only [if_neg n0, if_pos n1]
      exact ⟨rfl, rfl, rfl, fun _ _ => rfl, hR0⟩
  · refine wa_iconst dX7_seen_8 ?_
    refine wa_ireturn dX7_seen_9 rfl rfl (Nat.le_refl _) ?_
    simp only [if_pos c5]
    exact ⟨rfl, rfl, rfl, fun _ _ => rfl, hR0⟩
def doP (c k len : Nat) (W V : zE) : zQ := fun v S' Rf' V' => v = some (zI (dnX c len W)) ∧ rfm V V' ∧ (∀ k, k ≠ 37 → k ≠ 38 → k ≠ 40 → k ≠ 41 → ¬ (44 ≤ k ∧ k ≤ 52) → V' k = V k) ∧ ∀ W', dnP c len W W' → RI c k (if (wdF c len W).2 = -6 ∧ (hdF c len W).1 = -6 then 0 else len) W' V'
theorem RI.qry {c k len : Nat} {W W' V : zE} (h : RI c k len W V) (q : qry W W') : RI c k len W' V := by
  have e : ∀ k, k ≤ 8 → W' k = W k := fun k hk => q.1 k (by unfold scr; omega)
  have e19 := q.1 19 (by unfold scr; omega)
  unfold RI at h ⊢
  rw [e 1 (by decide), e 2 (by decide), e 3 (by decide), e 4 (by decide), e 5 (by decide), e 6 (by decide), e 7 (by decide), e 8 (by decide), e19]; exact h
theorem cm_done {n c k len : Nat} {S : zH} {Rf : zG} {W V : zE} {F : Int} (hL : Lay S Rf) (hI : CI c k len F W) (hfl : flI c (vw 1 W)) (hR : RI c k len W V) : Ct 7 0 0 mX7_done [zR 37] n S Rf V (fun v S' Rf' V' => S' = S ∧ Rf' = Rf ∧ doP c k len W V v S' Rf' V') := by
  refine ct_of (by decide) rfl (Nat.le_of_ble_eq_true rfl) ?_
  have loop2 : ∀ (m i : Nat) (V1 : zE) (f : Nat → Int), i + m = 64 → (∀ j, j < i → f j = V1 47 j) → doP c k len W V (some (zI (V1 37 25))) S Rf (zp (zp V1 41 (V1 47)) 37 (za (V1 37) 13 0)) → Wa zXn mX7_done (zrm 7 0 0) (zZm (fun v S' Rf' V' => S' = S ∧ Rf' = Rf ∧ doP c k len W V v S' Rf' V') (n + 0) 0 0) 0 0 n S 66 [some (zR 37), some (zI (i : Int))] [] Rf (zp V1 41 f) := by
    intro m
    induction m with
    | zero =>
      intro i V1 f hi hf he
      refine wa_row (hL.1 41 (by decide)) (V1 47) (fun j hj => by rw [zp_s]; exact hf j (by omega)) ?_
      rw [zp_zp]
      refine wa_ild1 dX7_done_66 ?_
      refine wa_bipush dX7_done_67 (by decide) ?_
      refine wa_icmp_ge 90 dX7_done_69 (by decide) (by omega) (by omega) (fun c69 => ?_) (fun c69 => ?_)
      · refine wa_ald0 dX7_done_90 ?_
        refine wa_iconst dX7_done_91 ?_
        refine pX7_99 dX7_done_92 rfl (by first | assumption | exact hL.1 _ (by decide)) ?_
        refine wa_ald0 dX7_done_95 ?_
        refine gX7_137 dX7_done_96 rfl (by first | assumption | exact hL.1 _ (by decide)) ?_
        refine wa_ireturn dX7_done_99 rfl rfl (Nat.le_refl _) ?_
        refine ⟨rfl, rfl, ?_⟩
        simp (decide := true) only [zp_s, zp_n, za_n, ne_eq]
        exact he
      · exact absurd c69 (by omega)
    | succ m ih =>
      intro i V1 f hi hf he
      refine wa_ild1 dX7_done_66 ?_
      refine wa_bipush dX7_done_67 (by decide) ?_
      refine wa_icmp_ge 90 dX7_done_69 (by decide) (by omega) (by omega) (fun c69 => ?_) (fun c69 => ?_)
      · exact absurd c69 (by omega)
      · refine wa_ald0 dX7_done_72 ?_
        refine gX7_23 dX7_done_73 rfl (by first | assumption | exact hL.1 _ (by decide)) (by first | assumption | exact hL.2 _ _ (by decide)) ?_
        refine wa_ild1 dX7_done_76 ?_
        refine wa_ald0 dX7_done_77 ?_
        refine gX7_53 dX7_done_78 rfl (by first | assumption | exact hL.1 _ (by decide)) (by first | assumption | exact hL.2 _ _ (by decide)) ?_
        refine wa_ild1 dX7_done_81 ?_
        refine wa_iaload dX7_done_82 (by first | assumption | exact hL.1 _ (by decide)) (by omega) (by first | decide | omega) ?_
        refine wa_iastore dX7_done_83 (by first | assumption | exact hL.1 _ (by decide)) (by omega) (by first | decide | omega) ?_
        refine wa_iinc1 dX7_done_84 (by decide) rfl ?_
        refine wa_goto 66 dX7_done_87 (by decide) ?_
        rw [zp_zp, zp_s, zp_n _ _ (show (47 : Nat) ≠ 41 by decide), Int.toNat_natCast]
        exact ih (i + 1) V1 (za f i (V1 47 i)) (by omega) (fun j hj => by by_cases h : j = i; subst h; rw [za_s]; rw [za_n _ _ h]; exact hf j (by omega)) he
  have loop1 : ∀ (m i : Nat) (V1 : zE) (f h : Nat → Int), i + m = 8 → (∀ j, j < i → f j = V1 44 j) → (∀ j, j < i → h j = V1 46 j) → doP c k len W V (some (zI (V1 37 25))) S Rf (zp (zp (zp (zp V1 38 (V1 44)) 40 (V1 46)) 41 (V1 47)) 37 (za (V1 37) 13 0)) → Wa zXn mX7_done (zrm 7 0 0) (zZm (fun v S' Rf' V' => S' = S ∧ Rf' = Rf ∧ doP c k len W V v S' Rf' V') (n + 0) 0 0) 0 0 n S 28 [some (zR 37), some (zI (i : Int))] [] Rf (zp (zp V1 38 f) 40 h) := by
    intro m
    induction m with
    | zero =>
      intro i V1 f h hi hf hh he
      refine wa_row (hL.1 40 (by decide)) (V1 46) (fun j hj => by rw [zp_s]; exact hh j (by omega)) ?_
      rw [zp_zp]
      refine wa_row (hL.1 38 (by decide)) (V1 44) (fun j hj => by rw [zp_n _ _ (by decide), zp_s]; exact hf j (by omega)) ?_
      rw [zp_comm _ _ _ (show (40 : Nat) ≠ 38 by decide), zp_zp]
      refine wa_ild1 dX7_done_28 ?_
      refine wa_bipush dX7_done_29 (by decide) ?_
      refine wa_icmp_ge 64 dX7_done_31 (by decide) (by omega) (by omega) (fun c31 => ?_) (fun c31 => ?_)
      · refine wa_iconst dX7_done_64 ?_
        refine wa_ist1 dX7_done_65 (by decide) rfl ?_
        refine wa_eqV (zp_self _ 41).symm ?_
        exact loop2 64 0 _ _ (by omega) (fun j hj => absurd hj (by omega)) (by simp (decide := true) only [zp_n, ne_eq]; exact he)
      · exact absurd c31 (by omega)
    | succ m ih =>
      intro i V1 f h hi hf hh he
      refine wa_ild1 dX7_done_28 ?_
      refine wa_bipush dX7_done_29 (by decide) ?_
      refine wa_icmp_ge 64 dX7_done_31 (by decide) (by omega) (by omega) (fun c31 => ?_) (fun c31 => ?_)
      · exact absurd c31 (by omega)
      · refine wa_ald0 dX7_done_34 ?_
        refine gX7_13 dX7_done_35 rfl (by first | assumption | exact hL.1 _ (by decide)) (by first | assumption | exact hL.2 _ _ (by decide)) ?_
        refine wa_ild1 dX7_done_38 ?_
        refine wa_ald0 dX7_done_39 ?_
        refine gX7_44 dX7_done_40 rfl (by first | assumption | exact hL.1 _ (by decide)) (by first | assumption | exact hL.2 _ _ (by decide)) ?_
        refine wa_ild1 dX7_done_43 ?_
        refine wa_iaload dX7_done_44 (by first | assumption | exact hL.1 _ (by decide)) (by omega) (by first | decide | omega) ?_
        refine wa_iastore dX7_done_45 (by first | assumption | exact hL.1 _ (by decide)) (by omega) (by first | decide | omega) ?_
        refine wa_ald0 dX7_done_46 ?_
        refine gX7_20 dX7_done_47 rfl (by first | assumption | exact hL.1 _ (by decide)) (by first | assumption | exact hL.2 _ _ (by decide)) ?_
        refine wa_ild1 dX7_done_50 ?_
        refine wa_ald0 dX7_done_51 ?_
        refine gX7_50 dX7_done_52 rfl (by first | assumption | exact hL.1 _ (by decide)) (by first | assumption | exact hL.2 _ _ (by decide)) ?_
        refine wa_ild1 dX7_done_55 ?_
        refine wa_iaload dX7_done_56 (by first | assumption | exact hL.1 _ (by decide)) (by omega) (by first | decide | omega) ?_
        refine wa_iastore dX7_done_57 (by first | assumption | exact hL.1 _ (by decide)) (by omega) (by first | decide | omega) ?_
        refine wa_iinc1 dX7_done_58 (by decide) rfl ?_
        refine wa_goto 28 dX7_done_61 (by decide) ?_
        refine wa_eqV ?_ (ih (i + 1) V1 (za f i (V1 44 i)) (za h i (V1 46 i)) (by omega) (fun j hj => by by_cases h : j = i; subst h; rw [za_s]; rw [za_n _ _ h]; exact hf j (by omega)) (fun j hj => by by_cases h : j = i; subst h; rw [za_s]; rw [za_n _ _ h]; exact hh j (by omega)) he)
        rw [Int.toNat_natCast, zp_comm _ _ _ (show (40 : Nat) ≠ 38 by decide), zp_zp]
        simp (decide := true) only [zp_zp, zp_s, zp_n, ne_eq]
  refine wa_ald0 dX7_done_0 ?_
  refine kX7_175 dX7_done_1 rfl (by first | assumption | exact hL.1 _ (by decide)) (cm_barOfTalk hL hI hfl hR) (by decide) (Nat.le_of_ble_eq_true rfl) ⟨Nat.le_refl _, Nat.le_refl _⟩ (zpI fun x V1 hp1 => ?_)
  obtain ⟨p1, p2⟩ := hp1
  have hx : x = 0 ∨ x = -5 := by rcases p2 with h | h; exact Or.inl h.2.1; exact Or.inr h.2
  refine wa_if_ge 10 dX7_done_4 (by decide) (by omega) (fun c4 => ?_) (fun c4 => ?_)
  · refine wa_ald0 dX7_done_10 ?_
    refine wa_ald0 dX7_done_11 ?_
    refine gX7_106 dX7_done_12 rfl (by first | assumption | exact hL.1 _ (by decide)) ?_
    refine pX7_82 dX7_done_15 rfl (by first | assumption | exact hL.1 _ (by decide)) ?_
    refine wa_ald0 dX7_done_18 ?_
    refine wa_ald0 dX7_done_19 ?_
    refine gX7_109 dX7_done_20 rfl (by first | assumption | exact hL.1 _ (by decide)) ?_
    refine pX7_85 dX7_done_23 rfl (by first | assumption | exact hL.1 _ (by decide)) ?_
    refine wa_iconst dX7_done_26 ?_
    refine wa_ist1 dX7_done_27 (by decide) rfl ?_
    rcases p2 with ⟨q1, q2, q3, q4, q5⟩ | ⟨q1, q2⟩
    · obtain ⟨r0, r38, r39, r40, r41, r3, r4, r7, r8, r9, r10, r11, r42, r13, r43⟩ := hR.go p1
      refine wa_eqV (V' := zp V1 37 (za (za (V1 37) 3 (V1 37 19)) 4 (V1 37 20))) ?_ ?_
      · simp (decide := true) only [zp_zp, zp_s, za_n, ne_eq]
      · have hh := loop1 8 0 (zp V1 37 (za (za (V1 37) 3 (V1 37 19)) 4 (V1 37 20))) (zp V1 37 (za (za (V1 37) 3 (V1 37 19)) 4 (V1 37 20)) 38) (zp V1 37 (za (za (V1 37) 3 (V1 37 19)) 4 (V1 37 20)) 40) (by omega) (fun j hj => absurd hj (by omega)) (fun j hj => absurd hj (by omega)) ?_
        · rw [zp_self, zp_self] at hh
          exact hh
        · simp (decide := true) only [zp_s, zp_n, za_n, ne_eq]
          refine ⟨by unfold dnX; rw [if_pos q1, q4], fun k hk => ?_, fun k a1 a2 a3 a4 a5 => ?_, fun W' hW => ?_⟩
          · rw [zp_n _ _ (by omega), zp_n _ _ (by omega), zp_n _ _ (by omega), zp_n _ _ (by omega), zp_n _ _ (by omega)]; exact p1.m k hk
          · rw [zp_n _ _ a1, zp_n _ _ a4, zp_n _ _ a3, zp_n _ _ a2, zp_n _ _ a1]; exact p1.1 k a1 a5
          · obtain ⟨d1, d2, d3, d4, d5, d6, d7, d8, d9, d10⟩ := hW.1 q1
            rw [if_pos q1]
            rw [← q5] at d1
            simp only [vr, vw, Prod.mk.injEq] at d1
            obtain ⟨t1, t2, t3, t4, t5⟩ := d1
            have e19 := d10 19 (by unfold scr; omega) (by decide)
            unfold RI
            simp (decide := true) only [zp_zp, zp_s, zp_n, za_s, za_n, ne_eq, t1, t2, t3, t4, t5, d4, d5, d6, d7, e19, r0, r38, r39, r40, r41, r3, r4, r7, r8, r9, r10, r11, r13, r43, true_and, Nat.reduceAdd]
            exact ⟨r42, trivial⟩
    · exfalso; omega
  · refine wa_bipush dX7_done_7 (by decide) ?_
    refine wa_ireturn dX7_done_9 rfl rfl (Nat.le_refl _) ?_
    have q1 : ¬ ((wdF c len W).2 = -6 ∧ (hdF c len W).1 = -6) := by rcases p2 with h | h; exfalso; have := h.2.1; omega; exact h.1
    refine ⟨rfl, rfl, by unfold dnX; rw [if_neg q1], p1.m, fun k a1 a2 a3 a4 a5 => p1.1 k a1 a5, fun W' hW => ?_⟩
    rw [if_neg q1]
    exact (hR.go p1).qry (hW.2 q1)
