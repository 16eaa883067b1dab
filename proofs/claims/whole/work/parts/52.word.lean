/-! the reference: a thaw, a word -/
theorem cm_thaw {n c : Nat} {S : zH} {Rf : zG} {V : zE} (F : Nat → Int) (hF : ∀ j, j < 64 → F j = 0) (hL : Lay S Rf) (hc : V 37 0 = (c : Int)) (h8 : c ≤ 8) (hd : ∀ j, 0 ≤ V 44 j ∧ V 44 j ≤ 100000) (ho : ∀ g, c ≤ g → g < 8 → V 46 g = 0) : Cpv 1 mX7_thaw [zR 37] n S Rf V (smP (thD c (V 44), fun _ => 0, F, V 37 19, V 37 20 + thB (V 44) c) V) := by
  refine ct_of (by decide) rfl (Nat.le_of_ble_eq_true rfl) ?_
  have loop2 : ∀ (m i : Nat) (V1 : zE) (f : Nat → Int), i + m = 64 → (∀ j, j < i → f j = 0) → smP (thD c (V 44), fun _ => 0, F, V 37 19, V 37 20 + thB (V 44) c) V (zp V1 47 F) → Wa zXn mX7_thaw (zrm 1 0 0) (zZm (qPN S Rf (smP (thD c (V 44), fun _ => 0, F, V 37 19, V 37 20 + thB (V 44) c) V)) (n + 0) 0 0) 0 0 n S 66 [some (zR 37), some (zI (i : Int)), none] [] Rf (zp V1 47 f) := by
    intro m
    induction m with
    | zero =>
      intro i V1 f hi hf he
      refine wa_row (hL.1 47 (by decide)) F (fun j hj => by rw [zp_s, hF j hj]; exact hf j (by omega)) ?_
      rw [zp_zp]
      refine wa_ild1 dX7_thaw_66 ?_
      refine wa_bipush dX7_thaw_67 (by decide) ?_
      refine wa_icmp_ge 85 dX7_thaw_69 (by decide) (by omega) (by omega) (fun c69 => ?_) (fun c69 => ?_)
      · exact wa_return dX7_thaw_85 rfl rfl (Nat.le_refl _) (by exact ⟨rfl, rfl, rfl, he⟩)
      · exact absurd c69 (by omega)
    | succ m ih =>
      intro i V1 f hi hf he
      refine wa_ild1 dX7_thaw_66 ?_
      refine wa_bipush dX7_thaw_67 (by decide) ?_
      refine wa_icmp_ge 85 dX7_thaw_69 (by decide) (by omega) (by omega) (fun c69 => ?_) (fun c69 => ?_)
      · exact absurd c69 (by omega)
      · refine wa_ald0 dX7_thaw_72 ?_
        refine gX7_53 dX7_thaw_73 rfl (by first | assumption | exact hL.1 _ (by decide)) (by first | assumption | exact hL.2 _ _ (by decide)) ?_
        refine wa_ild1 dX7_thaw_76 ?_
        refine wa_iconst dX7_thaw_77 ?_
        refine wa_iastore dX7_thaw_78 (by first | assumption | exact hL.1 _ (by decide)) (by omega) (by first | decide | omega) ?_
        refine wa_iinc1 dX7_thaw_79 (by decide) rfl ?_
        refine wa_goto 66 dX7_thaw_82 (by decide) ?_
        rw [zp_zp, zp_s, Int.toNat_natCast]
        exact ih (i + 1) V1 (za f i 0) (by omega) (fun j hj => by by_cases h : j = i; subst h; rw [za_s]; rw [za_n _ _ h]; exact hf j (by omega)) he
  have loop1 : ∀ (m i : Nat) (f h : Nat → Int), i + m = c → (∀ j, f j = if j < i then thD c (V 44) j else V 44 j) → (∀ j, h j = if j < i then 0 else V 46 j) → Wa zXn mX7_thaw (zrm 1 0 0) (zZm (qPN S Rf (smP (thD c (V 44), fun _ => 0, F, V 37 19, V 37 20 + thB (V 44) c) V)) (n + 0) 0 0) 0 0 n S 2 [some (zR 37), some (zI (i : Int)), none] [] Rf (zp (zp (zp V 37 (za (V 37) 20 (V 37 20 + thB (V 44) i))) 44 f) 46 h) := by
    intro m
    induction m with
    | zero =>
      intro i f h hi hf hh
      obtain rfl : i = c := by omega
      have ef : f = thD i (V 44) := by
        funext j
        rw [hf j]
        split
        · rfl
        · next h => unfold thD; rw [if_neg h]
      subst ef
      refine wa_row (hL.1 46 (by decide)) (fun _ => 0) (fun j hj => by rw [zp_s, hh j]; split; rfl; exact ho j (by omega) hj) ?_
      rw [zp_zp]
      refine wa_ild1 dX7_thaw_2 ?_
      refine wa_ald0 dX7_thaw_3 ?_
      refine gX7_7 dX7_thaw_4 rfl (by first | assumption | exact hL.1 _ (by decide)) ?_
      refine wa_icmp_ge 64 dX7_thaw_7 (by decide) (by first | omega | (simp (decide := true) only [zp_s, zp_n, za_n, ne_eq]; omega)) (by first | omega | (simp (decide := true) only [zp_s, zp_n, za_n, ne_eq]; omega)) (fun c7 => ?_) (fun c7 => ?_)
      · refine wa_iconst dX7_thaw_64 ?_
        refine wa_ist1 dX7_thaw_65 (by decide) rfl ?_
        refine wa_eqV (zp_self _ 47).symm (loop2 64 0 _ _ (by omega) (fun j hj => absurd hj (by omega)) ⟨by simp (decide := true) only [vr, zp_s, zp_n, za_s, za_n, ne_eq], fun j a b => ?_, fun k a b => ?_⟩)
        · simp (decide := true) only [zp_s, zp_n, ne_eq]; rw [za_n _ _ b]
        · rw [zp_n _ _ (by omega), zp_n _ _ (by omega), zp_n _ _ (by omega), zp_n _ _ (by omega)]
      · simp (decide := true) only [zp_s, zp_n, za_n, ne_eq] at c7; omega
    | succ m ih =>
      intro i f h hi hf hh
      have hdi := hd i
      have efi : f i = V 44 i := by rw [hf i, if_neg (by omega)]
      have e1 := ih (i + 1) (za f i (V 44 i - min 3 (V 44 i))) (za h i 0) (by omega) (zprog hf (by rw [thD, if_pos (by omega)])) (zprog hh rfl)
      rw [thB] at e1
      refine wa_ild1 dX7_thaw_2 ?_
      refine wa_ald0 dX7_thaw_3 ?_
      refine gX7_7 dX7_thaw_4 rfl (by first | assumption | exact hL.1 _ (by decide)) ?_
      refine wa_icmp_ge 64 dX7_thaw_7 (by decide) (by first | omega | (simp (decide := true) only [zp_s, zp_n, za_n, ne_eq, Int.toNat_natCast, efi]; omega)) (by first | omega | (simp (decide := true) only [zp_s, zp_n, za_n, ne_eq, Int.toNat_natCast, efi]; omega)) (fun c7 => ?_) (fun c7 => ?_)
      · simp (decide := true) only [zp_s, zp_n, za_n, ne_eq] at c7; omega
      · refine wa_ald0 dX7_thaw_10 ?_
        refine gX7_44 dX7_thaw_11 rfl (by first | assumption | exact hL.1 _ (by decide)) (by first | assumption | exact hL.2 _ _ (by decide)) ?_
        refine wa_ild1 dX7_thaw_14 ?_
        refine wa_iaload dX7_thaw_15 (by first | assumption | exact hL.1 _ (by decide)) (by first | omega | (simp (decide := true) only [zp_s, zp_n, za_n, ne_eq, Int.toNat_natCast, efi]; omega)) (by first | decide | omega) ?_
        refine wa_iconst dX7_thaw_16 ?_
        refine wa_icmp_ge 29 dX7_thaw_17 (by decide) (by first | omega | (simp (decide := true) only [zp_s, zp_n, za_n, ne_eq, Int.toNat_natCast, efi]; omega)) (by first | omega | (simp (decide := true) only [zp_s, zp_n, za_n, ne_eq, Int.toNat_natCast, efi]; omega)) (fun c17 => ?_) (fun c17 => ?_)
        · refine wa_iconst dX7_thaw_29 ?_
          refine wa_ist2 dX7_thaw_30 (by decide) rfl ?_
          refine wa_ald0 dX7_thaw_31 ?_
          refine gX7_44 dX7_thaw_32 rfl (by first | assumption | exact hL.1 _ (by decide)) (by first | assumption | exact hL.2 _ _ (by decide)) ?_
          refine wa_ild1 dX7_thaw_35 ?_
          refine wa_dup2 dX7_thaw_36 rfl rfl ?_
          refine wa_iaload dX7_thaw_37 (by first | assumption | exact hL.1 _ (by decide)) (by first | omega | (simp (decide := true) only [zp_s, zp_n, za_n, ne_eq, Int.toNat_natCast, efi]; omega)) (by first | decide | omega) ?_
          refine wa_ild2 dX7_thaw_38 ?_
          refine wa_isub dX7_thaw_39 ?_
          refine wa_iastore dX7_thaw_40 (by first | assumption | exact hL.1 _ (by decide)) (by first | omega | (simp (decide := true) only [zp_s, zp_n, za_n, ne_eq, Int.toNat_natCast, efi]; omega)) (by first | decide | omega) ?_
          refine wa_ald0 dX7_thaw_41 ?_
          refine wa_dup dX7_thaw_42 rfl ?_
          refine gX7_109 dX7_thaw_43 rfl (by first | assumption | exact hL.1 _ (by decide)) ?_
          refine wa_ild2 dX7_thaw_46 ?_
          refine wa_iadd dX7_thaw_47 ?_
          refine pX7_109 dX7_thaw_48 rfl (by first | assumption | exact hL.1 _ (by decide)) ?_
          refine wa_ald0 dX7_thaw_51 ?_
          refine gX7_50 dX7_thaw_52 rfl (by first | assumption | exact hL.1 _ (by decide)) (by first | assumption | exact hL.2 _ _ (by decide)) ?_
          refine wa_ild1 dX7_thaw_55 ?_
          refine wa_iconst dX7_thaw_56 ?_
          refine wa_iastore dX7_thaw_57 (by first | assumption | exact hL.1 _ (by decide)) (by first | omega | (simp (decide := true) only [zp_s, zp_n, za_n, ne_eq, Int.toNat_natCast, efi]; omega)) (by first | decide | omega) ?_
          refine wa_iinc1 dX7_thaw_58 (by decide) rfl ?_
          refine wa_goto 2 dX7_thaw_61 (by decide) ?_
          simp (decide := true) only [zp_s, zp_n, za_n, ne_eq, Int.toNat_natCast, efi] at c17
          refine wa_drop2 ?_
          refine wa_eqV ?_ e1
          first
            | rw [Int.min_eq_right (show V 44 i ≤ 3 by omega)]
            | rw [Int.min_eq_left (show 3 ≤ V 44 i by omega)]
          all_goals
            refine zp_of3 (by decide) (by decide) (by decide) (fun k a1 a2 a3 => ?_) ?_ ?_ ?_
            · simp only [zp_n _ _ a1, zp_n _ _ a2, zp_n _ _ a3]
            · simp (decide := true) only [zp_s, zp_n, za_s, za_n, za_za, ne_eq, Int.toNat_natCast, efi, Int.add_assoc]
            · simp (decide := true) only [zp_s, zp_n, za_s, za_n, ne_eq, Int.toNat_natCast, efi]
            · simp (decide := true) only [zp_s, zp_n, za_s, za_n, ne_eq, Int.toNat_natCast]
        · refine wa_ald0 dX7_thaw_20 ?_
          refine gX7_44 dX7_thaw_21 rfl (by first | assumption | exact hL.1 _ (by decide)) (by first | assumption | exact hL.2 _ _ (by decide)) ?_
          refine wa_ild1 dX7_thaw_24 ?_
          refine wa_iaload dX7_thaw_25 (by first | assumption | exact hL.1 _ (by decide)) (by first | omega | (simp (decide := true) only [zp_s, zp_n, za_n, ne_eq, Int.toNat_natCast, efi]; omega)) (by first | decide | omega) ?_
          refine wa_goto 30 dX7_thaw_26 (by decide) ?_
          refine wa_ist2 dX7_thaw_30 (by decide) rfl ?_
          refine wa_ald0 dX7_thaw_31 ?_
          refine gX7_44 dX7_thaw_32 rfl (by first | assumption | exact hL.1 _ (by decide)) (by first | assumption | exact hL.2 _ _ (by decide)) ?_
          refine wa_ild1 dX7_thaw_35 ?_
          refine wa_dup2 dX7_thaw_36 rfl rfl ?_
          refine wa_iaload dX7_thaw_37 (by first | assumption | exact hL.1 _ (by decide)) (by first | omega | (simp (decide := true) only [zp_s, zp_n, za_n, ne_eq, Int.toNat_natCast, efi]; omega)) (by first | decide | omega) ?_
          refine wa_ild2 dX7_thaw_38 ?_
          refine wa_isub dX7_thaw_39 ?_
          refine wa_iastore dX7_thaw_40 (by first | assumption | exact hL.1 _ (by decide)) (by first | omega | (simp (decide := true) only [zp_s, zp_n, za_n, ne_eq, Int.toNat_natCast, efi]; omega)) (by first | decide | omega) ?_
          refine wa_ald0 dX7_thaw_41 ?_
          refine wa_dup dX7_thaw_42 rfl ?_
          refine gX7_109 dX7_thaw_43 rfl (by first | assumption | exact hL.1 _ (by decide)) ?_
          refine wa_ild2 dX7_thaw_46 ?_
          refine wa_iadd dX7_thaw_47 ?_
          refine pX7_109 dX7_thaw_48 rfl (by first | assumption | exact hL.1 _ (by decide)) ?_
          refine wa_ald0 dX7_thaw_51 ?_
          refine gX7_50 dX7_thaw_52 rfl (by first | assumption | exact hL.1 _ (by decide)) (by first | assumption | exact hL.2 _ _ (by decide)) ?_
          refine wa_ild1 dX7_thaw_55 ?_
          refine wa_iconst dX7_thaw_56 ?_
          refine wa_iastore dX7_thaw_57 (by first | assumption | exact hL.1 _ (by decide)) (by first | omega | (simp (decide := true) only [zp_s, zp_n, za_n, ne_eq, Int.toNat_natCast, efi]; omega)) (by first | decide | omega) ?_
          refine wa_iinc1 dX7_thaw_58 (by decide) rfl ?_
          refine wa_goto 2 dX7_thaw_61 (by decide) ?_
          simp (decide := true) only [zp_s, zp_n, za_n, ne_eq, Int.toNat_natCast, efi] at c17
          refine wa_drop2 ?_
          refine wa_eqV ?_ e1
          first
            | rw [Int.min_eq_right (show V 44 i ≤ 3 by omega)]
            | rw [Int.min_eq_left (show 3 ≤ V 44 i by omega)]
          all_goals
            refine zp_of3 (by decide) (by decide) (by decide) (fun k a1 a2 a3 => ?_) ?_ ?_ ?_
            · simp only [zp_n _ _ a1, zp_n _ _ a2, zp_n _ _ a3]
            · simp (decide := true) only [zp_s, zp_n, za_s, za_n, za_za, ne_eq, Int.toNat_natCast, efi, Int.add_assoc]
            · simp (decide := true) only [zp_s, zp_n, za_s, za_n, ne_eq, Int.toNat_natCast, efi]
            · simp (decide := true) only [zp_s, zp_n, za_s, za_n, ne_eq, Int.toNat_natCast]
  refine wa_iconst dX7_thaw_0 ?_
  refine wa_ist1 dX7_thaw_1 (by decide) rfl ?_
  refine wa_eqV ?_ (loop1 c 0 (V 44) (V 46) (by omega) (fun j => by rw [if_neg (by omega)]) (fun j => by rw [if_neg (by omega)]))
  rw [thB, Int.add_zero, za_self, zp_self, zp_self, zp_self]
theorem cm_flakesOf {n : Nat} {S : zH} {Rf : zG} {V : zE} {rule : Nat → Int} {k g w h : Int} (hL : Lay S Rf) (hr : Rl rule V) (hg : 0 ≤ g ∧ g < 8) (hh : (k = 0 ∧ h = 116) ∨ (k = 1 ∧ h = 108)) : Ci 2 mX7_flakesOf [zR 37, zI g, zI w, zI h] n S Rf V (wtF rule (V 46) k g w) V := by
  obtain ⟨r0, r1, r2, r3⟩ := hr
  refine ct_of (by decide) rfl (Nat.le_of_ble_eq_true rfl) ?_
  refine wa_ild3 dX7_flakesOf_0 ?_
  refine wa_bipush dX7_flakesOf_1 (by decide) ?_
  refine wa_icmp_ne 13 dX7_flakesOf_3 (by decide) (by omega) (by omega) (fun c3 => ?_) (fun c3 => ?_)
  · refine wa_ald0 dX7_flakesOf_13 ?_
    refine gX7_115 dX7_flakesOf_14 rfl (by first | assumption | exact hL.1 _ (by decide)) ?_
    refine wa_ald0 dX7_flakesOf_17 ?_
    refine gX7_50 dX7_flakesOf_18 rfl (by first | assumption | exact hL.1 _ (by decide)) (by first | assumption | exact hL.2 _ _ (by decide)) ?_
    refine wa_ild1 dX7_flakesOf_21 ?_
    refine wa_iaload dX7_flakesOf_22 (by first | assumption | exact hL.1 _ (by decide)) (by omega) (by first | decide | omega) ?_
    refine wa_ild2 dX7_flakesOf_23 ?_
    refine kX7_121 dX7_flakesOf_24 rfl (cm_has) (by decide) (Nat.le_of_ble_eq_true rfl) ⟨Nat.le_refl _, Nat.le_refl _⟩ (zdI ?_)
    refine wa_ifeq_B 37 dX7_flakesOf_27 (by decide) (fun c27 => ?_) (fun c27 => ?_)
    · refine wa_iconst dX7_flakesOf_37 ?_
      refine wa_iadd dX7_flakesOf_38 ?_
      refine wa_ireturn dX7_flakesOf_39 rfl rfl (Nat.le_refl _) ?_
      refine ⟨?_, rfl, rfl, rfl⟩
      (first | rw [wtF, if_pos c27] | rw [wtF, if_neg c27])
      rcases hh with ⟨rfl, rfl⟩ | ⟨rfl, rfl⟩
      · first | exact absurd rfl c3 | simp [r0, r1, r2]
      · first | (exfalso; revert c3; decide) | simp [r0, r1, r2]
    · refine wa_ald0 dX7_flakesOf_30 ?_
      refine gX7_118 dX7_flakesOf_31 rfl (by first | assumption | exact hL.1 _ (by decide)) ?_
      refine wa_goto 38 dX7_flakesOf_34 (by decide) ?_
      refine wa_iadd dX7_flakesOf_38 ?_
      refine wa_ireturn dX7_flakesOf_39 rfl rfl (Nat.le_refl _) ?_
      refine ⟨?_, rfl, rfl, rfl⟩
      (first | rw [wtF, if_pos c27] | rw [wtF, if_neg c27])
      rcases hh with ⟨rfl, rfl⟩ | ⟨rfl, rfl⟩
      · first | exact absurd rfl c3 | simp [r0, r1, r2]
      · first | (exfalso; revert c3; decide) | simp [r0, r1, r2]
  · refine wa_ald0 dX7_flakesOf_6 ?_
    refine gX7_112 dX7_flakesOf_7 rfl (by first | assumption | exact hL.1 _ (by decide)) ?_
    refine wa_goto 17 dX7_flakesOf_10 (by decide) ?_
    refine wa_ald0 dX7_flakesOf_17 ?_
    refine gX7_50 dX7_flakesOf_18 rfl (by first | assumption | exact hL.1 _ (by decide)) (by first | assumption | exact hL.2 _ _ (by decide)) ?_
    refine wa_ild1 dX7_flakesOf_21 ?_
    refine wa_iaload dX7_flakesOf_22 (by first | assumption | exact hL.1 _ (by decide)) (by omega) (by first | decide | omega) ?_
    refine wa_ild2 dX7_flakesOf_23 ?_
    refine kX7_121 dX7_flakesOf_24 rfl (cm_has) (by decide) (Nat.le_of_ble_eq_true rfl) ⟨Nat.le_refl _, Nat.le_refl _⟩ (zdI ?_)
    refine wa_ifeq_B 37 dX7_flakesOf_27 (by decide) (fun c27 => ?_) (fun c27 => ?_)
    · refine wa_iconst dX7_flakesOf_37 ?_
      refine wa_iadd dX7_flakesOf_38 ?_
      refine wa_ireturn dX7_flakesOf_39 rfl rfl (Nat.le_refl _) ?_
      refine ⟨?_, rfl, rfl, rfl⟩
      (first | rw [wtF, if_pos c27] | rw [wtF, if_neg c27])
      rcases hh with ⟨rfl, rfl⟩ | ⟨rfl, rfl⟩
      · first | exact absurd rfl c3 | simp [r0, r1, r2]
      · first | (exfalso; revert c3; decide) | simp [r0, r1, r2]
    · refine wa_ald0 dX7_flakesOf_30 ?_
      refine gX7_118 dX7_flakesOf_31 rfl (by first | assumption | exact hL.1 _ (by decide)) ?_
      refine wa_goto 38 dX7_flakesOf_34 (by decide) ?_
      refine wa_iadd dX7_flakesOf_38 ?_
      refine wa_ireturn dX7_flakesOf_39 rfl rfl (Nat.le_refl _) ?_
      refine ⟨?_, rfl, rfl, rfl⟩
      (first | rw [wtF, if_pos c27] | rw [wtF, if_neg c27])
      rcases hh with ⟨rfl, rfl⟩ | ⟨rfl, rfl⟩
      · first | exact absurd rfl c3 | simp [r0, r1, r2]
      · first | (exfalso; revert c3; decide) | simp [r0, r1, r2]
theorem cm_snow {n c : Nat} {S : zH} {Rf : zG} {V : zE} {rule : Nat → Int} {k g w h : Int} (hL : Lay S Rf) (hr : Rl rule V) (hg : 0 ≤ g ∧ g < 8) (hw : 0 ≤ w ∧ w < 8) (hh : (k = 0 ∧ h = 116) ∨ (k = 1 ∧ h = 108)) : Cpv 3 mX7_snow [zR 37, zI g, zI w, zI h] n S Rf V (smP (spkS c rule k g w (vr V)) V) := by
  refine ct_of (by decide) rfl (Nat.le_of_ble_eq_true rfl) ?_
  refine wa_ald0 dX7_snow_0 ?_
  refine wa_ild1 dX7_snow_1 ?_
  refine wa_ild2 dX7_snow_2 ?_
  refine wa_ild3 dX7_snow_3 ?_
  refine kX7_125 dX7_snow_4 rfl (by first | assumption | exact hL.1 _ (by decide)) (cm_flakesOf hL hr hg hh) (by decide) (Nat.le_of_ble_eq_true rfl) ⟨Nat.le_refl _, Nat.le_refl _⟩ (zdI ?_)
  refine wa_ist4 dX7_snow_7 (by decide) rfl ?_
  refine wa_ald0 dX7_snow_9 ?_
  refine gX7_44 dX7_snow_10 rfl (by first | assumption | exact hL.1 _ (by decide)) (by first | assumption | exact hL.2 _ _ (by decide)) ?_
  refine wa_ild1 dX7_snow_13 ?_
  refine wa_dup2 dX7_snow_14 rfl rfl ?_
  refine wa_iaload dX7_snow_15 (by first | assumption | exact hL.1 _ (by decide)) (by omega) (by first | decide | omega) ?_
  refine wa_ild4 dX7_snow_16 ?_
  refine wa_iadd dX7_snow_18 ?_
  refine wa_iastore dX7_snow_19 (by first | assumption | exact hL.1 _ (by decide)) (by omega) (by first | decide | omega) ?_
  refine wa_ald0 dX7_snow_20 ?_
  refine gX7_53 dX7_snow_21 rfl (by first | assumption | exact hL.1 _ (by decide)) (by first | assumption | exact hL.2 _ _ (by decide)) ?_
  refine wa_bipush dX7_snow_24 (by decide) ?_
  refine wa_ild1 dX7_snow_26 ?_
  refine wa_imul dX7_snow_27 ?_
  refine wa_ild2 dX7_snow_28 ?_
  refine wa_iadd dX7_snow_29 ?_
  refine wa_dup2 dX7_snow_30 rfl rfl ?_
  refine wa_iaload dX7_snow_31 (by first | assumption | exact hL.1 _ (by decide)) (by omega) (by first | decide | omega) ?_
  refine wa_ild4 dX7_snow_32 ?_
  refine wa_iadd dX7_snow_34 ?_
  refine wa_iastore dX7_snow_35 (by first | assumption | exact hL.1 _ (by decide)) (by omega) (by first | decide | omega) ?_
  refine wa_ald0 dX7_snow_36 ?_
  refine gX7_50 dX7_snow_37 rfl (by first | assumption | exact hL.1 _ (by decide)) (by first | assumption | exact hL.2 _ _ (by decide)) ?_
  refine wa_ild1 dX7_snow_40 ?_
  refine wa_dup2 dX7_snow_41 rfl rfl ?_
  refine wa_iaload dX7_snow_42 (by first | assumption | exact hL.1 _ (by decide)) (by omega) (by first | decide | omega) ?_
  refine wa_iconst dX7_snow_43 ?_
  refine wa_ild2 dX7_snow_44 ?_
  refine wa_ishl1 dX7_snow_45 (by omega) ?_
  refine wa_ior dX7_snow_46 ?_
  refine wa_iastore dX7_snow_47 (by first | assumption | exact hL.1 _ (by decide)) (by omega) (by first | decide | omega) ?_
  refine wa_return dX7_snow_48 rfl rfl (Nat.le_refl _) ?_
  refine ⟨rfl, rfl, rfl, ?_, fun j a b => ?_, fun k a b => ?_⟩
  · rw [spkS, if_pos (by omega)]
    simp (decide := true) only [vr, zp_s, zp_n, ne_eq, Int.mul_comm 8 g]
  · simp (decide := true) only [zp_s, zp_n, ne_eq]
  · rw [zp_n _ _ (by omega), zp_n _ _ (by omega), zp_n _ _ (by omega)]
theorem cm_isBare {n c : Nat} {S : zH} {Rf : zG} {V : zE} {rule said : Nat → Int} {g w : Int} (hL : Lay S Rf) (hc : V 37 0 = (c : Int)) (h2 : 2 ≤ c) (h8 : c ≤ 8) (hg : 0 ≤ g ∧ g < c) (hd : ∀ j, 0 ≤ V 44 j ∧ V 44 j ≤ 100000) : Ci 1 mX7_isBare [zR 37, zI g] n S Rf V (if ¬ hinF c (V 44) rule said 3 g w = 0 then 1 else 0) V := by
  refine ct_of (by decide) rfl (Nat.le_of_ble_eq_true rfl) ?_
  have d0 := hd g.toNat
  have d1 := hd (g - 1).toNat
  have d2 := hd (g + 1).toNat
  have e : hinF c (V 44) rule said 3 g w = if (0 ≤ g ∧ g < c ∧ 0 < V 44 g.toNat) ∨ (0 ≤ g - 1 ∧ g - 1 < c ∧ 0 < V 44 (g - 1).toNat) ∨ (0 ≤ g + 1 ∧ g + 1 < c ∧ 0 < V 44 (g + 1).toNat) then 0 else 2 := by
    rw [hinF, if_neg (by decide), if_pos rfl]
  rw [e]
  refine wa_ald0 dX7_isBare_0 ?_
  refine gX7_44 dX7_isBare_1 rfl (by first | assumption | exact hL.1 _ (by decide)) (by first | assumption | exact hL.2 _ _ (by decide)) ?_
  refine wa_ild1 dX7_isBare_4 ?_
  refine wa_iaload dX7_isBare_5 (by first | assumption | exact hL.1 _ (by decide)) (by omega) (by first | decide | omega) ?_
  refine wa_if_ne 49 dX7_isBare_6 (by decide) (by omega) (fun c6 => ?_) (fun c6 => ?_)
  · refine wa_iconst dX7_isBare_49 ?_
    refine wa_breturn dX7_isBare_50 rfl rfl (Nat.le_refl _) (by first | exact Or.inl rfl | exact Or.inr rfl | (split <;> simp)) ?_
    refine ⟨?_, rfl, rfl, rfl⟩
    by_cases hP : (0 ≤ g ∧ g < c ∧ 0 < V 44 g.toNat) ∨ (0 ≤ g - 1 ∧ g - 1 < c ∧ 0 < V 44 (g - 1).toNat) ∨ (0 ≤ g + 1 ∧ g + 1 < c ∧ 0 < V 44 (g + 1).toNat)
    · first | (exfalso; omega) | rw [if_pos hP, if_neg (fun q => q rfl)]
    · first | (exfalso; omega) | rw [if_neg hP, if_pos (by decide)]
  · refine wa_ild1 dX7_isBare_9 ?_
    refine wa_if_eq 24 dX7_isBare_10 (by decide) (by omega) (fun c10 => ?_) (fun c10 => ?_)
    · refine wa_ild1 dX7_isBare_24 ?_
      refine wa_ald0 dX7_isBare_25 ?_
      refine gX7_7 dX7_isBare_26 rfl (by first | assumption | exact hL.1 _ (by decide)) ?_
      refine wa_iconst dX7_isBare_29 ?_
      refine wa_isub dX7_isBare_30 ?_
      refine wa_icmp_eq 45 dX7_isBare_31 (by decide) (by omega) (by omega) (fun c31 => ?_) (fun c31 => ?_)
      · refine wa_iconst dX7_isBare_45 ?_
        refine wa_goto 50 dX7_isBare_46 (by decide) ?_
        refine wa_breturn dX7_isBare_50 rfl rfl (Nat.le_refl _) (by first | exact Or.inl rfl | exact Or.inr rfl | (split <;> simp)) ?_
        refine ⟨?_, rfl, rfl, rfl⟩
        by_cases hP : (0 ≤ g ∧ g < c ∧ 0 < V 44 g.toNat) ∨ (0 ≤ g - 1 ∧ g - 1 < c ∧ 0 < V 44 (g - 1).toNat) ∨ (0 ≤ g + 1 ∧ g + 1 < c ∧ 0 < V 44 (g + 1).toNat)
        · first | (exfalso; omega) | rw [if_pos hP, if_neg (fun q => q rfl)]
        · first | (exfalso; omega) | rw [if_neg hP, if_pos (by decide)]
      · refine wa_ald0 dX7_isBare_34 ?_
        refine gX7_44 dX7_isBare_35 rfl (by first | assumption | exact hL.1 _ (by decide)) (by first | assumption | exact hL.2 _ _ (by decide)) ?_
        refine wa_ild1 dX7_isBare_38 ?_
        refine wa_iconst dX7_isBare_39 ?_
        refine wa_iadd dX7_isBare_40 ?_
        refine wa_iaload dX7_isBare_41 (by first | assumption | exact hL.1 _ (by decide)) (by omega) (by first | decide | omega) ?_
        refine wa_if_ne 49 dX7_isBare_42 (by decide) (by omega) (fun c42 => ?_) (fun c42 => ?_)
        · refine wa_iconst dX7_isBare_49 ?_
          refine wa_breturn dX7_isBare_50 rfl rfl (Nat.le_refl _) (by first | exact Or.inl rfl | exact Or.inr rfl | (split <;> simp)) ?_
          refine ⟨?_, rfl, rfl, rfl⟩
          by_cases hP : (0 ≤ g ∧ g < c ∧ 0 < V 44 g.toNat) ∨ (0 ≤ g - 1 ∧ g - 1 < c ∧ 0 < V 44 (g - 1).toNat) ∨ (0 ≤ g + 1 ∧ g + 1 < c ∧ 0 < V 44 (g + 1).toNat)
          · first | (exfalso; omega) | rw [if_pos hP, if_neg (fun q => q rfl)]
          · first | (exfalso; omega) | rw [if_neg hP, if_pos (by decide)]
        · refine wa_iconst dX7_isBare_45 ?_
          refine wa_goto 50 dX7_isBare_46 (by decide) ?_
          refine wa_breturn dX7_isBare_50 rfl rfl (Nat.le_refl _) (by first | exact Or.inl rfl | exact Or.inr rfl | (split <;> simp)) ?_
          refine ⟨?_, rfl, rfl, rfl⟩
          by_cases hP : (0 ≤ g ∧ g < c ∧ 0 < V 44 g.toNat) ∨ (0 ≤ g - 1 ∧ g - 1 < c ∧ 0 < V 44 (g - 1).toNat) ∨ (0 ≤ g + 1 ∧ g + 1 < c ∧ 0 < V 44 (g + 1).toNat)
          · first | (exfalso; omega) | rw [if_pos hP, if_neg (fun q => q rfl)]
          · first | (exfalso; omega) | rw [if_neg hP, if_pos (by decide)]
    · refine wa_ald0 dX7_isBare_13 ?_
      refine gX7_44 dX7_isBare_14 rfl (by first | assumption | exact hL.1 _ (by decide)) (by first | assumption | exact hL.2 _ _ (by decide)) ?_
      refine wa_ild1 dX7_isBare_17 ?_
      refine wa_iconst dX7_isBare_18 ?_
      refine wa_isub dX7_isBare_19 ?_
      refine wa_iaload dX7_isBare_20 (by first | assumption | exact hL.1 _ (by decide)) (by omega) (by first | decide | omega) ?_
      refine wa_if_ne 49 dX7_isBare_21 (by decide) (by omega) (fun c21 => ?_) (fun c21 => ?_)
      · refine wa_iconst dX7_isBare_49 ?_
        refine wa_breturn dX7_isBare_50 rfl rfl (Nat.le_refl _) (by first | exact Or.inl rfl | exact Or.inr rfl | (split <;> simp)) ?_
        refine ⟨?_, rfl, rfl, rfl⟩
        by_cases hP : (0 ≤ g ∧ g < c ∧ 0 < V 44 g.toNat) ∨ (0 ≤ g - 1 ∧ g - 1 < c ∧ 0 < V 44 (g - 1).toNat) ∨ (0 ≤ g + 1 ∧ g + 1 < c ∧ 0 < V 44 (g + 1).toNat)
        · first | (exfalso; omega) | rw [if_pos hP, if_neg (fun q => q rfl)]
        · first | (exfalso; omega) | rw [if_neg hP, if_pos (by decide)]
      · refine wa_ild1 dX7_isBare_24 ?_
        refine wa_ald0 dX7_isBare_25 ?_
        refine gX7_7 dX7_isBare_26 rfl (by first | assumption | exact hL.1 _ (by decide)) ?_
        refine wa_iconst dX7_isBare_29 ?_
        refine wa_isub dX7_isBare_30 ?_
        refine wa_icmp_eq 45 dX7_isBare_31 (by decide) (by omega) (by omega) (fun c31 => ?_) (fun c31 => ?_)
        · refine wa_iconst dX7_isBare_45 ?_
          refine wa_goto 50 dX7_isBare_46 (by decide) ?_
          refine wa_breturn dX7_isBare_50 rfl rfl (Nat.le_refl _) (by first | exact Or.inl rfl | exact Or.inr rfl | (split <;> simp)) ?_
          refine ⟨?_, rfl, rfl, rfl⟩
          by_cases hP : (0 ≤ g ∧ g < c ∧ 0 < V 44 g.toNat) ∨ (0 ≤ g - 1 ∧ g - 1 < c ∧ 0 < V 44 (g - 1).toNat) ∨ (0 ≤ g + 1 ∧ g + 1 < c ∧ 0 < V 44 (g + 1).toNat)
          · first | (exfalso; omega) | rw [if_pos hP, if_neg (fun q => q rfl)]
          · first | (exfalso; omega) | rw [if_neg hP, if_pos (by decide)]
        · refine wa_ald0 dX7_isBare_34 ?_
          refine gX7_44 dX7_isBare_35 rfl (by first | assumption | exact hL.1 _ (by decide)) (by first | assumption | exact hL.2 _ _ (by decide)) ?_
          refine wa_ild1 dX7_isBare_38 ?_
          refine wa_iconst dX7_isBare_39 ?_
          refine wa_iadd dX7_isBare_40 ?_
          refine wa_iaload dX7_isBare_41 (by first | assumption | exact hL.1 _ (by decide)) (by omega) (by first | decide | omega) ?_
          refine wa_if_ne 49 dX7_isBare_42 (by decide) (by omega) (fun c42 => ?_) (fun c42 => ?_)
          · refine wa_iconst dX7_isBare_49 ?_
            refine wa_breturn dX7_isBare_50 rfl rfl (Nat.le_refl _) (by first | exact Or.inl rfl | exact Or.inr rfl | (split <;> simp)) ?_
            refine ⟨?_, rfl, rfl, rfl⟩
            by_cases hP : (0 ≤ g ∧ g < c ∧ 0 < V 44 g.toNat) ∨ (0 ≤ g - 1 ∧ g - 1 < c ∧ 0 < V 44 (g - 1).toNat) ∨ (0 ≤ g + 1 ∧ g + 1 < c ∧ 0 < V 44 (g + 1).toNat)
            · first | (exfalso; omega) | rw [if_pos hP, if_neg (fun q => q rfl)]
            · first | (exfalso; omega) | rw [if_neg hP, if_pos (by decide)]
          · refine wa_iconst dX7_isBare_45 ?_
            refine wa_goto 50 dX7_isBare_46 (by decide) ?_
            refine wa_breturn dX7_isBare_50 rfl rfl (Nat.le_refl _) (by first | exact Or.inl rfl | exact Or.inr rfl | (split <;> simp)) ?_
            refine ⟨?_, rfl, rfl, rfl⟩
            by_cases hP : (0 ≤ g ∧ g < c ∧ 0 < V 44 g.toNat) ∨ (0 ≤ g - 1 ∧ g - 1 < c ∧ 0 < V 44 (g - 1).toNat) ∨ (0 ≤ g + 1 ∧ g + 1 < c ∧ 0 < V 44 (g + 1).toNat)
            · first | (exfalso; omega) | rw [if_pos hP, if_neg (fun q => q rfl)]
            · first | (exfalso; omega) | rw [if_neg hP, if_pos (by decide)]
theorem cm_whyNot {n c : Nat} {S : zH} {Rf : zG} {V : zE} {rule : Nat → Int} {k g w h : Int} (hL : Lay S Rf) (hr : Rl rule V) (hu : ∀ j, 0 ≤ rule j ∧ rule j ≤ 9) (h8 : c ≤ 8) (hg : 0 ≤ g ∧ g < c) (hw : 0 ≤ w ∧ w < c) (hd : ∀ j, 0 ≤ V 44 j ∧ V 44 j ≤ 100000) (hh : (k = 0 ∧ h = 116) ∨ (k = 1 ∧ h = 108) ∨ (k = 2 ∧ h = 43)) : Ci 3 mX7_whyNot [zR 37, zI g, zI w, zI h] n S Rf V (hinF c (V 44) rule (V 46) k g w) V := by
  refine ct_of (by decide) rfl (Nat.le_of_ble_eq_true rfl) ?_
  have d0 := hd g.toNat
  have hb := wtF_b (rule := rule) (said := V 46) (k := k) (g := g) (w := w) hu
  rw [hinF, if_neg (by omega), if_neg (by omega)]
  refine wa_ild1 dX7_whyNot_0 ?_
  refine wa_ild2 dX7_whyNot_1 ?_
  refine wa_icmp_ne 7 dX7_whyNot_2 (by decide) (by omega) (by omega) (fun c2 => ?_) (fun c2 => ?_)
  · refine wa_ild3 dX7_whyNot_7 ?_
    refine wa_bipush dX7_whyNot_8 (by decide) ?_
    refine wa_icmp_ne 28 dX7_whyNot_10 (by decide) (by omega) (by omega) (fun c10 => ?_) (fun c10 => ?_)
    · refine wa_ald0 dX7_whyNot_28 ?_
      refine gX7_44 dX7_whyNot_29 rfl (by first | assumption | exact hL.1 _ (by decide)) (by first | assumption | exact hL.2 _ _ (by decide)) ?_
      refine wa_ild1 dX7_whyNot_32 ?_
      refine wa_iaload dX7_whyNot_33 (by first | assumption | exact hL.1 _ (by decide)) (by omega) (by first | decide | omega) ?_
      refine wa_ald0 dX7_whyNot_34 ?_
      refine wa_ild1 dX7_whyNot_35 ?_
      refine wa_ild2 dX7_whyNot_36 ?_
      refine wa_ild3 dX7_whyNot_37 ?_
      refine kX7_125 dX7_whyNot_38 rfl (by first | assumption | exact hL.1 _ (by decide)) (cm_flakesOf hL hr (by omega) (show (k = 0 ∧ h = 116) ∨ (k = 1 ∧ h = 108) by omega)) (by decide) (Nat.le_of_ble_eq_true rfl) ⟨Nat.le_refl _, Nat.le_refl _⟩ (zdI ?_)
      refine wa_iadd dX7_whyNot_41 ?_
      refine wa_sipush dX7_whyNot_42 (by decide) ?_
      refine wa_icmp_le 52 dX7_whyNot_45 (by decide) (by omega) (by omega) (fun c45 => ?_) (fun c45 => ?_)
      · refine wa_iconst dX7_whyNot_52 ?_
        refine wa_ireturn dX7_whyNot_53 rfl rfl (Nat.le_refl _) ?_
        refine ⟨?_, rfl, rfl, rfl⟩
        rw [if_neg c2, if_neg (by omega)]
        (first | rw [if_pos (by omega)] | rw [if_neg (by omega)])
      · refine wa_iconst dX7_whyNot_48 ?_
        refine wa_goto 53 dX7_whyNot_49 (by decide) ?_
        refine wa_ireturn dX7_whyNot_53 rfl rfl (Nat.le_refl _) ?_
        refine ⟨?_, rfl, rfl, rfl⟩
        rw [if_neg c2, if_neg (by omega)]
        (first | rw [if_pos (by omega)] | rw [if_neg (by omega)])
    · refine wa_ald0 dX7_whyNot_13 ?_
      refine gX7_44 dX7_whyNot_14 rfl (by first | assumption | exact hL.1 _ (by decide)) (by first | assumption | exact hL.2 _ _ (by decide)) ?_
      refine wa_ild1 dX7_whyNot_17 ?_
      refine wa_iaload dX7_whyNot_18 (by first | assumption | exact hL.1 _ (by decide)) (by omega) (by first | decide | omega) ?_
      refine wa_if_ne 26 dX7_whyNot_19 (by decide) (by omega) (fun c19 => ?_) (fun c19 => ?_)
      · refine wa_iconst dX7_whyNot_26 ?_
        refine wa_ireturn dX7_whyNot_27 rfl rfl (Nat.le_refl _) ?_
        refine ⟨?_, rfl, rfl, rfl⟩
        rw [if_neg c2, if_pos (by omega)]
        (first | rw [if_pos (by omega)] | rw [if_neg (by omega)])
      · refine wa_iconst dX7_whyNot_22 ?_
        refine wa_goto 27 dX7_whyNot_23 (by decide) ?_
        refine wa_ireturn dX7_whyNot_27 rfl rfl (Nat.le_refl _) ?_
        refine ⟨?_, rfl, rfl, rfl⟩
        rw [if_neg c2, if_pos (by omega)]
        (first | rw [if_pos (by omega)] | rw [if_neg (by omega)])
  · refine wa_iconst dX7_whyNot_5 ?_
    exact wa_ireturn dX7_whyNot_6 rfl rfl (Nat.le_refl _) (by exact ⟨by rw [if_pos c2], rfl, rfl, rfl⟩)
theorem cm_speak {n c : Nat} {S : zH} {Rf : zG} {V : zE} {rule : Nat → Int} {k g w h : Int} (hL : Lay S Rf) (hr : Rl rule V) (hu : ∀ j, 0 ≤ rule j ∧ rule j ≤ 9) (h8 : c ≤ 8) (hg : 0 ≤ g ∧ g < c) (hw : 0 ≤ w ∧ w < c) (hd : ∀ j, 0 ≤ V 44 j ∧ V 44 j ≤ 100000) (hh : (k = 0 ∧ h = 116) ∨ (k = 1 ∧ h = 108) ∨ (k = 2 ∧ h = 43)) : Cpv 4 mX7_speak [zR 37, zI g, zI w, zI h] n S Rf V (smP (spkS c rule k g w (vr V)) V) := by
  refine ct_of (by decide) rfl (Nat.le_of_ble_eq_true rfl) ?_
  have d0 := hd g.toNat
  have u3 := hu 3
  have r3 := hr.2.2.2
  refine wa_ild3 dX7_speak_0 ?_
  refine wa_bipush dX7_speak_1 (by decide) ?_
  refine wa_icmp_ne 28 dX7_speak_3 (by decide) (by omega) (by omega) (fun c3 => ?_) (fun c3 => ?_)
  · refine wa_ald0 dX7_speak_28 ?_
    refine wa_ild1 dX7_speak_29 ?_
    refine wa_ild2 dX7_speak_30 ?_
    refine wa_ild3 dX7_speak_31 ?_
    refine kX7_133 dX7_speak_32 rfl (by first | assumption | exact hL.1 _ (by decide)) (cm_snow (c := c) hL hr (by omega) (by omega) (show (k = 0 ∧ h = 116) ∨ (k = 1 ∧ h = 108) by omega)) (by decide) (Nat.le_of_ble_eq_true rfl) ⟨Nat.le_refl _, Nat.le_refl _⟩ (zpN fun V1 hp1 => ?_)
    refine wa_return dX7_speak_35 rfl rfl (Nat.le_refl _) ?_
    first
      | exact ⟨rfl, rfl, rfl, hp1⟩
      | (refine ⟨rfl, rfl, rfl, ?_, fun j a b => ?_, fun k a b => ?_⟩
         · rw [spkS, if_neg (by omega), if_pos (by omega), lwF, if_pos (by omega)]
           simp (decide := true) only [vr, zp_s, zp_n, ne_eq, r3]
         · simp (decide := true) only [zp_s, zp_n, ne_eq]
         · rw [zp_n _ _ (by omega)])
  · refine wa_ald0 dX7_speak_6 ?_
    refine gX7_44 dX7_speak_7 rfl (by first | assumption | exact hL.1 _ (by decide)) (by first | assumption | exact hL.2 _ _ (by decide)) ?_
    refine wa_ild1 dX7_speak_10 ?_
    refine wa_ald0 dX7_speak_11 ?_
    refine gX7_44 dX7_speak_12 rfl (by first | assumption | exact hL.1 _ (by decide)) (by first | assumption | exact hL.2 _ _ (by decide)) ?_
    refine wa_ild1 dX7_speak_15 ?_
    refine wa_iaload dX7_speak_16 (by first | assumption | exact hL.1 _ (by decide)) (by omega) (by first | decide | omega) ?_
    refine wa_ald0 dX7_speak_17 ?_
    refine gX7_35 dX7_speak_18 rfl (by first | assumption | exact hL.1 _ (by decide)) ?_
    refine kX7_129 dX7_speak_21 rfl (cm_less (by omega) (by omega)) (by decide) (Nat.le_of_ble_eq_true rfl) ⟨Nat.le_refl _, Nat.le_refl _⟩ (zdI ?_)
    refine wa_iastore dX7_speak_24 (by first | assumption | exact hL.1 _ (by decide)) (by omega) (by first | decide | omega) ?_
    refine wa_goto 35 dX7_speak_25 (by decide) ?_
    refine wa_return dX7_speak_35 rfl rfl (Nat.le_refl _) ?_
    first
      | exact ⟨rfl, rfl, rfl, hp1⟩
      | (refine ⟨rfl, rfl, rfl, ?_, fun j a b => ?_, fun k a b => ?_⟩
         · rw [spkS, if_neg (by omega), if_pos (by omega), lwF, if_pos (by omega)]
           simp (decide := true) only [vr, zp_s, zp_n, ne_eq, r3]
         · simp (decide := true) only [zp_s, zp_n, ne_eq]
         · rw [zp_n _ _ (by omega)])
theorem cm_salt {n c : Nat} {S : zH} {Rf : zG} {V : zE} {rule : Nat → Int} {g w : Int} (hL : Lay S Rf) (hc : V 37 0 = (c : Int)) (h8 : c ≤ 8) (hg : 0 ≤ g ∧ g < c) (hd : ∀ j, 0 ≤ V 44 j ∧ V 44 j ≤ 100000) : Cpv 2 mX7_salt [zR 37, zI g] n S Rf V (smP (spkS c rule 3 g w (vr V)) V) := by
  refine ct_of (by decide) rfl (Nat.le_of_ble_eq_true rfl) ?_
  have d0 := hd g.toNat
  have d1 := hd (g - 1).toNat
  have d2 := hd (g + 1).toNat
  have e1 : (g - 1).toNat ≠ g.toNat ∨ g = 0 := by omega
  have e2 : (g + 1).toNat ≠ g.toNat := by omega
  have e3 : (g + 1).toNat ≠ (g - 1).toNat := by omega
  have e : spkS c rule 3 g w (vr V) = (lwF c (g + 1) 1 (lwF c (g - 1) 1 (lwF c g 2 (V 44))), V 46, V 47, V 37 19, V 37 20) := by
    rw [spkS, if_neg (by decide), if_neg (by decide), if_pos rfl]
  rw [e]
  rw [show lwF c g 2 (V 44) = za (V 44) g.toNat (max 0 (V 44 g.toNat - 2)) by rw [lwF, if_pos (by omega)]]
  refine wa_ald0 dX7_salt_0 ?_
  refine gX7_44 dX7_salt_1 rfl (by first | assumption | exact hL.1 _ (by decide)) (by first | assumption | exact hL.2 _ _ (by decide)) ?_
  refine wa_ild1 dX7_salt_4 ?_
  refine wa_ald0 dX7_salt_5 ?_
  refine gX7_44 dX7_salt_6 rfl (by first | assumption | exact hL.1 _ (by decide)) (by first | assumption | exact hL.2 _ _ (by decide)) ?_
  refine wa_ild1 dX7_salt_9 ?_
  refine wa_iaload dX7_salt_10 (by first | assumption | exact hL.1 _ (by decide)) (by first | omega | (simp (decide := true) only [zp_s, zp_n, ne_eq]; (try rw [za_n _ _ (by omega)]); (try rw [za_n _ _ (by omega)]); omega)) (by first | decide | omega) ?_
  refine wa_iconst dX7_salt_11 ?_
  refine kX7_129 dX7_salt_12 rfl (cm_less (by omega) (by decide)) (by decide) (Nat.le_of_ble_eq_true rfl) ⟨Nat.le_refl _, Nat.le_refl _⟩ (zdI ?_)
  refine wa_iastore dX7_salt_15 (by first | assumption | exact hL.1 _ (by decide)) (by first | omega | (simp (decide := true) only [zp_s, zp_n, ne_eq]; (try rw [za_n _ _ (by omega)]); (try rw [za_n _ _ (by omega)]); omega)) (by first | decide | omega) ?_
  refine wa_ild1 dX7_salt_16 ?_
  refine wa_if_le 40 dX7_salt_17 (by decide) (by first | omega | (simp (decide := true) only [zp_s, zp_n, ne_eq]; (try rw [za_n _ _ (by omega)]); (try rw [za_n _ _ (by omega)]); omega)) (fun c17 => ?_) (fun c17 => ?_)
  · refine wa_ild1 dX7_salt_40 ?_
    refine wa_ald0 dX7_salt_41 ?_
    refine gX7_7 dX7_salt_42 rfl (by first | assumption | exact hL.1 _ (by decide)) ?_
    refine wa_iconst dX7_salt_45 ?_
    refine wa_isub dX7_salt_46 ?_
    refine wa_icmp_ge 70 dX7_salt_47 (by decide) (by first | omega | (simp (decide := true) only [zp_s, zp_n, ne_eq]; (try rw [za_n _ _ (by omega)]); (try rw [za_n _ _ (by omega)]); omega)) (by first | omega | (simp (decide := true) only [zp_s, zp_n, ne_eq]; (try rw [za_n _ _ (by omega)]); (try rw [za_n _ _ (by omega)]); omega)) (fun c47 => ?_) (fun c47 => ?_)
    · (try simp (decide := true) only [zp_n, ne_eq] at c47)
      refine wa_return dX7_salt_70 rfl rfl (Nat.le_refl _) ?_
      refine ⟨rfl, rfl, rfl, ?_, fun j a b => ?_, fun k a b => ?_⟩
      · simp (decide := true) only [vr, zp_s, zp_n, ne_eq]
        simp only [Prod.mk.injEq, and_true]
        (first | rw [lwF, if_pos (by omega)] | rw [lwF, if_neg (by omega)])
        (first | rw [lwF, if_pos (by omega)] | rw [lwF, if_neg (by omega)])
      · simp (decide := true) only [zp_s, zp_n, ne_eq]
      · repeat rw [zp_n _ _ (by omega)]
    · simp (decide := true) only [zp_n, ne_eq] at c47
      refine wa_ald0 dX7_salt_50 ?_
      refine gX7_44 dX7_salt_51 rfl (by first | assumption | exact hL.1 _ (by decide)) (by first | assumption | exact hL.2 _ _ (by decide)) ?_
      refine wa_ild1 dX7_salt_54 ?_
      refine wa_iconst dX7_salt_55 ?_
      refine wa_iadd dX7_salt_56 ?_
      refine wa_ald0 dX7_salt_57 ?_
      refine gX7_44 dX7_salt_58 rfl (by first | assumption | exact hL.1 _ (by decide)) (by first | assumption | exact hL.2 _ _ (by decide)) ?_
      refine wa_ild1 dX7_salt_61 ?_
      refine wa_iconst dX7_salt_62 ?_
      refine wa_iadd dX7_salt_63 ?_
      refine wa_iaload dX7_salt_64 (by first | assumption | exact hL.1 _ (by decide)) (by first | omega | (simp (decide := true) only [zp_s, zp_n, ne_eq]; (try rw [za_n _ _ (by omega)]); (try rw [za_n _ _ (by omega)]); omega)) (by first | decide | omega) ?_
      refine wa_iconst dX7_salt_65 ?_
      refine kX7_129 dX7_salt_66 rfl (cm_less (by simp (decide := true) only [zp_s, zp_n, ne_eq]; (repeat rw [za_n _ _ (by omega)]); omega) (by decide)) (by decide) (Nat.le_of_ble_eq_true rfl) ⟨Nat.le_refl _, Nat.le_refl _⟩ (zdI ?_)
      refine wa_iastore dX7_salt_69 (by first | assumption | exact hL.1 _ (by decide)) (by first | omega | (simp (decide := true) only [zp_s, zp_n, ne_eq]; (try rw [za_n _ _ (by omega)]); (try rw [za_n _ _ (by omega)]); omega)) (by first | decide | omega) ?_
      (try simp (decide := true) only [zp_n, ne_eq] at c47)
      refine wa_return dX7_salt_70 rfl rfl (Nat.le_refl _) ?_
      refine ⟨rfl, rfl, rfl, ?_, fun j a b => ?_, fun k a b => ?_⟩
      · simp (decide := true) only [vr, zp_s, zp_n, ne_eq]
        simp only [Prod.mk.injEq, and_true]
        (first | rw [lwF, if_pos (by omega)] | rw [lwF, if_neg (by omega)])
        (first | rw [lwF, if_pos (by omega)] | rw [lwF, if_neg (by omega)])
      · simp (decide := true) only [zp_s, zp_n, ne_eq]
      · repeat rw [zp_n _ _ (by omega)]
  · refine wa_ald0 dX7_salt_20 ?_
    refine gX7_44 dX7_salt_21 rfl (by first | assumption | exact hL.1 _ (by decide)) (by first | assumption | exact hL.2 _ _ (by decide)) ?_
    refine wa_ild1 dX7_salt_24 ?_
    refine wa_iconst dX7_salt_25 ?_
    refine wa_isub dX7_salt_26 ?_
    refine wa_ald0 dX7_salt_27 ?_
    refine gX7_44 dX7_salt_28 rfl (by first | assumption | exact hL.1 _ (by decide)) (by first | assumption | exact hL.2 _ _ (by decide)) ?_
    refine wa_ild1 dX7_salt_31 ?_
    refine wa_iconst dX7_salt_32 ?_
    refine wa_isub dX7_salt_33 ?_
    refine wa_iaload dX7_salt_34 (by first | assumption | exact hL.1 _ (by decide)) (by first | omega | (simp (decide := true) only [zp_s, zp_n, ne_eq]; (try rw [za_n _ _ (by omega)]); (try rw [za_n _ _ (by omega)]); omega)) (by first | decide | omega) ?_
    refine wa_iconst dX7_salt_35 ?_
    refine kX7_129 dX7_salt_36 rfl (cm_less (by simp (decide := true) only [zp_s]; rw [za_n _ _ (by omega)]; omega) (by decide)) (by decide) (Nat.le_of_ble_eq_true rfl) ⟨Nat.le_refl _, Nat.le_refl _⟩ (zdI ?_)
    refine wa_iastore dX7_salt_39 (by first | assumption | exact hL.1 _ (by decide)) (by first | omega | (simp (decide := true) only [zp_s, zp_n, ne_eq]; (try rw [za_n _ _ (by omega)]); (try rw [za_n _ _ (by omega)]); omega)) (by first | decide | omega) ?_
    refine wa_ild1 dX7_salt_40 ?_
    refine wa_ald0 dX7_salt_41 ?_
    refine gX7_7 dX7_salt_42 rfl (by first | assumption | exact hL.1 _ (by decide)) ?_
    refine wa_iconst dX7_salt_45 ?_
    refine wa_isub dX7_salt_46 ?_
    refine wa_icmp_ge 70 dX7_salt_47 (by decide) (by first | omega | (simp (decide := true) only [zp_s, zp_n, ne_eq]; (try rw [za_n _ _ (by omega)]); (try rw [za_n _ _ (by omega)]); omega)) (by first | omega | (simp (decide := true) only [zp_s, zp_n, ne_eq]; (try rw [za_n _ _ (by omega)]); (try rw [za_n _ _ (by omega)]); omega)) (fun c47 => ?_) (fun c47 => ?_)
    · (try simp (decide := true) only [zp_n, ne_eq] at c47)
      refine wa_return dX7_salt_70 rfl rfl (Nat.le_refl _) ?_
      refine ⟨rfl, rfl, rfl, ?_, fun j a b => ?_, fun k a b => ?_⟩
      · simp (decide := true) only [vr, zp_s, zp_n, ne_eq]
        simp only [Prod.mk.injEq, and_true]
        (first | rw [lwF, if_pos (by omega)] | rw [lwF, if_neg (by omega)])
        (first | rw [lwF, if_pos (by omega)] | rw [lwF, if_neg (by omega)])
      · simp (decide := true) only [zp_s, zp_n, ne_eq]
      · repeat rw [zp_n _ _ (by omega)]
    · simp (decide := true) only [zp_n, ne_eq] at c47
      refine wa_ald0 dX7_salt_50 ?_
      refine gX7_44 dX7_salt_51 rfl (by first | assumption | exact hL.1 _ (by decide)) (by first | assumption | exact hL.2 _ _ (by decide)) ?_
      refine wa_ild1 dX7_salt_54 ?_
      refine wa_iconst dX7_salt_55 ?_
      refine wa_iadd dX7_salt_56 ?_
      refine wa_ald0 dX7_salt_57 ?_
      refine gX7_44 dX7_salt_58 rfl (by first | assumption | exact hL.1 _ (by decide)) (by first | assumption | exact hL.2 _ _ (by decide)) ?_
      refine wa_ild1 dX7_salt_61 ?_
      refine wa_iconst dX7_salt_62 ?_
      refine wa_iadd dX7_salt_63 ?_
      refine wa_iaload dX7_salt_64 (by first | assumption | exact hL.1 _ (by decide)) (by first | omega | (simp (decide := true) only [zp_s, zp_n, ne_eq]; (try rw [za_n _ _ (by omega)]); (try rw [za_n _ _ (by omega)]); omega)) (by first | decide | omega) ?_
      refine wa_iconst dX7_salt_65 ?_
      refine kX7_129 dX7_salt_66 rfl (cm_less (by simp (decide := true) only [zp_s, zp_n, ne_eq]; (repeat rw [za_n _ _ (by omega)]); omega) (by decide)) (by decide) (Nat.le_of_ble_eq_true rfl) ⟨Nat.le_refl _, Nat.le_refl _⟩ (zdI ?_)
      refine wa_iastore dX7_salt_69 (by first | assumption | exact hL.1 _ (by decide)) (by first | omega | (simp (decide := true) only [zp_s, zp_n, ne_eq]; (try rw [za_n _ _ (by omega)]); (try rw [za_n _ _ (by omega)]); omega)) (by first | decide | omega) ?_
      (try simp (decide := true) only [zp_n, ne_eq] at c47)
      refine wa_return dX7_salt_70 rfl rfl (Nat.le_refl _) ?_
      refine ⟨rfl, rfl, rfl, ?_, fun j a b => ?_, fun k a b => ?_⟩
      · simp (decide := true) only [vr, zp_s, zp_n, ne_eq]
        simp only [Prod.mk.injEq, and_true]
        (first | rw [lwF, if_pos (by omega)] | rw [lwF, if_neg (by omega)])
        (first | rw [lwF, if_pos (by omega)] | rw [lwF, if_neg (by omega)])
      · simp (decide := true) only [zp_s, zp_n, ne_eq]
      · repeat rw [zp_n _ _ (by omega)]
