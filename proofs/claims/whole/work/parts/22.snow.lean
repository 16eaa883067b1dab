/-! Street: nights, thaws, words -/
/-- which roofs bear less than lies on them, as bits -/
def ovl (d f : Nat → Int) : Nat → Int
  | 0 => 0
  | m + 1 => if f m < d m then zor (ovl d f m) (2 ^ m) else ovl d f m
theorem ovl_rg (d f : Nat → Int) (m : Nat) : -2147483648 ≤ ovl d f m ∧ ovl d f m ≤ 2147483647 := by
  induction m with
  | zero => unfold ovl; omega
  | succ m ih => unfold ovl; split; exact zor_rg _ _; exact ih
theorem ct_overloaded {n : Nat} {S : zH} {Rf : zG} {V : zE} {r c : Nat} (hr : isStr S Rf r) (hc : V r 0 = (c : Int)) (h2 : 2 ≤ c) (h8 : c ≤ 8) (hd : ∀ j, 0 ≤ V (r + 1) j ∧ V (r + 1) j ≤ 100000) (hf : ∀ j, 0 ≤ V (r + 2) j ∧ V (r + 2) j ≤ 100000) :
    Ci 1 mX4_overloaded [zR r] n S Rf V (zand (ovl (V (r + 1)) (V (r + 2)) c) (zxor (V r 3) (-1))) V := by
  obtain ⟨s0, s1, s2, s3, s4, s5, s6, s7, r1, r2, r3, r4, r5, r6, r7⟩ := hr
  refine ct_of (by decide) rfl (Nat.le_of_ble_eq_true rfl) ?_
  have loop : ∀ (m i : Nat), i + m = c → Wa zXn mX4_overloaded (zrm 1 0 0) (zZm (qI (zand (ovl (V (r + 1)) (V (r + 2)) c) (zxor (V r 3) (-1))) S Rf V) (n + 0) 0 0) 0 0 n S 4 [some (zR r), some (zI (ovl (V (r + 1)) (V (r + 2)) i)), some (zI (i : Int))] [] Rf V := by
    intro m
    induction m with
    | zero =>
      intro i hi
      obtain rfl : i = c := by omega
      refine wa_ild2 dX4_overloaded_4 ?_
      refine wa_ald0 dX4_overloaded_5 ?_
      refine gX4_37 dX4_overloaded_6 rfl (by first | assumption | exact hL.1 _ (by decide)) ?_
      refine wa_icmp_ge 45 dX4_overloaded_9 (by decide) (by omega) (by omega) (fun c9 => ?_) (fun c9 => ?_)
      · refine wa_ild1 dX4_overloaded_45 ?_
        refine wa_ald0 dX4_overloaded_46 ?_
        refine gX4_47 dX4_overloaded_47 rfl (by first | assumption | exact hL.1 _ (by decide)) ?_
        refine wa_iconst dX4_overloaded_50 ?_
        refine wa_ixor dX4_overloaded_51 ?_
        refine wa_iand dX4_overloaded_52 ?_
        exact wa_ireturn dX4_overloaded_53 rfl rfl (Nat.le_refl _) (by exact ⟨rfl, rfl, rfl, rfl⟩)
      · exact absurd c9 (by omega)
    | succ m ih =>
      intro i hi
      have hdi := hd i
      have hfi := hf i
      have e1 := ih (i + 1) (by omega)
      refine wa_ild2 dX4_overloaded_4 ?_
      refine wa_ald0 dX4_overloaded_5 ?_
      refine gX4_37 dX4_overloaded_6 rfl (by first | assumption | exact hL.1 _ (by decide)) ?_
      refine wa_icmp_ge 45 dX4_overloaded_9 (by decide) (by first | omega | (simp only [Int.toNat_natCast]; omega)) (by first | omega | (simp only [Int.toNat_natCast]; omega)) (fun c9 => ?_) (fun c9 => ?_)
      · exact absurd c9 (by omega)
      · refine wa_ild2 dX4_overloaded_12 ?_
        refine wa_bipush dX4_overloaded_13 (by decide) ?_
        refine wa_icmp_ge 45 dX4_overloaded_15 (by decide) (by first | omega | (simp only [Int.toNat_natCast]; omega)) (by first | omega | (simp only [Int.toNat_natCast]; omega)) (fun c15 => ?_) (fun c15 => ?_)
        · exact absurd c15 (by omega)
        · refine wa_ald0 dX4_overloaded_18 ?_
          refine gX4_9 dX4_overloaded_19 rfl (by first | assumption | exact hL.1 _ (by decide)) (by first | assumption | exact hL.2 _ _ (by decide)) ?_
          refine wa_ild2 dX4_overloaded_22 ?_
          refine wa_iaload dX4_overloaded_23 (by first | assumption | exact hL.1 _ (by decide)) (by first | omega | (simp only [Int.toNat_natCast]; omega)) (by first | decide | omega) ?_
          refine wa_ald0 dX4_overloaded_24 ?_
          refine gX4_15 dX4_overloaded_25 rfl (by first | assumption | exact hL.1 _ (by decide)) (by first | assumption | exact hL.2 _ _ (by decide)) ?_
          refine wa_ild2 dX4_overloaded_28 ?_
          refine wa_iaload dX4_overloaded_29 (by first | assumption | exact hL.1 _ (by decide)) (by first | omega | (simp only [Int.toNat_natCast]; omega)) (by first | decide | omega) ?_
          refine wa_icmp_le 39 dX4_overloaded_30 (by decide) (by first | omega | (simp only [Int.toNat_natCast]; omega)) (by first | omega | (simp only [Int.toNat_natCast]; omega)) (fun c30 => ?_) (fun c30 => ?_)
          · simp only [Int.toNat_natCast] at c30 ⊢
            refine wa_iinc2 dX4_overloaded_39 (by decide) rfl ?_
            refine wa_goto 4 dX4_overloaded_42 (by decide) ?_
            rw [ovl] at e1
            first | rw [if_pos (by omega)] at e1 | rw [if_neg (by omega)] at e1
            exact e1
          · refine wa_ild1 dX4_overloaded_33 ?_
            refine wa_iconst dX4_overloaded_34 ?_
            refine wa_ild2 dX4_overloaded_35 ?_
            refine wa_ishl1 dX4_overloaded_36 (by first | omega | (simp only [Int.toNat_natCast]; omega)) ?_
            refine wa_ior dX4_overloaded_37 ?_
            refine wa_ist1 dX4_overloaded_38 (by decide) rfl ?_
            simp only [Int.toNat_natCast] at c30 ⊢
            refine wa_iinc2 dX4_overloaded_39 (by decide) rfl ?_
            refine wa_goto 4 dX4_overloaded_42 (by decide) ?_
            rw [ovl] at e1
            first | rw [if_pos (by omega)] at e1 | rw [if_neg (by omega)] at e1
            exact e1
  refine wa_iconst dX4_overloaded_0 ?_
  refine wa_ist1 dX4_overloaded_1 (by decide) rfl ?_
  refine wa_iconst dX4_overloaded_2 ?_
  refine wa_ist2 dX4_overloaded_3 (by decide) rfl ?_
  exact loop c 0 (by omega)
/-- a night -/
def ngF (c : Nat) (d : Nat → Int) (g : Nat) : Int := if g < c then d g + (if 1 ≤ g ∧ d g + 2 ≤ d (g - 1) then 1 else 0) - (if g + 1 < c ∧ d (g + 1) + 2 ≤ d g then 1 else 0) else d g
theorem ct_passNight {n : Nat} {S : zH} {Rf : zG} {V : zE} {a c : Nat} (ha : S a = some (.inl (0, 8))) (h2 : 2 ≤ c) (h8 : c ≤ 8) (hd : ∀ j, 0 ≤ V a j ∧ V a j ≤ 100000) :
    Cv 1 mX6_passNight [zR a, zI (c : Int)] n S Rf V (zp V a (ngF c (V a))) := by
  refine ct_of (by decide) rfl (Nat.le_of_ble_eq_true rfl) ?_
  have loop : ∀ (m i : Nat) (f : Nat → Int) (cm : Int), i + m = c → (∀ j, f j = if j < i then ngF c (V a) j else V a j) → (i < c → cm = if 1 ≤ i ∧ V a i + 2 ≤ V a (i - 1) then 1 else 0) → Wa zXn mX6_passNight (zrm 1 0 0) (zZm (qN S Rf (zp V a (ngF c (V a)))) (n + 0) 0 0) 0 0 n S 4 [some (zR a), some (zI (c : Int)), some (zI cm), some (zI (i : Int)), none, none] [] Rf (zp V a f) := by
    intro m
    induction m with
    | zero =>
      intro i f cm hi hf hcm
      obtain rfl : i = c := by omega
      have e2 : f = ngF i (V a) := by
        funext j
        rw [hf j]
        split
        · rfl
        · unfold ngF; rw [if_neg (by omega)]
      subst e2
      refine wa_ild3 dX6_passNight_4 ?_
      refine wa_ild1 dX6_passNight_5 ?_
      refine wa_icmp_ge 81 dX6_passNight_6 (by decide) (by omega) (by omega) (fun c6 => ?_) (fun c6 => ?_)
      · exact wa_return dX6_passNight_81 rfl rfl (Nat.le_refl _) (by exact ⟨rfl, rfl, rfl, rfl⟩)
      · exact absurd c6 (by omega)
    | succ m ih =>
      intro i f cm hi hf hcm
      have hdi := hd i
      have hdi1 := hd (i + 1)
      have hfi : f i = V a i := by rw [hf i, if_neg (by omega)]
      have hfi1 : f (i + 1) = V a (i + 1) := by rw [hf (i + 1), if_neg (by omega)]
      have ti : ((i : Int) + 1).toNat = i + 1 := by omega
      have hst : ∀ gv : Int, (gv = if i + 1 < c ∧ V a (i + 1) + 2 ≤ V a i then 1 else 0) → Wa zXn mX6_passNight (zrm 1 0 0) (zZm (qN S Rf (zp V a (ngF c (V a)))) (n + 0) 0 0) 0 0 n S 4 [some (zR a), some (zI (c : Int)), some (zI gv), some (zI ((i : Int) + 1)), none, none] [] Rf (zp V a (za f i (f i + (cm - gv)))) := by
        intro gv hgv
        rw [show (i : Int) + 1 = ((i + 1 : Nat) : Int) by omega]
        refine ih (i + 1) _ gv (by omega) (fun j => ?_) (fun hlt => ?_)
        · by_cases hj : j = i
          · subst hj
            rw [za_s, if_pos (by omega), hfi, hcm (by omega), hgv]
            unfold ngF
            rw [if_pos (show j < c by omega)]
            exact (Int.add_sub_assoc _ _ _).symm
          · rw [za_n _ _ hj, hf j]
            by_cases hj2 : j < i
            · rw [if_pos hj2, if_pos (by omega)]
            · rw [if_neg hj2, if_neg (by omega)]
        · rw [hgv, Nat.add_sub_cancel]
          by_cases h9 : V a (i + 1) + 2 ≤ V a i
          · rw [if_pos ⟨hlt, h9⟩, if_pos ⟨by omega, h9⟩]
          · rw [if_neg (fun q => h9 q.2), if_neg (fun q => h9 q.2)]
      refine wa_ild3 dX6_passNight_4 ?_
      refine wa_ild1 dX6_passNight_5 ?_
      refine wa_icmp_ge 81 dX6_passNight_6 (by decide) (by first | omega | (simp only [zp_s, Int.toNat_natCast, ti, hfi, hfi1]; omega)) (by first | omega | (simp only [zp_s, Int.toNat_natCast, ti, hfi, hfi1]; omega)) (fun c6 => ?_) (fun c6 => ?_)
      · exact absurd c6 (by omega)
      · refine wa_ild3 dX6_passNight_9 ?_
        refine wa_ald0 dX6_passNight_10 ?_
        refine wa_alen dX6_passNight_11 (by first | assumption | exact hL.1 _ (by decide)) (by decide) ?_
        refine wa_icmp_ge 81 dX6_passNight_12 (by decide) (by first | omega | (simp only [zp_s, Int.toNat_natCast, ti, hfi, hfi1]; omega)) (by first | omega | (simp only [zp_s, Int.toNat_natCast, ti, hfi, hfi1]; omega)) (fun c12 => ?_) (fun c12 => ?_)
        · exact absurd c12 (by omega)
        · refine wa_ild3 dX6_passNight_15 ?_
          refine wa_iconst dX6_passNight_16 ?_
          refine wa_iadd dX6_passNight_17 ?_
          refine wa_ild1 dX6_passNight_18 ?_
          refine wa_icmp_ge 34 dX6_passNight_19 (by decide) (by first | omega | (simp only [zp_s, Int.toNat_natCast, ti, hfi, hfi1]; omega)) (by first | omega | (simp only [zp_s, Int.toNat_natCast, ti, hfi, hfi1]; omega)) (fun c19 => ?_) (fun c19 => ?_)
          · refine wa_iconst dX6_passNight_34 ?_
            refine wa_ist4 dX6_passNight_35 (by decide) rfl ?_
            refine wa_ild4 dX6_passNight_37 ?_
            refine wa_if_eq 59 dX6_passNight_39 (by decide) (by decide) (fun c39 => ?_) (fun c39 => absurd c39 (by decide))
            refine wa_iconst dX6_passNight_59 ?_
            refine wa_ist5 dX6_passNight_60 (by decide) rfl ?_
            refine wa_ald0 dX6_passNight_62 ?_
            refine wa_ild3 dX6_passNight_63 ?_
            refine wa_dup2 dX6_passNight_64 rfl rfl ?_
            refine wa_iaload dX6_passNight_65 (by first | assumption | exact hL.1 _ (by decide)) (by first | omega | (simp only [zp_s, Int.toNat_natCast, ti, hfi, hfi1]; omega)) (by first | decide | omega) ?_
            refine wa_ild2 dX6_passNight_66 ?_
            refine wa_ild5 dX6_passNight_67 ?_
            refine wa_isub dX6_passNight_69 ?_
            refine wa_iadd dX6_passNight_70 ?_
            refine wa_iastore dX6_passNight_71 (by first | assumption | exact hL.1 _ (by decide)) (by first | omega | (simp only [zp_s, Int.toNat_natCast, ti, hfi, hfi1]; omega)) (by first | decide | omega) ?_
            refine wa_ild5 dX6_passNight_72 ?_
            refine wa_ist2 dX6_passNight_74 (by decide) rfl ?_
            refine wa_iinc3 dX6_passNight_75 (by decide) rfl ?_
            refine wa_goto 4 dX6_passNight_78 (by decide) ?_
            refine wa_drop4 (wa_drop5 ?_)
            rw [zp_zp, zp_s, Int.toNat_natCast]
            simp only [zp_s, Int.toNat_natCast, ti, hfi, hfi1] at *
            first | exact hst 1 (by rw [if_pos (by omega)]) | exact hst 0 (by rw [if_neg (by omega)])
          · refine wa_ild3 dX6_passNight_22 ?_
            refine wa_iconst dX6_passNight_23 ?_
            refine wa_iadd dX6_passNight_24 ?_
            refine wa_ald0 dX6_passNight_25 ?_
            refine wa_alen dX6_passNight_26 (by first | assumption | exact hL.1 _ (by decide)) (by decide) ?_
            refine wa_icmp_ge 34 dX6_passNight_27 (by decide) (by first | omega | (simp only [zp_s, Int.toNat_natCast, ti, hfi, hfi1]; omega)) (by first | omega | (simp only [zp_s, Int.toNat_natCast, ti, hfi, hfi1]; omega)) (fun c27 => ?_) (fun c27 => ?_)
            · refine wa_iconst dX6_passNight_34 ?_
              refine wa_ist4 dX6_passNight_35 (by decide) rfl ?_
              refine wa_ild4 dX6_passNight_37 ?_
              refine wa_if_eq 59 dX6_passNight_39 (by decide) (by decide) (fun c39 => ?_) (fun c39 => absurd c39 (by decide))
              refine wa_iconst dX6_passNight_59 ?_
              refine wa_ist5 dX6_passNight_60 (by decide) rfl ?_
              refine wa_ald0 dX6_passNight_62 ?_
              refine wa_ild3 dX6_passNight_63 ?_
              refine wa_dup2 dX6_passNight_64 rfl rfl ?_
              refine wa_iaload dX6_passNight_65 (by first | assumption | exact hL.1 _ (by decide)) (by first | omega | (simp only [zp_s, Int.toNat_natCast, ti, hfi, hfi1]; omega)) (by first | decide | omega) ?_
              refine wa_ild2 dX6_passNight_66 ?_
              refine wa_ild5 dX6_passNight_67 ?_
              refine wa_isub dX6_passNight_69 ?_
              refine wa_iadd dX6_passNight_70 ?_
              refine wa_iastore dX6_passNight_71 (by first | assumption | exact hL.1 _ (by decide)) (by first | omega | (simp only [zp_s, Int.toNat_natCast, ti, hfi, hfi1]; omega)) (by first | decide | omega) ?_
              refine wa_ild5 dX6_passNight_72 ?_
              refine wa_ist2 dX6_passNight_74 (by decide) rfl ?_
              refine wa_iinc3 dX6_passNight_75 (by decide) rfl ?_
              refine wa_goto 4 dX6_passNight_78 (by decide) ?_
              refine wa_drop4 (wa_drop5 ?_)
              rw [zp_zp, zp_s, Int.toNat_natCast]
              simp only [zp_s, Int.toNat_natCast, ti, hfi, hfi1] at *
              first | exact hst 1 (by rw [if_pos (by omega)]) | exact hst 0 (by rw [if_neg (by omega)])
            · refine wa_iconst dX6_passNight_30 ?_
              refine wa_goto 35 dX6_passNight_31 (by decide) ?_
              refine wa_ist4 dX6_passNight_35 (by decide) rfl ?_
              refine wa_ild4 dX6_passNight_37 ?_
              refine wa_if_eq 59 dX6_passNight_39 (by decide) (by decide) (fun c39 => absurd c39 (by decide)) (fun c39 => ?_)
              refine wa_ald0 dX6_passNight_42 ?_
              refine wa_ild3 dX6_passNight_43 ?_
              refine wa_iaload dX6_passNight_44 (by first | assumption | exact hL.1 _ (by decide)) (by first | omega | (simp only [zp_s, Int.toNat_natCast, ti, hfi, hfi1]; omega)) (by first | decide | omega) ?_
              refine wa_ald0 dX6_passNight_45 ?_
              refine wa_ild3 dX6_passNight_46 ?_
              refine wa_iconst dX6_passNight_47 ?_
              refine wa_iadd dX6_passNight_48 ?_
              refine wa_iaload dX6_passNight_49 (by first | assumption | exact hL.1 _ (by decide)) (by first | omega | (simp only [zp_s, Int.toNat_natCast, ti, hfi, hfi1]; omega)) (by first | decide | omega) ?_
              refine wa_iconst dX6_passNight_50 ?_
              refine wa_iadd dX6_passNight_51 ?_
              refine wa_icmp_lt 59 dX6_passNight_52 (by decide) (by first | omega | (simp only [zp_s, Int.toNat_natCast, ti, hfi, hfi1]; omega)) (by first | omega | (simp only [zp_s, Int.toNat_natCast, ti, hfi, hfi1]; omega)) (fun c52 => ?_) (fun c52 => ?_)
              · refine wa_iconst dX6_passNight_59 ?_
                refine wa_ist5 dX6_passNight_60 (by decide) rfl ?_
                refine wa_ald0 dX6_passNight_62 ?_
                refine wa_ild3 dX6_passNight_63 ?_
                refine wa_dup2 dX6_passNight_64 rfl rfl ?_
                refine wa_iaload dX6_passNight_65 (by first | assumption | exact hL.1 _ (by decide)) (by first | omega | (simp only [zp_s, Int.toNat_natCast, ti, hfi, hfi1]; omega)) (by first | decide | omega) ?_
                refine wa_ild2 dX6_passNight_66 ?_
                refine wa_ild5 dX6_passNight_67 ?_
                refine wa_isub dX6_passNight_69 ?_
                refine wa_iadd dX6_passNight_70 ?_
                refine wa_iastore dX6_passNight_71 (by first | assumption | exact hL.1 _ (by decide)) (by first | omega | (simp only [zp_s, Int.toNat_natCast, ti, hfi, hfi1]; omega)) (by first | decide | omega) ?_
                refine wa_ild5 dX6_passNight_72 ?_
                refine wa_ist2 dX6_passNight_74 (by decide) rfl ?_
                refine wa_iinc3 dX6_passNight_75 (by decide) rfl ?_
                refine wa_goto 4 dX6_passNight_78 (by decide) ?_
                refine wa_drop4 (wa_drop5 ?_)
                rw [zp_zp, zp_s, Int.toNat_natCast]
                simp only [zp_s, Int.toNat_natCast, ti, hfi, hfi1] at *
                first | exact hst 1 (by rw [if_pos (by omega)]) | exact hst 0 (by rw [if_neg (by omega)])
              · refine wa_iconst dX6_passNight_55 ?_
                refine wa_goto 60 dX6_passNight_56 (by decide) ?_
                refine wa_ist5 dX6_passNight_60 (by decide) rfl ?_
                refine wa_ald0 dX6_passNight_62 ?_
                refine wa_ild3 dX6_passNight_63 ?_
                refine wa_dup2 dX6_passNight_64 rfl rfl ?_
                refine wa_iaload dX6_passNight_65 (by first | assumption | exact hL.1 _ (by decide)) (by first | omega | (simp only [zp_s, Int.toNat_natCast, ti, hfi, hfi1]; omega)) (by first | decide | omega) ?_
                refine wa_ild2 dX6_passNight_66 ?_
                refine wa_ild5 dX6_passNight_67 ?_
                refine wa_isub dX6_passNight_69 ?_
                refine wa_iadd dX6_passNight_70 ?_
                refine wa_iastore dX6_passNight_71 (by first | assumption | exact hL.1 _ (by decide)) (by first | omega | (simp only [zp_s, Int.toNat_natCast, ti, hfi, hfi1]; omega)) (by first | decide | omega) ?_
                refine wa_ild5 dX6_passNight_72 ?_
                refine wa_ist2 dX6_passNight_74 (by decide) rfl ?_
                refine wa_iinc3 dX6_passNight_75 (by decide) rfl ?_
                refine wa_goto 4 dX6_passNight_78 (by decide) ?_
                refine wa_drop4 (wa_drop5 ?_)
                rw [zp_zp, zp_s, Int.toNat_natCast]
                simp only [zp_s, Int.toNat_natCast, ti, hfi, hfi1] at *
                first | exact hst 1 (by rw [if_pos (by omega)]) | exact hst 0 (by rw [if_neg (by omega)])
  refine wa_iconst dX6_passNight_0 ?_
  refine wa_ist2 dX6_passNight_1 (by decide) rfl ?_
  refine wa_iconst dX6_passNight_2 ?_
  refine wa_ist3 dX6_passNight_3 (by decide) rfl ?_
  refine wa_eqV (zp_self V a).symm ?_
  exact loop c 0 (V a) 0 (by omega) (fun j => by rw [if_neg (by omega)]) (fun _ => by rw [if_neg (by omega)])
/-- a thaw -/
def thD (c : Nat) (d : Nat → Int) (g : Nat) : Int := if g < c then d g - min 3 (d g) else d g
def thB (d : Nat → Int) : Nat → Int
  | 0 => 0
  | m + 1 => thB d m + min 3 (d m)
theorem ct_thaw {n : Nat} {S : zH} {Rf : zG} {V : zE} {r c : Nat} (hr : isStr S Rf r) (hc : V r 0 = (c : Int)) (h2 : 2 ≤ c) (h8 : c ≤ 8) (hd : ∀ j, 0 ≤ V (r + 1) j ∧ V (r + 1) j ≤ 100000) :
    Cv 1 mX4_thaw [zR r] n S Rf V (zp (zp V (r + 1) (thD c (V (r + 1)))) r (za (V r) 4 (V r 4 + thB (V (r + 1)) c))) := by
  obtain ⟨s0, s1, s2, s3, s4, s5, s6, s7, r1, r2, r3, r4, r5, r6, r7⟩ := hr
  refine ct_of (by decide) rfl (Nat.le_of_ble_eq_true rfl) ?_
  have loop : ∀ (m i : Nat) (V' : zE), i + m = c → (∀ k, k ≠ r → k ≠ r + 1 → V' k = V k) → (∀ j, V' (r + 1) j = if j < i then thD c (V (r + 1)) j else V (r + 1) j) → V' r = za (V r) 4 (V r 4 + thB (V (r + 1)) i) → Wa zXn mX4_thaw (zrm 1 0 0) (zZm (qN S Rf (zp (zp V (r + 1) (thD c (V (r + 1)))) r (za (V r) 4 (V r 4 + thB (V (r + 1)) c)))) (n + 0) 0 0) 0 0 n S 2 [some (zR r), some (zI (i : Int)), none] [] Rf V' := by
    intro m
    induction m with
    | zero =>
      intro i V' hi ho hf hh
      obtain rfl : i = c := by omega
      have e2 : V' (r + 1) = thD i (V (r + 1)) := by
        funext j
        rw [hf j]
        split
        · rfl
        · unfold thD; rw [if_neg (by omega)]
      have e0 : V' r 0 = (i : Int) := by rw [hh, za_n _ _ (by decide)]; exact hc
      refine wa_ild1 dX4_thaw_2 ?_
      refine wa_ald0 dX4_thaw_3 ?_
      refine gX4_37 dX4_thaw_4 rfl (by first | assumption | exact hL.1 _ (by decide)) ?_
      refine wa_icmp_ge 53 dX4_thaw_7 (by decide) (by omega) (by omega) (fun c7 => ?_) (fun c7 => ?_)
      · exact wa_return dX4_thaw_53 rfl rfl (Nat.le_refl _) (by exact ⟨rfl, rfl, rfl, zp_of2 (by omega) (fun k h1 h2 => ho k h2 h1) e2 hh⟩)
      · exact absurd c7 (by omega)
    | succ m ih =>
      intro i V' hi ho hf hh
      have hdi := hd i
      have hfi : V' (r + 1) i = V (r + 1) i := by rw [hf i, if_neg (by omega)]
      have e0 : V' r 0 = (c : Int) := by rw [hh, za_n _ _ (by decide)]; exact hc
      refine wa_ild1 dX4_thaw_2 ?_
      refine wa_ald0 dX4_thaw_3 ?_
      refine gX4_37 dX4_thaw_4 rfl (by first | assumption | exact hL.1 _ (by decide)) ?_
      refine wa_icmp_ge 53 dX4_thaw_7 (by decide) (by first | omega | (simp only [hfi, Int.toNat_natCast]; omega)) (by first | omega | (simp only [hfi, Int.toNat_natCast]; omega)) (fun c7 => ?_) (fun c7 => ?_)
      · exact absurd c7 (by omega)
      · refine wa_ild1 dX4_thaw_10 ?_
        refine wa_bipush dX4_thaw_11 (by decide) ?_
        refine wa_icmp_ge 53 dX4_thaw_13 (by decide) (by first | omega | (simp only [hfi, Int.toNat_natCast]; omega)) (by first | omega | (simp only [hfi, Int.toNat_natCast]; omega)) (fun c13 => ?_) (fun c13 => ?_)
        · exact absurd c13 (by omega)
        · refine wa_iconst dX4_thaw_16 ?_
          refine wa_ald0 dX4_thaw_17 ?_
          refine gX4_9 dX4_thaw_18 rfl (by first | assumption | exact hL.1 _ (by decide)) (by first | assumption | exact hL.2 _ _ (by decide)) ?_
          refine wa_ild1 dX4_thaw_21 ?_
          refine wa_iaload dX4_thaw_22 (by first | assumption | exact hL.1 _ (by decide)) (by first | omega | (simp only [hfi, Int.toNat_natCast]; omega)) (by first | decide | omega) ?_
          refine wa_min dX4_thaw_23 lX4_102 w_st_min w_iMath w_co_min ⟨Nat.le_of_ble_eq_true rfl, Nat.le_of_ble_eq_true rfl⟩ (by decide) (by first | omega | (simp only [hfi, Int.toNat_natCast]; omega)) (by first | omega | (simp only [hfi, Int.toNat_natCast]; omega)) ?_
          refine wa_ist2 dX4_thaw_26 (by decide) rfl ?_
          refine wa_ald0 dX4_thaw_27 ?_
          refine gX4_9 dX4_thaw_28 rfl (by first | assumption | exact hL.1 _ (by decide)) (by first | assumption | exact hL.2 _ _ (by decide)) ?_
          refine wa_ild1 dX4_thaw_31 ?_
          refine wa_dup2 dX4_thaw_32 rfl rfl ?_
          refine wa_iaload dX4_thaw_33 (by first | assumption | exact hL.1 _ (by decide)) (by first | omega | (simp only [hfi, Int.toNat_natCast]; omega)) (by first | decide | omega) ?_
          refine wa_ild2 dX4_thaw_34 ?_
          refine wa_isub dX4_thaw_35 ?_
          refine wa_iastore dX4_thaw_36 (by first | assumption | exact hL.1 _ (by decide)) (by first | omega | (simp only [hfi, Int.toNat_natCast]; omega)) (by first | decide | omega) ?_
          refine wa_ald0 dX4_thaw_37 ?_
          refine wa_dup dX4_thaw_38 rfl ?_
          refine gX4_50 dX4_thaw_39 rfl (by first | assumption | exact hL.1 _ (by decide)) ?_
          refine wa_ild2 dX4_thaw_42 ?_
          refine wa_iadd dX4_thaw_43 ?_
          refine pX4_50 dX4_thaw_44 rfl (by first | assumption | exact hL.1 _ (by decide)) ?_
          refine wa_iinc1 dX4_thaw_47 (by decide) rfl ?_
          refine wa_goto 2 dX4_thaw_50 (by decide) ?_
          refine wa_drop2 ?_
          rw [show (i : Int) + 1 = ((i + 1 : Nat) : Int) by omega]
          simp only [hfi, Int.toNat_natCast]
          refine ih (i + 1) _ (by omega) (fun k h1 h2 => ?_) (fun j => ?_) ?_
          · simp [zp, h1, h2, ho]
          · try simp [zp]
            exact zprog hf (by unfold thD; rw [if_pos (by omega)]) j
          · simp [zp, hh, za_s, za_za, thB, Int.add_assoc]
  refine wa_iconst dX4_thaw_0 ?_
  refine wa_ist1 dX4_thaw_1 (by decide) rfl ?_
  exact loop c 0 V (by omega) (fun _ _ _ => rfl) (fun j => by rw [if_neg (by omega)]) (by rw [thB, Int.add_zero, za_self])
/-- all words forgotten -/
def fgF (s f : Nat → Int) (j : Nat) : Int := if s (j / 8) ≠ 0 then 0 else f j
theorem ct_rangeCheck {n : Nat} {S : zH} {Rf : zG} {V : zE} {a b c : Int} (h : 0 ≤ b ∧ b ≤ c ∧ c ≤ a ∧ a ≤ 100000) : Cv 1 mJ7_rangeCheck_23922 [zI a, zI b, zI c] n S Rf V V := by
  refine ct_of (by decide) rfl (Nat.le_of_ble_eq_true rfl) ?_
  refine wa_ild1 dJ7_rangeCheck_23922_0 ?_
  refine wa_ild2 dJ7_rangeCheck_23922_1 ?_
  refine wa_icmp_le 46 dJ7_rangeCheck_23922_2 (by decide) (by omega) (by omega) (fun c2 => ?_) (fun c2 => ?_)
  · refine wa_ild1 dJ7_rangeCheck_23922_46 ?_
    refine wa_if_ge 59 dJ7_rangeCheck_23922_47 (by decide) (by omega) (fun c47 => ?_) (fun c47 => ?_)
    · refine wa_ild2 dJ7_rangeCheck_23922_59 ?_
      refine wa_ild0 dJ7_rangeCheck_23922_60 ?_
      refine wa_icmp_le 73 dJ7_rangeCheck_23922_61 (by decide) (by omega) (by omega) (fun c61 => ?_) (fun c61 => ?_)
      · exact wa_return dJ7_rangeCheck_23922_73 rfl rfl (Nat.le_refl _) (by exact ⟨rfl, rfl, rfl, rfl⟩)
      · exact absurd c61 (by omega)
    · exact absurd c47 (by omega)
  · exact absurd c2 (by omega)
theorem ct_fillR {n : Nat} {S : zH} {Rf : zG} {V : zE} {a N p q : Nat} {x : Int} (hS : S a = some (.inl (0, N))) (hN : N ≤ 100000) (hpq : p ≤ q) (hq : q ≤ N) : Cv 2 mJ7_fill_fda19 [zR a, zI (p : Int), zI (q : Int), zI x] n S Rf V (zp V a (fun j => if p ≤ j ∧ j < q then x else V a j)) := by
  refine ct_of (by decide) rfl (Nat.le_of_ble_eq_true rfl) ?_
  have loop : ∀ (m i : Nat) (V' : zE), i + m = q → p ≤ i → (∀ k, k ≠ a → V' k = V k) → (∀ j, V' a j = if p ≤ j ∧ j < i then x else V a j) → Wa zXn mJ7_fill_fda19 (zrm 2 0 0) (zZm (qN S Rf (zp V a (fun j => if p ≤ j ∧ j < q then x else V a j))) (n + 0) 0 0) 0 0 n S 10 [some (zR a), some (zI (p : Int)), some (zI (q : Int)), some (zI x), some (zI (i : Int))] [] Rf V' := by
    intro m
    induction m with
    | zero =>
      intro i V' hi hp ho hf
      obtain rfl : i = q := by omega
      refine wa_ild4 dJ7_fill_fda19_10 ?_
      refine wa_ild2 dJ7_fill_fda19_12 ?_
      refine wa_icmp_ge 27 dJ7_fill_fda19_13 (by decide) (by omega) (by omega) (fun c13 => ?_) (fun c13 => ?_)
      · exact wa_return dJ7_fill_fda19_27 rfl rfl (Nat.le_refl _) (by exact ⟨rfl, rfl, rfl, zp_of1 ho (funext hf)⟩)
      · exact absurd c13 (by omega)
    | succ m ih =>
      intro i V' hi hp ho hf
      refine wa_ild4 dJ7_fill_fda19_10 ?_
      refine wa_ild2 dJ7_fill_fda19_12 ?_
      refine wa_icmp_ge 27 dJ7_fill_fda19_13 (by decide) (by omega) (by omega) (fun c13 => ?_) (fun c13 => ?_)
      · exact absurd c13 (by omega)
      · refine wa_ald0 dJ7_fill_fda19_16 ?_
        refine wa_ild4 dJ7_fill_fda19_17 ?_
        refine wa_ild3 dJ7_fill_fda19_19 ?_
        refine wa_iastore dJ7_fill_fda19_20 (by first | assumption | exact hL.1 _ (by decide)) (by omega) (by first | decide | omega) ?_
        refine wa_iinc4 dJ7_fill_fda19_21 (by decide) rfl ?_
        refine wa_goto 10 dJ7_fill_fda19_24 (by decide) ?_
        rw [show (i : Int) + 1 = ((i + 1 : Nat) : Int) by omega, Int.toNat_natCast]
        refine ih (i + 1) _ (by omega) (by omega) (fun k h1 => by simp [zp, h1, ho]) (fun j => ?_)
        simp only [zp_s]
        by_cases hj : j = i
        · subst hj; rw [za_s, if_pos (by omega)]
        · rw [za_n _ _ hj, hf j]
          by_cases h9 : p ≤ j ∧ j < i
          · rw [if_pos h9, if_pos (by omega)]
          · rw [if_neg h9, if_neg (by omega)]
  refine wa_ald0 dJ7_fill_fda19_0 ?_
  refine wa_alen dJ7_fill_fda19_1 (by first | assumption | exact hL.1 _ (by decide)) (by decide) ?_
  refine wa_ild1 dJ7_fill_fda19_2 ?_
  refine wa_ild2 dJ7_fill_fda19_3 ?_
  refine kJ7_13 dJ7_fill_fda19_4 rfl (ct_rangeCheck (by omega)) (by decide) (Nat.le_of_ble_eq_true rfl) ⟨Nat.le_refl _, Nat.le_refl _⟩ (zdN ?_)
  refine wa_ild1 dJ7_fill_fda19_7 ?_
  refine wa_ist4 dJ7_fill_fda19_8 (by decide) rfl ?_
  exact loop (q - p) p V (by omega) (Nat.le_refl _) (fun _ _ => rfl) (fun j => by rw [if_neg (by omega)])
theorem ct_forgetWords {n : Nat} {S : zH} {Rf : zG} {V : zE} {r : Nat} (hr : isStr S Rf r) (hs : ∀ j, -2147483648 ≤ V (r + 4) j ∧ V (r + 4) j ≤ 2147483647) :
    Cv 3 mX4_forgetWords [zR r] n S Rf V (zp (zp V (r + 4) (fun _ => 0)) (r + 5) (fgF (V (r + 4)) (V (r + 5)))) := by
  obtain ⟨s0, s1, s2, s3, s4, s5, s6, s7, r1, r2, r3, r4, r5, r6, r7⟩ := hr
  refine ct_of (by decide) rfl (Nat.le_of_ble_eq_true rfl) ?_
  have loop : ∀ (m i : Nat) (V' : zE), i + m = 8 → (∀ k, k ≠ r + 4 → k ≠ r + 5 → V' k = V k) → (∀ j, V' (r + 4) j = if j < i then 0 else V (r + 4) j) → (∀ j, V' (r + 5) j = if j < 8 * i then fgF (V (r + 4)) (V (r + 5)) j else V (r + 5) j) → Wa zXn mX4_forgetWords (zrm 3 0 0) (zZm (qN S Rf (zp (zp V (r + 4) (fun _ => 0)) (r + 5) (fgF (V (r + 4)) (V (r + 5))))) (n + 0) 0 0) 0 0 n S 2 [some (zR r), some (zI (i : Int))] [] Rf V' := by
    intro m
    induction m with
    | zero =>
      intro i V' hi ho hf hg
      obtain rfl : i = 8 := by omega
      refine wa_ild1 dX4_forgetWords_2 ?_
      refine wa_bipush dX4_forgetWords_3 (by decide) ?_
      refine wa_icmp_ge 48 dX4_forgetWords_5 (by decide) (by omega) (by omega) (fun c5 => ?_) (fun c5 => ?_)
      · refine wa_row s4 (fun _ => 0) (fun j hj => by rw [hf j, if_pos hj]) ?_
        refine wa_row s5 (fgF (V (r + 4)) (V (r + 5))) (fun j hj => by rw [zp_n _ _ (by omega), hg j, if_pos (by omega)]) ?_
        exact wa_return dX4_forgetWords_48 rfl rfl (Nat.le_refl _) ⟨rfl, rfl, rfl, zp_of2 (by omega) (fun k h1 h2 => by simp [zp, h1, h2, ho]) (by simp [zp]) (by simp [zp])⟩
      · exact absurd c5 (by decide)
    | succ m ih =>
      intro i V' hi ho hf hg
      have hfi : V' (r + 4) i = V (r + 4) i := by rw [hf i, if_neg (by omega)]
      have hsi := hs i
      refine wa_ild1 dX4_forgetWords_2 ?_
      refine wa_bipush dX4_forgetWords_3 (by decide) ?_
      refine wa_icmp_ge 48 dX4_forgetWords_5 (by decide) (by first | omega | (simp only [hfi, Int.toNat_natCast]; omega)) (by first | omega | (simp only [hfi, Int.toNat_natCast]; omega)) (fun c5 => ?_) (fun c5 => ?_)
      · exact absurd c5 (by omega)
      · refine wa_ald0 dX4_forgetWords_8 ?_
        refine gX4_21 dX4_forgetWords_9 rfl (by first | assumption | exact hL.1 _ (by decide)) (by first | assumption | exact hL.2 _ _ (by decide)) ?_
        refine wa_ild1 dX4_forgetWords_12 ?_
        refine wa_iaload dX4_forgetWords_13 (by first | assumption | exact hL.1 _ (by decide)) (by first | omega | (simp only [hfi, Int.toNat_natCast]; omega)) (by first | decide | omega) ?_
        refine wa_if_eq 42 dX4_forgetWords_14 (by decide) (by first | omega | (simp only [hfi, Int.toNat_natCast]; omega)) (fun c14 => ?_) (fun c14 => ?_)
        · refine wa_iinc1 dX4_forgetWords_42 (by decide) rfl ?_
          refine wa_goto 2 dX4_forgetWords_45 (by decide) ?_
          rw [show (i : Int) + 1 = ((i + 1 : Nat) : Int) by omega]
          simp only [hfi, Int.toNat_natCast] at c14 ⊢
          refine ih (i + 1) _ (by omega) (fun k h1 h2 => by simp [zp, h1, h2, ho]) (fun j => ?_) (fun j => ?_)
          · try simp [zp]
            first | exact zprog hf rfl j | (rw [hf j]; by_cases h : j < i; rw [if_pos h, if_pos (by omega)]; by_cases h' : j = i; subst h'; rw [if_neg h, if_pos (by omega)]; exact c14; rw [if_neg h, if_neg (by omega)])
          · try simp [zp]
            have hdv : 8 * i ≤ j → j < 8 * (i + 1) → j / 8 = i := fun _ _ => by omega
            by_cases h1 : 8 * i ≤ j ∧ j < 8 * (i + 1)
            · have e8 := hdv h1.1 h1.2
              simp [h1.2, h1.1, fgF, e8, c14, hg j, show ¬ j < 8 * i by omega]
            · rw [hg j]
              by_cases h2 : j < 8 * i
              · simp [h2, show j < 8 * (i + 1) by omega, show ¬ 8 * i ≤ j by omega]
              · simp [h2, show ¬ j < 8 * (i + 1) by omega]
        · refine wa_ald0 dX4_forgetWords_17 ?_
          refine gX4_21 dX4_forgetWords_18 rfl (by first | assumption | exact hL.1 _ (by decide)) (by first | assumption | exact hL.2 _ _ (by decide)) ?_
          refine wa_ild1 dX4_forgetWords_21 ?_
          refine wa_iconst dX4_forgetWords_22 ?_
          refine wa_iastore dX4_forgetWords_23 (by first | assumption | exact hL.1 _ (by decide)) (by first | omega | (simp only [hfi, Int.toNat_natCast]; omega)) (by first | decide | omega) ?_
          refine wa_ald0 dX4_forgetWords_24 ?_
          refine gX4_24 dX4_forgetWords_25 rfl (by first | assumption | exact hL.1 _ (by decide)) (by first | assumption | exact hL.2 _ _ (by decide)) ?_
          refine wa_ild1 dX4_forgetWords_28 ?_
          refine wa_bipush dX4_forgetWords_29 (by decide) ?_
          refine wa_imul dX4_forgetWords_31 ?_
          refine wa_ild1 dX4_forgetWords_32 ?_
          refine wa_iconst dX4_forgetWords_33 ?_
          refine wa_iadd dX4_forgetWords_34 ?_
          refine wa_bipush dX4_forgetWords_35 (by decide) ?_
          refine wa_imul dX4_forgetWords_37 ?_
          refine wa_iconst dX4_forgetWords_38 ?_
          rw [show (i : Int) * 8 = ((8 * i : Nat) : Int) by omega, show ((i : Int) + 1) * 8 = ((8 * (i + 1) : Nat) : Int) by omega]
          refine kX4_62 dX4_forgetWords_39 rfl (ct_fillR (p := 8 * i) (q := 8 * (i + 1)) s5 (by decide) (by omega) (by omega)) (by decide) (Nat.le_of_ble_eq_true rfl) ⟨Nat.le_refl _, Nat.le_refl _⟩ (zdN ?_)
          refine wa_iinc1 dX4_forgetWords_42 (by decide) rfl ?_
          refine wa_goto 2 dX4_forgetWords_45 (by decide) ?_
          rw [show (i : Int) + 1 = ((i + 1 : Nat) : Int) by omega]
          simp only [hfi, Int.toNat_natCast] at c14 ⊢
          refine ih (i + 1) _ (by omega) (fun k h1 h2 => by simp [zp, h1, h2, ho]) (fun j => ?_) (fun j => ?_)
          · try simp [zp]
            first | exact zprog hf rfl j | (rw [hf j]; by_cases h : j < i; rw [if_pos h, if_pos (by omega)]; by_cases h' : j = i; subst h'; rw [if_neg h, if_pos (by omega)]; exact c14; rw [if_neg h, if_neg (by omega)])
          · try simp [zp]
            have hdv : 8 * i ≤ j → j < 8 * (i + 1) → j / 8 = i := fun _ _ => by omega
            by_cases h1 : 8 * i ≤ j ∧ j < 8 * (i + 1)
            · have e8 := hdv h1.1 h1.2
              simp [h1.2, h1.1, fgF, e8, c14, hg j, show ¬ j < 8 * i by omega]
            · rw [hg j]
              by_cases h2 : j < 8 * i
              · simp [h2, show j < 8 * (i + 1) by omega, show ¬ 8 * i ≤ j by omega]
              · simp [h2, show ¬ j < 8 * (i + 1) by omega]
  refine wa_iconst dX4_forgetWords_0 ?_
  refine wa_ist1 dX4_forgetWords_1 (by decide) rfl ?_
  exact loop 8 0 V (by omega) (fun _ _ _ => rfl) (fun j => by rw [if_neg (by omega)]) (fun j => by rw [if_neg (by omega)])
