/-! the reference: words done on what it tries -/
theorem i32_oran (x y : Int32) : x ||| (y &&& (x ^^^ (-1))) = x ||| y := by
  apply Int32.toBitVec_inj.mp
  have e : (-1 : Int32).toBitVec = BitVec.allOnes 32 := by decide
  rw [Int32.toBitVec_or, Int32.toBitVec_and, Int32.toBitVec_xor, Int32.toBitVec_or, e]
  ext i hi
  simp only [BitVec.getElem_or, BitVec.getElem_and, BitVec.getElem_xor, BitVec.getElem_allOnes]
  cases x.toBitVec[i] <;> cases y.toBitVec[i] <;> rfl
theorem i32_or0 (x : Int32) : x ||| 0 = x := by
  apply Int32.toBitVec_inj.mp
  rw [Int32.toBitVec_or, show (0 : Int32).toBitVec = 0#32 from by decide]
  simp
theorem i32_oras (x y z : Int32) : (x ||| y) ||| z = x ||| (y ||| z) := by
  apply Int32.toBitVec_inj.mp
  simp only [Int32.toBitVec_or]
  rw [BitVec.or_assoc]
theorem zor_z {x : Int} (h : -2147483648 ≤ x ∧ x ≤ 2147483647) : zor x 0 = x := by
  unfold zor; rw [show Int32.ofInt 0 = 0 from rfl, i32_or0, zi_to h]
theorem zor_as (a b c : Int) : zor (zor a b) c = zor a (zor b c) := by
  unfold zor; rw [Int32.ofInt_toInt, Int32.ofInt_toInt, i32_oras]
theorem zor_an (f o : Int) : zor f (zand o (zxor f (-1))) = zor f o := by
  unfold zor zand zxor; rw [Int32.ofInt_toInt, Int32.ofInt_toInt, show Int32.ofInt (-1) = -1 from rfl, i32_oran]
abbrev vr (V : zE) : zSt := (V 44, V 46, V 47, V 37 19, V 37 20)
def smP (q : zSt) (V V' : zE) : Prop := vr V' = q ∧ (∀ j, j ≠ 19 → j ≠ 20 → V' 37 j = V 37 j) ∧ ∀ k, k ≠ 37 → ¬ (44 ≤ k ∧ k ≤ 47) → V' k = V k
theorem smP.trans {q q' : zSt} {V V1 V2 : zE} (h : smP q V V1) (g : smP q' V1 V2) : smP q' V V2 := ⟨g.1, fun j a b => (g.2.1 j a b).trans (h.2.1 j a b), fun k a b => (g.2.2 k a b).trans (h.2.2 k a b)⟩
def Rl (rule : Nat → Int) (V : zE) : Prop := V 37 21 = rule 0 ∧ V 37 22 = rule 1 ∧ V 37 23 = rule 2 ∧ V 37 10 = rule 3
theorem Rl.go {rule : Nat → Int} {q : zSt} {V V' : zE} (h : Rl rule V) (g : smP q V V') : Rl rule V' := by
  unfold Rl at h ⊢
  rw [g.2.1 21 (by decide) (by decide), g.2.1 22 (by decide) (by decide), g.2.1 23 (by decide) (by decide), g.2.1 10 (by decide) (by decide)]; exact h
theorem cm_collapse {n c : Nat} {S : zH} {Rf : zG} {V : zE} (hL : Lay S Rf) (hc : V 37 0 = (c : Int)) (h8 : c ≤ 8) (hd : ∀ j, 0 ≤ V 44 j ∧ V 44 j ≤ 100000) (hf : ∀ j, 0 ≤ V 39 j ∧ V 39 j ≤ 100000) (hdn : -2147483648 ≤ V 37 19 ∧ V 37 19 ≤ 2147483647) : Cpv 1 mX7_collapse [zR 37] n S Rf V (smP (V 44, V 46, V 47, zor (V 37 19) (ovl (V 44) (V 39) c), V 37 20) V) := by
  refine ct_of (by decide) rfl (Nat.le_of_ble_eq_true rfl) ?_
  have loop : ∀ (m i : Nat), i + m = c → Wa zXn mX7_collapse (zrm 1 0 0) (zZm (qPN S Rf (smP (V 44, V 46, V 47, zor (V 37 19) (ovl (V 44) (V 39) c), V 37 20) V)) (n + 0) 0 0) 0 0 n S 2 [some (zR 37), some (zI (i : Int))] [] Rf (zp V 37 (za (V 37) 19 (zor (V 37 19) (ovl (V 44) (V 39) i)))) := by
    intro m
    induction m with
    | zero =>
      intro i hi
      obtain rfl : i = c := by omega
      refine wa_ild1 dX7_collapse_2 ?_
      refine wa_ald0 dX7_collapse_3 ?_
      refine gX7_7 dX7_collapse_4 rfl (by first | assumption | exact hL.1 _ (by decide)) ?_
      refine wa_icmp_ge 47 dX7_collapse_7 (by decide) (by first | omega | (simp (decide := true) only [zp_s, za_n, ne_eq]; omega)) (by first | omega | (simp (decide := true) only [zp_s, za_n, ne_eq]; omega)) (fun c7 => ?_) (fun c7 => ?_)
      · exact wa_return dX7_collapse_47 rfl rfl (Nat.le_refl _) (by exact ⟨rfl, rfl, rfl, by simp (decide := true) only [vr, zp_s, zp_n, za_s, za_n, ne_eq], fun j a b => by rw [zp_s, za_n _ _ a], fun k a b => by rw [zp_n _ _ a]⟩)
      · simp (decide := true) only [zp_s, za_n, ne_eq] at c7; omega
    | succ m ih =>
      intro i hi
      have hdi := hd i
      have hfi := hf i
      have e1 := ih (i + 1) (by omega)
      refine wa_ild1 dX7_collapse_2 ?_
      refine wa_ald0 dX7_collapse_3 ?_
      refine gX7_7 dX7_collapse_4 rfl (by first | assumption | exact hL.1 _ (by decide)) ?_
      refine wa_icmp_ge 47 dX7_collapse_7 (by decide) (by first | omega | (simp (decide := true) only [zp_s, zp_n, za_n, ne_eq, Int.toNat_natCast]; omega)) (by first | omega | (simp (decide := true) only [zp_s, zp_n, za_n, ne_eq, Int.toNat_natCast]; omega)) (fun c7 => ?_) (fun c7 => ?_)
      · simp (decide := true) only [zp_s, za_n, ne_eq] at c7; omega
      · refine wa_ald0 dX7_collapse_10 ?_
        refine wa_dup dX7_collapse_11 rfl ?_
        refine gX7_106 dX7_collapse_12 rfl (by first | assumption | exact hL.1 _ (by decide)) ?_
        refine wa_ald0 dX7_collapse_15 ?_
        refine gX7_44 dX7_collapse_16 rfl (by first | assumption | exact hL.1 _ (by decide)) (by first | assumption | exact hL.2 _ _ (by decide)) ?_
        refine wa_ild1 dX7_collapse_19 ?_
        refine wa_iaload dX7_collapse_20 (by first | assumption | exact hL.1 _ (by decide)) (by first | omega | (simp (decide := true) only [zp_s, zp_n, za_n, ne_eq, Int.toNat_natCast]; omega)) (by first | decide | omega) ?_
        refine wa_ald0 dX7_collapse_21 ?_
        refine gX7_17 dX7_collapse_22 rfl (by first | assumption | exact hL.1 _ (by decide)) (by first | assumption | exact hL.2 _ _ (by decide)) ?_
        refine wa_ild1 dX7_collapse_25 ?_
        refine wa_iaload dX7_collapse_26 (by first | assumption | exact hL.1 _ (by decide)) (by first | omega | (simp (decide := true) only [zp_s, zp_n, za_n, ne_eq, Int.toNat_natCast]; omega)) (by first | decide | omega) ?_
        refine wa_icmp_le 36 dX7_collapse_27 (by decide) (by first | omega | (simp (decide := true) only [zp_s, zp_n, za_n, ne_eq, Int.toNat_natCast]; omega)) (by first | omega | (simp (decide := true) only [zp_s, zp_n, za_n, ne_eq, Int.toNat_natCast]; omega)) (fun c27 => ?_) (fun c27 => ?_)
        · refine wa_iconst dX7_collapse_36 ?_
          refine wa_ior dX7_collapse_37 ?_
          refine pX7_106 dX7_collapse_38 rfl (by first | assumption | exact hL.1 _ (by decide)) ?_
          refine wa_iinc1 dX7_collapse_41 (by decide) rfl ?_
          refine wa_goto 2 dX7_collapse_44 (by decide) ?_
          simp (decide := true) only [zp_zp, zp_s, zp_n, za_s, za_n, za_za, ne_eq, Int.toNat_natCast] at c27 ⊢
          rw [ovl] at e1
          first
            | (rw [if_pos (by omega), ← zor_as] at e1; exact e1)
            | (rw [if_neg (by omega)] at e1; rw [zor_as, zor_z (ovl_rg _ _ _)]; exact e1)
        · refine wa_iconst dX7_collapse_30 ?_
          refine wa_ild1 dX7_collapse_31 ?_
          refine wa_ishl1 dX7_collapse_32 (by first | omega | (simp (decide := true) only [zp_s, zp_n, za_n, ne_eq, Int.toNat_natCast]; omega)) ?_
          refine wa_goto 37 dX7_collapse_33 (by decide) ?_
          refine wa_ior dX7_collapse_37 ?_
          refine pX7_106 dX7_collapse_38 rfl (by first | assumption | exact hL.1 _ (by decide)) ?_
          refine wa_iinc1 dX7_collapse_41 (by decide) rfl ?_
          refine wa_goto 2 dX7_collapse_44 (by decide) ?_
          simp (decide := true) only [zp_zp, zp_s, zp_n, za_s, za_n, za_za, ne_eq, Int.toNat_natCast] at c27 ⊢
          rw [ovl] at e1
          first
            | (rw [if_pos (by omega), ← zor_as] at e1; exact e1)
            | (rw [if_neg (by omega)] at e1; rw [zor_as, zor_z (ovl_rg _ _ _)]; exact e1)
  refine wa_iconst dX7_collapse_0 ?_
  refine wa_ist1 dX7_collapse_1 (by decide) rfl ?_
  refine wa_eqV ?_ (loop c 0 (by omega))
  rw [ovl, zor_z hdn, za_self, zp_self]
/-- a night on the reference's row -/
theorem cm_night {n c : Nat} {S : zH} {Rf : zG} {V : zE} (hL : Lay S Rf) (hc : V 37 0 = (c : Int)) (h2 : 2 ≤ c) (h8 : c ≤ 8) (hd : ∀ j, 0 ≤ V 44 j ∧ V 44 j ≤ 100000) : Cpv 1 mX7_night [zR 37] n S Rf V (smP (ngF c (V 44), V 46, V 47, V 37 19, V 37 20) V) := by
  refine ct_of (by decide) rfl (Nat.le_of_ble_eq_true rfl) ?_
  have loop3 : ∀ (m i : Nat) (t f : Nat → Int), i + m = c → (∀ j, j < c → t j = ngF c (V 44) j) → (∀ j, f j = if j < i then ngF c (V 44) j else V 44 j) → Wa zXn mX7_night (zrm 1 0 0) (zZm (qPN S Rf (smP (ngF c (V 44), V 46, V 47, V 37 19, V 37 20) V)) (n + 0) 0 0) 0 0 n S 89 [some (zR 37), some (zI (i : Int))] [] Rf (zp (zp V 45 t) 44 f) := by
    intro m
    induction m with
    | zero =>
      intro i t f hi ht hf
      obtain rfl : i = c := by omega
      have ef : f = ngF i (V 44) := by
        funext j
        rw [hf j]
        split
        · rfl
        · next h => unfold ngF; rw [if_neg h]
      subst ef
      refine wa_ild1 dX7_night_89 ?_
      refine wa_ald0 dX7_night_90 ?_
      refine gX7_7 dX7_night_91 rfl (by first | assumption | exact hL.1 _ (by decide)) ?_
      refine wa_icmp_ge 115 dX7_night_94 (by decide) (by first | omega | (simp (decide := true) only [zp_s, zp_n, ne_eq]; omega)) (by first | omega | (simp (decide := true) only [zp_s, zp_n, ne_eq]; omega)) (fun c94 => ?_) (fun c94 => ?_)
      · exact wa_return dX7_night_115 rfl rfl (Nat.le_refl _) (by exact ⟨rfl, rfl, rfl, by simp (decide := true) only [vr, zp_s, zp_n, ne_eq], fun j a b => by simp (decide := true) only [zp_n, ne_eq], fun k a b => by rw [zp_n _ _ (by omega), zp_n _ _ (by omega)]⟩)
      · simp (decide := true) only [zp_n, ne_eq] at c94; omega
    | succ m ih =>
      intro i t f hi ht hf
      refine wa_ild1 dX7_night_89 ?_
      refine wa_ald0 dX7_night_90 ?_
      refine gX7_7 dX7_night_91 rfl (by first | assumption | exact hL.1 _ (by decide)) ?_
      refine wa_icmp_ge 115 dX7_night_94 (by decide) (by first | omega | (simp (decide := true) only [zp_s, zp_n, ne_eq]; omega)) (by first | omega | (simp (decide := true) only [zp_s, zp_n, ne_eq]; omega)) (fun c94 => ?_) (fun c94 => ?_)
      · simp (decide := true) only [zp_n, ne_eq] at c94; omega
      · refine wa_ald0 dX7_night_97 ?_
        refine gX7_44 dX7_night_98 rfl (by first | assumption | exact hL.1 _ (by decide)) (by first | assumption | exact hL.2 _ _ (by decide)) ?_
        refine wa_ild1 dX7_night_101 ?_
        refine wa_ald0 dX7_night_102 ?_
        refine gX7_47 dX7_night_103 rfl (by first | assumption | exact hL.1 _ (by decide)) (by first | assumption | exact hL.2 _ _ (by decide)) ?_
        refine wa_ild1 dX7_night_106 ?_
        refine wa_iaload dX7_night_107 (by first | assumption | exact hL.1 _ (by decide)) (by first | omega | (simp (decide := true) only [zp_s, zp_n, ne_eq]; omega)) (by first | decide | omega) ?_
        refine wa_iastore dX7_night_108 (by first | assumption | exact hL.1 _ (by decide)) (by first | omega | (simp (decide := true) only [zp_s, zp_n, ne_eq]; omega)) (by first | decide | omega) ?_
        refine wa_iinc1 dX7_night_109 (by decide) rfl ?_
        refine wa_goto 89 dX7_night_112 (by decide) ?_
        simp (decide := true) only [zp_zp, zp_s, zp_n, ne_eq, Int.toNat_natCast]
        exact ih (i + 1) t (za f i (t i)) (by omega) ht (zprog hf (ht i (by omega)))
  have loop2 : ∀ (m i : Nat) (t : Nat → Int), i + m + 1 = c → (∀ j, j < c → t j = V 44 j + (if 1 ≤ j ∧ j ≤ i ∧ V 44 j + 2 ≤ V 44 (j - 1) then 1 else 0) - (if j < i ∧ V 44 (j + 1) + 2 ≤ V 44 j then 1 else 0)) → Wa zXn mX7_night (zrm 1 0 0) (zZm (qPN S Rf (smP (ngF c (V 44), V 46, V 47, V 37 19, V 37 20) V)) (n + 0) 0 0) 0 0 n S 30 [some (zR 37), some (zI (i : Int))] [] Rf (zp V 45 t) := by
    intro m
    induction m with
    | zero =>
      intro i t hi ht
      refine wa_ild1 dX7_night_30 ?_
      refine wa_iconst dX7_night_31 ?_
      refine wa_iadd dX7_night_32 ?_
      refine wa_ald0 dX7_night_33 ?_
      refine gX7_7 dX7_night_34 rfl (by first | assumption | exact hL.1 _ (by decide)) ?_
      refine wa_icmp_ge 87 dX7_night_37 (by decide) (by first | omega | (simp (decide := true) only [zp_s, zp_n, ne_eq]; omega)) (by first | omega | (simp (decide := true) only [zp_s, zp_n, ne_eq]; omega)) (fun c37 => ?_) (fun c37 => ?_)
      · refine wa_iconst dX7_night_87 ?_
        refine wa_ist1 dX7_night_88 (by decide) rfl ?_
        refine wa_eqV (zp_self _ 44).symm (loop3 c 0 t _ (by omega) (fun j hj => ?_) (fun j => by rw [if_neg (by omega), zp_n _ _ (by decide)]))
        rw [ht j hj, ngF, if_pos hj]
        congr 1
        · congr 1
          by_cases h : 1 ≤ j ∧ V 44 j + 2 ≤ V 44 (j - 1)
          · rw [if_pos h, if_pos ⟨h.1, by omega, h.2⟩]
          · rw [if_neg h, if_neg (fun q => h ⟨q.1, q.2.2⟩)]
        · by_cases h : j + 1 < c ∧ V 44 (j + 1) + 2 ≤ V 44 j
          · rw [if_pos h, if_pos ⟨by omega, h.2⟩]
          · rw [if_neg h, if_neg (fun q => h ⟨by omega, q.2⟩)]
      · simp (decide := true) only [zp_n, ne_eq] at c37; omega
    | succ m ih =>
      intro i t hi ht
      have hd0 := hd i
      have hd1 := hd (i + 1)
      have e1 : ((i : Int) + 1).toNat = i + 1 := by omega
      refine wa_ild1 dX7_night_30 ?_
      refine wa_iconst dX7_night_31 ?_
      refine wa_iadd dX7_night_32 ?_
      refine wa_ald0 dX7_night_33 ?_
      refine gX7_7 dX7_night_34 rfl (by first | assumption | exact hL.1 _ (by decide)) ?_
      refine wa_icmp_ge 87 dX7_night_37 (by decide) (by first | omega | (simp (decide := true) only [zp_s, zp_n, ne_eq, Int.toNat_natCast, e1]; omega)) (by first | omega | (simp (decide := true) only [zp_s, zp_n, ne_eq, Int.toNat_natCast, e1]; omega)) (fun c37 => ?_) (fun c37 => ?_)
      · simp (decide := true) only [zp_n, ne_eq] at c37; omega
      · refine wa_ald0 dX7_night_40 ?_
        refine gX7_44 dX7_night_41 rfl (by first | assumption | exact hL.1 _ (by decide)) (by first | assumption | exact hL.2 _ _ (by decide)) ?_
        refine wa_ild1 dX7_night_44 ?_
        refine wa_iaload dX7_night_45 (by first | assumption | exact hL.1 _ (by decide)) (by first | omega | (simp (decide := true) only [zp_s, zp_n, ne_eq, Int.toNat_natCast, e1]; omega)) (by first | decide | omega) ?_
        refine wa_ald0 dX7_night_46 ?_
        refine gX7_44 dX7_night_47 rfl (by first | assumption | exact hL.1 _ (by decide)) (by first | assumption | exact hL.2 _ _ (by decide)) ?_
        refine wa_ild1 dX7_night_50 ?_
        refine wa_iconst dX7_night_51 ?_
        refine wa_iadd dX7_night_52 ?_
        refine wa_iaload dX7_night_53 (by first | assumption | exact hL.1 _ (by decide)) (by first | omega | (simp (decide := true) only [zp_s, zp_n, ne_eq, Int.toNat_natCast, e1]; omega)) (by first | decide | omega) ?_
        refine wa_isub dX7_night_54 ?_
        refine wa_iconst dX7_night_55 ?_
        refine wa_icmp_lt 81 dX7_night_56 (by decide) (by first | omega | (simp (decide := true) only [zp_s, zp_n, ne_eq, Int.toNat_natCast, e1]; omega)) (by first | omega | (simp (decide := true) only [zp_s, zp_n, ne_eq, Int.toNat_natCast, e1]; omega)) (fun c56 => ?_) (fun c56 => ?_)
        · refine wa_iinc1 dX7_night_81 (by decide) rfl ?_
          refine wa_goto 30 dX7_night_84 (by decide) ?_
          simp (decide := true) only [zp_zp, zp_s, zp_n, ne_eq, Int.toNat_natCast, e1] at c56 ⊢
          refine ih (i + 1) _ (by omega) (fun j hj => ?_)
          have hj' := ht j hj
          by_cases q1 : j = i + 1
          · subst q1
            simp only [Nat.add_sub_cancel] at hj' ⊢
            first
              | rw [za_s, za_n _ _ (by omega), hj']
              | rw [hj']
            split <;> split <;> (try split) <;> (try split) <;> omega
          · by_cases q2 : j = i
            · subst q2
              first
                | rw [za_n _ _ q1, za_s, hj']
                | rw [hj']
              split <;> split <;> (try split) <;> (try split) <;> omega
            · first
                | rw [za_n _ _ q1, za_n _ _ q2, hj']
                | rw [hj']
              split <;> split <;> (try split) <;> (try split) <;> omega
        · refine wa_ald0 dX7_night_59 ?_
          refine gX7_47 dX7_night_60 rfl (by first | assumption | exact hL.1 _ (by decide)) (by first | assumption | exact hL.2 _ _ (by decide)) ?_
          refine wa_ild1 dX7_night_63 ?_
          refine wa_dup2 dX7_night_64 rfl rfl ?_
          refine wa_iaload dX7_night_65 (by first | assumption | exact hL.1 _ (by decide)) (by first | omega | (simp (decide := true) only [zp_s, zp_n, ne_eq, Int.toNat_natCast, e1]; omega)) (by first | decide | omega) ?_
          refine wa_iconst dX7_night_66 ?_
          refine wa_isub dX7_night_67 ?_
          refine wa_iastore dX7_night_68 (by first | assumption | exact hL.1 _ (by decide)) (by first | omega | (simp (decide := true) only [zp_s, zp_n, ne_eq, Int.toNat_natCast, e1]; omega)) (by first | decide | omega) ?_
          refine wa_ald0 dX7_night_69 ?_
          refine gX7_47 dX7_night_70 rfl (by first | assumption | exact hL.1 _ (by decide)) (by first | assumption | exact hL.2 _ _ (by decide)) ?_
          refine wa_ild1 dX7_night_73 ?_
          refine wa_iconst dX7_night_74 ?_
          refine wa_iadd dX7_night_75 ?_
          refine wa_dup2 dX7_night_76 rfl rfl ?_
          refine wa_iaload dX7_night_77 (by first | assumption | exact hL.1 _ (by decide)) (by first | omega | (simp (decide := true) only [zp_s, zp_n, ne_eq, Int.toNat_natCast, e1]; omega)) (by first | decide | omega) ?_
          refine wa_iconst dX7_night_78 ?_
          refine wa_iadd dX7_night_79 ?_
          refine wa_iastore dX7_night_80 (by first | assumption | exact hL.1 _ (by decide)) (by first | omega | (simp (decide := true) only [zp_s, zp_n, ne_eq, Int.toNat_natCast, e1]; omega)) (by first | decide | omega) ?_
          refine wa_iinc1 dX7_night_81 (by decide) rfl ?_
          refine wa_goto 30 dX7_night_84 (by decide) ?_
          simp (decide := true) only [zp_zp, zp_s, zp_n, ne_eq, Int.toNat_natCast, e1] at c56 ⊢
          refine ih (i + 1) _ (by omega) (fun j hj => ?_)
          have hj' := ht j hj
          by_cases q1 : j = i + 1
          · subst q1
            simp only [Nat.add_sub_cancel] at hj' ⊢
            first
              | rw [za_s, za_n _ _ (by omega), hj']
              | rw [hj']
            split <;> split <;> (try split) <;> (try split) <;> omega
          · by_cases q2 : j = i
            · subst q2
              first
                | rw [za_n _ _ q1, za_s, hj']
                | rw [hj']
              split <;> split <;> (try split) <;> (try split) <;> omega
            · first
                | rw [za_n _ _ q1, za_n _ _ q2, hj']
                | rw [hj']
              split <;> split <;> (try split) <;> (try split) <;> omega
  have loop1 : ∀ (m i : Nat) (t : Nat → Int), i + m = c → (∀ j, j < i → t j = V 44 j) → Wa zXn mX7_night (zrm 1 0 0) (zZm (qPN S Rf (smP (ngF c (V 44), V 46, V 47, V 37 19, V 37 20) V)) (n + 0) 0 0) 0 0 n S 2 [some (zR 37), some (zI (i : Int))] [] Rf (zp V 45 t) := by
    intro m
    induction m with
    | zero =>
      intro i t hi ht
      refine wa_ild1 dX7_night_2 ?_
      refine wa_ald0 dX7_night_3 ?_
      refine gX7_7 dX7_night_4 rfl (by first | assumption | exact hL.1 _ (by decide)) ?_
      refine wa_icmp_ge 28 dX7_night_7 (by decide) (by first | omega | (simp (decide := true) only [zp_s, zp_n, ne_eq]; omega)) (by first | omega | (simp (decide := true) only [zp_s, zp_n, ne_eq]; omega)) (fun c7 => ?_) (fun c7 => ?_)
      · refine wa_iconst dX7_night_28 ?_
        refine wa_ist1 dX7_night_29 (by decide) rfl ?_
        exact loop2 (c - 1) 0 t (by omega) (fun j hj => by rw [ht j (by omega), if_neg (by omega), if_neg (by omega)]; omega)
      · simp (decide := true) only [zp_n, ne_eq] at c7; omega
    | succ m ih =>
      intro i t hi ht
      refine wa_ild1 dX7_night_2 ?_
      refine wa_ald0 dX7_night_3 ?_
      refine gX7_7 dX7_night_4 rfl (by first | assumption | exact hL.1 _ (by decide)) ?_
      refine wa_icmp_ge 28 dX7_night_7 (by decide) (by first | omega | (simp (decide := true) only [zp_s, zp_n, ne_eq]; omega)) (by first | omega | (simp (decide := true) only [zp_s, zp_n, ne_eq]; omega)) (fun c7 => ?_) (fun c7 => ?_)
      · simp (decide := true) only [zp_n, ne_eq] at c7; omega
      · refine wa_ald0 dX7_night_10 ?_
        refine gX7_47 dX7_night_11 rfl (by first | assumption | exact hL.1 _ (by decide)) (by first | assumption | exact hL.2 _ _ (by decide)) ?_
        refine wa_ild1 dX7_night_14 ?_
        refine wa_ald0 dX7_night_15 ?_
        refine gX7_44 dX7_night_16 rfl (by first | assumption | exact hL.1 _ (by decide)) (by first | assumption | exact hL.2 _ _ (by decide)) ?_
        refine wa_ild1 dX7_night_19 ?_
        refine wa_iaload dX7_night_20 (by first | assumption | exact hL.1 _ (by decide)) (by first | omega | (simp (decide := true) only [zp_s, zp_n, ne_eq]; omega)) (by first | decide | omega) ?_
        refine wa_iastore dX7_night_21 (by first | assumption | exact hL.1 _ (by decide)) (by first | omega | (simp (decide := true) only [zp_s, zp_n, ne_eq]; omega)) (by first | decide | omega) ?_
        refine wa_iinc1 dX7_night_22 (by decide) rfl ?_
        refine wa_goto 2 dX7_night_25 (by decide) ?_
        simp (decide := true) only [zp_zp, zp_s, zp_n, ne_eq, Int.toNat_natCast]
        exact ih (i + 1) _ (by omega) (fun j hj => by by_cases h : j = i; subst h; rw [za_s]; rw [za_n _ _ h]; exact ht j (by omega))
  refine wa_iconst dX7_night_0 ?_
  refine wa_ist1 dX7_night_1 (by decide) rfl ?_
  refine wa_eqV (zp_self _ 45).symm (loop1 c 0 _ (by omega) (fun j hj => absurd hj (by omega)))
