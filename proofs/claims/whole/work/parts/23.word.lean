/-! Street: a word, and what roofs do behind it -/
def fallV (r : Nat) (k g w : Int) (V : zE) : zE := zp (zp (zp V (r + 1) (za (V (r + 1)) g.toNat (V (r + 1) g.toNat + wtF (V (r + 3)) (V (r + 4)) k g w))) (r + 5) (za (V (r + 5)) (g * 8 + w).toNat (V (r + 5) (g * 8 + w).toNat + wtF (V (r + 3)) (V (r + 4)) k g w))) (r + 4) (za (V (r + 4)) g.toNat (zor (V (r + 4) g.toNat) (2 ^ w.toNat)))
theorem ct_fall {n : Nat} {S : zH} {Rf : zG} {V : zE} {r c : Nat} {k g w : Int} (hr : isStr S Rf r) (hc : V r 0 = (c : Int)) (h2 : 2 ≤ c) (h8 : c ≤ 8) (hk : 0 ≤ k ∧ k ≤ 1) (hg : 0 ≤ g ∧ g < c) (hw : 0 ≤ w ∧ w < c) :
    Cv 2 mX4_fall [zR r, zI k, zI g, zI w] n S Rf V (fallV r k g w V) := by
  have hr' := hr
  obtain ⟨s0, s1, s2, s3, s4, s5, s6, s7, r1, r2, r3, r4, r5, r6, r7⟩ := hr
  refine ct_of (by decide) rfl (Nat.le_of_ble_eq_true rfl) ?_
  refine wa_ald0 dX4_fall_0 ?_
  refine wa_ild2 dX4_fall_1 ?_
  refine kX4_71 dX4_fall_2 rfl (by first | assumption | exact hL.1 _ (by decide)) (ct_has hr' (by omega) (by omega)) (by decide) (Nat.le_of_ble_eq_true rfl) ⟨Nat.le_refl _, Nat.le_refl _⟩ (zdI ?_)
  refine wa_ifeq_B 16 dX4_fall_5 (by decide) (fun c5 => ?_) (fun c5 => ?_)
  · exact absurd (by omega) c5
  · refine wa_ald0 dX4_fall_8 ?_
    refine wa_ild3 dX4_fall_9 ?_
    refine kX4_71 dX4_fall_10 rfl (by first | assumption | exact hL.1 _ (by decide)) (ct_has hr' (by omega) (by omega)) (by decide) (Nat.le_of_ble_eq_true rfl) ⟨Nat.le_refl _, Nat.le_refl _⟩ (zdI ?_)
    refine wa_ifne_B 17 dX4_fall_13 (by decide) (fun c13 => ?_) (fun c13 => ?_)
    · refine wa_ald0 dX4_fall_17 ?_
      refine wa_ild1 dX4_fall_18 ?_
      refine wa_ild2 dX4_fall_19 ?_
      refine wa_ild3 dX4_fall_20 ?_
      refine kX4_78 dX4_fall_21 rfl (by first | assumption | exact hL.1 _ (by decide)) (ct_weight hr' hk (by omega)) (by decide) (Nat.le_of_ble_eq_true rfl) ⟨Nat.le_refl _, Nat.le_refl _⟩ (zdI ?_)
      refine wa_ist4 dX4_fall_24 (by decide) rfl ?_
      refine wa_ald0 dX4_fall_26 ?_
      refine gX4_9 dX4_fall_27 rfl (by first | assumption | exact hL.1 _ (by decide)) (by first | assumption | exact hL.2 _ _ (by decide)) ?_
      refine wa_ild2 dX4_fall_30 ?_
      refine wa_dup2 dX4_fall_31 rfl rfl ?_
      refine wa_iaload dX4_fall_32 (by first | assumption | exact hL.1 _ (by decide)) (by omega) (by first | decide | omega) ?_
      refine wa_ild4 dX4_fall_33 ?_
      refine wa_iadd dX4_fall_35 ?_
      refine wa_iastore dX4_fall_36 (by first | assumption | exact hL.1 _ (by decide)) (by omega) (by first | decide | omega) ?_
      refine wa_ald0 dX4_fall_37 ?_
      refine gX4_24 dX4_fall_38 rfl (by first | assumption | exact hL.1 _ (by decide)) (by first | assumption | exact hL.2 _ _ (by decide)) ?_
      refine wa_ild2 dX4_fall_41 ?_
      refine wa_bipush dX4_fall_42 (by decide) ?_
      refine wa_imul dX4_fall_44 ?_
      refine wa_ild3 dX4_fall_45 ?_
      refine wa_iadd dX4_fall_46 ?_
      refine wa_dup2 dX4_fall_47 rfl rfl ?_
      refine wa_iaload dX4_fall_48 (by first | assumption | exact hL.1 _ (by decide)) (by omega) (by first | decide | omega) ?_
      refine wa_ild4 dX4_fall_49 ?_
      refine wa_iadd dX4_fall_51 ?_
      refine wa_iastore dX4_fall_52 (by first | assumption | exact hL.1 _ (by decide)) (by omega) (by first | decide | omega) ?_
      refine wa_ald0 dX4_fall_53 ?_
      refine gX4_21 dX4_fall_54 rfl (by first | assumption | exact hL.1 _ (by decide)) (by first | assumption | exact hL.2 _ _ (by decide)) ?_
      refine wa_ild2 dX4_fall_57 ?_
      refine wa_dup2 dX4_fall_58 rfl rfl ?_
      refine wa_iaload dX4_fall_59 (by first | assumption | exact hL.1 _ (by decide)) (by omega) (by first | decide | omega) ?_
      refine wa_iconst dX4_fall_60 ?_
      refine wa_ild3 dX4_fall_61 ?_
      refine wa_ishl1 dX4_fall_62 (by omega) ?_
      refine wa_ior dX4_fall_63 ?_
      refine wa_iastore dX4_fall_64 (by first | assumption | exact hL.1 _ (by decide)) (by omega) (by first | decide | omega) ?_
      exact wa_return dX4_fall_65 rfl rfl (Nat.le_refl _) (by exact ⟨rfl, rfl, rfl, by simp [fallV, zp_n, zp_s]⟩)
    · exact absurd (by omega) c13
def lowV (r c : Nat) (g by_ : Int) (V : zE) : zE := if 0 ≤ g ∧ g < c then zp V (r + 1) (za (V (r + 1)) g.toNat (max 0 (V (r + 1) g.toNat - by_))) else V
theorem ct_lower {n : Nat} {S : zH} {Rf : zG} {V : zE} {r c : Nat} {g x : Int} (hr : isStr S Rf r) (hc : V r 0 = (c : Int)) (h2 : 2 ≤ c) (h8 : c ≤ 8) (hg : -100 ≤ g ∧ g ≤ 100) (hx : 0 ≤ x ∧ x ≤ 9) (hd : ∀ j, 0 ≤ V (r + 1) j ∧ V (r + 1) j ≤ 100000) :
    Cv 2 mX4_lower [zR r, zI g, zI x] n S Rf V (lowV r c g x V) := by
  have hr' := hr
  obtain ⟨s0, s1, s2, s3, s4, s5, s6, s7, r1, r2, r3, r4, r5, r6, r7⟩ := hr
  have hdg := hd g.toNat
  refine ct_of (by decide) rfl (Nat.le_of_ble_eq_true rfl) ?_
  refine wa_ald0 dX4_lower_0 ?_
  refine wa_ild1 dX4_lower_1 ?_
  refine kX4_71 dX4_lower_2 rfl (by first | assumption | exact hL.1 _ (by decide)) (ct_has hr' (by omega) (by omega)) (by decide) (Nat.le_of_ble_eq_true rfl) ⟨Nat.le_refl _, Nat.le_refl _⟩ (zdI ?_)
  refine wa_ifeq_B 26 dX4_lower_5 (by decide) (fun c5 => ?_) (fun c5 => ?_)
  · exact wa_return dX4_lower_26 rfl rfl (Nat.le_refl _) (by first | exact ⟨rfl, rfl, rfl, by unfold lowV; rw [if_pos (by omega)]⟩ | exact ⟨rfl, rfl, rfl, by unfold lowV; rw [if_neg (by omega)]⟩)
  · refine wa_ald0 dX4_lower_8 ?_
    refine gX4_9 dX4_lower_9 rfl (by first | assumption | exact hL.1 _ (by decide)) (by first | assumption | exact hL.2 _ _ (by decide)) ?_
    refine wa_ild1 dX4_lower_12 ?_
    refine wa_iconst dX4_lower_13 ?_
    refine wa_ald0 dX4_lower_14 ?_
    refine gX4_9 dX4_lower_15 rfl (by first | assumption | exact hL.1 _ (by decide)) (by first | assumption | exact hL.2 _ _ (by decide)) ?_
    refine wa_ild1 dX4_lower_18 ?_
    refine wa_iaload dX4_lower_19 (by first | assumption | exact hL.1 _ (by decide)) (by omega) (by first | decide | omega) ?_
    refine wa_ild2 dX4_lower_20 ?_
    refine wa_isub dX4_lower_21 ?_
    refine wa_max dX4_lower_22 lX4_96 w_st_max w_iMath w_co_max ⟨Nat.le_of_ble_eq_true rfl, Nat.le_of_ble_eq_true rfl⟩ (by decide) (by omega) (by omega) ?_
    refine wa_iastore dX4_lower_25 (by first | assumption | exact hL.1 _ (by decide)) (by omega) (by first | decide | omega) ?_
    exact wa_return dX4_lower_26 rfl rfl (Nat.le_refl _) (by first | exact ⟨rfl, rfl, rfl, by unfold lowV; rw [if_pos (by omega)]⟩ | exact ⟨rfl, rfl, rfl, by unfold lowV; rw [if_neg (by omega)]⟩)
def nightV (r c : Nat) (V : zE) : zE := zp V (r + 1) (ngF c (V (r + 1)))
def thawV (r c : Nat) (V : zE) : zE := zp (zp V (r + 1) (thD c (V (r + 1)))) r (za (V r) 4 (V r 4 + thB (V (r + 1)) c))
def forgV (r : Nat) (V : zE) : zE := zp (zp V (r + 4) (fun _ => 0)) (r + 5) (fgF (V (r + 4)) (V (r + 5)))
/-- what a word does to the snow -/
def spkV (r c : Nat) (k g w : Int) (V : zE) : zE := if k ≤ 1 then fallV r k g w V else if k = 2 then lowV r c g (V (r + 3) 3) V else if k = 3 then lowV r c (g + 1) 1 (lowV r c (g - 1) 1 (lowV r c g 2 V)) else if k = 4 then nightV r c V else forgV r (thawV r c V)
theorem lowV_o {r c : Nat} {g x : Int} {V : zE} {k : Nat} (h : k ≠ r + 1) : lowV r c g x V k = V k := by
  unfold lowV; split
  · rw [zp_n _ _ h]
  · rfl
theorem lowV_b {r c : Nat} {g x : Int} {V : zE} {B : Int} (hx : 0 ≤ x) (hd : ∀ j, 0 ≤ V (r + 1) j ∧ V (r + 1) j ≤ B) : ∀ j, 0 ≤ lowV r c g x V (r + 1) j ∧ lowV r c g x V (r + 1) j ≤ B := by
  intro j
  have h1 := hd j
  have h2 := hd g.toNat
  unfold lowV; split
  · rw [zp_s]
    by_cases hj : j = g.toNat
    · subst hj; rw [za_s]; omega
    · rw [za_n _ _ hj]; exact h1
  · exact h1
theorem ct_speak {n : Nat} {S : zH} {Rf : zG} {V : zE} {r c : Nat} {k g w : Int} (hr : isStr S Rf r) (hc : V r 0 = (c : Int)) (h2 : 2 ≤ c) (h8 : c ≤ 8) (hk : 0 ≤ k ∧ k ≤ 5) (hg : 0 ≤ g ∧ g < c) (hw : 0 ≤ w ∧ w < c) (hd : ∀ j, 0 ≤ V (r + 1) j ∧ V (r + 1) j ≤ 100000) (hu : ∀ j, 0 ≤ V (r + 3) j ∧ V (r + 3) j ≤ 9) (hs : ∀ j, -2147483648 ≤ V (r + 4) j ∧ V (r + 4) j ≤ 2147483647) :
    Cv 4 mX4_speak [zR r, zI k, zI g, zI w] n S Rf V (spkV r c k g w V) := by
  have hr' := hr
  obtain ⟨s0, s1, s2, s3, s4, s5, s6, s7, r1, r2, r3, r4, r5, r6, r7⟩ := hr
  have hu3 := hu 3
  refine ct_of (by decide) rfl (Nat.le_of_ble_eq_true rfl) ?_
  refine wa_ild1 dX4_speak_0 ?_
  obtain hk1 | rfl | rfl | rfl | rfl : k ≤ 1 ∨ k = 2 ∨ k = 3 ∨ k = 4 ∨ k = 5 := by omega
  · refine wa_table 40 dX4_speak_1 (by omega) (by omega) (off := 39) ?_ (by decide) ?_
    · obtain rfl | rfl : k = 0 ∨ k = 1 := by omega
      · rfl
      · rfl
    refine wa_ald0 dX4_speak_40 ?_
    refine wa_ild1 dX4_speak_41 ?_
    refine wa_ild2 dX4_speak_42 ?_
    refine wa_ild3 dX4_speak_43 ?_
    refine kX4_82 dX4_speak_44 rfl (by first | assumption | exact hL.1 _ (by decide)) (ct_fall hr' hc h2 h8 (by omega) hg hw) (by decide) (Nat.le_of_ble_eq_true rfl) ⟨Nat.le_refl _, Nat.le_refl _⟩ (zdN ?_)
    refine wa_goto 114 dX4_speak_47 (by decide) ?_
    exact wa_return dX4_speak_114 rfl rfl (Nat.le_refl _) (by exact ⟨rfl, rfl, rfl, by unfold spkV; rw [if_pos hk1]⟩)
  · refine wa_table 50 dX4_speak_1 (by decide) (by decide) (off := 49) rfl (by decide) ?_
    refine wa_ald0 dX4_speak_50 ?_
    refine wa_ild2 dX4_speak_51 ?_
    refine wa_ald0 dX4_speak_52 ?_
    refine gX4_18 dX4_speak_53 rfl (by first | assumption | exact hL.1 _ (by decide)) (by first | assumption | exact hL.2 _ _ (by decide)) ?_
    refine wa_iconst dX4_speak_56 ?_
    refine wa_iaload dX4_speak_57 (by first | assumption | exact hL.1 _ (by decide)) (by omega) (by first | decide | omega) ?_
    refine kX4_86 dX4_speak_58 rfl (by first | assumption | exact hL.1 _ (by decide)) (ct_lower hr' hc h2 h8 (by omega) hu3 hd) (by decide) (Nat.le_of_ble_eq_true rfl) ⟨Nat.le_refl _, Nat.le_refl _⟩ (zdN ?_)
    refine wa_goto 114 dX4_speak_61 (by decide) ?_
    exact wa_return dX4_speak_114 rfl rfl (Nat.le_refl _) (by exact ⟨rfl, rfl, rfl, rfl⟩)
  · refine wa_table 64 dX4_speak_1 (by decide) (by decide) (off := 63) rfl (by decide) ?_
    refine wa_ald0 dX4_speak_64 ?_
    refine wa_ild2 dX4_speak_65 ?_
    refine wa_iconst dX4_speak_66 ?_
    refine kX4_86 dX4_speak_67 rfl (by first | assumption | exact hL.1 _ (by decide)) (ct_lower hr' hc h2 h8 (by omega) (by decide) hd) (by decide) (Nat.le_of_ble_eq_true rfl) ⟨Nat.le_refl _, Nat.le_refl _⟩ (zdN ?_)
    refine wa_ald0 dX4_speak_70 ?_
    refine wa_ild2 dX4_speak_71 ?_
    refine wa_iconst dX4_speak_72 ?_
    refine wa_isub dX4_speak_73 ?_
    refine wa_iconst dX4_speak_74 ?_
    refine kX4_86 dX4_speak_75 rfl (by first | assumption | exact hL.1 _ (by decide)) (ct_lower hr' (by rw [lowV_o (by omega)]; exact hc) h2 h8 (by omega) (by decide) (lowV_b (by decide) hd)) (by decide) (Nat.le_of_ble_eq_true rfl) ⟨Nat.le_refl _, Nat.le_refl _⟩ (zdN ?_)
    refine wa_ald0 dX4_speak_78 ?_
    refine wa_ild2 dX4_speak_79 ?_
    refine wa_iconst dX4_speak_80 ?_
    refine wa_iadd dX4_speak_81 ?_
    refine wa_iconst dX4_speak_82 ?_
    refine kX4_86 dX4_speak_83 rfl (by first | assumption | exact hL.1 _ (by decide)) (ct_lower hr' (by rw [lowV_o (by omega), lowV_o (by omega)]; exact hc) h2 h8 (by omega) (by decide) (lowV_b (by decide) (lowV_b (by decide) hd))) (by decide) (Nat.le_of_ble_eq_true rfl) ⟨Nat.le_refl _, Nat.le_refl _⟩ (zdN ?_)
    refine wa_goto 114 dX4_speak_86 (by decide) ?_
    exact wa_return dX4_speak_114 rfl rfl (Nat.le_refl _) (by exact ⟨rfl, rfl, rfl, rfl⟩)
  · refine wa_table 89 dX4_speak_1 (by decide) (by decide) (off := 88) rfl (by decide) ?_
    refine wa_ald0 dX4_speak_89 ?_
    refine gX4_9 dX4_speak_90 rfl (by first | assumption | exact hL.1 _ (by decide)) (by first | assumption | exact hL.2 _ _ (by decide)) ?_
    refine wa_ald0 dX4_speak_93 ?_
    refine gX4_37 dX4_speak_94 rfl (by first | assumption | exact hL.1 _ (by decide)) ?_
    rw [hc]
    refine kX4_90 dX4_speak_97 rfl (ct_passNight s1 h2 h8 hd) (by decide) (Nat.le_of_ble_eq_true rfl) ⟨Nat.le_refl _, Nat.le_refl _⟩ (zdN ?_)
    refine wa_goto 114 dX4_speak_100 (by decide) ?_
    exact wa_return dX4_speak_114 rfl rfl (Nat.le_refl _) (by exact ⟨rfl, rfl, rfl, rfl⟩)
  · refine wa_table 103 dX4_speak_1 (by decide) (by decide) (off := 102) rfl (by decide) ?_
    refine wa_ald0 dX4_speak_103 ?_
    refine kX4_93 dX4_speak_104 rfl (by first | assumption | exact hL.1 _ (by decide)) (ct_thaw hr' hc h2 h8 hd) (by decide) (Nat.le_of_ble_eq_true rfl) ⟨Nat.le_refl _, Nat.le_refl _⟩ (zdN ?_)
    refine wa_ald0 dX4_speak_107 ?_
    refine kX4_59 dX4_speak_108 rfl (by first | assumption | exact hL.1 _ (by decide)) (ct_forgetWords hr' (fun j => by rw [zp_n _ _ (by omega), zp_n _ _ (by omega)]; exact hs j)) (by decide) (Nat.le_of_ble_eq_true rfl) ⟨Nat.le_refl _, Nat.le_refl _⟩ (zdN ?_)
    refine wa_goto 114 dX4_speak_111 (by decide) ?_
    exact wa_return dX4_speak_114 rfl rfl (Nat.le_refl _) (by exact ⟨rfl, rfl, rfl, rfl⟩)
def dpP (c : Nat) (d : Nat → Int) (g : Int) : Prop := 0 ≤ g ∧ g < c ∧ 0 < d g.toNat
/-- why a word can not be; 0: it can -/
def hinF (c : Nat) (d rule said : Nat → Int) (k g w : Int) : Int :=
  if 4 ≤ k then 0 else if k = 3 then (if (0 ≤ g ∧ g < c ∧ 0 < d g.toNat) ∨ (0 ≤ g - 1 ∧ g - 1 < c ∧ 0 < d (g - 1).toNat) ∨ (0 ≤ g + 1 ∧ g + 1 < c ∧ 0 < d (g + 1).toNat) then 0 else 2) else if g = w then 1 else if k = 2 then (if 0 ≤ g ∧ g < c ∧ 0 < d g.toNat then 0 else 2) else if 999 < d g.toNat + wtF rule said k g w then 3 else 0
theorem wtF_b {rule said : Nat → Int} {k g w : Int} (hu : ∀ j, 0 ≤ rule j ∧ rule j ≤ 9) : 0 ≤ wtF rule said k g w ∧ wtF rule said k g w ≤ 18 := by
  have h1 := hu k.toNat
  have h2 := hu 2
  unfold wtF; split <;> omega
theorem ct_hindrance {n : Nat} {S : zH} {Rf : zG} {V : zE} {r c : Nat} {k g w : Int} (hr : isStr S Rf r) (hc : V r 0 = (c : Int)) (h2 : 2 ≤ c) (h8 : c ≤ 8) (hk : 0 ≤ k ∧ k ≤ 5) (hg : 0 ≤ g ∧ g < c) (hw : 0 ≤ w ∧ w < c) (hd : ∀ j, 0 ≤ V (r + 1) j ∧ V (r + 1) j ≤ 100000) (hu : ∀ j, 0 ≤ V (r + 3) j ∧ V (r + 3) j ≤ 9) :
    Ci 3 mX4_hindrance [zR r, zI k, zI g, zI w] n S Rf V (hinF c (V (r + 1)) (V (r + 3)) (V (r + 4)) k g w) V := by
  have hr' := hr
  obtain ⟨s0, s1, s2, s3, s4, s5, s6, s7, r1, r2, r3, r4, r5, r6, r7⟩ := hr
  have hdg := hd g.toNat
  have hwt := wtF_b (rule := V (r + 3)) (said := V (r + 4)) (k := k) (g := g) (w := w) hu
  refine ct_of (by decide) rfl (Nat.le_of_ble_eq_true rfl) ?_
  refine wa_ald0 dX4_hindrance_0 ?_
  refine wa_ild2 dX4_hindrance_1 ?_
  refine kX4_71 dX4_hindrance_2 rfl (by first | assumption | exact hL.1 _ (by decide)) (ct_has hr' (by omega) (by omega)) (by decide) (Nat.le_of_ble_eq_true rfl) ⟨Nat.le_refl _, Nat.le_refl _⟩ (zdI ?_)
  refine wa_ifeq_B 18 dX4_hindrance_5 (by decide) (fun c5 => ?_) (fun c5 => ?_)
  · exact absurd (by omega) c5
  · refine wa_ild1 dX4_hindrance_8 ?_
    refine wa_iconst dX4_hindrance_9 ?_
    refine wa_icmp_eq 18 dX4_hindrance_10 (by decide) (by omega) (by omega) (fun c10 => ?_) (fun c10 => ?_)
    · refine wa_iconst dX4_hindrance_18 ?_
      exact wa_ireturn dX4_hindrance_19 rfl rfl (Nat.le_refl _) (by refine ⟨?_, rfl, rfl, rfl⟩; unfold hinF; (repeat' split) <;> first | rfl | (exfalso; omega))
    · refine wa_ild1 dX4_hindrance_13 ?_
      refine wa_iconst dX4_hindrance_14 ?_
      refine wa_icmp_ne 20 dX4_hindrance_15 (by decide) (by omega) (by omega) (fun c15 => ?_) (fun c15 => ?_)
      · refine wa_ild1 dX4_hindrance_20 ?_
        refine wa_iconst dX4_hindrance_21 ?_
        refine wa_icmp_ne 59 dX4_hindrance_22 (by decide) (by omega) (by omega) (fun c22 => ?_) (fun c22 => ?_)
        · refine wa_ild2 dX4_hindrance_59 ?_
          refine wa_ild3 dX4_hindrance_60 ?_
          refine wa_icmp_ne 66 dX4_hindrance_61 (by decide) (by omega) (by omega) (fun c61 => ?_) (fun c61 => ?_)
          · refine wa_ild1 dX4_hindrance_66 ?_
            refine wa_iconst dX4_hindrance_67 ?_
            refine wa_icmp_ne 85 dX4_hindrance_68 (by decide) (by omega) (by omega) (fun c68 => ?_) (fun c68 => ?_)
            · refine wa_ald0 dX4_hindrance_85 ?_
              refine gX4_9 dX4_hindrance_86 rfl (by first | assumption | exact hL.1 _ (by decide)) (by first | assumption | exact hL.2 _ _ (by decide)) ?_
              refine wa_ild2 dX4_hindrance_89 ?_
              refine wa_iaload dX4_hindrance_90 (by first | assumption | exact hL.1 _ (by decide)) (by omega) (by first | decide | omega) ?_
              refine wa_ald0 dX4_hindrance_91 ?_
              refine wa_ild1 dX4_hindrance_92 ?_
              refine wa_ild2 dX4_hindrance_93 ?_
              refine wa_ild3 dX4_hindrance_94 ?_
              refine kX4_78 dX4_hindrance_95 rfl (by first | assumption | exact hL.1 _ (by decide)) (ct_weight hr' (by omega) (by omega)) (by decide) (Nat.le_of_ble_eq_true rfl) ⟨Nat.le_refl _, Nat.le_refl _⟩ (zdI ?_)
              refine wa_iadd dX4_hindrance_98 ?_
              refine wa_sipush dX4_hindrance_99 (by decide) ?_
              refine wa_icmp_le 109 dX4_hindrance_102 (by decide) (by omega) (by omega) (fun c102 => ?_) (fun c102 => ?_)
              · refine wa_iconst dX4_hindrance_109 ?_
                exact wa_ireturn dX4_hindrance_110 rfl rfl (Nat.le_refl _) (by refine ⟨?_, rfl, rfl, rfl⟩; unfold hinF; (repeat' split) <;> first | rfl | (exfalso; omega))
              · refine wa_iconst dX4_hindrance_105 ?_
                refine wa_goto 110 dX4_hindrance_106 (by decide) ?_
                exact wa_ireturn dX4_hindrance_110 rfl rfl (Nat.le_refl _) (by refine ⟨?_, rfl, rfl, rfl⟩; unfold hinF; (repeat' split) <;> first | rfl | (exfalso; omega))
            · refine wa_ald0 dX4_hindrance_71 ?_
              refine wa_ild2 dX4_hindrance_72 ?_
              refine kX4_75 dX4_hindrance_73 rfl (by first | assumption | exact hL.1 _ (by decide)) (ct_isDeep hr' (by omega) (by omega) hd) (by decide) (Nat.le_of_ble_eq_true rfl) ⟨Nat.le_refl _, Nat.le_refl _⟩ (zdI ?_)
              refine wa_ifeq_B 83 dX4_hindrance_76 (by decide) (fun c76 => ?_) (fun c76 => ?_)
              · refine wa_iconst dX4_hindrance_83 ?_
                exact wa_ireturn dX4_hindrance_84 rfl rfl (Nat.le_refl _) (by refine ⟨?_, rfl, rfl, rfl⟩; unfold hinF; (repeat' split) <;> first | rfl | (exfalso; omega))
              · refine wa_iconst dX4_hindrance_79 ?_
                refine wa_goto 84 dX4_hindrance_80 (by decide) ?_
                exact wa_ireturn dX4_hindrance_84 rfl rfl (Nat.le_refl _) (by refine ⟨?_, rfl, rfl, rfl⟩; unfold hinF; (repeat' split) <;> first | rfl | (exfalso; omega))
          · refine wa_iconst dX4_hindrance_64 ?_
            exact wa_ireturn dX4_hindrance_65 rfl rfl (Nat.le_refl _) (by refine ⟨?_, rfl, rfl, rfl⟩; unfold hinF; (repeat' split) <;> first | rfl | (exfalso; omega))
        · refine wa_ald0 dX4_hindrance_25 ?_
          refine wa_ild2 dX4_hindrance_26 ?_
          refine kX4_75 dX4_hindrance_27 rfl (by first | assumption | exact hL.1 _ (by decide)) (ct_isDeep hr' (by omega) (by omega) hd) (by decide) (Nat.le_of_ble_eq_true rfl) ⟨Nat.le_refl _, Nat.le_refl _⟩ (zdI ?_)
          refine wa_ifne_B 53 dX4_hindrance_30 (by decide) (fun c30 => ?_) (fun c30 => ?_)
          · refine wa_iconst dX4_hindrance_53 ?_
            refine wa_goto 58 dX4_hindrance_54 (by decide) ?_
            exact wa_ireturn dX4_hindrance_58 rfl rfl (Nat.le_refl _) (by refine ⟨?_, rfl, rfl, rfl⟩; unfold hinF; (repeat' split) <;> first | rfl | (exfalso; omega))
          · refine wa_ald0 dX4_hindrance_33 ?_
            refine wa_ild2 dX4_hindrance_34 ?_
            refine wa_iconst dX4_hindrance_35 ?_
            refine wa_isub dX4_hindrance_36 ?_
            refine kX4_75 dX4_hindrance_37 rfl (by first | assumption | exact hL.1 _ (by decide)) (ct_isDeep hr' (by omega) (by omega) hd) (by decide) (Nat.le_of_ble_eq_true rfl) ⟨Nat.le_refl _, Nat.le_refl _⟩ (zdI ?_)
            refine wa_ifne_B 53 dX4_hindrance_40 (by decide) (fun c40 => ?_) (fun c40 => ?_)
            · refine wa_iconst dX4_hindrance_53 ?_
              refine wa_goto 58 dX4_hindrance_54 (by decide) ?_
              exact wa_ireturn dX4_hindrance_58 rfl rfl (Nat.le_refl _) (by refine ⟨?_, rfl, rfl, rfl⟩; unfold hinF; (repeat' split) <;> first | rfl | (exfalso; omega))
            · refine wa_ald0 dX4_hindrance_43 ?_
              refine wa_ild2 dX4_hindrance_44 ?_
              refine wa_iconst dX4_hindrance_45 ?_
              refine wa_iadd dX4_hindrance_46 ?_
              refine kX4_75 dX4_hindrance_47 rfl (by first | assumption | exact hL.1 _ (by decide)) (ct_isDeep hr' (by omega) (by omega) hd) (by decide) (Nat.le_of_ble_eq_true rfl) ⟨Nat.le_refl _, Nat.le_refl _⟩ (zdI ?_)
              refine wa_ifeq_B 57 dX4_hindrance_50 (by decide) (fun c50 => ?_) (fun c50 => ?_)
              · refine wa_iconst dX4_hindrance_57 ?_
                exact wa_ireturn dX4_hindrance_58 rfl rfl (Nat.le_refl _) (by refine ⟨?_, rfl, rfl, rfl⟩; unfold hinF; (repeat' split) <;> first | rfl | (exfalso; omega))
              · refine wa_iconst dX4_hindrance_53 ?_
                refine wa_goto 58 dX4_hindrance_54 (by decide) ?_
                exact wa_ireturn dX4_hindrance_58 rfl rfl (Nat.le_refl _) (by refine ⟨?_, rfl, rfl, rfl⟩; unfold hinF; (repeat' split) <;> first | rfl | (exfalso; omega))
      · refine wa_iconst dX4_hindrance_18 ?_
        exact wa_ireturn dX4_hindrance_19 rfl rfl (Nat.le_refl _) (by refine ⟨?_, rfl, rfl, rfl⟩; unfold hinF; (repeat' split) <;> first | rfl | (exfalso; omega))
theorem spkV_o {r c : Nat} {k g w : Int} {V : zE} {a : Nat} (h0 : a ≠ r) (h1 : a ≠ r + 1) (h4 : a ≠ r + 4) (h5 : a ≠ r + 5) : spkV r c k g w V a = V a := by
  unfold spkV
  split
  · simp [fallV, zp_n, h1, h4, h5]
  split
  · exact lowV_o h1
  split
  · rw [lowV_o h1, lowV_o h1, lowV_o h1]
  split
  · simp [nightV, zp_n, h1]
  · simp [forgV, thawV, zp_n, h0, h1, h4, h5]
theorem spkV_r {r c : Nat} {k g w : Int} {V : zE} {j : Nat} (h : j ≠ 4) : spkV r c k g w V r j = V r j := by
  unfold spkV
  split
  · simp [fallV, zp_n]
  split
  · rw [lowV_o (by omega)]
  split
  · rw [lowV_o (by omega), lowV_o (by omega), lowV_o (by omega)]
  split
  · simp [nightV, zp_n]
  · simp [forgV, thawV, zp_n, zp_s, za_n, h]
theorem ngF_b {c : Nat} {d : Nat → Int} {B : Int} (hd : ∀ j, 0 ≤ d j ∧ d j ≤ B) (j : Nat) : 0 ≤ ngF c d j ∧ ngF c d j ≤ B := by
  have h0 := hd j
  have h1 := hd (j - 1)
  have h2 := hd (j + 1)
  unfold ngF
  (repeat' split) <;> omega
theorem thD_b {c : Nat} {d : Nat → Int} {B : Int} (hd : ∀ j, 0 ≤ d j ∧ d j ≤ B) (j : Nat) : 0 ≤ thD c d j ∧ thD c d j ≤ B := by
  have h0 := hd j
  unfold thD
  split <;> omega
theorem spkV_b {r c : Nat} {k g w : Int} {V : zE} {B : Int} (hd : ∀ j, 0 ≤ V (r + 1) j ∧ V (r + 1) j ≤ B) (hu : ∀ j, 0 ≤ V (r + 3) j ∧ V (r + 3) j ≤ 9) : ∀ j, 0 ≤ spkV r c k g w V (r + 1) j ∧ spkV r c k g w V (r + 1) j ≤ B + 18 := by
  intro j
  have h3 := hu 3
  have hj := hd j
  unfold spkV
  split
  · have hw := wtF_b (rule := V (r + 3)) (said := V (r + 4)) (k := k) (g := g) (w := w) hu
    have hg := hd g.toNat
    simp only [fallV, zp_n _ _ (show r + 1 ≠ r + 4 by omega), zp_n _ _ (show r + 1 ≠ r + 5 by omega), zp_s]
    by_cases h : j = g.toNat
    · subst h; rw [za_s]; omega
    · rw [za_n _ _ h]; omega
  split
  · have := lowV_b (r := r) (c := c) (g := g) h3.1 hd j; omega
  split
  · have := lowV_b (r := r) (c := c) (g := g + 1) (x := 1) (by decide) (lowV_b (r := r) (c := c) (g := g - 1) (x := 1) (by decide) (lowV_b (r := r) (c := c) (g := g) (x := 2) (by decide) hd)) j; omega
  split
  · simp only [nightV, zp_s]; have := ngF_b (c := c) hd j; omega
  · simp only [forgV, thawV, zp_n _ _ (show r + 1 ≠ r + 4 by omega), zp_n _ _ (show r + 1 ≠ r + 5 by omega), zp_n _ _ (show r + 1 ≠ r by omega), zp_s]
    have := thD_b (c := c) hd j; omega
/-- a word told: its snow, and the roofs behind it; nothing if it can not be -/
def telV (r c : Nat) (k g w : Int) (V : zE) : zE :=
  if hinF c (V (r + 1)) (V (r + 3)) (V (r + 4)) k g w = 0 then zp (spkV r c k g w V) r (za (spkV r c k g w V r) 3 (zor (V r 3) (zand (ovl (spkV r c k g w V (r + 1)) (V (r + 2)) c) (zxor (V r 3) (-1))))) else V
theorem hinF_rg {c : Nat} {d rule said : Nat → Int} {k g w : Int} : 0 ≤ hinF c d rule said k g w ∧ hinF c d rule said k g w ≤ 3 := by
  unfold hinF; (repeat' split) <;> omega
theorem ct_tell {n : Nat} {S : zH} {Rf : zG} {V : zE} {r c : Nat} {k g w : Int} (hr : isStr S Rf r) (hc : V r 0 = (c : Int)) (h2 : 2 ≤ c) (h8 : c ≤ 8) (hk : 0 ≤ k ∧ k ≤ 5) (hg : 0 ≤ g ∧ g < c) (hw : 0 ≤ w ∧ w < c) (hd : ∀ j, 0 ≤ V (r + 1) j ∧ V (r + 1) j ≤ 90000) (hf : ∀ j, 0 ≤ V (r + 2) j ∧ V (r + 2) j ≤ 100000) (hu : ∀ j, 0 ≤ V (r + 3) j ∧ V (r + 3) j ≤ 9) (hs : ∀ j, -2147483648 ≤ V (r + 4) j ∧ V (r + 4) j ≤ 2147483647) :
    Ci 5 mX4_tell [zR r, zI k, zI g, zI w] n S Rf V (hinF c (V (r + 1)) (V (r + 3)) (V (r + 4)) k g w) (telV r c k g w V) := by
  have hr' := hr
  obtain ⟨s0, s1, s2, s3, s4, s5, s6, s7, r1, r2, r3, r4, r5, r6, r7⟩ := hr
  have hh := hinF_rg (c := c) (d := V (r + 1)) (rule := V (r + 3)) (said := V (r + 4)) (k := k) (g := g) (w := w)
  have hd' : ∀ j, 0 ≤ V (r + 1) j ∧ V (r + 1) j ≤ 100000 := fun j => by have := hd j; omega
  refine ct_of (by decide) rfl (Nat.le_of_ble_eq_true rfl) ?_
  refine wa_ald0 dX4_tell_0 ?_
  refine wa_ild1 dX4_tell_1 ?_
  refine wa_ild2 dX4_tell_2 ?_
  refine wa_ild3 dX4_tell_3 ?_
  refine kX4_105 dX4_tell_4 rfl (by first | assumption | exact hL.1 _ (by decide)) (ct_hindrance hr' hc h2 h8 hk hg hw hd' hu) (by decide) (Nat.le_of_ble_eq_true rfl) ⟨Nat.le_refl _, Nat.le_refl _⟩ (zdI ?_)
  refine wa_ist4 dX4_tell_7 (by decide) rfl ?_
  refine wa_ild4 dX4_tell_9 ?_
  refine wa_if_ne 34 dX4_tell_11 (by decide) (by omega) (fun c11 => ?_) (fun c11 => ?_)
  · refine wa_ild4 dX4_tell_34 ?_
    exact wa_ireturn dX4_tell_36 rfl rfl (Nat.le_refl _) (by first | exact ⟨rfl, rfl, rfl, by unfold telV; rw [if_neg c11]⟩ | exact ⟨rfl, rfl, rfl, by unfold telV; rw [if_pos c11, spkV_r (show 3 ≠ 4 by decide), spkV_o (show r + 2 ≠ r by omega) (by omega) (by omega) (by omega)]⟩)
  · refine wa_ald0 dX4_tell_14 ?_
    refine wa_ild1 dX4_tell_15 ?_
    refine wa_ild2 dX4_tell_16 ?_
    refine wa_ild3 dX4_tell_17 ?_
    refine kX4_108 dX4_tell_18 rfl (by first | assumption | exact hL.1 _ (by decide)) (ct_speak hr' hc h2 h8 hk hg hw hd' hu hs) (by decide) (Nat.le_of_ble_eq_true rfl) ⟨Nat.le_refl _, Nat.le_refl _⟩ (zdN ?_)
    refine wa_ald0 dX4_tell_21 ?_
    refine wa_dup dX4_tell_22 rfl ?_
    refine gX4_47 dX4_tell_23 rfl (by first | assumption | exact hL.1 _ (by decide)) ?_
    refine wa_ald0 dX4_tell_26 ?_
    refine kX4_111 dX4_tell_27 rfl (by first | assumption | exact hL.1 _ (by decide)) (ct_overloaded hr' (by rw [spkV_r (by decide)]; exact hc) h2 h8 (fun j => by have := spkV_b (c := c) (k := k) (g := g) (w := w) hd hu j; omega) (fun j => by rw [spkV_o (by omega) (by omega) (by omega) (by omega)]; exact hf j)) (by decide) (Nat.le_of_ble_eq_true rfl) ⟨Nat.le_refl _, Nat.le_refl _⟩ (zdI ?_)
    refine wa_ior dX4_tell_30 ?_
    refine pX4_47 dX4_tell_31 rfl (by first | assumption | exact hL.1 _ (by decide)) ?_
    refine wa_ild4 dX4_tell_34 ?_
    exact wa_ireturn dX4_tell_36 rfl rfl (Nat.le_refl _) (by first | exact ⟨rfl, rfl, rfl, by unfold telV; rw [if_neg c11]⟩ | exact ⟨rfl, rfl, rfl, by unfold telV; rw [if_pos c11, spkV_r (show 3 ≠ 4 by decide), spkV_o (show r + 2 ≠ r by omega) (by omega) (by omega) (by omega)]⟩)
