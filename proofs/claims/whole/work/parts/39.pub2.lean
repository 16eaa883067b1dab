/-! SnowTalk: gardens, numbers, sights, clearing, slides -/
def gnX (m : Int) (V : zE) : Int := if m < 2 ∨ 8 < m then -2 else V 1 0
def gnV (m : Int) (V : zE) : zE := if m < 2 ∨ 8 < m then V else begV 1 m V
theorem ct_gardens {n : Nat} {S : zH} {Rf : zG} {V : zE} {c k len : Nat} {F m : Int} (hL : Lay S Rf) (hI : CI c k len F V) (hm : -2147483648 ≤ m ∧ m ≤ 2147483647) : Ci 6 mX6_gardens [zR 0, zI m] n S Rf V (gnX m V) (gnV m V) := by
  obtain ⟨hc, h2, h8, hd, hf, hu, hu3, hs, hfl, hF, hfa, hk, hk8, hsg, hsd, hl, h60, hp, hsc⟩ := hI
  refine ct_of (by decide) rfl (Nat.le_of_ble_eq_true rfl) ?_
  unfold gnX gnV
  refine wa_ild1 dX6_gardens_0 ?_
  refine wa_iconst dX6_gardens_1 ?_
  refine wa_icmp_lt 11 dX6_gardens_2 (by decide) (by omega) (by omega) (fun c2 => ?_) (fun c2 => ?_)
  · refine wa_bipush dX6_gardens_11 (by decide) ?_
    exact wa_ireturn dX6_gardens_13 rfl rfl (Nat.le_refl _) (by exact ⟨by rw [if_pos (by omega)], rfl, rfl, by rw [if_pos (by omega)]⟩)
  · refine wa_ild1 dX6_gardens_5 ?_
    refine wa_bipush dX6_gardens_6 (by decide) ?_
    refine wa_icmp_le 14 dX6_gardens_8 (by decide) (by omega) (by omega) (fun c8 => ?_) (fun c8 => ?_)
    · refine wa_ald0 dX6_gardens_14 ?_
      refine gX6_10 dX6_gardens_15 rfl (by first | assumption | exact hL.1 _ (by decide)) (by first | assumption | exact hL.2 _ _ (by decide)) ?_
      refine gX6_58 dX6_gardens_18 rfl (by first | assumption | exact hL.1 _ (by decide)) ?_
      refine wa_ist2 dX6_gardens_21 (by decide) rfl ?_
      refine wa_ald0 dX6_gardens_22 ?_
      refine gX6_10 dX6_gardens_23 rfl (by first | assumption | exact hL.1 _ (by decide)) (by first | assumption | exact hL.2 _ _ (by decide)) ?_
      refine wa_ild1 dX6_gardens_26 ?_
      refine kX6_62 dX6_gardens_27 rfl (by first | assumption | exact hL.1 _ (by decide)) (ct_begin hL.s1 hs) (by decide) (Nat.le_of_ble_eq_true rfl) ⟨Nat.le_refl _, Nat.le_refl _⟩ (zdN ?_)
      refine wa_ild2 dX6_gardens_30 ?_
      exact wa_ireturn dX6_gardens_31 rfl rfl (Nat.le_refl _) (by exact ⟨by rw [if_neg (by omega)], rfl, rfl, by rw [if_neg (by omega)]⟩)
    · refine wa_bipush dX6_gardens_11 (by decide) ?_
      exact wa_ireturn dX6_gardens_13 rfl rfl (Nat.le_refl _) (by exact ⟨by rw [if_pos (by omega)], rfl, rfl, by rw [if_pos (by omega)]⟩)
def gdX (c : Nat) (g w v : Int) (V : zE) : Int := if ¬ (0 ≤ g ∧ g < c) then -1 else if (w < 0 ∨ 1 < w) ∨ (v < 0 ∨ 999 < v) then -2 else if w = 0 then V 2 g.toNat else V 3 g.toNat
def gdV (c : Nat) (g w v : Int) (V : zE) : zE := if ¬ (0 ≤ g ∧ g < c) then V else if (w < 0 ∨ 1 < w) ∨ (v < 0 ∨ 999 < v) then V else if w = 0 then zp V 2 (za (V 2) g.toNat v) else zp (zp V 3 (za (V 3) g.toNat v)) 1 (za (V 1) 3 (zand (V 1 3) (zxor (2 ^ g.toNat) (-1))))
theorem ct_garden {n : Nat} {S : zH} {Rf : zG} {V : zE} {c k len : Nat} {F g w v : Int} (hL : Lay S Rf) (hI : CI c k len F V) (hg : -2147483648 ≤ g ∧ g ≤ 2147483647) (hw : -2147483648 ≤ w ∧ w ≤ 2147483647) (hv : -2147483648 ≤ v ∧ v ≤ 2147483647) : Ci 2 mX6_garden [zR 0, zI g, zI w, zI v] n S Rf V (gdX c g w v V) (gdV c g w v V) := by
  obtain ⟨hc, h2, h8, hd, hf, hu, hu3, hs, hfl, hF, hfa, hk, hk8, hsg, hsd, hl, h60, hp, hsc⟩ := hI
  refine ct_of (by decide) rfl (Nat.le_of_ble_eq_true rfl) ?_
  unfold gdX gdV
  refine wa_ald0 dX6_garden_0 ?_
  refine gX6_10 dX6_garden_1 rfl (by first | assumption | exact hL.1 _ (by decide)) (by first | assumption | exact hL.2 _ _ (by decide)) ?_
  refine wa_ild1 dX6_garden_4 ?_
  refine kX6_66 dX6_garden_5 rfl (by first | assumption | exact hL.1 _ (by decide)) (ct_has hL.s1 (by omega) hg) (by decide) (Nat.le_of_ble_eq_true rfl) ⟨Nat.le_refl _, Nat.le_refl _⟩ (zdI ?_)
  rw [hc]
  refine wa_ifne_B 13 dX6_garden_8 (by decide) (fun c8 => ?_) (fun c8 => ?_)
  · refine wa_ild2 dX6_garden_13 ?_
    refine wa_iconst dX6_garden_14 ?_
    refine wa_iconst dX6_garden_15 ?_
    refine kX6_70 dX6_garden_16 rfl (ct_isOutside hw (by decide) (by decide)) (by decide) (Nat.le_of_ble_eq_true rfl) ⟨Nat.le_refl _, Nat.le_refl _⟩ (zdI ?_)
    refine wa_ifne_B 33 dX6_garden_19 (by decide) (fun c19 => ?_) (fun c19 => ?_)
    · refine wa_bipush dX6_garden_33 (by decide) ?_
      exact wa_ireturn dX6_garden_35 rfl rfl (Nat.le_refl _) (by refine ⟨?_, rfl, rfl, ?_⟩ <;> rw [if_neg (show ¬ ¬ (0 ≤ g ∧ g < (c : Int)) by omega), if_pos (by omega)])
    · refine wa_ild3 dX6_garden_22 ?_
      refine wa_iconst dX6_garden_23 ?_
      refine wa_sipush dX6_garden_24 (by decide) ?_
      refine kX6_70 dX6_garden_27 rfl (ct_isOutside hv (by decide) (by decide)) (by decide) (Nat.le_of_ble_eq_true rfl) ⟨Nat.le_refl _, Nat.le_refl _⟩ (zdI ?_)
      refine wa_ifeq_B 36 dX6_garden_30 (by decide) (fun c30 => ?_) (fun c30 => ?_)
      · refine wa_ild2 dX6_garden_36 ?_
        refine wa_if_ne 64 dX6_garden_37 (by decide) (by omega) (fun c37 => ?_) (fun c37 => ?_)
        · refine wa_ald0 dX6_garden_64 ?_
          refine gX6_10 dX6_garden_65 rfl (by first | assumption | exact hL.1 _ (by decide)) (by first | assumption | exact hL.2 _ _ (by decide)) ?_
          refine gX6_78 dX6_garden_68 rfl (by first | assumption | exact hL.1 _ (by decide)) (by first | assumption | exact hL.2 _ _ (by decide)) ?_
          refine wa_ild1 dX6_garden_71 ?_
          refine wa_iaload dX6_garden_72 (by first | assumption | exact hL.1 _ (by decide)) (by omega) (by first | decide | omega) ?_
          refine wa_ist4 dX6_garden_73 (by decide) rfl ?_
          refine wa_ald0 dX6_garden_75 ?_
          refine gX6_10 dX6_garden_76 rfl (by first | assumption | exact hL.1 _ (by decide)) (by first | assumption | exact hL.2 _ _ (by decide)) ?_
          refine gX6_78 dX6_garden_79 rfl (by first | assumption | exact hL.1 _ (by decide)) (by first | assumption | exact hL.2 _ _ (by decide)) ?_
          refine wa_ild1 dX6_garden_82 ?_
          refine wa_ild3 dX6_garden_83 ?_
          refine wa_iastore dX6_garden_84 (by first | assumption | exact hL.1 _ (by decide)) (by omega) (by first | decide | omega) ?_
          refine wa_ald0 dX6_garden_85 ?_
          refine gX6_10 dX6_garden_86 rfl (by first | assumption | exact hL.1 _ (by decide)) (by first | assumption | exact hL.2 _ _ (by decide)) ?_
          refine wa_dup dX6_garden_89 rfl ?_
          refine gX6_81 dX6_garden_90 rfl (by first | assumption | exact hL.1 _ (by decide)) ?_
          refine wa_iconst dX6_garden_93 ?_
          refine wa_ild1 dX6_garden_94 ?_
          refine wa_ishl1 dX6_garden_95 (by omega) ?_
          refine wa_iconst dX6_garden_96 ?_
          refine wa_ixor dX6_garden_97 ?_
          refine wa_iand dX6_garden_98 ?_
          refine pX6_81 dX6_garden_99 rfl (by first | assumption | exact hL.1 _ (by decide)) ?_
          refine wa_ild4 dX6_garden_102 ?_
          exact wa_ireturn dX6_garden_104 rfl rfl (Nat.le_refl _) (by refine ⟨?_, rfl, rfl, ?_⟩ <;> rw [if_neg (show ¬ ¬ (0 ≤ g ∧ g < (c : Int)) by omega), if_neg (show ¬ ((w < 0 ∨ 1 < w) ∨ (v < 0 ∨ 999 < v)) by omega)] <;> first | rw [if_pos c37] | rw [if_neg c37] <;> rw [zp_n _ _ (show 1 ≠ 3 by decide)])
        · refine wa_ald0 dX6_garden_40 ?_
          refine gX6_10 dX6_garden_41 rfl (by first | assumption | exact hL.1 _ (by decide)) (by first | assumption | exact hL.2 _ _ (by decide)) ?_
          refine gX6_74 dX6_garden_44 rfl (by first | assumption | exact hL.1 _ (by decide)) (by first | assumption | exact hL.2 _ _ (by decide)) ?_
          refine wa_ild1 dX6_garden_47 ?_
          refine wa_iaload dX6_garden_48 (by first | assumption | exact hL.1 _ (by decide)) (by omega) (by first | decide | omega) ?_
          refine wa_ist4 dX6_garden_49 (by decide) rfl ?_
          refine wa_ald0 dX6_garden_51 ?_
          refine gX6_10 dX6_garden_52 rfl (by first | assumption | exact hL.1 _ (by decide)) (by first | assumption | exact hL.2 _ _ (by decide)) ?_
          refine gX6_74 dX6_garden_55 rfl (by first | assumption | exact hL.1 _ (by decide)) (by first | assumption | exact hL.2 _ _ (by decide)) ?_
          refine wa_ild1 dX6_garden_58 ?_
          refine wa_ild3 dX6_garden_59 ?_
          refine wa_iastore dX6_garden_60 (by first | assumption | exact hL.1 _ (by decide)) (by omega) (by first | decide | omega) ?_
          refine wa_goto 102 dX6_garden_61 (by decide) ?_
          refine wa_ild4 dX6_garden_102 ?_
          exact wa_ireturn dX6_garden_104 rfl rfl (Nat.le_refl _) (by refine ⟨?_, rfl, rfl, ?_⟩ <;> rw [if_neg (show ¬ ¬ (0 ≤ g ∧ g < (c : Int)) by omega), if_neg (show ¬ ((w < 0 ∨ 1 < w) ∨ (v < 0 ∨ 999 < v)) by omega)] <;> first | rw [if_pos c37] | rw [if_neg c37] <;> rw [zp_n _ _ (show 1 ≠ 3 by decide)])
      · refine wa_bipush dX6_garden_33 (by decide) ?_
        exact wa_ireturn dX6_garden_35 rfl rfl (Nat.le_refl _) (by refine ⟨?_, rfl, rfl, ?_⟩ <;> rw [if_neg (show ¬ ¬ (0 ≤ g ∧ g < (c : Int)) by omega), if_pos (by omega)])
  · refine wa_iconst dX6_garden_11 ?_
    exact wa_ireturn dX6_garden_12 rfl rfl (Nat.le_refl _) (by exact ⟨by rw [if_pos c8], rfl, rfl, by rw [if_pos c8]⟩)
def seX (w v : Int) (V : zE) : Int := if (w < 0 ∨ 3 < w) ∨ (v < (if w = 3 then 1 else 0) ∨ 9 < v) then -2 else V 4 w.toNat
def seV (w v : Int) (V : zE) : zE := if (w < 0 ∨ 3 < w) ∨ (v < (if w = 3 then 1 else 0) ∨ 9 < v) then V else zp V 4 (za (V 4) w.toNat v)
theorem ct_set {n : Nat} {S : zH} {Rf : zG} {V : zE} {w v : Int} (hL : Lay S Rf) (hw : -2147483648 ≤ w ∧ w ≤ 2147483647) (hv : -2147483648 ≤ v ∧ v ≤ 2147483647) : Ci 2 mX6_set [zR 0, zI w, zI v] n S Rf V (seX w v V) (seV w v V) := by
  refine ct_of (by decide) rfl (Nat.le_of_ble_eq_true rfl) ?_
  unfold seX seV
  refine wa_ild1 dX6_set_0 ?_
  refine wa_iconst dX6_set_1 ?_
  refine wa_iconst dX6_set_2 ?_
  refine kX6_70 dX6_set_3 rfl (ct_isOutside (by omega) (by decide) (by decide)) (by decide) (Nat.le_of_ble_eq_true rfl) ⟨Nat.le_refl _, Nat.le_refl _⟩ (zdI ?_)
  refine wa_ifne_B 28 dX6_set_6 (by decide) (fun c6 => ?_) (fun c6 => ?_)
  · refine wa_bipush dX6_set_28 (by decide) ?_
    exact wa_ireturn dX6_set_30 rfl rfl (Nat.le_refl _) (by refine ⟨?_, rfl, rfl, ?_⟩ <;> rw [if_pos (by first | omega | (rw [if_pos (by omega)]; omega) | (rw [if_neg (by omega)]; omega))])
  · refine wa_ild2 dX6_set_9 ?_
    refine wa_ild1 dX6_set_10 ?_
    refine wa_iconst dX6_set_11 ?_
    refine wa_icmp_ne 19 dX6_set_12 (by decide) (by omega) (by omega) (fun c12 => ?_) (fun c12 => ?_)
    · refine wa_iconst dX6_set_19 ?_
      refine wa_bipush dX6_set_20 (by decide) ?_
      refine kX6_70 dX6_set_22 rfl (ct_isOutside (by omega) (by decide) (by decide)) (by decide) (Nat.le_of_ble_eq_true rfl) ⟨Nat.le_refl _, Nat.le_refl _⟩ (zdI ?_)
      refine wa_ifeq_B 31 dX6_set_25 (by decide) (fun c25 => ?_) (fun c25 => ?_)
      · refine wa_ald0 dX6_set_31 ?_
        refine gX6_10 dX6_set_32 rfl (by first | assumption | exact hL.1 _ (by decide)) (by first | assumption | exact hL.2 _ _ (by decide)) ?_
        refine gX6_84 dX6_set_35 rfl (by first | assumption | exact hL.1 _ (by decide)) (by first | assumption | exact hL.2 _ _ (by decide)) ?_
        refine wa_ild1 dX6_set_38 ?_
        refine wa_iaload dX6_set_39 (by first | assumption | exact hL.1 _ (by decide)) (by omega) (by first | decide | omega) ?_
        refine wa_ist3 dX6_set_40 (by decide) rfl ?_
        refine wa_ald0 dX6_set_41 ?_
        refine gX6_10 dX6_set_42 rfl (by first | assumption | exact hL.1 _ (by decide)) (by first | assumption | exact hL.2 _ _ (by decide)) ?_
        refine gX6_84 dX6_set_45 rfl (by first | assumption | exact hL.1 _ (by decide)) (by first | assumption | exact hL.2 _ _ (by decide)) ?_
        refine wa_ild1 dX6_set_48 ?_
        refine wa_ild2 dX6_set_49 ?_
        refine wa_iastore dX6_set_50 (by first | assumption | exact hL.1 _ (by decide)) (by omega) (by first | decide | omega) ?_
        refine wa_ild3 dX6_set_51 ?_
        exact wa_ireturn dX6_set_52 rfl rfl (Nat.le_refl _) (by refine ⟨?_, rfl, rfl, ?_⟩ <;> rw [if_neg (by first | (rw [if_pos (by omega)]; omega) | (rw [if_neg (by omega)]; omega))])
      · refine wa_bipush dX6_set_28 (by decide) ?_
        exact wa_ireturn dX6_set_30 rfl rfl (Nat.le_refl _) (by refine ⟨?_, rfl, rfl, ?_⟩ <;> rw [if_pos (by first | omega | (rw [if_pos (by omega)]; omega) | (rw [if_neg (by omega)]; omega))])
    · refine wa_iconst dX6_set_15 ?_
      refine wa_goto 20 dX6_set_16 (by decide) ?_
      refine wa_bipush dX6_set_20 (by decide) ?_
      refine kX6_70 dX6_set_22 rfl (ct_isOutside (by omega) (by decide) (by decide)) (by decide) (Nat.le_of_ble_eq_true rfl) ⟨Nat.le_refl _, Nat.le_refl _⟩ (zdI ?_)
      refine wa_ifeq_B 31 dX6_set_25 (by decide) (fun c25 => ?_) (fun c25 => ?_)
      · refine wa_ald0 dX6_set_31 ?_
        refine gX6_10 dX6_set_32 rfl (by first | assumption | exact hL.1 _ (by decide)) (by first | assumption | exact hL.2 _ _ (by decide)) ?_
        refine gX6_84 dX6_set_35 rfl (by first | assumption | exact hL.1 _ (by decide)) (by first | assumption | exact hL.2 _ _ (by decide)) ?_
        refine wa_ild1 dX6_set_38 ?_
        refine wa_iaload dX6_set_39 (by first | assumption | exact hL.1 _ (by decide)) (by omega) (by first | decide | omega) ?_
        refine wa_ist3 dX6_set_40 (by decide) rfl ?_
        refine wa_ald0 dX6_set_41 ?_
        refine gX6_10 dX6_set_42 rfl (by first | assumption | exact hL.1 _ (by decide)) (by first | assumption | exact hL.2 _ _ (by decide)) ?_
        refine gX6_84 dX6_set_45 rfl (by first | assumption | exact hL.1 _ (by decide)) (by first | assumption | exact hL.2 _ _ (by decide)) ?_
        refine wa_ild1 dX6_set_48 ?_
        refine wa_ild2 dX6_set_49 ?_
        refine wa_iastore dX6_set_50 (by first | assumption | exact hL.1 _ (by decide)) (by omega) (by first | decide | omega) ?_
        refine wa_ild3 dX6_set_51 ?_
        exact wa_ireturn dX6_set_52 rfl rfl (Nat.le_refl _) (by refine ⟨?_, rfl, rfl, ?_⟩ <;> rw [if_neg (by first | (rw [if_pos (by omega)]; omega) | (rw [if_neg (by omega)]; omega))])
      · refine wa_bipush dX6_set_28 (by decide) ?_
        exact wa_ireturn dX6_set_30 rfl rfl (Nat.le_refl _) (by refine ⟨?_, rfl, rfl, ?_⟩ <;> rw [if_pos (by first | omega | (rw [if_pos (by omega)]; omega) | (rw [if_neg (by omega)]; omega))])
def rcX (c : Nat) (g : Int) (V : zE) : Int := if 0 ≤ g ∧ g < c then (msF (fun i => V 6 (8 * g.toNat + i)) c).2 else -1
theorem ct_recognised {n : Nat} {S : zH} {Rf : zG} {V : zE} {c k len : Nat} {F g : Int} (hL : Lay S Rf) (hI : CI c k len F V) (hg : -2147483648 ≤ g ∧ g ≤ 2147483647) : Ci 3 mX6_recognised [zR 0, zI g] n S Rf V (rcX c g V) V := by
  obtain ⟨hc, h2, h8, hd, hf, hu, hu3, hs, hfl, hF, hfa, hk, hk8, hsg, hsd, hl, h60, hp, hsc⟩ := hI
  refine ct_of (by decide) rfl (Nat.le_of_ble_eq_true rfl) ?_
  unfold rcX
  refine wa_ald0 dX6_recognised_0 ?_
  refine gX6_10 dX6_recognised_1 rfl (by first | assumption | exact hL.1 _ (by decide)) (by first | assumption | exact hL.2 _ _ (by decide)) ?_
  refine wa_ild1 dX6_recognised_4 ?_
  refine kX6_66 dX6_recognised_5 rfl (by first | assumption | exact hL.1 _ (by decide)) (ct_has hL.s1 (by omega) hg) (by decide) (Nat.le_of_ble_eq_true rfl) ⟨Nat.le_refl _, Nat.le_refl _⟩ (zdI ?_)
  rw [hc]
  refine wa_ifne_B 13 dX6_recognised_8 (by decide) (fun c8 => ?_) (fun c8 => ?_)
  · refine wa_ald0 dX6_recognised_13 ?_
    refine gX6_10 dX6_recognised_14 rfl (by first | assumption | exact hL.1 _ (by decide)) (by first | assumption | exact hL.2 _ _ (by decide)) ?_
    refine wa_ild1 dX6_recognised_17 ?_
    rw [if_pos c8]
    obtain ⟨g', rfl⟩ : ∃ g' : Nat, g = (g' : Int) := ⟨g.toNat, by omega⟩
    rw [Int.toNat_natCast]
    refine kX6_122 dX6_recognised_18 rfl (by first | assumption | exact hL.1 _ (by decide)) (ct_mostSaidOf hL.s1 hc h2 h8 (by omega) (fun j => by show -2147483648 ≤ V 6 j ∧ V 6 j ≤ 2147483647; have := hfl j; omega)) (by decide) (Nat.le_of_ble_eq_true rfl) ⟨Nat.le_refl _, Nat.le_refl _⟩ (zdI ?_)
    exact wa_ireturn dX6_recognised_21 rfl rfl (Nat.le_refl _) (by exact ⟨rfl, rfl, rfl, rfl⟩)
  · refine wa_iconst dX6_recognised_11 ?_
    exact wa_ireturn dX6_recognised_12 rfl rfl (Nat.le_refl _) (by exact ⟨by rw [if_neg c8], rfl, rfl, rfl⟩)
/-- good words that clear -/
def clF (d : Nat → Int) (v s : Int) : Nat → Int
  | 0 => 0
  | m + 1 => clF d v s m + (max 0 (d m - v) + s - 1) / s
theorem clF_b {d : Nat → Int} {v s : Int} (hv : 0 ≤ v) (hs : 1 ≤ s ∧ s ≤ 9) (hd : ∀ j, 0 ≤ d j ∧ d j ≤ 999) (m : Nat) : 0 ≤ clF d v s m ∧ clF d v s m ≤ 1007 * m := by
  induction m with
  | zero => exact ⟨Int.le_refl _, Int.le_refl _⟩
  | succ m ih =>
    have h := hd m
    have h1 : 0 ≤ (max 0 (d m - v) + s - 1) / s := Int.ediv_nonneg (by omega) (by omega)
    have h2 : (max 0 (d m - v) + s - 1) / s ≤ max 0 (d m - v) + s - 1 := Int.ediv_le_self _ (by omega)
    unfold clF; omega
def clX (c : Nat) (v : Int) (V : zE) : Int := if v < 0 ∨ 999 < v then -2 else clF (V 2) v (V 4 3) c
theorem ct_cleared {n : Nat} {S : zH} {Rf : zG} {V : zE} {c k len : Nat} {F v : Int} (hL : Lay S Rf) (hI : CI c k len F V) (hv : -2147483648 ≤ v ∧ v ≤ 2147483647) : Ci 2 mX6_cleared [zR 0, zI v] n S Rf V (clX c v V) V := by
  obtain ⟨hc, h2, h8, hd, hf, hu, hu3, hs, hfl, hF, hfa, hk, hk8, hsg, hsd, hl, h60, hp, hsc⟩ := hI
  have hu33 := hu 3
  refine ct_of (by decide) rfl (Nat.le_of_ble_eq_true rfl) ?_
  unfold clX
  have loop : ∀ (q i : Nat), ¬ (v < 0 ∨ 999 < v) → i + q = c → Wa zXn mX6_cleared (zrm 2 0 0) (zZm (qI (clF (V 2) v (V 4 3) c) S Rf V) (n + 0) 0 0) 0 0 n S 37 [some (zR 0), some (zI v), some (zI (V 4 3)), some (zI (clF (V 2) v (V 4 3) i)), some (zI (i : Int)), none] [] Rf V := by
    intro q
    induction q with
    | zero =>
      intro i h0 hi
      obtain rfl : i = c := by omega
      refine wa_ild4 dX6_cleared_37 ?_
      refine wa_ald0 dX6_cleared_39 ?_
      refine gX6_10 dX6_cleared_40 rfl (by first | assumption | exact hL.1 _ (by decide)) (by first | assumption | exact hL.2 _ _ (by decide)) ?_
      refine gX6_58 dX6_cleared_43 rfl (by first | assumption | exact hL.1 _ (by decide)) ?_
      refine wa_icmp_ge 91 dX6_cleared_46 (by decide) (by omega) (by omega) (fun c46 => ?_) (fun c46 => ?_)
      · refine wa_ild3 dX6_cleared_91 ?_
        exact wa_ireturn dX6_cleared_92 rfl rfl (Nat.le_refl _) (by exact ⟨rfl, rfl, rfl, rfl⟩)
      · exact absurd c46 (by omega)
    | succ q ih =>
      intro i h0 hi
      have hdi := hd i
      have e1 := ih (i + 1) h0 (by omega)
      refine wa_ild4 dX6_cleared_37 ?_
      refine wa_ald0 dX6_cleared_39 ?_
      refine gX6_10 dX6_cleared_40 rfl (by first | assumption | exact hL.1 _ (by decide)) (by first | assumption | exact hL.2 _ _ (by decide)) ?_
      refine gX6_58 dX6_cleared_43 rfl (by first | assumption | exact hL.1 _ (by decide)) ?_
      refine wa_icmp_ge 91 dX6_cleared_46 (by decide) (by first | omega | (simp only [Int.toNat_natCast]; omega)) (by first | omega | (simp only [Int.toNat_natCast]; omega)) (fun c46 => ?_) (fun c46 => ?_)
      · exact absurd c46 (by omega)
      · refine wa_ild4 dX6_cleared_49 ?_
        refine wa_bipush dX6_cleared_51 (by decide) ?_
        refine wa_icmp_ge 91 dX6_cleared_53 (by decide) (by first | omega | (simp only [Int.toNat_natCast]; omega)) (by first | omega | (simp only [Int.toNat_natCast]; omega)) (fun c53 => ?_) (fun c53 => ?_)
        · exact absurd c53 (by omega)
        · refine wa_iconst dX6_cleared_56 ?_
          refine wa_ald0 dX6_cleared_57 ?_
          refine gX6_10 dX6_cleared_58 rfl (by first | assumption | exact hL.1 _ (by decide)) (by first | assumption | exact hL.2 _ _ (by decide)) ?_
          refine gX6_74 dX6_cleared_61 rfl (by first | assumption | exact hL.1 _ (by decide)) (by first | assumption | exact hL.2 _ _ (by decide)) ?_
          refine wa_ild4 dX6_cleared_64 ?_
          refine wa_iaload dX6_cleared_66 (by first | assumption | exact hL.1 _ (by decide)) (by first | omega | (simp only [Int.toNat_natCast]; omega)) (by first | decide | omega) ?_
          refine wa_ild1 dX6_cleared_67 ?_
          refine wa_isub dX6_cleared_68 ?_
          refine wa_max dX6_cleared_69 lX6_138 w_st_max w_iMath w_co_max ⟨Nat.le_of_ble_eq_true rfl, Nat.le_of_ble_eq_true rfl⟩ (by decide) (by first | omega | (simp only [Int.toNat_natCast]; omega)) (by first | omega | (simp only [Int.toNat_natCast]; omega)) ?_
          refine wa_ist5 dX6_cleared_72 (by decide) rfl ?_
          refine wa_ild3 dX6_cleared_74 ?_
          refine wa_ild5 dX6_cleared_75 ?_
          refine wa_ild2 dX6_cleared_77 ?_
          refine wa_iadd dX6_cleared_78 ?_
          refine wa_iconst dX6_cleared_79 ?_
          refine wa_isub dX6_cleared_80 ?_
          refine wa_ild2 dX6_cleared_81 ?_
          refine wa_idiv dX6_cleared_82 (by first | omega | (simp only [Int.toNat_natCast]; omega)) (by first | omega | (simp only [Int.toNat_natCast]; omega)) ?_
          refine wa_iadd dX6_cleared_83 ?_
          refine wa_ist3 dX6_cleared_84 (by decide) rfl ?_
          refine wa_iinc4 dX6_cleared_85 (by decide) rfl ?_
          refine wa_goto 37 dX6_cleared_88 (by decide) ?_
          refine wa_drop5 ?_
          simp only [Int.toNat_natCast]
          exact e1
  refine wa_ild1 dX6_cleared_0 ?_
  refine wa_iconst dX6_cleared_1 ?_
  refine wa_sipush dX6_cleared_2 (by decide) ?_
  refine kX6_70 dX6_cleared_5 rfl (ct_isOutside hv (by decide) (by decide)) (by decide) (Nat.le_of_ble_eq_true rfl) ⟨Nat.le_refl _, Nat.le_refl _⟩ (zdI ?_)
  refine wa_ifeq_B 14 dX6_cleared_8 (by decide) (fun c8 => ?_) (fun c8 => ?_)
  · refine wa_ald0 dX6_cleared_14 ?_
    refine gX6_10 dX6_cleared_15 rfl (by first | assumption | exact hL.1 _ (by decide)) (by first | assumption | exact hL.2 _ _ (by decide)) ?_
    refine gX6_84 dX6_cleared_18 rfl (by first | assumption | exact hL.1 _ (by decide)) (by first | assumption | exact hL.2 _ _ (by decide)) ?_
    refine wa_iconst dX6_cleared_21 ?_
    refine wa_iaload dX6_cleared_22 (by first | assumption | exact hL.1 _ (by decide)) (by first | omega | (simp only [show Int.toNat 3 = 3 from rfl]; omega)) (by first | decide | omega) ?_
    refine wa_ist2 dX6_cleared_23 (by decide) rfl ?_
    refine wa_ild2 dX6_cleared_24 ?_
    refine wa_iconst dX6_cleared_25 ?_
    refine wa_icmp_ge 32 dX6_cleared_26 (by decide) (by first | omega | (simp only [show Int.toNat 3 = 3 from rfl]; omega)) (by first | omega | (simp only [show Int.toNat 3 = 3 from rfl]; omega)) (fun c26 => ?_) (fun c26 => ?_)
    · refine wa_iconst dX6_cleared_32 ?_
      refine wa_ist3 dX6_cleared_33 (by decide) rfl ?_
      refine wa_iconst dX6_cleared_34 ?_
      refine wa_ist4 dX6_cleared_35 (by decide) rfl ?_
      rw [if_neg c8]
      exact loop c 0 c8 (by omega)
    · exact absurd c26 (by simp only [show Int.toNat 3 = 3 from rfl]; omega)
  · refine wa_bipush dX6_cleared_11 (by decide) ?_
    exact wa_ireturn dX6_cleared_13 rfl rfl (Nat.le_refl _) (by exact ⟨by rw [if_pos c8], rfl, rfl, rfl⟩)
theorem ct_salted {n : Nat} {S : zH} {Rf : zG} {V : zE} {c k len : Nat} {F v : Int} (hL : Lay S Rf) (hI : CI c k len F V) (hv : -2147483648 ≤ v ∧ v ≤ 2147483647) : Ct 13 0 0 mX6_salted [zR 0, zI v] n S Rf V (fun r S' Rf' V' => ∃ x, r = some (zI x) ∧ S' = S ∧ rfe Rf Rf' ∧ qry V V' ∧ ((v < 0 ∨ 999 < v) ∧ x = -2 ∨ ¬ (v < 0 ∨ 999 < v) ∧ ∃ f', slP c (fun j => V 2 j - v) (fun _ => 0) 0 0 6 f' ∧ x = (if f' ≤ 5 then f' else -6))) := by
  obtain ⟨hc, h2, h8, hd, hf, hu, hu3, hs, hfl, hF, hfa, hk, hk8, hsg, hsd, hl, h60, hp, hsc⟩ := hI
  refine ct_of (by decide) rfl (Nat.le_of_ble_eq_true rfl) ?_
  refine wa_ild1 dX6_salted_0 ?_
  refine wa_iconst dX6_salted_1 ?_
  refine wa_sipush dX6_salted_2 (by decide) ?_
  refine kX6_70 dX6_salted_5 rfl (ct_isOutside hv (by decide) (by decide)) (by decide) (Nat.le_of_ble_eq_true rfl) ⟨Nat.le_refl _, Nat.le_refl _⟩ (zdI ?_)
  refine wa_ifeq_B 14 dX6_salted_8 (by decide) (fun c8 => ?_) (fun c8 => ?_)
  · refine wa_ald0 dX6_salted_14 ?_
    refine gX6_40 dX6_salted_15 rfl (by first | assumption | exact hL.1 _ (by decide)) (by first | assumption | exact hL.2 _ _ (by decide)) ?_
    refine wa_ald0 dX6_salted_18 ?_
    refine gX6_10 dX6_salted_19 rfl (by first | assumption | exact hL.1 _ (by decide)) (by first | assumption | exact hL.2 _ _ (by decide)) ?_
    refine wa_ild1 dX6_salted_22 ?_
    refine kX6_143 dX6_salted_23 rfl (by first | assumption | exact hL.1 _ (by decide)) (ct_fewestFor hL hc h2 h8 hd (by omega) hsc.1 hsc.2.1) (by decide) (Nat.le_of_ble_eq_true rfl) ⟨Nat.le_refl _, Nat.le_refl _⟩ (zpI fun x V1 hp1 => ?_)
    obtain ⟨p1, p2, p3, p4⟩ := hp1
    exact wa_ireturn dX6_salted_26 rfl rfl (Nat.le_refl _) (by exact ⟨_, rfl, rfl, rfe_rf, ⟨fun k hk => p4 k (by unfold scr at hk; omega) (by unfold scr at hk; omega) (by unfold scr at hk; omega), by rw [p4 18 (by decide) (by decide) (by decide)], p3, fun j => by rw [p2]; exact hsc.2.1 j, fun j => by rw [p4 30 (by decide) (by decide) (by decide)]; exact hsc.2.2 j⟩, Or.inr ⟨c8, p1⟩⟩)
  · refine wa_bipush dX6_salted_11 (by decide) ?_
    exact wa_ireturn dX6_salted_13 rfl rfl (Nat.le_refl _) (by exact ⟨_, rfl, rfl, rfe_rf, qry_rf hsc, Or.inl ⟨c8, rfl⟩⟩)
