/-! Talk: reading signs as words. Talk 18: length 18.1, words 18.2, why 18.6, firstFall 18.7, signs 19, kind 20, place 21, whom 22 -/
def sgF (p : Nat → Int) (len : Nat) (i : Int) : Int := if 0 ≤ i ∧ i < len then p i.toNat else 0
theorem sgF_rg {p : Nat → Int} {len : Nat} {i : Int} (hp : ∀ j, 0 ≤ p j ∧ p j ≤ 1000) : 0 ≤ sgF p len i ∧ sgF p len i ≤ 1000 := by
  have := hp i.toNat
  unfold sgF; split <;> omega
theorem ct_signAt {n : Nat} {S : zH} {Rf : zG} {V : zE} {len : Nat} {i : Int} (hL : Lay S Rf) (hl : V 18 1 = (len : Int)) (h60 : len ≤ 60) (hi : -1000 ≤ i ∧ i ≤ 1000) : Ci 1 mX5_signAt [zR 18, zI i] n S Rf V (sgF (V 19) len i) V := by
  refine ct_of (by decide) rfl (Nat.le_of_ble_eq_true rfl) ?_
  refine wa_ild1 dX5_signAt_0 ?_
  refine wa_if_lt 27 dX5_signAt_1 (by decide) (by omega) (fun c1 => ?_) (fun c1 => ?_)
  · refine wa_iconst dX5_signAt_27 ?_
    exact wa_ireturn dX5_signAt_28 rfl rfl (Nat.le_refl _) (by refine ⟨?_, rfl, rfl, rfl⟩; unfold sgF; first | rw [if_neg (by omega)] | rw [if_pos (by omega)])
  · refine wa_ild1 dX5_signAt_4 ?_
    refine wa_ald0 dX5_signAt_5 ?_
    refine gX5_24 dX5_signAt_6 rfl (by first | assumption | exact hL.1 _ (by decide)) ?_
    refine wa_icmp_ge 27 dX5_signAt_9 (by decide) (by omega) (by omega) (fun c9 => ?_) (fun c9 => ?_)
    · refine wa_iconst dX5_signAt_27 ?_
      exact wa_ireturn dX5_signAt_28 rfl rfl (Nat.le_refl _) (by refine ⟨?_, rfl, rfl, rfl⟩; unfold sgF; first | rw [if_neg (by omega)] | rw [if_pos (by omega)])
    · refine wa_ild1 dX5_signAt_12 ?_
      refine wa_bipush dX5_signAt_13 (by decide) ?_
      refine wa_icmp_ge 27 dX5_signAt_15 (by decide) (by omega) (by omega) (fun c15 => ?_) (fun c15 => ?_)
      · refine wa_iconst dX5_signAt_27 ?_
        exact wa_ireturn dX5_signAt_28 rfl rfl (Nat.le_refl _) (by refine ⟨?_, rfl, rfl, rfl⟩; unfold sgF; first | rw [if_neg (by omega)] | rw [if_pos (by omega)])
      · refine wa_ald0 dX5_signAt_18 ?_
        refine gX5_9 dX5_signAt_19 rfl (by first | assumption | exact hL.1 _ (by decide)) (by first | assumption | exact hL.2 _ _ (by decide)) ?_
        refine wa_ild1 dX5_signAt_22 ?_
        refine wa_iaload dX5_signAt_23 (by first | assumption | exact hL.1 _ (by decide)) (by omega) (by first | decide | omega) ?_
        refine wa_goto 28 dX5_signAt_24 (by decide) ?_
        exact wa_ireturn dX5_signAt_28 rfl rfl (Nat.le_refl _) (by refine ⟨?_, rfl, rfl, rfl⟩; unfold sgF; first | rw [if_neg (by omega)] | rw [if_pos (by omega)])
def kdF (x : Int) : Int := if x = 116 then 0 else if x = 108 then 1 else if x = 43 then 2 else -6
theorem ct_kindOf {n : Nat} {S : zH} {Rf : zG} {V : zE} {x : Int} (hx : 0 ≤ x ∧ x ≤ 1000) : Ci 1 mX5_kindOf [zI x] n S Rf V (kdF x) V := by
  refine ct_of (by decide) rfl (Nat.le_of_ble_eq_true rfl) ?_
  refine wa_ild0 dX5_kindOf_0 ?_
  by_cases h1 : x = 116
  · subst h1
    refine wa_lookup 36 dX5_kindOf_1 (by decide) (by decide) (off := 35) (by decide) (by decide) ?_
    refine wa_iconst dX5_kindOf_36 ?_
    exact wa_ireturn dX5_kindOf_37 rfl rfl (Nat.le_refl _) (by exact ⟨rfl, rfl, rfl, rfl⟩)
  by_cases h2 : x = 108
  · subst h2
    refine wa_lookup 38 dX5_kindOf_1 (by decide) (by decide) (off := 37) (by decide) (by decide) ?_
    refine wa_iconst dX5_kindOf_38 ?_
    exact wa_ireturn dX5_kindOf_39 rfl rfl (Nat.le_refl _) (by exact ⟨rfl, rfl, rfl, rfl⟩)
  by_cases h3 : x = 43
  · subst h3
    refine wa_lookup 40 dX5_kindOf_1 (by decide) (by decide) (off := 39) (by decide) (by decide) ?_
    refine wa_iconst dX5_kindOf_40 ?_
    exact wa_ireturn dX5_kindOf_41 rfl rfl (Nat.le_refl _) (by exact ⟨rfl, rfl, rfl, rfl⟩)
  refine wa_lookup 42 dX5_kindOf_1 (by decide) (by omega) (off := 41) (by simp [Op.lookupswitch.offset]; omega) (by decide) ?_
  refine wa_bipush dX5_kindOf_42 (by decide) ?_
  exact wa_ireturn dX5_kindOf_44 rfl rfl (Nat.le_refl _) (by refine ⟨?_, rfl, rfl, rfl⟩; unfold kdF; rw [if_neg h1, if_neg h2, if_neg h3])
def adV (k g w : Int) (V : zE) : zE := zp (zp (zp (zp V 20 (za (V 20) (V 18 2).toNat k)) 21 (za (V 21) (V 18 2).toNat g)) 22 (za (V 22) (V 18 2).toNat w)) 18 (za (V 18) 2 (V 18 2 + 1))
theorem ct_addWord {n : Nat} {S : zH} {Rf : zG} {V : zE} {k g w x : Int} (hL : Lay S Rf) (hw : 0 ≤ V 18 2 ∧ V 18 2 < 60) : Ci 1 mX5_addWord [zR 18, zI k, zI g, zI w, zI x] n S Rf V x (adV k g w V) := by
  refine ct_of (by decide) rfl (Nat.le_of_ble_eq_true rfl) ?_
  refine wa_ald0 dX5_addWord_0 ?_
  refine gX5_28 dX5_addWord_1 rfl (by first | assumption | exact hL.1 _ (by decide)) ?_
  refine wa_bipush dX5_addWord_4 (by decide) ?_
  refine wa_icmp_ge 49 dX5_addWord_6 (by decide) (by first | omega | (simp [zp_n]; omega)) (by first | omega | (simp [zp_n]; omega)) (fun c6 => ?_) (fun c6 => ?_)
  · exact absurd c6 (by omega)
  · refine wa_ald0 dX5_addWord_9 ?_
    refine gX5_15 dX5_addWord_10 rfl (by first | assumption | exact hL.1 _ (by decide)) (by first | assumption | exact hL.2 _ _ (by decide)) ?_
    refine wa_ald0 dX5_addWord_13 ?_
    refine gX5_28 dX5_addWord_14 rfl (by first | assumption | exact hL.1 _ (by decide)) ?_
    refine wa_ild1 dX5_addWord_17 ?_
    refine wa_iastore dX5_addWord_18 (by first | assumption | exact hL.1 _ (by decide)) (by first | omega | (simp [zp_n]; omega)) (by first | decide | omega) ?_
    refine wa_ald0 dX5_addWord_19 ?_
    refine gX5_18 dX5_addWord_20 rfl (by first | assumption | exact hL.1 _ (by decide)) (by first | assumption | exact hL.2 _ _ (by decide)) ?_
    refine wa_ald0 dX5_addWord_23 ?_
    refine gX5_28 dX5_addWord_24 rfl (by first | assumption | exact hL.1 _ (by decide)) ?_
    refine wa_ild2 dX5_addWord_27 ?_
    refine wa_iastore dX5_addWord_28 (by first | assumption | exact hL.1 _ (by decide)) (by first | omega | (simp [zp_n]; omega)) (by first | decide | omega) ?_
    refine wa_ald0 dX5_addWord_29 ?_
    refine gX5_21 dX5_addWord_30 rfl (by first | assumption | exact hL.1 _ (by decide)) (by first | assumption | exact hL.2 _ _ (by decide)) ?_
    refine wa_ald0 dX5_addWord_33 ?_
    refine gX5_28 dX5_addWord_34 rfl (by first | assumption | exact hL.1 _ (by decide)) ?_
    refine wa_ild3 dX5_addWord_37 ?_
    refine wa_iastore dX5_addWord_38 (by first | assumption | exact hL.1 _ (by decide)) (by first | omega | (simp [zp_n]; omega)) (by first | decide | omega) ?_
    refine wa_ald0 dX5_addWord_39 ?_
    refine wa_dup dX5_addWord_40 rfl ?_
    refine gX5_28 dX5_addWord_41 rfl (by first | assumption | exact hL.1 _ (by decide)) ?_
    refine wa_iconst dX5_addWord_44 ?_
    refine wa_iadd dX5_addWord_45 ?_
    refine pX5_28 dX5_addWord_46 rfl (by first | assumption | exact hL.1 _ (by decide)) ?_
    refine wa_ild4 dX5_addWord_49 ?_
    exact wa_ireturn dX5_addWord_51 rfl rfl (Nat.le_refl _) (by exact ⟨rfl, rfl, rfl, by simp [adV, zp_n]⟩)
/-- one word at a place: how many signs (or minus the fault), its kind, garden, whom -/
def pwF (c : Nat) (s : Int → Int) (a : Int) : Int × Int × Int × Int :=
  if s a = 46 then (1, 4, 0, 0) else if s a = 119 then (1, 5, 0, 0) else
  if ¬ (0 ≤ s a - 97 ∧ s a - 97 < c) then (-a, 0, 0, 0) else
  if s (a + 1) = 42 then (2, 3, s a - 97, 0) else
  if ¬ (0 ≤ s (a + 1) - 65 ∧ s (a + 1) - 65 < c) then (-(a + 1), 0, 0, 0) else
  if kdF (s (a + 2)) = -6 then (-(a + 2), 0, 0, 0) else (3, kdF (s (a + 2)), s a - 97, s (a + 1) - 65)
theorem kdF_rg (x : Int) : -6 ≤ kdF x ∧ kdF x ≤ 2 ∧ (kdF x ≠ -6 → 0 ≤ kdF x) := by
  unfold kdF; (repeat' split) <;> omega
theorem ct_readWord {n : Nat} {S : zH} {Rf : zG} {V : zE} {len c : Nat} {a : Int} (hL : Lay S Rf) (hl : V 18 1 = (len : Int)) (h60 : len ≤ 60) (hp : ∀ j, 0 ≤ V 19 j ∧ V 19 j ≤ 1000) (ha : 0 ≤ a ∧ a < 60) (h2 : 2 ≤ c) (h8 : c ≤ 8) (hw : 0 ≤ V 18 2 ∧ V 18 2 < 60) :
    Ci 2 mX5_readWord [zR 18, zI a, zI (c : Int)] n S Rf V (pwF c (sgF (V 19) len) a).1 (if (pwF c (sgF (V 19) len) a).1 < 1 then V else adV (pwF c (sgF (V 19) len) a).2.1 (pwF c (sgF (V 19) len) a).2.2.1 (pwF c (sgF (V 19) len) a).2.2.2 V) := by
  have g0 := sgF_rg (p := V 19) (len := len) (i := a) hp
  have g1 := sgF_rg (p := V 19) (len := len) (i := a + 1) hp
  have g2 := sgF_rg (p := V 19) (len := len) (i := a + 2) hp
  have k2 := kdF_rg (sgF (V 19) len (a + 2))
  refine ct_of (by decide) rfl (Nat.le_of_ble_eq_true rfl) ?_
  refine wa_ald0 dX5_readWord_0 ?_
  refine wa_ild1 dX5_readWord_1 ?_
  refine kX5_41 dX5_readWord_2 rfl (by first | assumption | exact hL.1 _ (by decide)) (ct_signAt hL hl h60 (by omega)) (by decide) (Nat.le_of_ble_eq_true rfl) ⟨Nat.le_refl _, Nat.le_refl _⟩ (zdI ?_)
  refine wa_ist3 dX5_readWord_5 (by decide) rfl ?_
  refine wa_ild3 dX5_readWord_6 ?_
  refine wa_bipush dX5_readWord_7 (by decide) ?_
  refine wa_icmp_eq 18 dX5_readWord_9 (by decide) (by omega) (by omega) (fun c9 => ?_) (fun c9 => ?_)
  · refine wa_ald0 dX5_readWord_18 ?_
    refine wa_ild3 dX5_readWord_19 ?_
    refine wa_bipush dX5_readWord_20 (by decide) ?_
    refine wa_icmp_ne 29 dX5_readWord_22 (by decide) (by omega) (by omega) (fun c22 => ?_) (fun c22 => ?_)
    · refine wa_iconst dX5_readWord_29 ?_
      refine wa_iconst dX5_readWord_30 ?_
      refine wa_iconst dX5_readWord_31 ?_
      refine wa_iconst dX5_readWord_32 ?_
      refine kX5_45 dX5_readWord_33 rfl (by first | assumption | exact hL.1 _ (by decide)) (ct_addWord hL hw) (by decide) (Nat.le_of_ble_eq_true rfl) ⟨Nat.le_refl _, Nat.le_refl _⟩ (zdI ?_)
      exact wa_ireturn dX5_readWord_36 rfl rfl (Nat.le_refl _) (by first | (exfalso; omega) | (unfold pwF; rw [if_pos (by omega)]; exact ⟨rfl, rfl, rfl, by rw [if_neg (by decide)]⟩) | (unfold pwF; rw [if_neg (by omega), if_pos (by omega)]; exact ⟨rfl, rfl, rfl, by rw [if_neg (by decide)]⟩))
    · refine wa_iconst dX5_readWord_25 ?_
      refine wa_goto 30 dX5_readWord_26 (by decide) ?_
      refine wa_iconst dX5_readWord_30 ?_
      refine wa_iconst dX5_readWord_31 ?_
      refine wa_iconst dX5_readWord_32 ?_
      refine kX5_45 dX5_readWord_33 rfl (by first | assumption | exact hL.1 _ (by decide)) (ct_addWord hL hw) (by decide) (Nat.le_of_ble_eq_true rfl) ⟨Nat.le_refl _, Nat.le_refl _⟩ (zdI ?_)
      exact wa_ireturn dX5_readWord_36 rfl rfl (Nat.le_refl _) (by first | (exfalso; omega) | (unfold pwF; rw [if_pos (by omega)]; exact ⟨rfl, rfl, rfl, by rw [if_neg (by decide)]⟩) | (unfold pwF; rw [if_neg (by omega), if_pos (by omega)]; exact ⟨rfl, rfl, rfl, by rw [if_neg (by decide)]⟩))
  · refine wa_ild3 dX5_readWord_12 ?_
    refine wa_bipush dX5_readWord_13 (by decide) ?_
    refine wa_icmp_ne 37 dX5_readWord_15 (by decide) (by omega) (by omega) (fun c15 => ?_) (fun c15 => ?_)
    · refine wa_ild3 dX5_readWord_37 ?_
      refine wa_bipush dX5_readWord_38 (by decide) ?_
      refine wa_isub dX5_readWord_40 ?_
      refine wa_ist4 dX5_readWord_41 (by decide) rfl ?_
      refine wa_ild4 dX5_readWord_43 ?_
      refine wa_if_lt 54 dX5_readWord_45 (by decide) (by omega) (fun c45 => ?_) (fun c45 => ?_)
      · refine wa_ild1 dX5_readWord_54 ?_
        refine wa_ineg dX5_readWord_55 ?_
        exact wa_ireturn dX5_readWord_56 rfl rfl (Nat.le_refl _) (by unfold pwF; rw [if_neg (by omega), if_neg (by omega), if_pos (by omega)]; exact ⟨rfl, rfl, rfl, by rw [if_pos (by show -a < 1; omega)]⟩)
      · refine wa_ild4 dX5_readWord_48 ?_
        refine wa_ild2 dX5_readWord_50 ?_
        refine wa_icmp_lt 57 dX5_readWord_51 (by decide) (by omega) (by omega) (fun c51 => ?_) (fun c51 => ?_)
        · refine wa_ald0 dX5_readWord_57 ?_
          refine wa_ild1 dX5_readWord_58 ?_
          refine wa_iconst dX5_readWord_59 ?_
          refine wa_iadd dX5_readWord_60 ?_
          refine kX5_41 dX5_readWord_61 rfl (by first | assumption | exact hL.1 _ (by decide)) (ct_signAt hL hl h60 (by omega)) (by decide) (Nat.le_of_ble_eq_true rfl) ⟨Nat.le_refl _, Nat.le_refl _⟩ (zdI ?_)
          refine wa_ist5 dX5_readWord_64 (by decide) rfl ?_
          refine wa_ild5 dX5_readWord_66 ?_
          refine wa_bipush dX5_readWord_68 (by decide) ?_
          refine wa_icmp_ne 83 dX5_readWord_70 (by decide) (by omega) (by omega) (fun c70 => ?_) (fun c70 => ?_)
          · refine wa_ild5 dX5_readWord_83 ?_
            refine wa_bipush dX5_readWord_85 (by decide) ?_
            refine wa_isub dX5_readWord_87 ?_
            refine wa_ist6 dX5_readWord_88 (by decide) rfl ?_
            refine wa_ild6 dX5_readWord_90 ?_
            refine wa_if_lt 101 dX5_readWord_92 (by decide) (by omega) (fun c92 => ?_) (fun c92 => ?_)
            · refine wa_ild1 dX5_readWord_101 ?_
              refine wa_iconst dX5_readWord_102 ?_
              refine wa_iadd dX5_readWord_103 ?_
              refine wa_ineg dX5_readWord_104 ?_
              exact wa_ireturn dX5_readWord_105 rfl rfl (Nat.le_refl _) (by unfold pwF; rw [if_neg (by omega), if_neg (by omega), if_neg (by omega), if_neg (by omega), if_pos (by omega)]; exact ⟨rfl, rfl, rfl, by rw [if_pos (by show -(a + 1) < 1; omega)]⟩)
            · refine wa_ild6 dX5_readWord_95 ?_
              refine wa_ild2 dX5_readWord_97 ?_
              refine wa_icmp_lt 106 dX5_readWord_98 (by decide) (by omega) (by omega) (fun c98 => ?_) (fun c98 => ?_)
              · refine wa_ald0 dX5_readWord_106 ?_
                refine wa_ild1 dX5_readWord_107 ?_
                refine wa_iconst dX5_readWord_108 ?_
                refine wa_iadd dX5_readWord_109 ?_
                refine kX5_41 dX5_readWord_110 rfl (by first | assumption | exact hL.1 _ (by decide)) (ct_signAt hL hl h60 (by omega)) (by decide) (Nat.le_of_ble_eq_true rfl) ⟨Nat.le_refl _, Nat.le_refl _⟩ (zdI ?_)
                refine kX5_49 dX5_readWord_113 rfl (ct_kindOf g2) (by decide) (Nat.le_of_ble_eq_true rfl) ⟨Nat.le_refl _, Nat.le_refl _⟩ (zdI ?_)
                refine wa_ist7 dX5_readWord_116 (by decide) rfl ?_
                refine wa_ild7 dX5_readWord_118 ?_
                refine wa_bipush dX5_readWord_120 (by decide) ?_
                refine wa_icmp_ne 132 dX5_readWord_122 (by decide) (by omega) (by omega) (fun c122 => ?_) (fun c122 => ?_)
                · refine wa_ald0 dX5_readWord_132 ?_
                  refine wa_ild7 dX5_readWord_133 ?_
                  refine wa_ild4 dX5_readWord_135 ?_
                  refine wa_ild6 dX5_readWord_137 ?_
                  refine wa_iconst dX5_readWord_139 ?_
                  refine kX5_45 dX5_readWord_140 rfl (by first | assumption | exact hL.1 _ (by decide)) (ct_addWord hL hw) (by decide) (Nat.le_of_ble_eq_true rfl) ⟨Nat.le_refl _, Nat.le_refl _⟩ (zdI ?_)
                  exact wa_ireturn dX5_readWord_143 rfl rfl (Nat.le_refl _) (by unfold pwF; rw [if_neg (by omega), if_neg (by omega), if_neg (by omega), if_neg (by omega), if_neg (by omega)]; first | (rw [if_pos (by omega)]; exact ⟨rfl, rfl, rfl, by rw [if_pos (by show -(a + 2) < 1; omega)]⟩) | (rw [if_neg (by omega)]; exact ⟨rfl, rfl, rfl, by rw [if_neg (by show ¬ (3 : Int) < 1; decide)]⟩))
                · refine wa_ild1 dX5_readWord_125 ?_
                  refine wa_iconst dX5_readWord_126 ?_
                  refine wa_iadd dX5_readWord_127 ?_
                  refine wa_ineg dX5_readWord_128 ?_
                  refine wa_goto 143 dX5_readWord_129 (by decide) ?_
                  exact wa_ireturn dX5_readWord_143 rfl rfl (Nat.le_refl _) (by unfold pwF; rw [if_neg (by omega), if_neg (by omega), if_neg (by omega), if_neg (by omega), if_neg (by omega)]; first | (rw [if_pos (by omega)]; exact ⟨rfl, rfl, rfl, by rw [if_pos (by show -(a + 2) < 1; omega)]⟩) | (rw [if_neg (by omega)]; exact ⟨rfl, rfl, rfl, by rw [if_neg (by show ¬ (3 : Int) < 1; decide)]⟩))
              · refine wa_ild1 dX5_readWord_101 ?_
                refine wa_iconst dX5_readWord_102 ?_
                refine wa_iadd dX5_readWord_103 ?_
                refine wa_ineg dX5_readWord_104 ?_
                exact wa_ireturn dX5_readWord_105 rfl rfl (Nat.le_refl _) (by unfold pwF; rw [if_neg (by omega), if_neg (by omega), if_neg (by omega), if_neg (by omega), if_pos (by omega)]; exact ⟨rfl, rfl, rfl, by rw [if_pos (by show -(a + 1) < 1; omega)]⟩)
          · refine wa_ald0 dX5_readWord_73 ?_
            refine wa_iconst dX5_readWord_74 ?_
            refine wa_ild4 dX5_readWord_75 ?_
            refine wa_iconst dX5_readWord_77 ?_
            refine wa_iconst dX5_readWord_78 ?_
            refine kX5_45 dX5_readWord_79 rfl (by first | assumption | exact hL.1 _ (by decide)) (ct_addWord hL hw) (by decide) (Nat.le_of_ble_eq_true rfl) ⟨Nat.le_refl _, Nat.le_refl _⟩ (zdI ?_)
            exact wa_ireturn dX5_readWord_82 rfl rfl (Nat.le_refl _) (by unfold pwF; rw [if_neg (by omega), if_neg (by omega), if_neg (by omega), if_pos (by omega)]; exact ⟨rfl, rfl, rfl, by rw [if_neg (by show ¬ (2 : Int) < 1; decide)]⟩)
        · refine wa_ild1 dX5_readWord_54 ?_
          refine wa_ineg dX5_readWord_55 ?_
          exact wa_ireturn dX5_readWord_56 rfl rfl (Nat.le_refl _) (by unfold pwF; rw [if_neg (by omega), if_neg (by omega), if_pos (by omega)]; exact ⟨rfl, rfl, rfl, by rw [if_pos (by show -a < 1; omega)]⟩)
    · refine wa_ald0 dX5_readWord_18 ?_
      refine wa_ild3 dX5_readWord_19 ?_
      refine wa_bipush dX5_readWord_20 (by decide) ?_
      refine wa_icmp_ne 29 dX5_readWord_22 (by decide) (by omega) (by omega) (fun c22 => ?_) (fun c22 => ?_)
      · refine wa_iconst dX5_readWord_29 ?_
        refine wa_iconst dX5_readWord_30 ?_
        refine wa_iconst dX5_readWord_31 ?_
        refine wa_iconst dX5_readWord_32 ?_
        refine kX5_45 dX5_readWord_33 rfl (by first | assumption | exact hL.1 _ (by decide)) (ct_addWord hL hw) (by decide) (Nat.le_of_ble_eq_true rfl) ⟨Nat.le_refl _, Nat.le_refl _⟩ (zdI ?_)
        exact wa_ireturn dX5_readWord_36 rfl rfl (Nat.le_refl _) (by first | (exfalso; omega) | (unfold pwF; rw [if_pos (by omega)]; exact ⟨rfl, rfl, rfl, by rw [if_neg (by decide)]⟩) | (unfold pwF; rw [if_neg (by omega), if_pos (by omega)]; exact ⟨rfl, rfl, rfl, by rw [if_neg (by decide)]⟩))
      · refine wa_iconst dX5_readWord_25 ?_
        refine wa_goto 30 dX5_readWord_26 (by decide) ?_
        refine wa_iconst dX5_readWord_30 ?_
        refine wa_iconst dX5_readWord_31 ?_
        refine wa_iconst dX5_readWord_32 ?_
        refine kX5_45 dX5_readWord_33 rfl (by first | assumption | exact hL.1 _ (by decide)) (ct_addWord hL hw) (by decide) (Nat.le_of_ble_eq_true rfl) ⟨Nat.le_refl _, Nat.le_refl _⟩ (zdI ?_)
        exact wa_ireturn dX5_readWord_36 rfl rfl (Nat.le_refl _) (by first | (exfalso; omega) | (unfold pwF; rw [if_pos (by omega)]; exact ⟨rfl, rfl, rfl, by rw [if_neg (by decide)]⟩) | (unfold pwF; rw [if_neg (by omega), if_pos (by omega)]; exact ⟨rfl, rfl, rfl, by rw [if_neg (by decide)]⟩))
/-- the signs from a place on, as words; and the fault, or none -/
def prs (c : Nat) (s : Int → Int) (len : Nat) : Nat → Nat → List (Int × Int × Int) × Int
  | 0, _ => ([], -6)
  | f + 1, a => if a < len then (if (pwF c s a).1 < 1 then ([], -(pwF c s a).1) else ((pwF c s a).2 :: (prs c s len f (a + (pwF c s a).1.toNat)).1, (prs c s len f (a + (pwF c s a).1.toNat)).2)) else ([], -6)
/-- the rows of the talk hold these words -/
def hasW (V : zE) (ws : List (Int × Int × Int)) : Prop := ∀ i (q : Int × Int × Int), ws[i]? = some q → V 20 i = q.1 ∧ V 21 i = q.2.1 ∧ V 22 i = q.2.2
theorem pwF_rg {c : Nat} {s : Int → Int} {a : Int} (ha : 0 ≤ a) : -(a + 2) ≤ (pwF c s a).1 ∧ (pwF c s a).1 ≤ 3 := by
  unfold pwF; (repeat' split) <;> dsimp only <;> omega
theorem hasW_add {V : zE} {ws : List (Int × Int × Int)} {q : Int × Int × Int} (h : hasW V ws) (hn : V 18 2 = (ws.length : Int)) : hasW (adV q.1 q.2.1 q.2.2 V) (ws ++ [q]) := by
  intro i p hp
  have e : (V 18 2).toNat = ws.length := by omega
  simp only [adV, e, zp_n _ _ (show 20 ≠ 18 by decide), zp_n _ _ (show 20 ≠ 22 by decide), zp_n _ _ (show 20 ≠ 21 by decide), zp_n _ _ (show 21 ≠ 18 by decide), zp_n _ _ (show 21 ≠ 22 by decide), zp_n _ _ (show 22 ≠ 18 by decide), zp_s]
  by_cases hi : i < ws.length
  · rw [List.getElem?_append_left hi] at hp
    have := h i p hp
    rw [za_n _ _ (by omega), za_n _ _ (by omega), za_n _ _ (by omega)]; exact this
  · rw [List.getElem?_append_right (by omega)] at hp
    have hz : i - ws.length = 0 := by
      have := (List.getElem?_eq_some_iff.mp hp).1
      simp at this; omega
    rw [hz] at hp
    obtain rfl : i = ws.length := by omega
    simp at hp
    subst hp
    rw [za_s, za_s, za_s]; exact ⟨rfl, rfl, rfl⟩
/-- what reading leaves: the words, their number; nothing else is changed -/
def rdP (c len : Nat) (V : zE) (x : Int) (V' : zE) : Prop := x = (prs c (sgF (V 19) len) len 60 0).2 ∧ V' 18 = za (V 18) 2 ((prs c (sgF (V 19) len) len 60 0).1.length : Int) ∧ hasW V' (prs c (sgF (V 19) len) len 60 0).1 ∧ ∀ k, k ≠ 18 → k ≠ 20 → k ≠ 21 → k ≠ 22 → V' k = V k
theorem rd_end {c len m a i : Nat} {V V' : zE} {acc : List (Int × Int × Int)} {S : zH} {Rf : zG} {x y : Int} (hpr : prs c (sgF (V 19) len) len 60 0 = (acc ++ (prs c (sgF (V 19) len) len (m + 1) a).1, (prs c (sgF (V 19) len) len (m + 1) a).2)) (ep : prs c (sgF (V 19) len) len (m + 1) a = ([], y)) (ho : ∀ k, k ≠ 18 → k ≠ 20 → k ≠ 21 → k ≠ 22 → V' k = V k) (hw : V' 18 = za (V 18) 2 (i : Int)) (hacc : acc.length = i) (hh : hasW V' acc) (hx : x = y) : qPI S Rf (rdP c len V) (some (zI x)) S Rf V' := by
  rw [ep] at hpr
  refine ⟨_, rfl, rfl, rfl, ?_, ?_, ?_, ho⟩
  · rw [hpr, hx]
  · rw [hpr, hw]; simp [hacc]
  · rw [hpr]; simpa using hh
theorem ct_read {n : Nat} {S : zH} {Rf : zG} {V : zE} {len c : Nat} (hL : Lay S Rf) (hl : V 18 1 = (len : Int)) (h60 : len ≤ 60) (hp : ∀ j, 0 ≤ V 19 j ∧ V 19 j ≤ 1000) (h2 : 2 ≤ c) (h8 : c ≤ 8) :
    Cpi 3 mX5_read [zR 18, zI (c : Int)] n S Rf V (rdP c len V) := by
  refine ct_of (by decide) rfl (Nat.le_of_ble_eq_true rfl) ?_
  have loop : ∀ (m a i : Nat) (V' : zE) (acc : List (Int × Int × Int)), i + m = 60 → i ≤ a ∧ a ≤ 62 → acc.length = i → prs c (sgF (V 19) len) len 60 0 = (acc ++ (prs c (sgF (V 19) len) len m a).1, (prs c (sgF (V 19) len) len m a).2) → (∀ k, k ≠ 18 → k ≠ 20 → k ≠ 21 → k ≠ 22 → V' k = V k) → V' 18 = za (V 18) 2 (i : Int) → hasW V' acc → Wa zXn mX5_read (zrm 3 0 0) (zZm (qPI S Rf (rdP c len V)) (n + 0) 0 0) 0 0 n S 9 [some (zR 18), some (zI (c : Int)), some (zI (a : Int)), some (zI (i : Int)), none] [] Rf V' := by
    intro m
    induction m with
    | zero =>
      intro a i V' acc hi hia hacc hpr ho hw hh
      refine wa_ild3 dX5_read_9 ?_
      refine wa_bipush dX5_read_10 (by decide) ?_
      refine wa_icmp_ge 52 dX5_read_12 (by decide) (by omega) (by omega) (fun c12 => ?_) (fun c12 => ?_)
      · refine wa_bipush dX5_read_52 (by decide) ?_
        exact wa_ireturn dX5_read_54 rfl rfl (Nat.le_refl _) (by refine ⟨_, rfl, rfl, rfl, ?_, ?_, ?_, ho⟩; rw [hpr]; rfl; rw [hpr, hw]; simp [prs, hacc]; rw [hpr]; simpa [prs] using hh)
      · exact absurd c12 (by omega)
    | succ m ih =>
      intro a i V' acc hi hia hacc hpr ho hw hh
      have e1 : V' 18 1 = (len : Int) := by rw [hw, za_n _ _ (by decide)]; exact hl
      have e2 : V' 18 2 = (i : Int) := by rw [hw, za_s]
      have e19 : V' 19 = V 19 := ho 19 (by decide) (by decide) (by decide) (by decide)
      have hq := pwF_rg (c := c) (s := sgF (V 19) len) (a := (a : Int)) (by omega)
      refine wa_ild3 dX5_read_9 ?_
      refine wa_bipush dX5_read_10 (by decide) ?_
      refine wa_icmp_ge 52 dX5_read_12 (by decide) (by omega) (by omega) (fun c12 => ?_) (fun c12 => ?_)
      · exact absurd c12 (by omega)
      · refine wa_ild2 dX5_read_15 ?_
        refine wa_ald0 dX5_read_16 ?_
        refine gX5_24 dX5_read_17 rfl (by first | assumption | exact hL.1 _ (by decide)) ?_
        refine wa_icmp_ge 52 dX5_read_20 (by decide) (by omega) (by omega) (fun c20 => ?_) (fun c20 => ?_)
        · refine wa_bipush dX5_read_52 (by decide) ?_
          refine wa_ireturn dX5_read_54 rfl rfl (Nat.le_refl _) ?_
          have ep : prs c (sgF (V 19) len) len (m + 1) a = ([], -6) := by unfold prs; rw [if_neg (by omega)]
          rw [ep] at hpr
          refine ⟨_, rfl, rfl, rfl, ?_, ?_, ?_, ho⟩
          · rw [hpr]
          · rw [hpr, hw]; simp [hacc]
          · rw [hpr]; simpa using hh
        · refine wa_ald0 dX5_read_23 ?_
          refine wa_ild2 dX5_read_24 ?_
          refine wa_ild1 dX5_read_25 ?_
          refine kX5_37 dX5_read_26 rfl (by first | assumption | exact hL.1 _ (by decide)) (ct_readWord hL e1 h60 (fun j => by rw [e19]; exact hp j) (by omega) h2 h8 (by omega)) (by decide) (Nat.le_of_ble_eq_true rfl) ⟨Nat.le_refl _, Nat.le_refl _⟩ (zdI ?_)
          rw [e19]
          refine wa_ist4 dX5_read_29 (by decide) rfl ?_
          refine wa_ild4 dX5_read_31 ?_
          refine wa_iconst dX5_read_33 ?_
          refine wa_icmp_ge 41 dX5_read_34 (by decide) (by omega) (by omega) (fun c34 => ?_) (fun c34 => ?_)
          · refine wa_ild2 dX5_read_41 ?_
            refine wa_ild4 dX5_read_42 ?_
            refine wa_iadd dX5_read_44 ?_
            refine wa_ist2 dX5_read_45 (by decide) rfl ?_
            refine wa_iinc3 dX5_read_46 (by decide) rfl ?_
            refine wa_goto 9 dX5_read_49 (by decide) ?_
            refine wa_drop4 ?_
            rw [if_neg (by omega)]
            have ep : prs c (sgF (V 19) len) len (m + 1) a = ((pwF c (sgF (V 19) len) a).2 :: (prs c (sgF (V 19) len) len m (a + (pwF c (sgF (V 19) len) a).1.toNat)).1, (prs c (sgF (V 19) len) len m (a + (pwF c (sgF (V 19) len) a).1.toNat)).2) := by rw [prs, if_pos (by omega), if_neg (by omega)]
            rw [show (a : Int) + (pwF c (sgF (V 19) len) a).1 = ((a + (pwF c (sgF (V 19) len) a).1.toNat : Nat) : Int) by omega, show (i : Int) + 1 = ((i + 1 : Nat) : Int) by omega]
            refine ih _ (i + 1) _ (acc ++ [(pwF c (sgF (V 19) len) a).2]) (by omega) (by omega) (by simp [hacc]) ?_ ?_ ?_ (hasW_add hh (by rw [e2, hacc]))
            · rw [hpr, ep]; simp
            · intro k k1 k2 k3 k4
              simp [adV, zp_n, k1, k2, k3, k4, ho]
            · simp [adV, zp_s, hw, za_za, za_s]
          · rw [if_pos (by omega)]
            refine wa_ild4 dX5_read_37 ?_
            refine wa_ineg dX5_read_39 ?_
            exact wa_ireturn dX5_read_40 rfl rfl (Nat.le_refl _) (by refine rd_end (m := m) (a := a) (acc := acc) (y := -(pwF c (sgF (V 19) len) a).1) hpr ?_ ho hw hacc hh rfl; rw [prs, if_pos (by omega), if_pos (by omega)])
  refine wa_ald0 dX5_read_0 ?_
  refine wa_iconst dX5_read_1 ?_
  refine pX5_28 dX5_read_2 rfl (by first | assumption | exact hL.1 _ (by decide)) ?_
  refine wa_iconst dX5_read_5 ?_
  refine wa_ist2 dX5_read_6 (by decide) rfl ?_
  refine wa_iconst dX5_read_7 ?_
  refine wa_ist3 dX5_read_8 (by decide) rfl ?_
  exact loop 60 0 0 _ [] (by omega) (by omega) rfl rfl (fun k k1 _ _ _ => zp_n _ _ k1) (zp_s _ _ _) (fun i q h => by simp at h)
theorem ct_isOutside {n : Nat} {S : zH} {Rf : zG} {V : zE} {v a b : Int} (hv : -2147483648 ≤ v ∧ v ≤ 2147483647) (ha : -2147483648 ≤ a ∧ a ≤ 2147483647) (hb : -2147483648 ≤ b ∧ b ≤ 2147483647) : Ci 1 mX6_isOutside [zI v, zI a, zI b] n S Rf V (if v < a ∨ b < v then 1 else 0) V := by
  refine ct_of (by decide) rfl (Nat.le_of_ble_eq_true rfl) ?_
  refine wa_ild0 dX6_isOutside_0 ?_
  refine wa_ild1 dX6_isOutside_1 ?_
  refine wa_icmp_lt 10 dX6_isOutside_2 (by decide) (by omega) (by omega) (fun c2 => ?_) (fun c2 => ?_)
  · refine wa_iconst dX6_isOutside_10 ?_
    refine wa_goto 15 dX6_isOutside_11 (by decide) ?_
    exact wa_breturn dX6_isOutside_15 rfl rfl (Nat.le_refl _) (by first | exact Or.inl rfl | exact Or.inr rfl | (split <;> simp)) (by refine ⟨?_, rfl, rfl, rfl⟩; first | rw [if_pos (by omega)] | rw [if_neg (by omega)])
  · refine wa_ild0 dX6_isOutside_5 ?_
    refine wa_ild2 dX6_isOutside_6 ?_
    refine wa_icmp_le 14 dX6_isOutside_7 (by decide) (by omega) (by omega) (fun c7 => ?_) (fun c7 => ?_)
    · refine wa_iconst dX6_isOutside_14 ?_
      exact wa_breturn dX6_isOutside_15 rfl rfl (Nat.le_refl _) (by first | exact Or.inl rfl | exact Or.inr rfl | (split <;> simp)) (by refine ⟨?_, rfl, rfl, rfl⟩; first | rw [if_pos (by omega)] | rw [if_neg (by omega)])
    · refine wa_iconst dX6_isOutside_10 ?_
      refine wa_goto 15 dX6_isOutside_11 (by decide) ?_
      exact wa_breturn dX6_isOutside_15 rfl rfl (Nat.le_refl _) (by first | exact Or.inl rfl | exact Or.inr rfl | (split <;> simp)) (by refine ⟨?_, rfl, rfl, rfl⟩; first | rw [if_pos (by omega)] | rw [if_neg (by omega)])
theorem ct_isOfOthersOnly {n : Nat} {S : zH} {Rf : zG} {V : zE} {m : Nat} (hL : Lay S Rf) (hm : V 18 2 = (m : Int)) (hm60 : m ≤ 60) (hk : ∀ i, i < m → (0 ≤ V 20 i ∧ V 20 i ≤ 5) ∧ (0 ≤ V 21 i ∧ V 21 i < 8) ∧ (0 ≤ V 22 i ∧ V 22 i < 8)) :
    Ci 2 mX5_isOfOthersOnly [zR 18] n S Rf V (if allB (fun i => decide (V 20 i ≤ 1) && decide (V 21 i ≠ V 22 i)) m = true then 1 else 0) V := by
  refine ct_of (by decide) rfl (Nat.le_of_ble_eq_true rfl) ?_
  have loop : ∀ (q i : Nat), i + q = m → allB (fun i => decide (V 20 i ≤ 1) && decide (V 21 i ≠ V 22 i)) i = true → Wa zXn mX5_isOfOthersOnly (zrm 2 0 0) (zZm (qI (if allB (fun i => decide (V 20 i ≤ 1) && decide (V 21 i ≠ V 22 i)) m = true then 1 else 0) S Rf V) (n + 0) 0 0) 0 0 n S 2 [some (zR 18), some (zI (i : Int))] [] Rf V := by
    intro q
    induction q with
    | zero =>
      intro i hi hb
      obtain rfl : i = m := by omega
      refine wa_ild1 dX5_isOfOthersOnly_2 ?_
      refine wa_ald0 dX5_isOfOthersOnly_3 ?_
      refine gX5_28 dX5_isOfOthersOnly_4 rfl (by first | assumption | exact hL.1 _ (by decide)) ?_
      refine wa_icmp_ge 53 dX5_isOfOthersOnly_7 (by decide) (by omega) (by omega) (fun c7 => ?_) (fun c7 => ?_)
      · refine wa_iconst dX5_isOfOthersOnly_53 ?_
        exact wa_breturn dX5_isOfOthersOnly_54 rfl rfl (Nat.le_refl _) (by first | exact Or.inl rfl | exact Or.inr rfl | (split <;> simp)) (by exact ⟨by rw [hb]; rfl, rfl, rfl, rfl⟩)
      · exact absurd c7 (by omega)
    | succ q ih =>
      intro i hi hb
      have hki := hk i (by omega)
      refine wa_ild1 dX5_isOfOthersOnly_2 ?_
      refine wa_ald0 dX5_isOfOthersOnly_3 ?_
      refine gX5_28 dX5_isOfOthersOnly_4 rfl (by first | assumption | exact hL.1 _ (by decide)) ?_
      refine wa_icmp_ge 53 dX5_isOfOthersOnly_7 (by decide) (by first | omega | (simp only [Int.toNat_natCast]; omega)) (by first | omega | (simp only [Int.toNat_natCast]; omega)) (fun c7 => ?_) (fun c7 => ?_)
      · exact absurd c7 (by omega)
      · refine wa_ild1 dX5_isOfOthersOnly_10 ?_
        refine wa_bipush dX5_isOfOthersOnly_11 (by decide) ?_
        refine wa_icmp_ge 53 dX5_isOfOthersOnly_13 (by decide) (by first | omega | (simp only [Int.toNat_natCast]; omega)) (by first | omega | (simp only [Int.toNat_natCast]; omega)) (fun c13 => ?_) (fun c13 => ?_)
        · exact absurd c13 (by omega)
        · refine wa_ald0 dX5_isOfOthersOnly_16 ?_
          refine gX5_15 dX5_isOfOthersOnly_17 rfl (by first | assumption | exact hL.1 _ (by decide)) (by first | assumption | exact hL.2 _ _ (by decide)) ?_
          refine wa_ild1 dX5_isOfOthersOnly_20 ?_
          refine wa_iaload dX5_isOfOthersOnly_21 (by first | assumption | exact hL.1 _ (by decide)) (by first | omega | (simp only [Int.toNat_natCast]; omega)) (by first | decide | omega) ?_
          refine wa_iconst dX5_isOfOthersOnly_22 ?_
          refine wa_iconst dX5_isOfOthersOnly_23 ?_
          refine kX5_61 dX5_isOfOthersOnly_24 rfl (ct_isOutside (by simp only [Int.toNat_natCast]; omega) (by decide) (by decide)) (by decide) (Nat.le_of_ble_eq_true rfl) ⟨Nat.le_refl _, Nat.le_refl _⟩ (zdI ?_)
          refine wa_ifne_B 45 dX5_isOfOthersOnly_27 (by decide) (fun c27 => ?_) (fun c27 => ?_)
          · refine wa_iconst dX5_isOfOthersOnly_45 ?_
            exact wa_breturn dX5_isOfOthersOnly_46 rfl rfl (Nat.le_refl _) (by first | exact Or.inl rfl | exact Or.inr rfl | (split <;> simp)) (by refine ⟨?_, rfl, rfl, rfl⟩; rw [allB_of (i := i) (by omega) (by simp only [Int.toNat_natCast] at *; simp; omega)]; rfl)
          · refine wa_ald0 dX5_isOfOthersOnly_30 ?_
            refine gX5_18 dX5_isOfOthersOnly_31 rfl (by first | assumption | exact hL.1 _ (by decide)) (by first | assumption | exact hL.2 _ _ (by decide)) ?_
            refine wa_ild1 dX5_isOfOthersOnly_34 ?_
            refine wa_iaload dX5_isOfOthersOnly_35 (by first | assumption | exact hL.1 _ (by decide)) (by first | omega | (simp only [Int.toNat_natCast]; omega)) (by first | decide | omega) ?_
            refine wa_ald0 dX5_isOfOthersOnly_36 ?_
            refine gX5_21 dX5_isOfOthersOnly_37 rfl (by first | assumption | exact hL.1 _ (by decide)) (by first | assumption | exact hL.2 _ _ (by decide)) ?_
            refine wa_ild1 dX5_isOfOthersOnly_40 ?_
            refine wa_iaload dX5_isOfOthersOnly_41 (by first | assumption | exact hL.1 _ (by decide)) (by first | omega | (simp only [Int.toNat_natCast]; omega)) (by first | decide | omega) ?_
            refine wa_icmp_ne 47 dX5_isOfOthersOnly_42 (by decide) (by first | omega | (simp only [Int.toNat_natCast]; omega)) (by first | omega | (simp only [Int.toNat_natCast]; omega)) (fun c42 => ?_) (fun c42 => ?_)
            · refine wa_iinc1 dX5_isOfOthersOnly_47 (by decide) rfl ?_
              refine wa_goto 2 dX5_isOfOthersOnly_50 (by decide) ?_
              simp only [Int.toNat_natCast] at *
              exact ih (i + 1) (by omega) (by unfold allB; rw [hb]; simp; omega)
            · refine wa_iconst dX5_isOfOthersOnly_45 ?_
              exact wa_breturn dX5_isOfOthersOnly_46 rfl rfl (Nat.le_refl _) (by first | exact Or.inl rfl | exact Or.inr rfl | (split <;> simp)) (by refine ⟨?_, rfl, rfl, rfl⟩; rw [allB_of (i := i) (by omega) (by simp only [Int.toNat_natCast] at *; simp; omega)]; rfl)
  refine wa_iconst dX5_isOfOthersOnly_0 ?_
  refine wa_ist1 dX5_isOfOthersOnly_1 (by decide) rfl ?_
  exact loop m 0 (by omega) rfl
