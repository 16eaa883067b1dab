/-! Street: the small ones -/
theorem ct_has {n : Nat} {S : zH} {Rf : zG} {V : zE} {r : Nat} {g : Int} (hr : isStr S Rf r) (hc : 2 ≤ V r 0 ∧ V r 0 ≤ 8) (hg : -2147483648 ≤ g ∧ g ≤ 2147483647) : Ci 1 mX4_has [zR r, zI g] n S Rf V (if 0 ≤ g ∧ g < V r 0 then 1 else 0) V := by
  obtain ⟨s0, -⟩ := hr
  refine ct_of (by decide) rfl (Nat.le_of_ble_eq_true rfl) ?_
  refine wa_ild1 dX4_has_0 ?_
  refine wa_if_lt 22 dX4_has_1 (by decide) (by omega) (fun c1 => ?_) (fun c1 => ?_)
  · refine wa_iconst dX4_has_22 ?_
    exact wa_breturn dX4_has_23 rfl rfl (Nat.le_refl _) (by first | exact Or.inl rfl | exact Or.inr rfl | (split <;> simp)) (by first | (exfalso; omega) | exact ⟨by rw [if_pos (by omega)], rfl, rfl, rfl⟩ | exact ⟨by rw [if_neg (by omega)], rfl, rfl, rfl⟩)
  · refine wa_ild1 dX4_has_4 ?_
    refine wa_ald0 dX4_has_5 ?_
    refine gX4_37 dX4_has_6 rfl (by first | assumption | exact hL.1 _ (by decide)) ?_
    refine wa_icmp_ge 22 dX4_has_9 (by decide) (by omega) (by omega) (fun c9 => ?_) (fun c9 => ?_)
    · refine wa_iconst dX4_has_22 ?_
      exact wa_breturn dX4_has_23 rfl rfl (Nat.le_refl _) (by first | exact Or.inl rfl | exact Or.inr rfl | (split <;> simp)) (by first | (exfalso; omega) | exact ⟨by rw [if_pos (by omega)], rfl, rfl, rfl⟩ | exact ⟨by rw [if_neg (by omega)], rfl, rfl, rfl⟩)
    · refine wa_ild1 dX4_has_12 ?_
      refine wa_bipush dX4_has_13 (by decide) ?_
      refine wa_icmp_ge 22 dX4_has_15 (by decide) (by omega) (by omega) (fun c15 => ?_) (fun c15 => ?_)
      · refine wa_iconst dX4_has_22 ?_
        exact wa_breturn dX4_has_23 rfl rfl (Nat.le_refl _) (by first | exact Or.inl rfl | exact Or.inr rfl | (split <;> simp)) (by first | (exfalso; omega) | exact ⟨by rw [if_pos (by omega)], rfl, rfl, rfl⟩ | exact ⟨by rw [if_neg (by omega)], rfl, rfl, rfl⟩)
      · refine wa_iconst dX4_has_18 ?_
        refine wa_goto 23 dX4_has_19 (by decide) ?_
        exact wa_breturn dX4_has_23 rfl rfl (Nat.le_refl _) (by first | exact Or.inl rfl | exact Or.inr rfl | (split <;> simp)) (by first | (exfalso; omega) | exact ⟨by rw [if_pos (by omega)], rfl, rfl, rfl⟩ | exact ⟨by rw [if_neg (by omega)], rfl, rfl, rfl⟩)
theorem ct_look {n : Nat} {S : zH} {Rf : zG} {V : zE} {r : Nat} {g w : Int} (hr : isStr S Rf r) (hc : 2 ≤ V r 0 ∧ V r 0 ≤ 8) (hg : 0 ≤ g ∧ g < V r 0) (hw : 0 ≤ w ∧ w ≤ 1) : Ci 2 mX4_look [zR r, zI g, zI w] n S Rf V (if w = 0 then V (r + 1) g.toNat else zbit (V r 3) g) V := by
  have hr' := hr
  obtain ⟨s0, s1, s2, s3, s4, s5, s6, s7, r1, r2, r3, r4, r5, r6, r7⟩ := hr
  refine ct_of (by decide) rfl (Nat.le_of_ble_eq_true rfl) ?_
  refine wa_ald0 dX4_look_0 ?_
  refine wa_ild1 dX4_look_1 ?_
  refine kX4_71 dX4_look_2 rfl (by first | assumption | exact hL.1 _ (by decide)) (ct_has hr' hc (by omega)) (by decide) (Nat.le_of_ble_eq_true rfl) ⟨Nat.le_refl _, Nat.le_refl _⟩ (zdI ?_)
  refine wa_ifne_B 10 dX4_look_5 (by decide) (fun c5 => ?_) (fun c5 => ?_)
  · refine wa_ild2 dX4_look_10 ?_
    refine wa_if_ne 23 dX4_look_11 (by decide) (by omega) (fun c11 => ?_) (fun c11 => ?_)
    · refine wa_ald0 dX4_look_23 ?_
      refine gX4_47 dX4_look_24 rfl (by first | assumption | exact hL.1 _ (by decide)) ?_
      refine wa_ild1 dX4_look_27 ?_
      refine wa_ishr dX4_look_28 ?_
      refine wa_iconst dX4_look_29 ?_
      refine wa_iand dX4_look_30 ?_
      exact wa_ireturn dX4_look_31 rfl rfl (Nat.le_refl _) (by first | (exfalso; omega) | exact ⟨by rw [if_pos (by omega)], rfl, rfl, rfl⟩ | exact ⟨by rw [if_neg (by omega)]; rfl, rfl, rfl, rfl⟩)
    · refine wa_ald0 dX4_look_14 ?_
      refine gX4_9 dX4_look_15 rfl (by first | assumption | exact hL.1 _ (by decide)) (by first | assumption | exact hL.2 _ _ (by decide)) ?_
      refine wa_ild1 dX4_look_18 ?_
      refine wa_iaload dX4_look_19 (by first | assumption | exact hL.1 _ (by decide)) (by omega) (by first | decide | omega) ?_
      refine wa_goto 31 dX4_look_20 (by decide) ?_
      exact wa_ireturn dX4_look_31 rfl rfl (Nat.le_refl _) (by first | (exfalso; omega) | exact ⟨by rw [if_pos (by omega)], rfl, rfl, rfl⟩ | exact ⟨by rw [if_neg (by omega)]; rfl, rfl, rfl, rfl⟩)
  · exact absurd hg c5
theorem ct_isDeep {n : Nat} {S : zH} {Rf : zG} {V : zE} {r : Nat} {g : Int} (hr : isStr S Rf r) (hc : 2 ≤ V r 0 ∧ V r 0 ≤ 8) (hg : -2147483648 ≤ g ∧ g ≤ 2147483647) (hd : ∀ j, 0 ≤ V (r + 1) j ∧ V (r + 1) j ≤ 100000) : Ci 2 mX4_isDeep [zR r, zI g] n S Rf V (if 0 ≤ g ∧ g < V r 0 ∧ 0 < V (r + 1) g.toNat then 1 else 0) V := by
  have hr' := hr
  obtain ⟨s0, s1, s2, s3, s4, s5, s6, s7, r1, r2, r3, r4, r5, r6, r7⟩ := hr
  have hd1 := hd g.toNat
  refine ct_of (by decide) rfl (Nat.le_of_ble_eq_true rfl) ?_
  refine wa_ald0 dX4_isDeep_0 ?_
  refine wa_ild1 dX4_isDeep_1 ?_
  refine kX4_71 dX4_isDeep_2 rfl (by first | assumption | exact hL.1 _ (by decide)) (ct_has hr' hc (by omega)) (by decide) (Nat.le_of_ble_eq_true rfl) ⟨Nat.le_refl _, Nat.le_refl _⟩ (zdI ?_)
  refine wa_ifeq_B 21 dX4_isDeep_5 (by decide) (fun c5 => ?_) (fun c5 => ?_)
  · refine wa_iconst dX4_isDeep_21 ?_
    exact wa_breturn dX4_isDeep_22 rfl rfl (Nat.le_refl _) (by first | exact Or.inl rfl | exact Or.inr rfl | (split <;> simp)) (by first | (exfalso; omega) | exact ⟨by rw [if_pos (by omega)], rfl, rfl, rfl⟩ | exact ⟨by rw [if_neg (by omega)], rfl, rfl, rfl⟩)
  · refine wa_ald0 dX4_isDeep_8 ?_
    refine gX4_9 dX4_isDeep_9 rfl (by first | assumption | exact hL.1 _ (by decide)) (by first | assumption | exact hL.2 _ _ (by decide)) ?_
    refine wa_ild1 dX4_isDeep_12 ?_
    refine wa_iaload dX4_isDeep_13 (by first | assumption | exact hL.1 _ (by decide)) (by omega) (by first | decide | omega) ?_
    refine wa_if_le 21 dX4_isDeep_14 (by decide) (by omega) (fun c14 => ?_) (fun c14 => ?_)
    · refine wa_iconst dX4_isDeep_21 ?_
      exact wa_breturn dX4_isDeep_22 rfl rfl (Nat.le_refl _) (by first | exact Or.inl rfl | exact Or.inr rfl | (split <;> simp)) (by first | (exfalso; omega) | exact ⟨by rw [if_pos (by omega)], rfl, rfl, rfl⟩ | exact ⟨by rw [if_neg (by omega)], rfl, rfl, rfl⟩)
    · refine wa_iconst dX4_isDeep_17 ?_
      refine wa_goto 22 dX4_isDeep_18 (by decide) ?_
      exact wa_breturn dX4_isDeep_22 rfl rfl (Nat.le_refl _) (by first | exact Or.inl rfl | exact Or.inr rfl | (split <;> simp)) (by first | (exfalso; omega) | exact ⟨by rw [if_pos (by omega)], rfl, rfl, rfl⟩ | exact ⟨by rw [if_neg (by omega)], rfl, rfl, rfl⟩)
/-- what a word weighs -/
def wtF (rule said : Nat → Int) (k g w : Int) : Int := rule k.toNat + (if zbit (said g.toNat) w = 1 then rule 2 else 0)
theorem ct_weight {n : Nat} {S : zH} {Rf : zG} {V : zE} {r : Nat} {k g w : Int} (hr : isStr S Rf r) (hk : 0 ≤ k ∧ k ≤ 1) (hg : 0 ≤ g ∧ g < 8) : Ci 1 mX4_weight [zR r, zI k, zI g, zI w] n S Rf V (wtF (V (r + 3)) (V (r + 4)) k g w) V := by
  obtain ⟨s0, s1, s2, s3, s4, s5, s6, s7, r1, r2, r3, r4, r5, r6, r7⟩ := hr
  have hb := zbit_rg (V (r + 4) g.toNat) w
  refine ct_of (by decide) rfl (Nat.le_of_ble_eq_true rfl) ?_
  refine wa_ild2 dX4_weight_0 ?_
  refine wa_if_lt 19 dX4_weight_1 (by decide) (by first | omega | exact hb) (fun c1 => absurd c1 (by omega)) (fun c1 => ?_)
  refine wa_ild2 dX4_weight_4 ?_
  refine wa_bipush dX4_weight_5 (by decide) ?_
  refine wa_icmp_ge 19 dX4_weight_7 (by decide) (by first | omega | exact hb) (by first | omega | exact hb) (fun c7 => absurd c7 (by omega)) (fun c7 => ?_)
  refine wa_ild1 dX4_weight_10 ?_
  refine wa_if_eq 21 dX4_weight_11 (by decide) (by first | omega | exact hb) (fun c11 => ?_) (fun c11 => ?_)
  · refine wa_ald0 dX4_weight_21 ?_
    refine gX4_18 dX4_weight_22 rfl (by first | assumption | exact hL.1 _ (by decide)) (by first | assumption | exact hL.2 _ _ (by decide)) ?_
    refine wa_ild1 dX4_weight_25 ?_
    refine wa_iaload dX4_weight_26 (by first | assumption | exact hL.1 _ (by decide)) (by first | omega | exact hb) (by first | decide | omega) ?_
    refine wa_ald0 dX4_weight_27 ?_
    refine gX4_21 dX4_weight_28 rfl (by first | assumption | exact hL.1 _ (by decide)) (by first | assumption | exact hL.2 _ _ (by decide)) ?_
    refine wa_ild2 dX4_weight_31 ?_
    refine wa_iaload dX4_weight_32 (by first | assumption | exact hL.1 _ (by decide)) (by first | omega | exact hb) (by first | decide | omega) ?_
    refine wa_ild3 dX4_weight_33 ?_
    refine wa_ishr dX4_weight_34 ?_
    refine wa_iconst dX4_weight_35 ?_
    refine wa_iand dX4_weight_36 ?_
    refine wa_iconst dX4_weight_37 ?_
    refine wa_icmp_ne 50 dX4_weight_38 (by decide) (by first | omega | exact hb) (by first | omega | exact hb) (fun c38 => ?_) (fun c38 => ?_)
    · refine wa_iconst dX4_weight_50 ?_
      refine wa_iadd dX4_weight_51 ?_
      exact wa_ireturn dX4_weight_52 rfl rfl (Nat.le_refl _) (by first | exact ⟨by unfold wtF zbit; rw [if_pos c38]; rfl, rfl, rfl, rfl⟩ | exact ⟨by unfold wtF zbit; rw [if_neg c38], rfl, rfl, rfl⟩)
    · refine wa_ald0 dX4_weight_41 ?_
      refine gX4_18 dX4_weight_42 rfl (by first | assumption | exact hL.1 _ (by decide)) (by first | assumption | exact hL.2 _ _ (by decide)) ?_
      refine wa_iconst dX4_weight_45 ?_
      refine wa_iaload dX4_weight_46 (by first | assumption | exact hL.1 _ (by decide)) (by first | omega | exact hb) (by first | decide | omega) ?_
      refine wa_goto 51 dX4_weight_47 (by decide) ?_
      refine wa_iadd dX4_weight_51 ?_
      exact wa_ireturn dX4_weight_52 rfl rfl (Nat.le_refl _) (by first | exact ⟨by unfold wtF zbit; rw [if_pos c38]; rfl, rfl, rfl, rfl⟩ | exact ⟨by unfold wtF zbit; rw [if_neg c38], rfl, rfl, rfl⟩)
  · refine wa_ild1 dX4_weight_14 ?_
    refine wa_iconst dX4_weight_15 ?_
    refine wa_icmp_eq 21 dX4_weight_16 (by decide) (by first | omega | exact hb) (by first | omega | exact hb) (fun c16 => ?_) (fun c16 => ?_)
    · refine wa_ald0 dX4_weight_21 ?_
      refine gX4_18 dX4_weight_22 rfl (by first | assumption | exact hL.1 _ (by decide)) (by first | assumption | exact hL.2 _ _ (by decide)) ?_
      refine wa_ild1 dX4_weight_25 ?_
      refine wa_iaload dX4_weight_26 (by first | assumption | exact hL.1 _ (by decide)) (by first | omega | exact hb) (by first | decide | omega) ?_
      refine wa_ald0 dX4_weight_27 ?_
      refine gX4_21 dX4_weight_28 rfl (by first | assumption | exact hL.1 _ (by decide)) (by first | assumption | exact hL.2 _ _ (by decide)) ?_
      refine wa_ild2 dX4_weight_31 ?_
      refine wa_iaload dX4_weight_32 (by first | assumption | exact hL.1 _ (by decide)) (by first | omega | exact hb) (by first | decide | omega) ?_
      refine wa_ild3 dX4_weight_33 ?_
      refine wa_ishr dX4_weight_34 ?_
      refine wa_iconst dX4_weight_35 ?_
      refine wa_iand dX4_weight_36 ?_
      refine wa_iconst dX4_weight_37 ?_
      refine wa_icmp_ne 50 dX4_weight_38 (by decide) (by first | omega | exact hb) (by first | omega | exact hb) (fun c38 => ?_) (fun c38 => ?_)
      · refine wa_iconst dX4_weight_50 ?_
        refine wa_iadd dX4_weight_51 ?_
        exact wa_ireturn dX4_weight_52 rfl rfl (Nat.le_refl _) (by first | exact ⟨by unfold wtF zbit; rw [if_pos c38]; rfl, rfl, rfl, rfl⟩ | exact ⟨by unfold wtF zbit; rw [if_neg c38], rfl, rfl, rfl⟩)
      · refine wa_ald0 dX4_weight_41 ?_
        refine gX4_18 dX4_weight_42 rfl (by first | assumption | exact hL.1 _ (by decide)) (by first | assumption | exact hL.2 _ _ (by decide)) ?_
        refine wa_iconst dX4_weight_45 ?_
        refine wa_iaload dX4_weight_46 (by first | assumption | exact hL.1 _ (by decide)) (by first | omega | exact hb) (by first | decide | omega) ?_
        refine wa_goto 51 dX4_weight_47 (by decide) ?_
        refine wa_iadd dX4_weight_51 ?_
        exact wa_ireturn dX4_weight_52 rfl rfl (Nat.le_refl _) (by first | exact ⟨by unfold wtF zbit; rw [if_pos c38]; rfl, rfl, rfl, rfl⟩ | exact ⟨by unfold wtF zbit; rw [if_neg c38], rfl, rfl, rfl⟩)
    · exact absurd c16 (by omega)
