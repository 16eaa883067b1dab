/-! image, restore -/
theorem ct_image_out {n : Nat} {S : zH} {Rf : zG} {V : zE} {i : Int} (hv : -2147483648 ≤ i ∧ i ≤ 2147483647) (hi : i < 0 ∨ 1 < i) : Ci 2 mX6_image [zR 0, zI i] n S Rf V (-2) V := by
  refine ct_of (by decide) rfl (Nat.le_of_ble_eq_true rfl) ?_
  refine wa_ild1 dX6_image_0 ?_
  refine wa_iconst dX6_image_1 ?_
  refine wa_iconst dX6_image_2 ?_
  refine kX6_70 dX6_image_3 rfl (ct_isOutside hv (by decide) (by decide)) (by decide) (Nat.le_of_ble_eq_true rfl) ⟨Nat.le_refl _, Nat.le_refl _⟩ (zdI ?_)
  refine wa_ifeq_B 12 dX6_image_6 (by decide) (fun c6 => absurd c6 (fun h => h hi)) (fun c6 => ?_)
  refine wa_bipush dX6_image_9 (by decide) ?_
  exact wa_ireturn dX6_image_11 rfl rfl (Nat.le_refl _) (by exact ⟨rfl, rfl, rfl, rfl⟩)
theorem ct_image_old {n r : Nat} {S : zH} {Rf : zG} {V : zE} {i : Int} (hL : Lay S Rf) (hi : 0 ≤ i ∧ i ≤ 1) (hr : Rf 17 i.toNat = some r) (hs : isStr S Rf r) (h55 : 55 ≤ r) : Ci 2 mX6_image [zR 0, zI i] n S Rf V 1 (cpV r 1 V) := by
  have hs0 := hs.1
  refine ct_of (by decide) rfl (Nat.le_of_ble_eq_true rfl) ?_
  refine wa_ild1 dX6_image_0 ?_
  refine wa_iconst dX6_image_1 ?_
  refine wa_iconst dX6_image_2 ?_
  refine kX6_70 dX6_image_3 rfl (ct_isOutside (by omega) (by decide) (by decide)) (by decide) (Nat.le_of_ble_eq_true rfl) ⟨Nat.le_refl _, Nat.le_refl _⟩ (zdI ?_)
  refine wa_ifeq_B 12 dX6_image_6 (by decide) (fun c6 => ?_) (fun c6 => absurd c6 (by omega))
  refine wa_ald0 dX6_image_12 ?_
  refine gX6_19 dX6_image_13 rfl (by first | assumption | exact hL.1 _ (by decide)) (by first | assumption | exact hL.2 _ _ (by decide)) ?_
  refine wa_ild1 dX6_image_16 ?_
  refine wa_aaload dX6_image_17 (by first | assumption | exact hL.1 _ (by decide)) (by omega) (by decide) (by first | assumption | exact hL.2 _ _ (by decide)) ?_
  refine wa_ifnonnull_r 34 dX6_image_18 (by decide) ?_
  refine wa_ald0 dX6_image_34 ?_
  refine gX6_19 dX6_image_35 rfl (by first | assumption | exact hL.1 _ (by decide)) (by first | assumption | exact hL.2 _ _ (by decide)) ?_
  refine wa_ild1 dX6_image_38 ?_
  refine wa_aaload dX6_image_39 (by first | assumption | exact hL.1 _ (by decide)) (by omega) (by decide) (by first | assumption | exact hL.2 _ _ (by decide)) ?_
  refine wa_ald0 dX6_image_40 ?_
  refine gX6_10 dX6_image_41 rfl (by first | assumption | exact hL.1 _ (by decide)) (by first | assumption | exact hL.2 _ _ (by decide)) ?_
  refine kX6_97 dX6_image_44 rfl (by first | assumption | exact hL.1 _ (by decide)) (ct_copy hs hL.s1 (by omega)) (by decide) (Nat.le_of_ble_eq_true rfl) ⟨Nat.le_refl _, Nat.le_refl _⟩ (zdN ?_)
  refine wa_iconst dX6_image_47 ?_
  exact wa_ireturn dX6_image_48 rfl rfl (Nat.le_refl _) (by exact ⟨rfl, rfl, rfl, rfl⟩)
def imQ (n : Nat) (i : Int) (S : zH) (Rf : zG) (V : zE) : zQ := fun v S' Rf' V' => v = some (zI 1) ∧ (∀ k, k < n ∨ n + 7 < k → S' k = S k) ∧ isStr S' Rf' n ∧ (∀ k, k < n → Rf' k = zp Rf 17 (za (Rf 17) i.toNat (some n)) k) ∧ (∀ k, k < n → V' k = V k) ∧ ∀ j, j ≤ 7 → V' (n + j) = V (1 + j)
theorem ct_image_new {n : Nat} {S : zH} {Rf : zG} {V : zE} {i : Int} (hL : Lay S Rf) (hi : 0 ≤ i ∧ i ≤ 1) (hr : Rf 17 i.toNat = none) (h55 : 55 ≤ n) : Ct 7 8 119 mX6_image [zR 0, zI i] n S Rf V (imQ n i S Rf V) := by
  have hL0 := hL.1
  refine ct_of (by decide) rfl (Nat.le_of_ble_eq_true rfl) ?_
  refine wa_ild1 dX6_image_0 ?_
  refine wa_iconst dX6_image_1 ?_
  refine wa_iconst dX6_image_2 ?_
  refine kX6_70 dX6_image_3 rfl (ct_isOutside (by omega) (by decide) (by decide)) (by decide) (Nat.le_of_ble_eq_true rfl) (by decide) (zdI ?_)
  refine wa_ifeq_B 12 dX6_image_6 (by decide) (fun c6 => ?_) (fun c6 => absurd c6 (by omega))
  refine wa_ald0 dX6_image_12 ?_
  refine gX6_19 dX6_image_13 rfl (by first | assumption | exact hL.1 _ (by decide) | exact hL1.1 _ (by decide) | exact hst.1) (by first | assumption | exact hL.2 _ _ (by decide) | exact hL2.2 _ _ (by decide) | (rw [zp_s, za_s])) ?_
  refine wa_ild1 dX6_image_16 ?_
  refine wa_aaload dX6_image_17 (by first | assumption | exact hL.1 _ (by decide) | exact hL1.1 _ (by decide) | exact hst.1) (by omega) (by decide) (by first | assumption | exact hL.2 _ _ (by decide) | exact hL2.2 _ _ (by decide) | (rw [zp_s, za_s])) ?_
  refine wa_ifnonnull_n dX6_image_18 ?_
  refine wa_ald0 dX6_image_21 ?_
  refine gX6_19 dX6_image_22 rfl (by first | assumption | exact hL.1 _ (by decide) | exact hL1.1 _ (by decide) | exact hst.1) (by first | assumption | exact hL.2 _ _ (by decide) | exact hL2.2 _ _ (by decide) | (rw [zp_s, za_s])) ?_
  refine wa_ild1 dX6_image_25 ?_
  refine nX6_7 dX6_image_26 rfl (by decide) ?_
  refine wa_dup dX6_image_29 rfl ?_
  refine kX6_9 dX6_image_30 rfl (ct_init4 (r := n) (by rw [za_s])) (by decide) (Nat.le_of_ble_eq_true rfl) (by decide) (fun v S1 Rf1 V1 h1 => ?_)
  obtain ⟨rfl, a1, a2, a3, a4, a5⟩ := h1
  have hL1 : Lay S1 Rf1 := by
    refine ⟨fun k hk => ?_, fun k j hk => ?_⟩
    · rw [a1 k (by omega), za_n _ _ (by omega)]; exact hL.1 k hk
    · have hk2 : k < 55 := by unfold rfp at hk; split at hk <;> first | omega | exact absurd rfl hk
      rw [a3 k (by omega), zp_n _ _ (by omega)]; exact hL.2 k j hk
  have hA := a2.1
  refine wa_aastore dX6_image_33 (by first | assumption | exact hL.1 _ (by decide) | exact hL1.1 _ (by decide) | exact hst.1) (by omega) (by decide) (by first | assumption | exact hL.1 _ (by decide) | exact hL1.1 _ (by decide) | exact hst.1) ?_
  have hL2 : Lay S1 (zp Rf1 17 (za (Rf1 17) i.toNat (some n))) := by
    refine ⟨hL1.1, fun k j hk => ?_⟩
    rw [zp_n _ _ (fun h => by subst h; exact hk (by unfold rfp; split <;> first | omega | rfl))]; exact hL1.2 k j hk
  have hst : isStr S1 (zp Rf1 17 (za (Rf1 17) i.toNat (some n))) n := by
    unfold isStr at a2 ⊢
    simp only [zp_n _ _ (show n ≠ 17 by omega)]
    exact a2
  refine wa_ald0 dX6_image_34 ?_
  refine gX6_19 dX6_image_35 rfl (by first | assumption | exact hL.1 _ (by decide) | exact hL1.1 _ (by decide) | exact hst.1) (by first | assumption | exact hL.2 _ _ (by decide) | exact hL2.2 _ _ (by decide) | (rw [zp_s, za_s])) ?_
  refine wa_ild1 dX6_image_38 ?_
  refine wa_aaload dX6_image_39 (by first | assumption | exact hL.1 _ (by decide) | exact hL1.1 _ (by decide) | exact hst.1) (by omega) (by decide) (by first | assumption | exact hL.2 _ _ (by decide) | exact hL2.2 _ _ (by decide) | (rw [zp_s, za_s])) ?_
  refine wa_ald0 dX6_image_40 ?_
  refine gX6_10 dX6_image_41 rfl (by first | assumption | exact hL.1 _ (by decide) | exact hL1.1 _ (by decide) | exact hst.1) (by first | assumption | exact hL.2 _ _ (by decide) | exact hL2.2 _ _ (by decide) | (rw [zp_s, za_s])) ?_
  refine kX6_97 dX6_image_44 rfl (by first | assumption | exact hL.1 _ (by decide) | exact hL1.1 _ (by decide) | exact hst.1) (ct_copy hst hL2.s1 (by omega)) (by decide) (Nat.le_of_ble_eq_true rfl) (by decide) (zdN ?_)
  refine wa_iconst dX6_image_47 ?_
  refine wa_ireturn dX6_image_48 rfl rfl (Nat.le_refl _) ?_
  refine ⟨rfl, fun k hk => ?_, hst, fun k hk => ?_, fun k hk => ?_, fun j hj => ?_⟩
  · rw [a1 k (by omega), za_n _ _ (by omega)]
  · by_cases h : k = 17
    · subst h; rw [zp_s, zp_s, a3 17 (by omega), zp_n _ _ (by omega)]
    · rw [zp_n _ _ h, zp_n _ _ h, a3 k (by omega), zp_n _ _ (by omega)]
  · rw [cpV_o (by omega), a4 k (by omega), zp_n _ _ (by omega)]
  · rw [cpV_i hj, a4 _ (by omega), zp_n _ _ (by omega)]
theorem ct_restore_out {n : Nat} {S : zH} {Rf : zG} {V : zE} {i : Int} (hv : -2147483648 ≤ i ∧ i ≤ 2147483647) (hi : i < 0 ∨ 1 < i) : Ci 2 mX6_restore [zR 0, zI i] n S Rf V (-2) V := by
  refine ct_of (by decide) rfl (Nat.le_of_ble_eq_true rfl) ?_
  refine wa_ild1 dX6_restore_0 ?_
  refine wa_iconst dX6_restore_1 ?_
  refine wa_iconst dX6_restore_2 ?_
  refine kX6_70 dX6_restore_3 rfl (ct_isOutside hv (by decide) (by decide)) (by decide) (Nat.le_of_ble_eq_true rfl) ⟨Nat.le_refl _, Nat.le_refl _⟩ (zdI ?_)
  refine wa_ifeq_B 12 dX6_restore_6 (by decide) (fun c6 => absurd c6 (fun h => h hi)) (fun c6 => ?_)
  refine wa_bipush dX6_restore_9 (by decide) ?_
  exact wa_ireturn dX6_restore_11 rfl rfl (Nat.le_refl _) (by exact ⟨rfl, rfl, rfl, rfl⟩)
theorem ct_restore_none {n : Nat} {S : zH} {Rf : zG} {V : zE} {i : Int} (hL : Lay S Rf) (hi : 0 ≤ i ∧ i ≤ 1) (hr : Rf 17 i.toNat = none) : Ci 2 mX6_restore [zR 0, zI i] n S Rf V (-3) V := by
  refine ct_of (by decide) rfl (Nat.le_of_ble_eq_true rfl) ?_
  refine wa_ild1 dX6_restore_0 ?_
  refine wa_iconst dX6_restore_1 ?_
  refine wa_iconst dX6_restore_2 ?_
  refine kX6_70 dX6_restore_3 rfl (ct_isOutside (by omega) (by decide) (by decide)) (by decide) (Nat.le_of_ble_eq_true rfl) ⟨Nat.le_refl _, Nat.le_refl _⟩ (zdI ?_)
  refine wa_ifeq_B 12 dX6_restore_6 (by decide) (fun c6 => ?_) (fun c6 => absurd c6 (by omega))
  refine wa_ald0 dX6_restore_12 ?_
  refine gX6_19 dX6_restore_13 rfl (by first | assumption | exact hL.1 _ (by decide)) (by first | assumption | exact hL.2 _ _ (by decide)) ?_
  refine wa_ild1 dX6_restore_16 ?_
  refine wa_aaload dX6_restore_17 (by first | assumption | exact hL.1 _ (by decide)) (by omega) (by decide) (by first | assumption | exact hL.2 _ _ (by decide)) ?_
  refine wa_ifnonnull_n dX6_restore_18 ?_
  refine wa_bipush dX6_restore_21 (by decide) ?_
  exact wa_ireturn dX6_restore_23 rfl rfl (Nat.le_refl _) (by exact ⟨rfl, rfl, rfl, rfl⟩)
theorem ct_restore_old {n r : Nat} {S : zH} {Rf : zG} {V : zE} {i : Int} (hL : Lay S Rf) (hi : 0 ≤ i ∧ i ≤ 1) (hr : Rf 17 i.toNat = some r) (hs : isStr S Rf r) (h55 : 55 ≤ r) : Ci 2 mX6_restore [zR 0, zI i] n S Rf V 1 (cpV 1 r V) := by
  have hs0 := hs.1
  refine ct_of (by decide) rfl (Nat.le_of_ble_eq_true rfl) ?_
  refine wa_ild1 dX6_restore_0 ?_
  refine wa_iconst dX6_restore_1 ?_
  refine wa_iconst dX6_restore_2 ?_
  refine kX6_70 dX6_restore_3 rfl (ct_isOutside (by omega) (by decide) (by decide)) (by decide) (Nat.le_of_ble_eq_true rfl) ⟨Nat.le_refl _, Nat.le_refl _⟩ (zdI ?_)
  refine wa_ifeq_B 12 dX6_restore_6 (by decide) (fun c6 => ?_) (fun c6 => absurd c6 (by omega))
  refine wa_ald0 dX6_restore_12 ?_
  refine gX6_19 dX6_restore_13 rfl (by first | assumption | exact hL.1 _ (by decide)) (by first | assumption | exact hL.2 _ _ (by decide)) ?_
  refine wa_ild1 dX6_restore_16 ?_
  refine wa_aaload dX6_restore_17 (by first | assumption | exact hL.1 _ (by decide)) (by omega) (by decide) (by first | assumption | exact hL.2 _ _ (by decide)) ?_
  refine wa_ifnonnull_r 24 dX6_restore_18 (by decide) ?_
  refine wa_ald0 dX6_restore_24 ?_
  refine gX6_10 dX6_restore_25 rfl (by first | assumption | exact hL.1 _ (by decide)) (by first | assumption | exact hL.2 _ _ (by decide)) ?_
  refine wa_ald0 dX6_restore_28 ?_
  refine gX6_19 dX6_restore_29 rfl (by first | assumption | exact hL.1 _ (by decide)) (by first | assumption | exact hL.2 _ _ (by decide)) ?_
  refine wa_ild1 dX6_restore_32 ?_
  refine wa_aaload dX6_restore_33 (by first | assumption | exact hL.1 _ (by decide)) (by omega) (by decide) (by first | assumption | exact hL.2 _ _ (by decide)) ?_
  refine kX6_97 dX6_restore_34 rfl (by first | assumption | exact hL.1 _ (by decide)) (ct_copy hL.s1 hs (by omega)) (by decide) (Nat.le_of_ble_eq_true rfl) ⟨Nat.le_refl _, Nat.le_refl _⟩ (zdN ?_)
  refine wa_iconst dX6_restore_37 ?_
  exact wa_ireturn dX6_restore_38 rfl rfl (Nat.le_refl _) (by exact ⟨rfl, rfl, rfl, rfl⟩)
