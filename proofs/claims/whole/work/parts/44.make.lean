/-! makings: a street, a talk, places, salt, rows, lies, the whole -/
section
variable {X : zXt} {μ : zM} {R : Room} {Z : zZt} {ce sl n : Nat} {S : zH} {pc : Nat} {L : List (Option zV)} {st : List zV} {Rf : zG} {V : zE}
/-- what is known of the cells, and no more -/
theorem wa_keep (P : zH → zG → zE → Prop) (h : P S Rf V) (kk : ∀ S' Rf' V', P S' Rf' V' → Wa X μ R Z ce sl n S' pc L st Rf' V') : Wa X μ R Z ce sl n S pc L st Rf V := kk _ _ _ h
end
/-- a street just made at r -/
def nwS (r : Nat) (V : zE) : Prop := V r 0 = 6 ∧ V r 3 = 0 ∧ V r 4 = 0 ∧ V r 8 = 0 ∧ V (r + 1) = (fun _ => 0) ∧ V (r + 2) = (fun _ => 20) ∧ V (r + 3) = za (za (za (za (fun _ => 0) 0 1) 1 3) 2 1) 3 4 ∧ V (r + 4) = (fun _ => 0) ∧ V (r + 5) = (fun _ => 0) ∧ V (r + 6) = (fun _ => 0) ∧ V (r + 7) = (fun _ => 0)
def nw4 (r : Nat) (S : zH) (Rf : zG) (V : zE) : zQ := fun v S' Rf' V' => v = none ∧ (∀ k, k ≤ r ∨ r + 7 < k → S' k = S k) ∧ isStr S' Rf' r ∧ (∀ k, k < r ∨ r + 7 < k → Rf' k = Rf k) ∧ (∀ k, k < r ∨ r + 7 < k → V' k = V k) ∧ nwS r V'
theorem ct_init4 {r : Nat} {S : zH} {Rf : zG} {V : zE} (hS : S r = some (.inr 4)) : Ct 6 7 108 mX4_init [zR r] (r + 1) S Rf V (nw4 r S Rf V) := by
  refine ct_of (by decide) rfl (Nat.le_of_ble_eq_true rfl) ?_
  refine wa_ald0 dX4_init_0 ?_
  refine wa_objInit dX4_init_1 lX4_3 w_objI w_objC (by decide) ?_
  refine wa_ald0 dX4_init_4 ?_
  refine wa_bipush dX4_init_5 (by decide) ?_
  refine wa_newI dX4_init_7 w_arrI rfl (by decide) (by decide) ?_
  refine pX4_9 dX4_init_9 rfl rfl (by first | assumption | (simp [za, hS, Nat.add_assoc])) ?_
  refine wa_ald0 dX4_init_12 ?_
  refine wa_bipush dX4_init_13 (by decide) ?_
  refine wa_newI dX4_init_15 w_arrI rfl (by decide) (by decide) ?_
  refine pX4_15 dX4_init_17 rfl rfl (by first | assumption | (simp [za, hS, Nat.add_assoc])) ?_
  refine wa_ald0 dX4_init_20 ?_
  refine wa_iconst dX4_init_21 ?_
  refine wa_newI dX4_init_22 w_arrI rfl (by decide) (by decide) ?_
  refine pX4_18 dX4_init_24 rfl rfl (by first | assumption | (simp [za, hS, Nat.add_assoc])) ?_
  refine wa_ald0 dX4_init_27 ?_
  refine wa_bipush dX4_init_28 (by decide) ?_
  refine wa_newI dX4_init_30 w_arrI rfl (by decide) (by decide) ?_
  refine pX4_21 dX4_init_32 rfl rfl (by first | assumption | (simp [za, hS, Nat.add_assoc])) ?_
  refine wa_ald0 dX4_init_35 ?_
  refine wa_bipush dX4_init_36 (by decide) ?_
  refine wa_newI dX4_init_38 w_arrI rfl (by decide) (by decide) ?_
  refine pX4_24 dX4_init_40 rfl rfl (by first | assumption | (simp [za, hS, Nat.add_assoc])) ?_
  refine wa_ald0 dX4_init_43 ?_
  refine wa_bipush dX4_init_44 (by decide) ?_
  refine wa_newI dX4_init_46 w_arrI rfl (by decide) (by decide) ?_
  refine pX4_27 dX4_init_48 rfl rfl (by first | assumption | (simp [za, hS, Nat.add_assoc])) ?_
  refine wa_ald0 dX4_init_51 ?_
  refine wa_bipush dX4_init_52 (by decide) ?_
  refine wa_newI dX4_init_54 w_arrI rfl (by decide) (by decide) ?_
  refine pX4_30 dX4_init_56 rfl rfl (by first | assumption | (simp [za, hS, Nat.add_assoc])) ?_
  refine wa_keep (fun S' Rf' V' => (∀ k, k ≤ r ∨ r + 7 < k → S' k = S k) ∧ isStr S' Rf' r ∧ (∀ k, k < r ∨ r + 7 < k → Rf' k = Rf k) ∧ (∀ k, k ≤ r ∨ r + 7 < k → V' k = V k) ∧ (∀ k, r < k → k ≤ r + 7 → V' k = fun _ => 0)) ⟨fun k hk => ?_, ?_, fun k hk => ?_, fun k hk => ?_, fun k h1 h2 => ?_⟩ (fun S1 Rf1 V1 hk => ?_)
  · repeat rw [za_n _ _ (by omega)]
  · simp [isStr, za, zp, hS, Nat.add_assoc]
  · repeat rw [zp_n _ _ (by omega)]
  · repeat rw [zp_n _ _ (by omega)]
  · obtain rfl | rfl | rfl | rfl | rfl | rfl | rfl : k = r + 1 ∨ k = r + 2 ∨ k = r + 3 ∨ k = r + 4 ∨ k = r + 5 ∨ k = r + 6 ∨ k = r + 7 := by omega
    all_goals simp [zp, Nat.add_assoc]
  obtain ⟨q1, q2, q3, q4, q5⟩ := hk
  have q2' := q2
  obtain ⟨s0, s1, s2, s3, s4, s5, s6, s7, r1, r2, r3, r4, r5, r6, r7⟩ := q2
  refine wa_ald0 dX4_init_59 ?_
  refine gX4_18 dX4_init_60 rfl (by first | assumption | (simp [za, hS, Nat.add_assoc])) (by assumption) ?_
  refine wa_iconst dX4_init_63 ?_
  refine wa_iconst dX4_init_64 ?_
  refine wa_iastore dX4_init_65 (by first | assumption | (simp [za, hS, Nat.add_assoc])) (by omega) (by first | decide | omega) ?_
  refine wa_ald0 dX4_init_66 ?_
  refine gX4_18 dX4_init_67 rfl (by first | assumption | (simp [za, hS, Nat.add_assoc])) (by assumption) ?_
  refine wa_iconst dX4_init_70 ?_
  refine wa_iconst dX4_init_71 ?_
  refine wa_iastore dX4_init_72 (by first | assumption | (simp [za, hS, Nat.add_assoc])) (by omega) (by first | decide | omega) ?_
  refine wa_ald0 dX4_init_73 ?_
  refine gX4_18 dX4_init_74 rfl (by first | assumption | (simp [za, hS, Nat.add_assoc])) (by assumption) ?_
  refine wa_iconst dX4_init_77 ?_
  refine wa_iconst dX4_init_78 ?_
  refine wa_iastore dX4_init_79 (by first | assumption | (simp [za, hS, Nat.add_assoc])) (by omega) (by first | decide | omega) ?_
  refine wa_ald0 dX4_init_80 ?_
  refine gX4_18 dX4_init_81 rfl (by first | assumption | (simp [za, hS, Nat.add_assoc])) (by assumption) ?_
  refine wa_iconst dX4_init_84 ?_
  refine wa_iconst dX4_init_85 ?_
  refine wa_iastore dX4_init_86 (by first | assumption | (simp [za, hS, Nat.add_assoc])) (by omega) (by first | decide | omega) ?_
  refine wa_ald0 dX4_init_87 ?_
  refine wa_bipush dX4_init_88 (by decide) ?_
  refine kX4_33 dX4_init_90 rfl (by first | assumption | (simp [za, hS, Nat.add_assoc])) (ct_begin q2' (fun j => by simp only [zp_n _ _ (show r + 4 ≠ r + 3 by omega)]; rw [q5 _ (by omega) (by omega)]; dsimp only; decide)) (by decide) (Nat.le_of_ble_eq_true rfl) ⟨Nat.le_refl _, Nat.le_refl _⟩ (zdN ?_)
  refine wa_return dX4_init_93 rfl rfl (Nat.le_refl _) ?_
  refine ⟨rfl, q1, q2', q3, fun k hk => ?_, ?_⟩
  · unfold begV forgV
    repeat rw [zp_n _ _ (by omega)]
    exact q4 k (by omega)
  · simp [nwS, begV, forgV, zp, za, q5 (r + 3) (by omega) (by omega), q5 (r + 4) (by omega) (by omega), q5 (r + 5) (by omega) (by omega), q5 (r + 6) (by omega) (by omega), q5 (r + 7) (by omega) (by omega)]
    funext j; simp [fgF]
def nwK (r N : Nat) (S : zH) (Rf : zG) (V : zE) (E : zH → zG → zE → Prop) : zQ := fun v S' Rf' V' => v = none ∧ (∀ k, k ≤ r ∨ r + N < k → S' k = S k) ∧ (∀ k, k < r ∨ r + N < k → Rf' k = Rf k) ∧ (∀ k, k < r ∨ r + N < k → V' k = V k) ∧ (∀ k, r < k → k ≤ r + N → V' k = fun _ => 0) ∧ E S' Rf' V'
theorem ct_init5 {S : zH} {Rf : zG} {V : zE} (hS : S 18 = some (.inr 5)) : Ct 1 4 240 mX5_init [zR 18] 19 S Rf V (nwK 18 4 S Rf V (fun S' Rf' V' => S' 19 = some (.inl (0, 60)) ∧ S' 20 = some (.inl (0, 60)) ∧ S' 21 = some (.inl (0, 60)) ∧ S' 22 = some (.inl (0, 60)) ∧ Rf' 18 0 = some 19 ∧ Rf' 18 3 = some 20 ∧ Rf' 18 4 = some 21 ∧ Rf' 18 5 = some 22 ∧ V' 18 1 = 0)) := by
  refine ct_of (by decide) rfl (Nat.le_of_ble_eq_true rfl) ?_
  refine wa_ald0 dX5_init_0 ?_
  refine wa_objInit dX5_init_1 lX5_3 w_objI w_objC (by decide) ?_
  refine wa_ald0 dX5_init_4 ?_
  refine wa_bipush dX5_init_5 (by decide) ?_
  refine wa_newI dX5_init_7 w_arrI rfl (by decide) (by decide) ?_
  refine pX5_9 dX5_init_9 rfl rfl (by simp [za, hS]) ?_
  refine wa_ald0 dX5_init_12 ?_
  refine wa_bipush dX5_init_13 (by decide) ?_
  refine wa_newI dX5_init_15 w_arrI rfl (by decide) (by decide) ?_
  refine pX5_15 dX5_init_17 rfl rfl (by simp [za, hS]) ?_
  refine wa_ald0 dX5_init_20 ?_
  refine wa_bipush dX5_init_21 (by decide) ?_
  refine wa_newI dX5_init_23 w_arrI rfl (by decide) (by decide) ?_
  refine pX5_18 dX5_init_25 rfl rfl (by simp [za, hS]) ?_
  refine wa_ald0 dX5_init_28 ?_
  refine wa_bipush dX5_init_29 (by decide) ?_
  refine wa_newI dX5_init_31 w_arrI rfl (by decide) (by decide) ?_
  refine pX5_21 dX5_init_33 rfl rfl (by simp [za, hS]) ?_
  refine wa_ald0 dX5_init_36 ?_
  refine wa_iconst dX5_init_37 ?_
  refine pX5_24 dX5_init_38 rfl (by simp [za, hS]) ?_
  refine wa_ald0 dX5_init_41 ?_
  refine wa_iconst dX5_init_42 ?_
  refine pX5_28 dX5_init_43 rfl (by simp [za, hS]) ?_
  refine wa_ald0 dX5_init_46 ?_
  refine wa_bipush dX5_init_47 (by decide) ?_
  refine pX5_31 dX5_init_49 rfl (by simp [za, hS]) ?_
  refine wa_ald0 dX5_init_52 ?_
  refine wa_bipush dX5_init_53 (by decide) ?_
  refine pX5_34 dX5_init_55 rfl (by simp [za, hS]) ?_
  refine wa_return dX5_init_58 rfl rfl (Nat.le_refl _) ?_
  refine ⟨rfl, fun k hk => ?_, fun k hk => ?_, fun k hk => ?_, fun k h1 h2 => ?_, ?_⟩
  · repeat rw [za_n _ _ (by omega)]
  · repeat rw [zp_n _ _ (by omega)]
  · repeat rw [zp_n _ _ (by omega)]
  · obtain rfl | rfl | rfl | rfl : k = 19 ∨ k = 20 ∨ k = 21 ∨ k = 22 := by omega
    all_goals simp [zp]
  · simp [za, zp]
theorem ct_init1 {S : zH} {Rf : zG} {V : zE} (hS : S 23 = some (.inr 1)) : Ct 1 2 8 mX1_init [zR 23] 24 S Rf V (nwK 23 2 S Rf V (fun S' Rf' V' => S' 24 = some (.inl (0, 4)) ∧ S' 25 = some (.inl (0, 4)) ∧ Rf' 23 0 = some 24 ∧ Rf' 23 1 = some 25)) := by
  refine ct_of (by decide) rfl (Nat.le_of_ble_eq_true rfl) ?_
  refine wa_ald0 dX1_init_0 ?_
  refine wa_objInit dX1_init_1 lX1_3 w_objI w_objC (by decide) ?_
  refine wa_ald0 dX1_init_4 ?_
  refine wa_iconst dX1_init_5 ?_
  refine wa_newI dX1_init_6 w_arrI rfl (by decide) (by decide) ?_
  refine pX1_9 dX1_init_8 rfl rfl (by simp [za, hS]) ?_
  refine wa_ald0 dX1_init_11 ?_
  refine wa_iconst dX1_init_12 ?_
  refine wa_newI dX1_init_13 w_arrI rfl (by decide) (by decide) ?_
  refine pX1_15 dX1_init_15 rfl rfl (by simp [za, hS]) ?_
  refine wa_ald0 dX1_init_18 ?_
  refine wa_iconst dX1_init_19 ?_
  refine pX1_18 dX1_init_20 rfl (by simp [za, hS]) ?_
  refine wa_return dX1_init_23 rfl rfl (Nat.le_refl _) ?_
  refine ⟨rfl, fun k hk => ?_, fun k hk => ?_, fun k hk => ?_, fun k h1 h2 => ?_, ?_⟩
  · repeat rw [za_n _ _ (by omega)]
  · repeat rw [zp_n _ _ (by omega)]
  · repeat rw [zp_n _ _ (by omega)]
  · obtain rfl | rfl : k = 24 ∨ k = 25 := by omega
    all_goals simp [zp]
  · simp [za, zp]
theorem ct_init3 {S : zH} {Rf : zG} {V : zE} (hS : S 26 = some (.inr 3)) : Ct 1 2 16 mX3_init [zR 26] 27 S Rf V (nwK 26 2 S Rf V (fun S' Rf' V' => S' 27 = some (.inl (0, 8)) ∧ S' 28 = some (.inl (0, 8)) ∧ Rf' 26 0 = some 27 ∧ Rf' 26 1 = some 28)) := by
  refine ct_of (by decide) rfl (Nat.le_of_ble_eq_true rfl) ?_
  refine wa_ald0 dX3_init_0 ?_
  refine wa_objInit dX3_init_1 lX3_3 w_objI w_objC (by decide) ?_
  refine wa_ald0 dX3_init_4 ?_
  refine wa_bipush dX3_init_5 (by decide) ?_
  refine wa_newI dX3_init_7 w_arrI rfl (by decide) (by decide) ?_
  refine pX3_9 dX3_init_9 rfl rfl (by simp [za, hS]) ?_
  refine wa_ald0 dX3_init_12 ?_
  refine wa_bipush dX3_init_13 (by decide) ?_
  refine wa_newI dX3_init_15 w_arrI rfl (by decide) (by decide) ?_
  refine pX3_15 dX3_init_17 rfl rfl (by simp [za, hS]) ?_
  refine wa_ald0 dX3_init_20 ?_
  refine wa_iconst dX3_init_21 ?_
  refine pX3_18 dX3_init_22 rfl (by simp [za, hS]) ?_
  refine wa_ald0 dX3_init_25 ?_
  refine wa_iconst dX3_init_26 ?_
  refine pX3_22 dX3_init_27 rfl (by simp [za, hS]) ?_
  refine wa_return dX3_init_30 rfl rfl (Nat.le_refl _) ?_
  refine ⟨rfl, fun k hk => ?_, fun k hk => ?_, fun k hk => ?_, fun k h1 h2 => ?_, ?_⟩
  · repeat rw [za_n _ _ (by omega)]
  · repeat rw [zp_n _ _ (by omega)]
  · repeat rw [zp_n _ _ (by omega)]
  · obtain rfl | rfl : k = 27 ∨ k = 28 := by omega
    all_goals simp [zp]
  · simp [za, zp]
theorem ct_init2 {S : zH} {Rf : zG} {V : zE} (hS : S 29 = some (.inr 2)) : Ct 1 4 275 mX2_init [zR 29] 30 S Rf V (nwK 29 4 S Rf V (fun S' Rf' V' => S' 30 = some (.inl (0, 3)) ∧ S' 31 = some (.inl (0, 8)) ∧ S' 32 = some (.inl (0, 8)) ∧ S' 33 = some (.inl (0, 256)) ∧ Rf' 29 0 = some 30 ∧ Rf' 29 1 = some 31 ∧ Rf' 29 2 = some 32 ∧ Rf' 29 3 = some 33)) := by
  refine ct_of (by decide) rfl (Nat.le_of_ble_eq_true rfl) ?_
  refine wa_ald0 dX2_init_0 ?_
  refine wa_objInit dX2_init_1 lX2_3 w_objI w_objC (by decide) ?_
  refine wa_ald0 dX2_init_4 ?_
  refine wa_iconst dX2_init_5 ?_
  refine wa_newI dX2_init_6 w_arrI rfl (by decide) (by decide) ?_
  refine pX2_9 dX2_init_8 rfl rfl (by simp [za, hS]) ?_
  refine wa_ald0 dX2_init_11 ?_
  refine wa_bipush dX2_init_12 (by decide) ?_
  refine wa_newI dX2_init_14 w_arrI rfl (by decide) (by decide) ?_
  refine pX2_15 dX2_init_16 rfl rfl (by simp [za, hS]) ?_
  refine wa_ald0 dX2_init_19 ?_
  refine wa_bipush dX2_init_20 (by decide) ?_
  refine wa_newI dX2_init_22 w_arrI rfl (by decide) (by decide) ?_
  refine pX2_18 dX2_init_24 rfl rfl (by simp [za, hS]) ?_
  refine wa_ald0 dX2_init_27 ?_
  refine wa_sipush dX2_init_28 (by decide) ?_
  refine wa_newI dX2_init_31 w_arrI rfl (by decide) (by decide) ?_
  refine pX2_21 dX2_init_33 rfl rfl (by simp [za, hS]) ?_
  refine wa_ald0 dX2_init_36 ?_
  refine wa_iconst dX2_init_37 ?_
  refine pX2_24 dX2_init_38 rfl (by simp [za, hS]) ?_
  refine wa_ald0 dX2_init_41 ?_
  refine wa_iconst dX2_init_42 ?_
  refine pX2_28 dX2_init_43 rfl (by simp [za, hS]) ?_
  refine wa_ald0 dX2_init_46 ?_
  refine wa_iconst dX2_init_47 ?_
  refine pX2_31 dX2_init_48 rfl (by simp [za, hS]) ?_
  refine wa_ald0 dX2_init_51 ?_
  refine wa_iconst dX2_init_52 ?_
  refine pX2_34 dX2_init_53 rfl (by simp [za, hS]) ?_
  refine wa_return dX2_init_56 rfl rfl (Nat.le_refl _) ?_
  refine ⟨rfl, fun k hk => ?_, fun k hk => ?_, fun k hk => ?_, fun k h1 h2 => ?_, ?_⟩
  · repeat rw [za_n _ _ (by omega)]
  · repeat rw [zp_n _ _ (by omega)]
  · repeat rw [zp_n _ _ (by omega)]
  · obtain rfl | rfl | rfl | rfl : k = 30 ∨ k = 31 ∨ k = 32 ∨ k = 33 := by omega
    all_goals simp [zp]
  · simp [za, zp]
theorem ct_init0 {S : zH} {Rf : zG} {V : zE} (hS : S 34 = some (.inr 0)) : Ct 1 2 16 mX0_init [zR 34] 35 S Rf V (nwK 34 2 S Rf V (fun S' Rf' V' => S' 35 = some (.inl (0, 8)) ∧ S' 36 = some (.inl (0, 8)) ∧ Rf' 34 0 = some 35 ∧ Rf' 34 1 = some 36)) := by
  refine ct_of (by decide) rfl (Nat.le_of_ble_eq_true rfl) ?_
  refine wa_ald0 dX0_init_0 ?_
  refine wa_objInit dX0_init_1 lX0_3 w_objI w_objC (by decide) ?_
  refine wa_ald0 dX0_init_4 ?_
  refine wa_bipush dX0_init_5 (by decide) ?_
  refine wa_newI dX0_init_7 w_arrI rfl (by decide) (by decide) ?_
  refine pX0_9 dX0_init_9 rfl rfl (by simp [za, hS]) ?_
  refine wa_ald0 dX0_init_12 ?_
  refine wa_bipush dX0_init_13 (by decide) ?_
  refine wa_newI dX0_init_15 w_arrI rfl (by decide) (by decide) ?_
  refine pX0_15 dX0_init_17 rfl rfl (by simp [za, hS]) ?_
  refine wa_return dX0_init_20 rfl rfl (Nat.le_refl _) ?_
  refine ⟨rfl, fun k hk => ?_, fun k hk => ?_, fun k hk => ?_, fun k h1 h2 => ?_, ?_⟩
  · repeat rw [za_n _ _ (by omega)]
  · repeat rw [zp_n _ _ (by omega)]
  · repeat rw [zp_n _ _ (by omega)]
  · obtain rfl | rfl : k = 35 ∨ k = 36 := by omega
    all_goals simp [zp]
  · simp [za, zp]
