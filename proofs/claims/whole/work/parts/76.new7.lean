/-! the reference as it is made -/
theorem rfp_hi {k j : Nat} (h : 37 < k) : rfp k j = none := by
  unfold rfp
  split <;> first | rfl | (exfalso; omega)
def nw7 (S : zH) (Rf : zG) (V : zE) : zQ := fun v S' Rf' V' => v = none ∧ Lay S' Rf' ∧ (∀ k, k < 37 → S' k = S k ∧ Rf' k = Rf k ∧ V' k = V k) ∧ (∀ k, 55 ≤ k → S' k = none) ∧ V' 37 0 = 6 ∧ V' 37 3 = 0 ∧ V' 37 4 = 0 ∧ V' 37 7 = 1 ∧ V' 37 8 = 3 ∧ V' 37 9 = 1 ∧ V' 37 10 = 4 ∧ V' 37 11 = 0 ∧ V' 37 13 = 0 ∧ V' 38 = (fun _ => 0) ∧ V' 39 = (fun _ => 20) ∧ V' 40 = (fun _ => 0) ∧ V' 41 = (fun _ => 0) ∧ V' 42 = (fun _ => 0) ∧ V' 43 = (fun _ => 0) ∧ V' 54 = (fun _ => 0)
theorem ct_init7 {S : zH} {Rf : zG} {V : zE} (hS : S 37 = some (.inr 7)) (hS0 : ∀ k, k < 37 → S k = shp k) (hS1 : ∀ k, 38 ≤ k → S k = none) (hR0 : ∀ k j, k < 37 → rfp k j ≠ none → Rf k j = rfp k j) (hV : V 37 = fun _ => 0) : Ct 2 17 34398 mX7_init [zR 37] 38 S Rf V (nw7 S Rf V) := by
  refine ct_of (by decide) rfl (Nat.le_of_ble_eq_true rfl) ?_
  refine wa_ald0 dX7_init_0 ?_
  refine wa_objInit dX7_init_1 lX7_1 w_objI w_objC (by decide) ?_
  refine wa_ald0 dX7_init_4 ?_
  refine wa_bipush dX7_init_5 (by decide) ?_
  refine pX7_7 dX7_init_7 rfl (by first | assumption | simp [za, hS]) ?_
  refine wa_ald0 dX7_init_10 ?_
  refine wa_bipush dX7_init_11 (by decide) ?_
  refine wa_newI dX7_init_13 w_arrI rfl (by decide) (by decide) ?_
  refine pX7_13 dX7_init_15 rfl rfl (by first | assumption | simp [za, hS]) ?_
  refine wa_ald0 dX7_init_18 ?_
  refine wa_bipush dX7_init_19 (by decide) ?_
  refine wa_newI dX7_init_21 w_arrI rfl (by decide) (by decide) ?_
  refine pX7_17 dX7_init_23 rfl rfl (by first | assumption | simp [za, hS]) ?_
  refine wa_ald0 dX7_init_26 ?_
  refine wa_bipush dX7_init_27 (by decide) ?_
  refine wa_newI dX7_init_29 w_arrI rfl (by decide) (by decide) ?_
  refine pX7_20 dX7_init_31 rfl rfl (by first | assumption | simp [za, hS]) ?_
  refine wa_ald0 dX7_init_34 ?_
  refine wa_bipush dX7_init_35 (by decide) ?_
  refine wa_newI dX7_init_37 w_arrI rfl (by decide) (by decide) ?_
  refine pX7_23 dX7_init_39 rfl rfl (by first | assumption | simp [za, hS]) ?_
  refine wa_ald0 dX7_init_42 ?_
  refine wa_iconst dX7_init_43 ?_
  refine pX7_26 dX7_init_44 rfl (by first | assumption | simp [za, hS]) ?_
  refine wa_ald0 dX7_init_47 ?_
  refine wa_iconst dX7_init_48 ?_
  refine pX7_29 dX7_init_49 rfl (by first | assumption | simp [za, hS]) ?_
  refine wa_ald0 dX7_init_52 ?_
  refine wa_iconst dX7_init_53 ?_
  refine pX7_32 dX7_init_54 rfl (by first | assumption | simp [za, hS]) ?_
  refine wa_ald0 dX7_init_57 ?_
  refine wa_iconst dX7_init_58 ?_
  refine pX7_35 dX7_init_59 rfl (by first | assumption | simp [za, hS]) ?_
  refine wa_ald0 dX7_init_62 ?_
  refine wa_bipush dX7_init_63 (by decide) ?_
  refine wa_newI dX7_init_65 w_arrI rfl (by decide) (by decide) ?_
  refine pX7_38 dX7_init_67 rfl rfl (by first | assumption | simp [za, hS]) ?_
  refine wa_ald0 dX7_init_70 ?_
  refine wa_bipush dX7_init_71 (by decide) ?_
  refine wa_newI dX7_init_73 w_arrI rfl (by decide) (by decide) ?_
  refine pX7_41 dX7_init_75 rfl rfl (by first | assumption | simp [za, hS]) ?_
  refine wa_ald0 dX7_init_78 ?_
  refine wa_bipush dX7_init_79 (by decide) ?_
  refine wa_newI dX7_init_81 w_arrI rfl (by decide) (by decide) ?_
  refine pX7_44 dX7_init_83 rfl rfl (by first | assumption | simp [za, hS]) ?_
  refine wa_ald0 dX7_init_86 ?_
  refine wa_bipush dX7_init_87 (by decide) ?_
  refine wa_newI dX7_init_89 w_arrI rfl (by decide) (by decide) ?_
  refine pX7_47 dX7_init_91 rfl rfl (by first | assumption | simp [za, hS]) ?_
  refine wa_ald0 dX7_init_94 ?_
  refine wa_bipush dX7_init_95 (by decide) ?_
  refine wa_newI dX7_init_97 w_arrI rfl (by decide) (by decide) ?_
  refine pX7_50 dX7_init_99 rfl rfl (by first | assumption | simp [za, hS]) ?_
  refine wa_ald0 dX7_init_102 ?_
  refine wa_bipush dX7_init_103 (by decide) ?_
  refine wa_newI dX7_init_105 w_arrI rfl (by decide) (by decide) ?_
  refine pX7_53 dX7_init_107 rfl rfl (by first | assumption | simp [za, hS]) ?_
  refine wa_ald0 dX7_init_110 ?_
  refine wa_iconst dX7_init_111 ?_
  refine wa_newI dX7_init_112 w_arrI rfl (by decide) (by decide) ?_
  refine pX7_56 dX7_init_114 rfl rfl (by first | assumption | simp [za, hS]) ?_
  refine wa_ald0 dX7_init_117 ?_
  refine wa_iconst dX7_init_118 ?_
  refine wa_newI dX7_init_119 w_arrI rfl (by decide) (by decide) ?_
  refine pX7_59 dX7_init_121 rfl rfl (by first | assumption | simp [za, hS]) ?_
  refine wa_ald0 dX7_init_124 ?_
  refine wa_ldc dX7_init_125 coX7_62 32768 (by decide) ?_
  refine wa_newI dX7_init_127 w_arrI rfl (by decide) (by decide) ?_
  refine pX7_63 dX7_init_129 rfl rfl (by first | assumption | simp [za, hS]) ?_
  refine wa_ald0 dX7_init_132 ?_
  refine wa_sipush dX7_init_133 (by decide) ?_
  refine wa_newI dX7_init_136 w_arrI rfl (by decide) (by decide) ?_
  refine pX7_66 dX7_init_138 rfl rfl (by first | assumption | simp [za, hS]) ?_
  refine wa_ald0 dX7_init_141 ?_
  refine wa_bipush dX7_init_142 (by decide) ?_
  refine wa_newI dX7_init_144 w_arrI rfl (by decide) (by decide) ?_
  refine pX7_69 dX7_init_146 rfl rfl (by first | assumption | simp [za, hS]) ?_
  refine wa_ald0 dX7_init_149 ?_
  refine wa_sipush dX7_init_150 (by decide) ?_
  refine wa_newI dX7_init_153 w_arrI rfl (by decide) (by decide) ?_
  refine pX7_72 dX7_init_155 rfl rfl (by first | assumption | simp [za, hS]) ?_
  refine wa_ald0 dX7_init_158 ?_
  refine wa_iconst dX7_init_159 ?_
  refine wa_newZ dX7_init_160 w_arrZ rfl (by decide) (by decide) ?_
  refine pX7_75 dX7_init_162 rfl rfl (by first | assumption | simp [za, hS]) ?_
  refine wa_ald0 dX7_init_165 ?_
  refine wa_keep (fun S' Rf' V' => Lay S' Rf' ∧ (∀ k, k < 37 → S' k = S k ∧ Rf' k = Rf k ∧ V' k = V k) ∧ (∀ k, 55 ≤ k → S' k = none) ∧ (V' 37 0 = 6 ∧ V' 37 7 = 1 ∧ V' 37 8 = 3 ∧ V' 37 9 = 1 ∧ V' 37 10 = 4 ∧ V' 37 13 = 0) ∧ (∀ k, 38 ≤ k → k ≤ 54 → V' k = fun _ => 0)) ⟨⟨fun k hk => ?_, fun k j hr => ?_⟩, fun k hk => ⟨?_, ?_, ?_⟩, fun k hk => ?_, ?_, fun k h1 h2 => ?_⟩ (fun S1 Rf1 V1 hk => ?_)
  · by_cases h : k < 37
    · repeat rw [za_n _ _ (by omega)]
      exact hS0 k h
    · obtain rfl | rfl | rfl | rfl | rfl | rfl | rfl | rfl | rfl | rfl | rfl | rfl | rfl | rfl | rfl | rfl | rfl | rfl : k = 37 ∨ k = 38 ∨ k = 39 ∨ k = 40 ∨ k = 41 ∨ k = 42 ∨ k = 43 ∨ k = 44 ∨ k = 45 ∨ k = 46 ∨ k = 47 ∨ k = 48 ∨ k = 49 ∨ k = 50 ∨ k = 51 ∨ k = 52 ∨ k = 53 ∨ k = 54 := by omega
      all_goals simp [shp, za, hS]
  · by_cases h : k < 37
    · repeat rw [zp_n _ _ (by omega)]
      exact hR0 k j h hr
    · by_cases h7 : k = 37
      · subst h7
        unfold rfp at hr ⊢
        split at hr
        all_goals first | (exfalso; omega) | (exact absurd rfl hr) | simp [zp, za]
      · exact absurd (rfp_hi (by omega)) hr
  · repeat rw [za_n _ _ (by omega)]
  · repeat rw [zp_n _ _ (by omega)]
  · repeat rw [zp_n _ _ (by omega)]
  · repeat rw [za_n _ _ (by omega)]
    exact hS1 k (by omega)
  · simp [zp, za, hV]
  · obtain rfl | rfl | rfl | rfl | rfl | rfl | rfl | rfl | rfl | rfl | rfl | rfl | rfl | rfl | rfl | rfl | rfl : k = 38 ∨ k = 39 ∨ k = 40 ∨ k = 41 ∨ k = 42 ∨ k = 43 ∨ k = 44 ∨ k = 45 ∨ k = 46 ∨ k = 47 ∨ k = 48 ∨ k = 49 ∨ k = 50 ∨ k = 51 ∨ k = 52 ∨ k = 53 ∨ k = 54 := by omega
    all_goals simp [zp]
  obtain ⟨q1, q2, q3, q4, q5⟩ := hk
  have s37 : S1 37 = some (.inr 7) := q1.1 37 (by decide)
  refine kX7_79 dX7_init_166 rfl (by first | assumption | simp [za, hS]) (cm_clear (fun _ => 0) (fun _ _ => rfl) q1) (by decide) (Nat.le_of_ble_eq_true rfl) (by decide) (zdN ?_)
  refine wa_return dX7_init_169 rfl rfl (Nat.le_refl _) ?_
  refine ⟨rfl, q1, fun k hk => ⟨(q2 k hk).1, (q2 k hk).2.1, ?_⟩, q3, ?_⟩
  · unfold clV
    repeat rw [zp_n _ _ (by omega)]
    exact (q2 k hk).2.2
  · simp [clV, zp, za, q4, q5]
