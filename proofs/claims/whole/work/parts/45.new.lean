/-! SnowTalk as it is made -/
def nw6 : zQ := fun v S' Rf' V' => v = none ∧ (∀ k, k < 37 → S' k = shp k) ∧ (∀ k, 37 ≤ k → S' k = none) ∧ (∀ k j, k < 37 → rfp k j ≠ none → Rf' k j = rfp k j) ∧ (Rf' 17 0 = none ∧ Rf' 17 1 = none) ∧ nwS 1 V' ∧ V' 18 1 = 0 ∧ V' 19 = (fun _ => 0) ∧ V' 27 = (fun _ => 0) ∧ V' 28 = (fun _ => 0) ∧ V' 30 = (fun _ => 0)
theorem ct_init6 {S : zH} {Rf : zG} {V : zE} (hS : S 0 = some (.inr 6)) (hS1 : ∀ k, 1 ≤ k → S k = none) : Ct 7 36 820 mX6_init [zR 0] 1 S Rf V nw6 := by
  refine ct_of (by decide) rfl (Nat.le_of_ble_eq_true rfl) ?_
  refine wa_ald0 dX6_init_0 ?_
  refine wa_objInit dX6_init_1 lX6_1 w_objI w_objC (by decide) ?_
  refine wa_ald0 dX6_init_4 ?_
  refine nX6_7 dX6_init_5 rfl (by decide) ?_
  refine wa_dup dX6_init_8 rfl ?_
  refine kX6_9 dX6_init_9 rfl (ct_init4 (r := 1) (by simp [za])) (by decide) (Nat.le_of_ble_eq_true rfl) (by decide) (fun v S1 Rf1 V1 h1 => ?_)
  obtain ⟨rfl, a1, a2, a3, a4, a5⟩ := h1
  refine pX6_10 dX6_init_12 rfl rfl (by simp [za, hS, *]) ?_
  refine wa_ald0 dX6_init_15 ?_
  refine nX6_7 dX6_init_16 rfl (by decide) ?_
  refine wa_dup dX6_init_19 rfl ?_
  refine kX6_9 dX6_init_20 rfl (ct_init4 (r := 9) (by simp [za])) (by decide) (Nat.le_of_ble_eq_true rfl) (by decide) (fun v S2 Rf2 V2 h2 => ?_)
  obtain ⟨rfl, b1, b2, b3, b4, b5⟩ := h2
  refine pX6_16 dX6_init_23 rfl rfl (by simp [za, hS, *]) ?_
  refine wa_ald0 dX6_init_26 ?_
  refine wa_iconst dX6_init_27 ?_
  refine wa_newO dX6_init_28 clX6_7 rfl (by decide) (by decide) ?_
  refine pX6_19 dX6_init_31 rfl rfl (by simp [za, hS, *]) ?_
  refine wa_ald0 dX6_init_34 ?_
  refine nX6_23 dX6_init_35 rfl (by decide) ?_
  refine wa_dup dX6_init_38 rfl ?_
  refine kX6_25 dX6_init_39 rfl (ct_init5 (by simp [za])) (by decide) (Nat.le_of_ble_eq_true rfl) (by decide) (fun v S3 Rf3 V3 h3 => ?_)
  obtain ⟨rfl, c1, c2, c3, c4, c5⟩ := h3
  refine pX6_26 dX6_init_42 rfl rfl (by simp [za, hS, *]) ?_
  refine wa_ald0 dX6_init_45 ?_
  refine nX6_30 dX6_init_46 rfl (by decide) ?_
  refine wa_dup dX6_init_49 rfl ?_
  refine kX6_32 dX6_init_50 rfl (ct_init1 (by simp [za])) (by decide) (Nat.le_of_ble_eq_true rfl) (by decide) (fun v S4 Rf4 V4 h4 => ?_)
  obtain ⟨rfl, d1, d2, d3, d4, d5⟩ := h4
  refine pX6_33 dX6_init_53 rfl rfl (by simp [za, hS, *]) ?_
  refine wa_ald0 dX6_init_56 ?_
  refine nX6_37 dX6_init_57 rfl (by decide) ?_
  refine wa_dup dX6_init_60 rfl ?_
  refine kX6_39 dX6_init_61 rfl (ct_init3 (by simp [za])) (by decide) (Nat.le_of_ble_eq_true rfl) (by decide) (fun v S5 Rf5 V5 h5 => ?_)
  obtain ⟨rfl, e1, e2, e3, e4, e5⟩ := h5
  refine pX6_40 dX6_init_64 rfl rfl (by simp [za, hS, *]) ?_
  refine wa_ald0 dX6_init_67 ?_
  refine nX6_44 dX6_init_68 rfl (by decide) ?_
  refine wa_dup dX6_init_71 rfl ?_
  refine kX6_46 dX6_init_72 rfl (ct_init2 (by simp [za])) (by decide) (Nat.le_of_ble_eq_true rfl) (by decide) (fun v S6 Rf6 V6 h6 => ?_)
  obtain ⟨rfl, f1, f2, f3, f4, f5⟩ := h6
  refine pX6_47 dX6_init_75 rfl rfl (by simp [za, hS, *]) ?_
  refine wa_ald0 dX6_init_78 ?_
  refine nX6_51 dX6_init_79 rfl (by decide) ?_
  refine wa_dup dX6_init_82 rfl ?_
  refine kX6_53 dX6_init_83 rfl (ct_init0 (by simp [za])) (by decide) (Nat.le_of_ble_eq_true rfl) (by decide) (fun v S7 Rf7 V7 h7 => ?_)
  obtain ⟨rfl, g1, g2, g3, g4, g5⟩ := h7
  refine pX6_54 dX6_init_86 rfl rfl (by simp [za, hS, *]) ?_
  refine wa_return dX6_init_89 rfl rfl (Nat.le_refl _) ?_
  obtain ⟨sa0, sa1, sa2, sa3, sa4, sa5, sa6, sa7, ra1, ra2, ra3, ra4, ra5, ra6, ra7⟩ := a2
  obtain ⟨sb0, sb1, sb2, sb3, sb4, sb5, sb6, sb7, rb1, rb2, rb3, rb4, rb5, rb6, rb7⟩ := b2
  obtain ⟨c5a, c5b, c5c, c5d, c5e, c5f, c5g, c5h, c5i⟩ := c5
  obtain ⟨d5a, d5b, d5c, d5d⟩ := d5
  obtain ⟨e5a, e5b, e5c, e5d⟩ := e5
  obtain ⟨f5a, f5b, f5c, f5d, f5e, f5f, f5g, f5h⟩ := f5
  obtain ⟨g5a, g5b, g5c, g5d⟩ := g5
  refine ⟨rfl, fun k hk => ?_, fun k hk => ?_, fun k j hk hr => ?_, ?_, ?_, ?_, ?_, ?_, ?_, ?_⟩
  · obtain rfl | rfl | rfl | rfl | rfl | rfl | rfl | rfl | rfl | rfl | rfl | rfl | rfl | rfl | rfl | rfl | rfl | rfl | rfl | rfl | rfl | rfl | rfl | rfl | rfl | rfl | rfl | rfl | rfl | rfl | rfl | rfl | rfl | rfl | rfl | rfl | rfl : k = 0 ∨ k = 1 ∨ k = 2 ∨ k = 3 ∨ k = 4 ∨ k = 5 ∨ k = 6 ∨ k = 7 ∨ k = 8 ∨ k = 9 ∨ k = 10 ∨ k = 11 ∨ k = 12 ∨ k = 13 ∨ k = 14 ∨ k = 15 ∨ k = 16 ∨ k = 17 ∨ k = 18 ∨ k = 19 ∨ k = 20 ∨ k = 21 ∨ k = 22 ∨ k = 23 ∨ k = 24 ∨ k = 25 ∨ k = 26 ∨ k = 27 ∨ k = 28 ∨ k = 29 ∨ k = 30 ∨ k = 31 ∨ k = 32 ∨ k = 33 ∨ k = 34 ∨ k = 35 ∨ k = 36 := by omega
    all_goals simp [shp, za, a1, b1, c1, d1, e1, f1, g1, sa0, sa1, sa2, sa3, sa4, sa5, sa6, sa7, sb0, sb1, sb2, sb3, sb4, sb5, sb6, sb7, c5a, c5b, c5c, c5d, d5a, d5b, e5a, e5b, f5a, f5b, f5c, f5d, g5a, g5b, hS]
  · rw [g1 k (by omega), za_n _ _ (by omega), f1 k (by omega), za_n _ _ (by omega), e1 k (by omega), za_n _ _ (by omega), d1 k (by omega), za_n _ _ (by omega), c1 k (by omega), za_n _ _ (by omega), za_n _ _ (by omega), b1 k (by omega), za_n _ _ (by omega), a1 k (by omega), za_n _ _ (by omega)]
    exact hS1 k (by omega)
  · unfold rfp at hr ⊢
    split at hr
    all_goals first | (exfalso; omega) | (exact absurd rfl hr) | simp [zp, za, a3, b3, c2, d2, e2, f2, g2, ra1, ra2, ra3, ra4, ra5, ra6, ra7, rb1, rb2, rb3, rb4, rb5, rb6, rb7, c5e, c5f, c5g, c5h, d5c, d5d, e5c, e5d, f5e, f5f, f5g, f5h, g5c, g5d]
  · simp [zp, za, a3, b3, c2, d2, e2, f2, g2]
  · have e : ∀ k, k < 9 → V7 k = V1 k := fun k hk => by rw [g3 k (by omega), zp_n _ _ (by omega), f3 k (by omega), zp_n _ _ (by omega), e3 k (by omega), zp_n _ _ (by omega), d3 k (by omega), zp_n _ _ (by omega), c3 k (by omega), zp_n _ _ (by omega), zp_n _ _ (by omega), b4 k (by omega), zp_n _ _ (by omega)]
    unfold nwS at a5 ⊢
    simp only [e 1 (by omega), e (1 + 1) (by omega), e (1 + 2) (by omega), e (1 + 3) (by omega), e (1 + 4) (by omega), e (1 + 5) (by omega), e (1 + 6) (by omega), e (1 + 7) (by omega)]
    exact a5
  · rw [g3 18 (by omega), zp_n _ _ (by omega), f3 18 (by omega), zp_n _ _ (by omega), e3 18 (by omega), zp_n _ _ (by omega), d3 18 (by omega), zp_n _ _ (by omega)]; exact c5i
  · rw [g3 19 (by omega), zp_n _ _ (by omega), f3 19 (by omega), zp_n _ _ (by omega), e3 19 (by omega), zp_n _ _ (by omega), d3 19 (by omega), zp_n _ _ (by omega)]; exact c4 19 (by omega) (by omega)
  · rw [g3 27 (by omega), zp_n _ _ (by omega), f3 27 (by omega), zp_n _ _ (by omega)]; exact e4 27 (by omega) (by omega)
  · rw [g3 28 (by omega), zp_n _ _ (by omega), f3 28 (by omega), zp_n _ _ (by omega)]; exact e4 28 (by omega) (by omega)
  · rw [g3 30 (by omega), zp_n _ _ (by omega)]; exact f4 30 (by omega) (by omega)
