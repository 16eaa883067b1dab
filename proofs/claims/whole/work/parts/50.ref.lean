/-! the reference: what it shares with the class, what a call that asks leaves, small methods -/
/-- the reference holds what the class holds in W -/
def RI (c k len : Nat) (W V : zE) : Prop := V 37 0 = (c : Int) ∧ V 38 = W 2 ∧ V 39 = W 3 ∧ V 40 = W 5 ∧ V 41 = W 6 ∧ V 37 3 = W 1 3 ∧ V 37 4 = W 1 4 ∧ V 37 7 = W 4 0 ∧ V 37 8 = W 4 1 ∧ V 37 9 = W 4 2 ∧ V 37 10 = W 4 3 ∧ V 37 11 = (k : Int) ∧ (∀ i, i < 8 → V 42 (2 * i) = W 7 i ∧ V 42 (2 * i + 1) = W 8 i) ∧ V 37 13 = (len : Int) ∧ V 43 = W 19
def rfr (V V' : zE) : Prop := (∀ k, k ≠ 37 → ¬ (44 ≤ k ∧ k ≤ 52) → V' k = V k) ∧ ∀ j, j ≤ 14 → V' 37 j = V 37 j
theorem rfr_rf {V : zE} : rfr V V := ⟨fun _ _ _ => rfl, fun _ _ => rfl⟩
theorem rfr.trans {V V1 V2 : zE} (h : rfr V V1) (g : rfr V1 V2) : rfr V V2 := ⟨fun k a b => (g.1 k a b).trans (h.1 k a b), fun j a => (g.2 j a).trans (h.2 j a)⟩
theorem RI.go {c k len : Nat} {W V V' : zE} (h : RI c k len W V) (g : rfr V V') : RI c k len W V' := by
  obtain ⟨g1, g2⟩ := g
  unfold RI at h ⊢
  rw [g2 0 (by decide), g2 3 (by decide), g2 4 (by decide), g2 7 (by decide), g2 8 (by decide), g2 9 (by decide), g2 10 (by decide), g2 11 (by decide), g2 13 (by decide), g1 38 (by decide) (by decide), g1 39 (by decide) (by decide), g1 40 (by decide) (by decide), g1 41 (by decide) (by decide), g1 42 (by decide) (by decide), g1 43 (by decide) (by decide)]
  exact h
abbrev rQ (S : zH) (Rf : zG) (V : zE) (x : Int) : zQ := fun v S' Rf' V' => v = some (zI x) ∧ S' = S ∧ Rf' = Rf ∧ rfr V V'
theorem cm_in {n : Nat} {S : zH} {Rf : zG} {V : zE} {a b c : Int} (ha : -2147483648 ≤ a ∧ a ≤ 2147483647) (hb : -2147483648 ≤ b ∧ b ≤ 2147483647) (hc : -2147483648 ≤ c ∧ c ≤ 2147483647) : Ci 1 mX7_in [zI a, zI b, zI c] n S Rf V (if b ≤ a ∧ a ≤ c then 1 else 0) V := by
  refine ct_of (by decide) rfl (Nat.le_of_ble_eq_true rfl) ?_
  refine wa_ild0 dX7_in_0 ?_
  refine wa_ild1 dX7_in_1 ?_
  refine wa_icmp_lt 14 dX7_in_2 (by decide) (by omega) (by omega) (fun c2 => ?_) (fun c2 => ?_)
  · refine wa_iconst dX7_in_14 ?_
    exact wa_breturn dX7_in_15 rfl rfl (Nat.le_refl _) (by first | exact Or.inl rfl | exact Or.inr rfl | (split <;> simp)) (by refine ⟨?_, rfl, rfl, rfl⟩; first | rw [if_pos (by omega)] | rw [if_neg (by omega)])
  · refine wa_ild0 dX7_in_5 ?_
    refine wa_ild2 dX7_in_6 ?_
    refine wa_icmp_gt 14 dX7_in_7 (by decide) (by omega) (by omega) (fun c7 => ?_) (fun c7 => ?_)
    · refine wa_iconst dX7_in_14 ?_
      exact wa_breturn dX7_in_15 rfl rfl (Nat.le_refl _) (by first | exact Or.inl rfl | exact Or.inr rfl | (split <;> simp)) (by refine ⟨?_, rfl, rfl, rfl⟩; first | rw [if_pos (by omega)] | rw [if_neg (by omega)])
    · refine wa_iconst dX7_in_10 ?_
      refine wa_goto 15 dX7_in_11 (by decide) ?_
      exact wa_breturn dX7_in_15 rfl rfl (Nat.le_refl _) (by first | exact Or.inl rfl | exact Or.inr rfl | (split <;> simp)) (by refine ⟨?_, rfl, rfl, rfl⟩; first | rw [if_pos (by omega)] | rw [if_neg (by omega)])
theorem cm_has {n : Nat} {S : zH} {Rf : zG} {V : zE} {s w : Int} : Ci 1 mX7_has [zI s, zI w] n S Rf V (if zbit s w = 1 then 1 else 0) V := by
  refine ct_of (by decide) rfl (Nat.le_of_ble_eq_true rfl) ?_
  have hb := zbit_rg s w
  have e : zand (zshr s w) 1 = zbit s w := rfl
  refine wa_ild0 dX7_has_0 ?_
  refine wa_ild1 dX7_has_1 ?_
  refine wa_ishr dX7_has_2 ?_
  refine wa_iconst dX7_has_3 ?_
  refine wa_iand dX7_has_4 ?_
  rw [e]
  refine wa_iconst dX7_has_5 ?_
  refine wa_icmp_ne 13 dX7_has_6 (by decide) (by omega) (by omega) (fun c6 => ?_) (fun c6 => ?_)
  · refine wa_iconst dX7_has_13 ?_
    exact wa_breturn dX7_has_14 rfl rfl (Nat.le_refl _) (by first | exact Or.inl rfl | exact Or.inr rfl | (split <;> simp)) (by refine ⟨?_, rfl, rfl, rfl⟩; first | rw [if_pos (by omega)] | rw [if_neg (by omega)])
  · refine wa_iconst dX7_has_9 ?_
    refine wa_goto 14 dX7_has_10 (by decide) ?_
    exact wa_breturn dX7_has_14 rfl rfl (Nat.le_refl _) (by first | exact Or.inl rfl | exact Or.inr rfl | (split <;> simp)) (by refine ⟨?_, rfl, rfl, rfl⟩; first | rw [if_pos (by omega)] | rw [if_neg (by omega)])
theorem cm_less {n : Nat} {S : zH} {Rf : zG} {V : zE} {a b : Int} (ha : -2147483648 ≤ a ∧ a ≤ 2147483647) (hb : 0 ≤ b ∧ b ≤ 2147483647) : Ci 1 mX7_less [zI a, zI b] n S Rf V (max 0 (a - b)) V := by
  refine ct_of (by decide) rfl (Nat.le_of_ble_eq_true rfl) ?_
  refine wa_ild0 dX7_less_0 ?_
  refine wa_ild1 dX7_less_1 ?_
  refine wa_icmp_le 11 dX7_less_2 (by decide) (by omega) (by omega) (fun c2 => ?_) (fun c2 => ?_)
  · refine wa_iconst dX7_less_11 ?_
    exact wa_ireturn dX7_less_12 rfl rfl (Nat.le_refl _) (by refine ⟨?_, rfl, rfl, rfl⟩; first | rw [Int.max_eq_right (by omega)] | rw [Int.max_eq_left (by omega)])
  · refine wa_ild0 dX7_less_5 ?_
    refine wa_ild1 dX7_less_6 ?_
    refine wa_isub dX7_less_7 ?_
    refine wa_goto 12 dX7_less_8 (by decide) ?_
    exact wa_ireturn dX7_less_12 rfl rfl (Nat.le_refl _) (by refine ⟨?_, rfl, rfl, rfl⟩; first | rw [Int.max_eq_right (by omega)] | rw [Int.max_eq_left (by omega)])
theorem cm_isGarden {n : Nat} {S : zH} {Rf : zG} {V : zE} {c : Nat} {g : Int} (hL : Lay S Rf) (hc : V 37 0 = (c : Int)) (h8 : c ≤ 8) (hg : -2147483648 ≤ g ∧ g ≤ 2147483647) : Ci 2 mX7_isGarden [zR 37, zI g] n S Rf V (if 0 ≤ g ∧ g < c then 1 else 0) V := by
  refine ct_of (by decide) rfl (Nat.le_of_ble_eq_true rfl) ?_
  refine wa_ild1 dX7_isGarden_0 ?_
  refine wa_iconst dX7_isGarden_1 ?_
  refine wa_ald0 dX7_isGarden_2 ?_
  refine gX7_7 dX7_isGarden_3 rfl (by first | assumption | exact hL.1 _ (by decide)) ?_
  refine wa_iconst dX7_isGarden_6 ?_
  refine wa_isub dX7_isGarden_7 ?_
  rw [hc]
  refine kX7_91 dX7_isGarden_8 rfl (cm_in hg (by decide) (by omega)) (by decide) (Nat.le_of_ble_eq_true rfl) ⟨Nat.le_refl _, Nat.le_refl _⟩ (zdI ?_)
  exact wa_breturn dX7_isGarden_11 rfl rfl (Nat.le_refl _) (by first | exact Or.inl rfl | exact Or.inr rfl | (split <;> simp)) (by refine ⟨?_, rfl, rfl, rfl⟩; congr 2; by_cases h : 0 ≤ g ∧ g < (c : Int); rw [if_pos h, if_pos (by omega)]; rw [if_neg h, if_neg (by omega)])
def asV (V : zE) : zE := zp (zp (zp (zp V 37 (za (za (za (za (za (V 37) 19 (V 37 3)) 20 (V 37 4)) 21 (V 37 7)) 22 (V 37 8)) 23 (V 37 9))) 44 (V 38)) 46 (V 40)) 47 (V 41)
theorem cm_asNow {n : Nat} {S : zH} {Rf : zG} {V : zE} (hL : Lay S Rf) : Cv 1 mX7_asNow [zR 37] n S Rf V (asV V) := by
  refine ct_of (by decide) rfl (Nat.le_of_ble_eq_true rfl) ?_
  have loop2 : ∀ (m i : Nat) (V1 : zE) (f : Nat → Int), i + m = 64 → (∀ j, j < i → f j = V1 41 j) → zp V1 47 (V1 41) = asV V → Wa zXn mX7_asNow (zrm 1 0 0) (zZm (qN S Rf (asV V)) (n + 0) 0 0) 0 0 n S 80 [some (zR 37), some (zI (i : Int))] [] Rf (zp V1 47 f) := by
    intro m
    induction m with
    | zero =>
      intro i V1 f hi hf he
      refine wa_row (hL.1 47 (by decide)) (V1 41) (fun j hj => by rw [zp_s]; exact hf j (by omega)) ?_
      rw [zp_zp]
      refine wa_ild1 dX7_asNow_80 ?_
      refine wa_bipush dX7_asNow_81 (by decide) ?_
      refine wa_icmp_ge 104 dX7_asNow_83 (by decide) (by omega) (by omega) (fun c83 => ?_) (fun c83 => ?_)
      · exact wa_return dX7_asNow_104 rfl rfl (Nat.le_refl _) (by exact ⟨rfl, rfl, rfl, he⟩)
      · exact absurd c83 (by omega)
    | succ m ih =>
      intro i V1 f hi hf he
      refine wa_ild1 dX7_asNow_80 ?_
      refine wa_bipush dX7_asNow_81 (by decide) ?_
      refine wa_icmp_ge 104 dX7_asNow_83 (by decide) (by omega) (by omega) (fun c83 => ?_) (fun c83 => ?_)
      · exact absurd c83 (by omega)
      · refine wa_ald0 dX7_asNow_86 ?_
        refine gX7_53 dX7_asNow_87 rfl (by first | assumption | exact hL.1 _ (by decide)) (by first | assumption | exact hL.2 _ _ (by decide)) ?_
        refine wa_ild1 dX7_asNow_90 ?_
        refine wa_ald0 dX7_asNow_91 ?_
        refine gX7_23 dX7_asNow_92 rfl (by first | assumption | exact hL.1 _ (by decide)) (by first | assumption | exact hL.2 _ _ (by decide)) ?_
        refine wa_ild1 dX7_asNow_95 ?_
        refine wa_iaload dX7_asNow_96 (by first | assumption | exact hL.1 _ (by decide)) (by omega) (by first | decide | omega) ?_
        refine wa_iastore dX7_asNow_97 (by first | assumption | exact hL.1 _ (by decide)) (by omega) (by first | decide | omega) ?_
        refine wa_iinc1 dX7_asNow_98 (by decide) rfl ?_
        refine wa_goto 80 dX7_asNow_101 (by decide) ?_
        rw [zp_zp, zp_s, zp_n _ _ (show (41 : Nat) ≠ 47 by decide), Int.toNat_natCast]
        exact ih (i + 1) V1 (za f i (V1 41 i)) (by omega) (fun j hj => by by_cases h : j = i; subst h; rw [za_s]; rw [za_n _ _ h]; exact hf j (by omega)) he
  have loop1 : ∀ (m i : Nat) (V1 : zE) (f h : Nat → Int), i + m = 8 → (∀ j, j < i → f j = V1 38 j) → (∀ j, j < i → h j = V1 40 j) → zp (zp (zp V1 44 (V1 38)) 46 (V1 40)) 47 (V1 41) = asV V → Wa zXn mX7_asNow (zrm 1 0 0) (zZm (qN S Rf (asV V)) (n + 0) 0 0) 0 0 n S 42 [some (zR 37), some (zI (i : Int))] [] Rf (zp (zp V1 44 f) 46 h) := by
    intro m
    induction m with
    | zero =>
      intro i V1 f h hi hf hh he
      refine wa_row (hL.1 46 (by decide)) (V1 40) (fun j hj => by rw [zp_s]; exact hh j (by omega)) ?_
      rw [zp_zp]
      refine wa_row (hL.1 44 (by decide)) (V1 38) (fun j hj => by rw [zp_n _ _ (by decide), zp_s]; exact hf j (by omega)) ?_
      rw [zp_comm _ _ _ (show (46 : Nat) ≠ 44 by decide), zp_zp]
      refine wa_ild1 dX7_asNow_42 ?_
      refine wa_bipush dX7_asNow_43 (by decide) ?_
      refine wa_icmp_ge 78 dX7_asNow_45 (by decide) (by omega) (by omega) (fun c45 => ?_) (fun c45 => ?_)
      · refine wa_iconst dX7_asNow_78 ?_
        refine wa_ist1 dX7_asNow_79 (by decide) rfl ?_
        refine wa_eqV (zp_self _ 47).symm ?_
        exact loop2 64 0 _ _ (by omega) (fun j hj => absurd hj (by omega)) (by rw [zp_n _ _ (by decide), zp_n _ _ (by decide)]; exact he)
      · exact absurd c45 (by omega)
    | succ m ih =>
      intro i V1 f h hi hf hh he
      refine wa_ild1 dX7_asNow_42 ?_
      refine wa_bipush dX7_asNow_43 (by decide) ?_
      refine wa_icmp_ge 78 dX7_asNow_45 (by decide) (by omega) (by omega) (fun c45 => ?_) (fun c45 => ?_)
      · exact absurd c45 (by omega)
      · refine wa_ald0 dX7_asNow_48 ?_
        refine gX7_44 dX7_asNow_49 rfl (by first | assumption | exact hL.1 _ (by decide)) (by first | assumption | exact hL.2 _ _ (by decide)) ?_
        refine wa_ild1 dX7_asNow_52 ?_
        refine wa_ald0 dX7_asNow_53 ?_
        refine gX7_13 dX7_asNow_54 rfl (by first | assumption | exact hL.1 _ (by decide)) (by first | assumption | exact hL.2 _ _ (by decide)) ?_
        refine wa_ild1 dX7_asNow_57 ?_
        refine wa_iaload dX7_asNow_58 (by first | assumption | exact hL.1 _ (by decide)) (by omega) (by first | decide | omega) ?_
        refine wa_iastore dX7_asNow_59 (by first | assumption | exact hL.1 _ (by decide)) (by omega) (by first | decide | omega) ?_
        refine wa_ald0 dX7_asNow_60 ?_
        refine gX7_50 dX7_asNow_61 rfl (by first | assumption | exact hL.1 _ (by decide)) (by first | assumption | exact hL.2 _ _ (by decide)) ?_
        refine wa_ild1 dX7_asNow_64 ?_
        refine wa_ald0 dX7_asNow_65 ?_
        refine gX7_20 dX7_asNow_66 rfl (by first | assumption | exact hL.1 _ (by decide)) (by first | assumption | exact hL.2 _ _ (by decide)) ?_
        refine wa_ild1 dX7_asNow_69 ?_
        refine wa_iaload dX7_asNow_70 (by first | assumption | exact hL.1 _ (by decide)) (by omega) (by first | decide | omega) ?_
        refine wa_iastore dX7_asNow_71 (by first | assumption | exact hL.1 _ (by decide)) (by omega) (by first | decide | omega) ?_
        refine wa_iinc1 dX7_asNow_72 (by decide) rfl ?_
        refine wa_goto 42 dX7_asNow_75 (by decide) ?_
        refine wa_eqV (V' := zp (zp V1 44 (za f i (V1 38 i))) 46 (za h i (V1 40 i))) ?_ (ih (i + 1) V1 _ _ (by omega) (fun j hj => by by_cases h : j = i; subst h; rw [za_s]; rw [za_n _ _ h]; exact hf j (by omega)) (fun j hj => by by_cases h : j = i; subst h; rw [za_s]; rw [za_n _ _ h]; exact hh j (by omega)) he)
        rw [Int.toNat_natCast, zp_comm _ _ _ (show (46 : Nat) ≠ 44 by decide), zp_zp]
        simp only [zp_s, zp_n _ _ (show (44 : Nat) ≠ 46 by decide), zp_n _ _ (show (46 : Nat) ≠ 44 by decide), zp_n _ _ (show (38 : Nat) ≠ 44 by decide), zp_n _ _ (show (38 : Nat) ≠ 46 by decide), zp_n _ _ (show (40 : Nat) ≠ 44 by decide), zp_n _ _ (show (40 : Nat) ≠ 46 by decide), zp_zp]
  refine wa_ald0 dX7_asNow_0 ?_
  refine wa_ald0 dX7_asNow_1 ?_
  refine gX7_82 dX7_asNow_2 rfl (by first | assumption | exact hL.1 _ (by decide)) ?_
  refine pX7_106 dX7_asNow_5 rfl (by first | assumption | exact hL.1 _ (by decide)) ?_
  refine wa_ald0 dX7_asNow_8 ?_
  refine wa_ald0 dX7_asNow_9 ?_
  refine gX7_85 dX7_asNow_10 rfl (by first | assumption | exact hL.1 _ (by decide)) ?_
  refine pX7_109 dX7_asNow_13 rfl (by first | assumption | exact hL.1 _ (by decide)) ?_
  refine wa_ald0 dX7_asNow_16 ?_
  refine wa_ald0 dX7_asNow_17 ?_
  refine gX7_26 dX7_asNow_18 rfl (by first | assumption | exact hL.1 _ (by decide)) ?_
  refine pX7_112 dX7_asNow_21 rfl (by first | assumption | exact hL.1 _ (by decide)) ?_
  refine wa_ald0 dX7_asNow_24 ?_
  refine wa_ald0 dX7_asNow_25 ?_
  refine gX7_29 dX7_asNow_26 rfl (by first | assumption | exact hL.1 _ (by decide)) ?_
  refine pX7_115 dX7_asNow_29 rfl (by first | assumption | exact hL.1 _ (by decide)) ?_
  refine wa_ald0 dX7_asNow_32 ?_
  refine wa_ald0 dX7_asNow_33 ?_
  refine gX7_32 dX7_asNow_34 rfl (by first | assumption | exact hL.1 _ (by decide)) ?_
  refine pX7_118 dX7_asNow_37 rfl (by first | assumption | exact hL.1 _ (by decide)) ?_
  refine wa_iconst dX7_asNow_40 ?_
  refine wa_ist1 dX7_asNow_41 (by decide) rfl ?_
  refine wa_eqV (V' := zp V 37 (za (za (za (za (za (V 37) 19 (V 37 3)) 20 (V 37 4)) 21 (V 37 7)) 22 (V 37 8)) 23 (V 37 9))) ?_ ?_
  · simp (decide := true) only [zp_zp, zp_s, za_n, ne_eq]
  · have hh := loop1 8 0 (zp V 37 (za (za (za (za (za (V 37) 19 (V 37 3)) 20 (V 37 4)) 21 (V 37 7)) 22 (V 37 8)) 23 (V 37 9))) (zp V 37 (za (za (za (za (za (V 37) 19 (V 37 3)) 20 (V 37 4)) 21 (V 37 7)) 22 (V 37 8)) 23 (V 37 9)) 44) (zp V 37 (za (za (za (za (za (V 37) 19 (V 37 3)) 20 (V 37 4)) 21 (V 37 7)) 22 (V 37 8)) 23 (V 37 9)) 46) (by omega) (fun j hj => absurd hj (by omega)) (fun j hj => absurd hj (by omega)) (by unfold asV; simp only [zp_n _ _ (show (38 : Nat) ≠ 37 by decide), zp_n _ _ (show (40 : Nat) ≠ 37 by decide), zp_n _ _ (show (41 : Nat) ≠ 37 by decide)])
    rw [zp_self, zp_self] at hh
    exact hh
