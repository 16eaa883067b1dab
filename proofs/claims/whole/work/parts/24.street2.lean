/-! Street: the rest -/
section
variable {X : zXt} {μ : zM} {R : Room} {Z : zZt} {ce sl n : Nat} {S : zH} {pc : Nat} {L : List (Option zV)} {st : List zV} {Rf : zG} {V : zE}
/-- of an object only its whole numbers count -/
theorem wa_obj {k ci : Nat} (hS : S k = some (.inr ci)) (f : Nat → Int) (hf : ∀ j, j < zNf ci → zT ci j = .int → V k j = f j) (kk : Wa X μ R Z ce sl n S pc L st Rf (zp V k f)) : Wa X μ R Z ce sl n S pc L st Rf V := by
  refine wa_cells (Rf' := Rf) (V' := zp V k f) (fun cy base q _ => ?_) kk
  by_cases h : q = k
  · subst h
    rw [zp_s, hS]
    simp only [zc]
    congr 2
    refine List.map_congr_left (fun j hj => ?_)
    have hj' := List.mem_range.mp hj
    unfold zf
    split
    · next h1 => rw [hf j hj' h1]
    · rfl
  · rw [zp_n _ _ h]
end
theorem ct_clearSnow {n : Nat} {S : zH} {Rf : zG} {V : zE} {r : Nat} (hr : isStr S Rf r) (hs : ∀ j, -2147483648 ≤ V (r + 4) j ∧ V (r + 4) j ≤ 2147483647) :
    Cv 4 mX4_clearSnow [zR r] n S Rf V (forgV r (zp V (r + 1) (fun _ => 0))) := by
  have hr' := hr
  obtain ⟨s0, s1, s2, s3, s4, s5, s6, s7, r1, r2, r3, r4, r5, r6, r7⟩ := hr
  refine ct_of (by decide) rfl (Nat.le_of_ble_eq_true rfl) ?_
  refine wa_ald0 dX4_clearSnow_0 ?_
  refine gX4_9 dX4_clearSnow_1 rfl (by first | assumption | exact hL.1 _ (by decide)) (by first | assumption | exact hL.2 _ _ (by decide)) ?_
  refine wa_iconst dX4_clearSnow_4 ?_
  refine kX4_41 dX4_clearSnow_5 rfl (ct_fill s1 (by decide)) (by decide) (Nat.le_of_ble_eq_true rfl) ⟨Nat.le_refl _, Nat.le_refl _⟩ (zdN ?_)
  refine wa_ald0 dX4_clearSnow_8 ?_
  refine kX4_59 dX4_clearSnow_9 rfl (by first | assumption | exact hL.1 _ (by decide)) (ct_forgetWords hr' (fun j => by rw [zp_n _ _ (by omega)]; exact hs j)) (by decide) (Nat.le_of_ble_eq_true rfl) ⟨Nat.le_refl _, Nat.le_refl _⟩ (zdN ?_)
  exact wa_return dX4_clearSnow_12 rfl rfl (Nat.le_refl _) (by exact ⟨rfl, rfl, rfl, rfl⟩)
def begV (r : Nat) (m : Int) (V : zE) : zE := forgV r (zp (zp (zp V (r + 2) (fun _ => 20)) r (za (za (za (za (V r) 0 m) 3 0) 4 0) 8 0)) (r + 1) (fun _ => 0))
theorem ct_begin {n : Nat} {S : zH} {Rf : zG} {V : zE} {r : Nat} {m : Int} (hr : isStr S Rf r) (hs : ∀ j, -2147483648 ≤ V (r + 4) j ∧ V (r + 4) j ≤ 2147483647) :
    Cv 5 mX4_begin [zR r, zI m] n S Rf V (begV r m V) := by
  have hr' := hr
  obtain ⟨s0, s1, s2, s3, s4, s5, s6, s7, r1, r2, r3, r4, r5, r6, r7⟩ := hr
  refine ct_of (by decide) rfl (Nat.le_of_ble_eq_true rfl) ?_
  have e : zp (zp (zp (zp (zp V r (za (V r) 0 m)) (r + 2) (fun _ => 20)) r (za (zp (zp V r (za (V r) 0 m)) (r + 2) (fun _ => 20) r) 3 0)) r (za (zp (zp (zp V r (za (V r) 0 m)) (r + 2) (fun _ => 20)) r (za (zp (zp V r (za (V r) 0 m)) (r + 2) (fun _ => 20) r) 3 0) r) 4 0)) r (za (zp (zp (zp (zp V r (za (V r) 0 m)) (r + 2) (fun _ => 20)) r (za (zp (zp V r (za (V r) 0 m)) (r + 2) (fun _ => 20) r) 3 0)) r (za (zp (zp (zp V r (za (V r) 0 m)) (r + 2) (fun _ => 20)) r (za (zp (zp V r (za (V r) 0 m)) (r + 2) (fun _ => 20) r) 3 0) r) 4 0) r) 8 0) = zp (zp V (r + 2) (fun _ => 20)) r (za (za (za (za (V r) 0 m) 3 0) 4 0) 8 0) := by
    simp only [zp_zp, zp_s, zp_n _ _ (show r ≠ r + 2 by omega)]
    rw [zp_comm _ _ _ (show r + 2 ≠ r by omega), zp_zp, zp_comm _ _ _ (show r ≠ r + 2 by omega)]
  refine wa_ald0 dX4_begin_0 ?_
  refine wa_ild1 dX4_begin_1 ?_
  refine pX4_37 dX4_begin_2 rfl (by first | assumption | exact hL.1 _ (by decide)) ?_
  refine wa_ald0 dX4_begin_5 ?_
  refine gX4_15 dX4_begin_6 rfl (by first | assumption | exact hL.1 _ (by decide)) (by first | assumption | exact hL.2 _ _ (by decide)) ?_
  refine wa_bipush dX4_begin_9 (by decide) ?_
  refine kX4_41 dX4_begin_11 rfl (ct_fill s2 (by decide)) (by decide) (Nat.le_of_ble_eq_true rfl) ⟨Nat.le_refl _, Nat.le_refl _⟩ (zdN ?_)
  refine wa_ald0 dX4_begin_14 ?_
  refine wa_iconst dX4_begin_15 ?_
  refine pX4_47 dX4_begin_16 rfl (by first | assumption | exact hL.1 _ (by decide)) ?_
  refine wa_ald0 dX4_begin_19 ?_
  refine wa_iconst dX4_begin_20 ?_
  refine pX4_50 dX4_begin_21 rfl (by first | assumption | exact hL.1 _ (by decide)) ?_
  refine wa_ald0 dX4_begin_24 ?_
  refine wa_iconst dX4_begin_25 ?_
  refine pX4_53 dX4_begin_26 rfl (by first | assumption | exact hL.1 _ (by decide)) ?_
  refine wa_eqV e ?_
  refine wa_ald0 dX4_begin_29 ?_
  refine kX4_56 dX4_begin_30 rfl (by first | assumption | exact hL.1 _ (by decide)) (ct_clearSnow hr' (fun j => by rw [zp_n _ _ (by omega), zp_n _ _ (by omega)]; exact hs j)) (by decide) (Nat.le_of_ble_eq_true rfl) ⟨Nat.le_refl _, Nat.le_refl _⟩ (zdN ?_)
  exact wa_return dX4_begin_33 rfl rfl (Nat.le_refl _) (by exact ⟨rfl, rfl, rfl, rfl⟩)
/-- the largest of a row, and the first place of it -/
def msF (f : Nat → Int) : Nat → Int × Int
  | 0 => (0, -6)
  | m + 1 => if (msF f m).1 < f m then (f m, (m : Int)) else msF f m
theorem msF_rg {f : Nat → Int} (hf : ∀ j, -2147483648 ≤ f j ∧ f j ≤ 2147483647) (m : Nat) : -2147483648 ≤ (msF f m).1 ∧ (msF f m).1 ≤ 2147483647 := by
  induction m with
  | zero => unfold msF; decide
  | succ m ih => unfold msF; split; exact hf m; exact ih
theorem ct_mostSaidOf {n : Nat} {S : zH} {Rf : zG} {V : zE} {r c g : Nat} (hr : isStr S Rf r) (hc : V r 0 = (c : Int)) (h2 : 2 ≤ c) (h8 : c ≤ 8) (hg : g < c) (hf : ∀ j, -2147483648 ≤ V (r + 5) j ∧ V (r + 5) j ≤ 2147483647) :
    Ci 2 mX4_mostSaidOf [zR r, zI (g : Int)] n S Rf V (msF (fun i => V (r + 5) (8 * g + i)) c).2 V := by
  have hr' := hr
  obtain ⟨s0, s1, s2, s3, s4, s5, s6, s7, r1, r2, r3, r4, r5, r6, r7⟩ := hr
  refine ct_of (by decide) rfl (Nat.le_of_ble_eq_true rfl) ?_
  have loop : ∀ (m i : Nat), i + m = c → Wa zXn mX4_mostSaidOf (zrm 2 0 0) (zZm (qI (msF (fun i => V (r + 5) (8 * g + i)) c).2 S Rf V) (n + 0) 0 0) 0 0 n S 19 [some (zR r), some (zI (g : Int)), some (zI (msF (fun i => V (r + 5) (8 * g + i)) i).1), some (zI (msF (fun i => V (r + 5) (8 * g + i)) i).2), some (zI (i : Int))] [] Rf V := by
    intro m
    induction m with
    | zero =>
      intro i hi
      obtain rfl : i = c := by omega
      refine wa_ild4 dX4_mostSaidOf_19 ?_
      refine wa_ald0 dX4_mostSaidOf_21 ?_
      refine gX4_37 dX4_mostSaidOf_22 rfl (by first | assumption | exact hL.1 _ (by decide)) ?_
      refine wa_icmp_ge 73 dX4_mostSaidOf_25 (by decide) (by omega) (by omega) (fun c25 => ?_) (fun c25 => ?_)
      · refine wa_ild3 dX4_mostSaidOf_73 ?_
        exact wa_ireturn dX4_mostSaidOf_74 rfl rfl (Nat.le_refl _) (by exact ⟨rfl, rfl, rfl, rfl⟩)
      · exact absurd c25 (by omega)
    | succ m ih =>
      intro i hi
      have e1 := ih (i + 1) (by omega)
      have hr1 := msF_rg (f := fun i => V (r + 5) (8 * g + i)) (fun j => hf _) i
      have hfi := hf (8 * g + i)
      have ti : ((g : Int) * 8 + (i : Int)).toNat = 8 * g + i := by omega
      rw [msF] at e1
      refine wa_ild4 dX4_mostSaidOf_19 ?_
      refine wa_ald0 dX4_mostSaidOf_21 ?_
      refine gX4_37 dX4_mostSaidOf_22 rfl (by first | assumption | exact hL.1 _ (by decide)) ?_
      refine wa_icmp_ge 73 dX4_mostSaidOf_25 (by decide) (by first | omega | (simp only [ti]; omega) | exact hr1) (by first | omega | (simp only [ti]; omega) | exact hr1) (fun c25 => ?_) (fun c25 => ?_)
      · exact absurd c25 (by omega)
      · refine wa_ild4 dX4_mostSaidOf_28 ?_
        refine wa_bipush dX4_mostSaidOf_30 (by decide) ?_
        refine wa_icmp_ge 73 dX4_mostSaidOf_32 (by decide) (by first | omega | (simp only [ti]; omega) | exact hr1) (by first | omega | (simp only [ti]; omega) | exact hr1) (fun c32 => ?_) (fun c32 => ?_)
        · exact absurd c32 (by omega)
        · refine wa_ald0 dX4_mostSaidOf_35 ?_
          refine gX4_24 dX4_mostSaidOf_36 rfl (by first | assumption | exact hL.1 _ (by decide)) (by first | assumption | exact hL.2 _ _ (by decide)) ?_
          refine wa_ild1 dX4_mostSaidOf_39 ?_
          refine wa_bipush dX4_mostSaidOf_40 (by decide) ?_
          refine wa_imul dX4_mostSaidOf_42 ?_
          refine wa_ild4 dX4_mostSaidOf_43 ?_
          refine wa_iadd dX4_mostSaidOf_45 ?_
          refine wa_iaload dX4_mostSaidOf_46 (by first | assumption | exact hL.1 _ (by decide)) (by first | omega | (simp only [ti]; omega) | exact hr1) (by first | decide | omega) ?_
          refine wa_ild2 dX4_mostSaidOf_47 ?_
          refine wa_icmp_le 67 dX4_mostSaidOf_48 (by decide) (by first | omega | (simp only [ti]; omega) | exact hr1) (by first | omega | (simp only [ti]; omega) | exact hr1) (fun c48 => ?_) (fun c48 => ?_)
          · refine wa_iinc4 dX4_mostSaidOf_67 (by decide) rfl ?_
            refine wa_goto 19 dX4_mostSaidOf_70 (by decide) ?_
            simp only [ti] at c48 ⊢
            first | rw [if_pos c48] at e1 | rw [if_neg (Int.not_lt.mpr c48)] at e1
            exact e1
          · refine wa_ald0 dX4_mostSaidOf_51 ?_
            refine gX4_24 dX4_mostSaidOf_52 rfl (by first | assumption | exact hL.1 _ (by decide)) (by first | assumption | exact hL.2 _ _ (by decide)) ?_
            refine wa_ild1 dX4_mostSaidOf_55 ?_
            refine wa_bipush dX4_mostSaidOf_56 (by decide) ?_
            refine wa_imul dX4_mostSaidOf_58 ?_
            refine wa_ild4 dX4_mostSaidOf_59 ?_
            refine wa_iadd dX4_mostSaidOf_61 ?_
            refine wa_iaload dX4_mostSaidOf_62 (by first | assumption | exact hL.1 _ (by decide)) (by first | omega | (simp only [ti]; omega) | exact hr1) (by first | decide | omega) ?_
            refine wa_ist2 dX4_mostSaidOf_63 (by decide) rfl ?_
            refine wa_ild4 dX4_mostSaidOf_64 ?_
            refine wa_ist3 dX4_mostSaidOf_66 (by decide) rfl ?_
            refine wa_iinc4 dX4_mostSaidOf_67 (by decide) rfl ?_
            refine wa_goto 19 dX4_mostSaidOf_70 (by decide) ?_
            simp only [ti] at c48 ⊢
            first | rw [if_pos c48] at e1 | rw [if_neg (Int.not_lt.mpr c48)] at e1
            exact e1
  refine wa_ald0 dX4_mostSaidOf_0 ?_
  refine wa_ild1 dX4_mostSaidOf_1 ?_
  refine kX4_71 dX4_mostSaidOf_2 rfl (by first | assumption | exact hL.1 _ (by decide)) (ct_has hr' (by omega) (by omega)) (by decide) (Nat.le_of_ble_eq_true rfl) ⟨Nat.le_refl _, Nat.le_refl _⟩ (zdI ?_)
  refine wa_ifne_B 11 dX4_mostSaidOf_5 (by decide) (fun c5 => ?_) (fun c5 => ?_)
  · refine wa_iconst dX4_mostSaidOf_11 ?_
    refine wa_ist2 dX4_mostSaidOf_12 (by decide) rfl ?_
    refine wa_bipush dX4_mostSaidOf_13 (by decide) ?_
    refine wa_ist3 dX4_mostSaidOf_15 (by decide) rfl ?_
    refine wa_iconst dX4_mostSaidOf_16 ?_
    refine wa_ist4 dX4_mostSaidOf_17 (by decide) rfl ?_
    exact loop c 0 (by omega)
  · exact absurd (by omega) c5
theorem ct_bears {n : Nat} {S : zH} {Rf : zG} {V : zE} {r c : Nat} {g l : Int} (hr : isStr S Rf r) (hc : V r 0 = (c : Int)) (h2 : 2 ≤ c) (h8 : c ≤ 8) (hg : 0 ≤ g ∧ g < c) (hl : 0 ≤ l ∧ l ≤ 12) (hd : ∀ j, 0 ≤ V (r + 1) j ∧ V (r + 1) j ≤ 100000) (hf : ∀ j, 0 ≤ V (r + 2) j ∧ V (r + 2) j ≤ 100000) (hu : ∀ j, 0 ≤ V (r + 3) j ∧ V (r + 3) j ≤ 9) :
    Ci 2 mX4_bears [zR r, zI g, zI l] n S Rf V (if zbit (V r 3) g = 0 ∧ V (r + 1) g.toNat + l * V (r + 3) 1 ≤ V (r + 2) g.toNat then 1 else 0) V := by
  have hr' := hr
  obtain ⟨s0, s1, s2, s3, s4, s5, s6, s7, r1, r2, r3, r4, r5, r6, r7⟩ := hr
  have hb := zbit_rg (V r 3) g
  have hz : zbit (V r 3) g = zand (zshr (V r 3) g) 1 := rfl
  have h1 : l * V (r + 3) (Int.toNat 1) = l * V (r + 3) 1 := rfl
  have hdg := hd g.toNat
  have hfg := hf g.toNat
  have hu1 := hu 1
  have hm : 0 ≤ l * V (r + 3) 1 ∧ l * V (r + 3) 1 ≤ 108 := ⟨Int.mul_nonneg hl.1 hu1.1, by have := Int.mul_le_mul hl.2 hu1.2 hu1.1 (by decide : (0:Int) ≤ 12); omega⟩
  refine ct_of (by decide) rfl (Nat.le_of_ble_eq_true rfl) ?_
  refine wa_ald0 dX4_bears_0 ?_
  refine wa_ild1 dX4_bears_1 ?_
  refine kX4_71 dX4_bears_2 rfl (by first | assumption | exact hL.1 _ (by decide)) (ct_has hr' (by omega) (by omega)) (by decide) (Nat.le_of_ble_eq_true rfl) ⟨Nat.le_refl _, Nat.le_refl _⟩ (zdI ?_)
  refine wa_ifeq_B 47 dX4_bears_5 (by decide) (fun c5 => ?_) (fun c5 => ?_)
  · exact absurd (by omega) c5
  · refine wa_ald0 dX4_bears_8 ?_
    refine gX4_47 dX4_bears_9 rfl (by first | assumption | exact hL.1 _ (by decide)) ?_
    refine wa_ild1 dX4_bears_12 ?_
    refine wa_ishr dX4_bears_13 ?_
    refine wa_iconst dX4_bears_14 ?_
    refine wa_iand dX4_bears_15 ?_
    refine wa_if_ne 47 dX4_bears_16 (by decide) (by first | omega | exact hb | (show _ ≤ _ + l * V (r + 3) 1 ∧ _ + l * V (r + 3) 1 ≤ _; omega)) (fun c16 => ?_) (fun c16 => ?_)
    · refine wa_iconst dX4_bears_47 ?_
      exact wa_breturn dX4_bears_48 rfl rfl (Nat.le_refl _) (by first | exact Or.inl rfl | exact Or.inr rfl | (split <;> simp)) (by refine ⟨?_, rfl, rfl, rfl⟩; first | rw [if_pos (by omega)] | rw [if_neg (by omega)])
    · refine wa_ald0 dX4_bears_19 ?_
      refine gX4_9 dX4_bears_20 rfl (by first | assumption | exact hL.1 _ (by decide)) (by first | assumption | exact hL.2 _ _ (by decide)) ?_
      refine wa_ild1 dX4_bears_23 ?_
      refine wa_iaload dX4_bears_24 (by first | assumption | exact hL.1 _ (by decide)) (by first | omega | exact hb | (show _ ≤ _ + l * V (r + 3) 1 ∧ _ + l * V (r + 3) 1 ≤ _; omega)) (by first | decide | omega) ?_
      refine wa_ild2 dX4_bears_25 ?_
      refine wa_ald0 dX4_bears_26 ?_
      refine gX4_18 dX4_bears_27 rfl (by first | assumption | exact hL.1 _ (by decide)) (by first | assumption | exact hL.2 _ _ (by decide)) ?_
      refine wa_iconst dX4_bears_30 ?_
      refine wa_iaload dX4_bears_31 (by first | assumption | exact hL.1 _ (by decide)) (by first | omega | exact hb | (show _ ≤ _ + l * V (r + 3) 1 ∧ _ + l * V (r + 3) 1 ≤ _; omega)) (by first | decide | omega) ?_
      refine wa_imul dX4_bears_32 ?_
      refine wa_iadd dX4_bears_33 ?_
      refine wa_ald0 dX4_bears_34 ?_
      refine gX4_15 dX4_bears_35 rfl (by first | assumption | exact hL.1 _ (by decide)) (by first | assumption | exact hL.2 _ _ (by decide)) ?_
      refine wa_ild1 dX4_bears_38 ?_
      refine wa_iaload dX4_bears_39 (by first | assumption | exact hL.1 _ (by decide)) (by first | omega | exact hb | (show _ ≤ _ + l * V (r + 3) 1 ∧ _ + l * V (r + 3) 1 ≤ _; omega)) (by first | decide | omega) ?_
      refine wa_icmp_gt 47 dX4_bears_40 (by decide) (by first | omega | exact hb | (show _ ≤ _ + l * V (r + 3) 1 ∧ _ + l * V (r + 3) 1 ≤ _; omega)) (by first | omega | exact hb | (show _ ≤ _ + l * V (r + 3) 1 ∧ _ + l * V (r + 3) 1 ≤ _; omega)) (fun c40 => ?_) (fun c40 => ?_)
      · refine wa_iconst dX4_bears_47 ?_
        exact wa_breturn dX4_bears_48 rfl rfl (Nat.le_refl _) (by first | exact Or.inl rfl | exact Or.inr rfl | (split <;> simp)) (by refine ⟨?_, rfl, rfl, rfl⟩; first | rw [if_pos (by omega)] | rw [if_neg (by omega)])
      · refine wa_iconst dX4_bears_43 ?_
        refine wa_goto 48 dX4_bears_44 (by decide) ?_
        exact wa_breturn dX4_bears_48 rfl rfl (Nat.le_refl _) (by first | exact Or.inl rfl | exact Or.inr rfl | (split <;> simp)) (by refine ⟨?_, rfl, rfl, rfl⟩; first | rw [if_pos (by omega)] | rw [if_neg (by omega)])
/-- one of the first m; all of the first m -/
def anyB (p : Nat → Bool) : Nat → Bool
  | 0 => false
  | m + 1 => anyB p m || p m
def allB (p : Nat → Bool) : Nat → Bool
  | 0 => true
  | m + 1 => allB p m && p m
theorem anyB_of {p : Nat → Bool} {i m : Nat} (h : i < m) (hp : p i = true) : anyB p m = true := by
  induction m with
  | zero => omega
  | succ m ih =>
    unfold anyB
    by_cases h1 : i = m
    · subst h1; rw [hp, Bool.or_true]
    · rw [ih (by omega), Bool.true_or]
theorem allB_of {p : Nat → Bool} {i m : Nat} (h : i < m) (hp : p i = false) : allB p m = false := by
  induction m with
  | zero => omega
  | succ m ih =>
    unfold allB
    by_cases h1 : i = m
    · subst h1; rw [hp, Bool.and_false]
    · rw [ih (by omega), Bool.false_and]
theorem ct_isSeen {n : Nat} {S : zH} {Rf : zG} {V : zE} {r k : Nat} {g : Int} (hr : isStr S Rf r) (hk : V r 8 = (k : Int)) (hk8 : k ≤ 8) (hg : 0 ≤ g ∧ g < 8) (hsg : ∀ j, 0 ≤ V (r + 6) j ∧ V (r + 6) j ≤ 100) :
    Ci 1 mX4_isSeen [zR r, zI g] n S Rf V (if anyB (fun i => V (r + 6) i == g) k = true then 1 else 0) V := by
  obtain ⟨s0, s1, s2, s3, s4, s5, s6, s7, r1, r2, r3, r4, r5, r6, r7⟩ := hr
  refine ct_of (by decide) rfl (Nat.le_of_ble_eq_true rfl) ?_
  have loop : ∀ (m i : Nat), i + m = k → anyB (fun i => V (r + 6) i == g) i = false → Wa zXn mX4_isSeen (zrm 1 0 0) (zZm (qI (if anyB (fun i => V (r + 6) i == g) k = true then 1 else 0) S Rf V) (n + 0) 0 0) 0 0 n S 2 [some (zR r), some (zI g), some (zI (i : Int))] [] Rf V := by
    intro m
    induction m with
    | zero =>
      intro i hi hb
      obtain rfl : i = k := by omega
      refine wa_ild2 dX4_isSeen_2 ?_
      refine wa_ald0 dX4_isSeen_3 ?_
      refine gX4_53 dX4_isSeen_4 rfl (by first | assumption | exact hL.1 _ (by decide)) ?_
      refine wa_icmp_ge 34 dX4_isSeen_7 (by decide) (by omega) (by omega) (fun c7 => ?_) (fun c7 => ?_)
      · refine wa_iconst dX4_isSeen_34 ?_
        exact wa_breturn dX4_isSeen_35 rfl rfl (Nat.le_refl _) (by first | exact Or.inl rfl | exact Or.inr rfl | (split <;> simp)) (by exact ⟨by rw [hb]; rfl, rfl, rfl, rfl⟩)
      · exact absurd c7 (by omega)
    | succ m ih =>
      intro i hi hb
      have hsi := hsg i
      refine wa_ild2 dX4_isSeen_2 ?_
      refine wa_ald0 dX4_isSeen_3 ?_
      refine gX4_53 dX4_isSeen_4 rfl (by first | assumption | exact hL.1 _ (by decide)) ?_
      refine wa_icmp_ge 34 dX4_isSeen_7 (by decide) (by first | omega | (simp only [Int.toNat_natCast]; omega)) (by first | omega | (simp only [Int.toNat_natCast]; omega)) (fun c7 => ?_) (fun c7 => ?_)
      · exact absurd c7 (by omega)
      · refine wa_ild2 dX4_isSeen_10 ?_
        refine wa_bipush dX4_isSeen_11 (by decide) ?_
        refine wa_icmp_ge 34 dX4_isSeen_13 (by decide) (by first | omega | (simp only [Int.toNat_natCast]; omega)) (by first | omega | (simp only [Int.toNat_natCast]; omega)) (fun c13 => ?_) (fun c13 => ?_)
        · exact absurd c13 (by omega)
        · refine wa_ald0 dX4_isSeen_16 ?_
          refine gX4_27 dX4_isSeen_17 rfl (by first | assumption | exact hL.1 _ (by decide)) (by first | assumption | exact hL.2 _ _ (by decide)) ?_
          refine wa_ild2 dX4_isSeen_20 ?_
          refine wa_iaload dX4_isSeen_21 (by first | assumption | exact hL.1 _ (by decide)) (by first | omega | (simp only [Int.toNat_natCast]; omega)) (by first | decide | omega) ?_
          refine wa_ild1 dX4_isSeen_22 ?_
          refine wa_icmp_ne 28 dX4_isSeen_23 (by decide) (by first | omega | (simp only [Int.toNat_natCast]; omega)) (by first | omega | (simp only [Int.toNat_natCast]; omega)) (fun c23 => ?_) (fun c23 => ?_)
          · refine wa_iinc2 dX4_isSeen_28 (by decide) rfl ?_
            refine wa_goto 2 dX4_isSeen_31 (by decide) ?_
            exact ih (i + 1) (by omega) (by unfold anyB; rw [hb]; simpa using c23)
          · refine wa_iconst dX4_isSeen_26 ?_
            exact wa_breturn dX4_isSeen_27 rfl rfl (Nat.le_refl _) (by first | exact Or.inl rfl | exact Or.inr rfl | (split <;> simp)) (by exact ⟨by rw [anyB_of (i := i) (by omega) (by simpa using c23)]; rfl, rfl, rfl, rfl⟩)
  refine wa_iconst dX4_isSeen_0 ?_
  refine wa_ist2 dX4_isSeen_1 (by decide) rfl ?_
  exact loop k 0 (by omega) rfl
theorem ct_sightsHold {n : Nat} {S : zH} {Rf : zG} {V : zE} {r k a : Nat} (hr : isStr S Rf r) (ha : S a = some (.inl (0, 8))) (hk : V r 8 = (k : Int)) (hk8 : k ≤ 8) (hsg : ∀ j, 0 ≤ V (r + 6) j ∧ V (r + 6) j < 8) (hsd : ∀ j, 0 ≤ V (r + 7) j ∧ V (r + 7) j ≤ 100000) (hd : ∀ j, 0 ≤ V a j ∧ V a j ≤ 100000) :
    Ci 1 mX4_sightsHold [zR r, zR a] n S Rf V (if allB (fun i => V a (V (r + 6) i).toNat == V (r + 7) i) k = true then 1 else 0) V := by
  obtain ⟨s0, s1, s2, s3, s4, s5, s6, s7, r1, r2, r3, r4, r5, r6, r7⟩ := hr
  refine ct_of (by decide) rfl (Nat.le_of_ble_eq_true rfl) ?_
  have loop : ∀ (m i : Nat), i + m = k → allB (fun i => V a (V (r + 6) i).toNat == V (r + 7) i) i = true → Wa zXn mX4_sightsHold (zrm 1 0 0) (zZm (qI (if allB (fun i => V a (V (r + 6) i).toNat == V (r + 7) i) k = true then 1 else 0) S Rf V) (n + 0) 0 0) 0 0 n S 2 [some (zR r), some (zR a), some (zI (i : Int)), none] [] Rf V := by
    intro m
    induction m with
    | zero =>
      intro i hi hb
      obtain rfl : i = k := by omega
      refine wa_ild2 dX4_sightsHold_2 ?_
      refine wa_ald0 dX4_sightsHold_3 ?_
      refine gX4_53 dX4_sightsHold_4 rfl (by first | assumption | exact hL.1 _ (by decide)) ?_
      refine wa_icmp_ge 53 dX4_sightsHold_7 (by decide) (by omega) (by omega) (fun c7 => ?_) (fun c7 => ?_)
      · refine wa_iconst dX4_sightsHold_53 ?_
        exact wa_breturn dX4_sightsHold_54 rfl rfl (Nat.le_refl _) (by first | exact Or.inl rfl | exact Or.inr rfl | (split <;> simp)) (by exact ⟨by rw [hb]; rfl, rfl, rfl, rfl⟩)
      · exact absurd c7 (by omega)
    | succ m ih =>
      intro i hi hb
      have hsi := hsg i
      have hsdi := hsd i
      have hdi := hd (V (r + 6) i).toNat
      refine wa_ild2 dX4_sightsHold_2 ?_
      refine wa_ald0 dX4_sightsHold_3 ?_
      refine gX4_53 dX4_sightsHold_4 rfl (by first | assumption | exact hL.1 _ (by decide)) ?_
      refine wa_icmp_ge 53 dX4_sightsHold_7 (by decide) (by first | omega | (simp only [Int.toNat_natCast]; omega)) (by first | omega | (simp only [Int.toNat_natCast]; omega)) (fun c7 => ?_) (fun c7 => ?_)
      · exact absurd c7 (by omega)
      · refine wa_ild2 dX4_sightsHold_10 ?_
        refine wa_bipush dX4_sightsHold_11 (by decide) ?_
        refine wa_icmp_ge 53 dX4_sightsHold_13 (by decide) (by first | omega | (simp only [Int.toNat_natCast]; omega)) (by first | omega | (simp only [Int.toNat_natCast]; omega)) (fun c13 => ?_) (fun c13 => ?_)
        · exact absurd c13 (by omega)
        · refine wa_ald0 dX4_sightsHold_16 ?_
          refine gX4_27 dX4_sightsHold_17 rfl (by first | assumption | exact hL.1 _ (by decide)) (by first | assumption | exact hL.2 _ _ (by decide)) ?_
          refine wa_ild2 dX4_sightsHold_20 ?_
          refine wa_iaload dX4_sightsHold_21 (by first | assumption | exact hL.1 _ (by decide)) (by first | omega | (simp only [Int.toNat_natCast]; omega)) (by first | decide | omega) ?_
          simp only [Int.toNat_natCast]
          refine wa_ist3 dX4_sightsHold_22 (by decide) rfl ?_
          refine wa_ild3 dX4_sightsHold_23 ?_
          refine wa_if_lt 45 dX4_sightsHold_24 (by decide) (by first | omega | (simp only [Int.toNat_natCast]; omega)) (fun c24 => ?_) (fun c24 => ?_)
          · exact absurd c24 (by omega)
          · refine wa_ild3 dX4_sightsHold_27 ?_
            refine wa_ald1 dX4_sightsHold_28 ?_
            refine wa_alen dX4_sightsHold_29 (by first | assumption | exact hL.1 _ (by decide)) (by decide) ?_
            refine wa_icmp_ge 45 dX4_sightsHold_30 (by decide) (by first | omega | (simp only [Int.toNat_natCast]; omega)) (by first | omega | (simp only [Int.toNat_natCast]; omega)) (fun c30 => ?_) (fun c30 => ?_)
            · exact absurd c30 (by omega)
            · refine wa_ald1 dX4_sightsHold_33 ?_
              refine wa_ild3 dX4_sightsHold_34 ?_
              refine wa_iaload dX4_sightsHold_35 (by first | assumption | exact hL.1 _ (by decide)) (by first | omega | (simp only [Int.toNat_natCast]; omega)) (by first | decide | omega) ?_
              refine wa_ald0 dX4_sightsHold_36 ?_
              refine gX4_30 dX4_sightsHold_37 rfl (by first | assumption | exact hL.1 _ (by decide)) (by first | assumption | exact hL.2 _ _ (by decide)) ?_
              refine wa_ild2 dX4_sightsHold_40 ?_
              refine wa_iaload dX4_sightsHold_41 (by first | assumption | exact hL.1 _ (by decide)) (by first | omega | (simp only [Int.toNat_natCast]; omega)) (by first | decide | omega) ?_
              refine wa_icmp_eq 47 dX4_sightsHold_42 (by decide) (by first | omega | (simp only [Int.toNat_natCast]; omega)) (by first | omega | (simp only [Int.toNat_natCast]; omega)) (fun c42 => ?_) (fun c42 => ?_)
              · refine wa_iinc2 dX4_sightsHold_47 (by decide) rfl ?_
                refine wa_goto 2 dX4_sightsHold_50 (by decide) ?_
                exact wa_drop3 (ih (i + 1) (by omega) (by unfold allB; rw [hb]; simpa using c42))
              · refine wa_iconst dX4_sightsHold_45 ?_
                exact wa_breturn dX4_sightsHold_46 rfl rfl (Nat.le_refl _) (by first | exact Or.inl rfl | exact Or.inr rfl | (split <;> simp)) (by exact ⟨by rw [allB_of (i := i) (by omega) (by simpa using c42)]; rfl, rfl, rfl, rfl⟩)
  refine wa_iconst dX4_sightsHold_0 ?_
  refine wa_ist2 dX4_sightsHold_1 (by decide) rfl ?_
  exact loop k 0 (by omega) rfl
def sumF (d : Nat → Int) : Nat → Int
  | 0 => 0
  | m + 1 => sumF d m + d m
theorem ct_deepTogether {n : Nat} {S : zH} {Rf : zG} {V : zE} {r c : Nat} (hr : isStr S Rf r) (hc : V r 0 = (c : Int)) (h2 : 2 ≤ c) (h8 : c ≤ 8) :
    Ci 1 mX4_deepTogether [zR r] n S Rf V (sumF (V (r + 1)) c) V := by
  obtain ⟨s0, s1, s2, s3, s4, s5, s6, s7, r1, r2, r3, r4, r5, r6, r7⟩ := hr
  refine ct_of (by decide) rfl (Nat.le_of_ble_eq_true rfl) ?_
  have loop : ∀ (m i : Nat), i + m = c → Wa zXn mX4_deepTogether (zrm 1 0 0) (zZm (qI (sumF (V (r + 1)) c) S Rf V) (n + 0) 0 0) 0 0 n S 4 [some (zR r), some (zI (sumF (V (r + 1)) i)), some (zI (i : Int))] [] Rf V := by
    intro m
    induction m with
    | zero =>
      intro i hi
      obtain rfl : i = c := by omega
      refine wa_ild2 dX4_deepTogether_4 ?_
      refine wa_ald0 dX4_deepTogether_5 ?_
      refine gX4_37 dX4_deepTogether_6 rfl (by first | assumption | exact hL.1 _ (by decide)) ?_
      refine wa_icmp_ge 33 dX4_deepTogether_9 (by decide) (by omega) (by omega) (fun c9 => ?_) (fun c9 => ?_)
      · refine wa_ild1 dX4_deepTogether_33 ?_
        exact wa_ireturn dX4_deepTogether_34 rfl rfl (Nat.le_refl _) (by exact ⟨rfl, rfl, rfl, rfl⟩)
      · exact absurd c9 (by omega)
    | succ m ih =>
      intro i hi
      have e1 := ih (i + 1) (by omega)
      refine wa_ild2 dX4_deepTogether_4 ?_
      refine wa_ald0 dX4_deepTogether_5 ?_
      refine gX4_37 dX4_deepTogether_6 rfl (by first | assumption | exact hL.1 _ (by decide)) ?_
      refine wa_icmp_ge 33 dX4_deepTogether_9 (by decide) (by omega) (by omega) (fun c9 => ?_) (fun c9 => ?_)
      · exact absurd c9 (by omega)
      · refine wa_ild2 dX4_deepTogether_12 ?_
        refine wa_bipush dX4_deepTogether_13 (by decide) ?_
        refine wa_icmp_ge 33 dX4_deepTogether_15 (by decide) (by omega) (by omega) (fun c15 => ?_) (fun c15 => ?_)
        · exact absurd c15 (by omega)
        · refine wa_ild1 dX4_deepTogether_18 ?_
          refine wa_ald0 dX4_deepTogether_19 ?_
          refine gX4_9 dX4_deepTogether_20 rfl (by first | assumption | exact hL.1 _ (by decide)) (by first | assumption | exact hL.2 _ _ (by decide)) ?_
          refine wa_ild2 dX4_deepTogether_23 ?_
          refine wa_iaload dX4_deepTogether_24 (by first | assumption | exact hL.1 _ (by decide)) (by omega) (by first | decide | omega) ?_
          refine wa_iadd dX4_deepTogether_25 ?_
          refine wa_ist1 dX4_deepTogether_26 (by decide) rfl ?_
          refine wa_iinc2 dX4_deepTogether_27 (by decide) rfl ?_
          refine wa_goto 4 dX4_deepTogether_30 (by decide) ?_
          exact e1
  refine wa_iconst dX4_deepTogether_0 ?_
  refine wa_ist1 dX4_deepTogether_1 (by decide) rfl ?_
  refine wa_iconst dX4_deepTogether_2 ?_
  refine wa_ist2 dX4_deepTogether_3 (by decide) rfl ?_
  exact loop c 0 (by omega)
/-- one word of a winter -/
def drwV (r c : Nat) (x : Int) (V : zE) : zE := if x % 8 = 0 then telV r c 4 0 0 V else if x % 8 = 1 then telV r c 5 0 0 V else if x % 8 = 2 then telV r c 2 (x / 8 % c) (x / 64 % c) V else if x % 8 ≤ 4 then telV r c 0 (x / 8 % c) (x / 64 % c) V else telV r c 1 (x / 8 % c) (x / 64 % c) V
theorem draw_rest {n : Nat} {S : zH} {Rf : zG} {V : zE} {r c : Nat} {x : Int} (hm : 0 ≤ x % 8 ∧ x % 8 < 8) (hg : 0 ≤ x / 8 % (c : Int) ∧ x / 8 % (c : Int) < c) (hw : 0 ≤ x / 64 % (c : Int) ∧ x / 64 % (c : Int) < c) (h2 : 0 < c) (s0 : S r = some (.inr 4))
    (H : ∀ (k g w : Int), 0 ≤ k ∧ k ≤ 5 → 0 ≤ g ∧ g < c → 0 ≤ w ∧ w < c → Ci 5 mX4_tell [zR r, zI k, zI g, zI w] n S Rf V (hinF c (V (r + 1)) (V (r + 3)) (V (r + 4)) k g w) (telV r c k g w V)) :
    Wa zXn mX4_draw (zrm 6 0 0) (zZm (qN S Rf (drwV r c x V)) (n + 0) 0 0) 0 0 n S 33 [some (zR r), some (zI x), some (zI (x / 8 % (c : Int))), some (zI (x / 64 % (c : Int)))] [zI (x % 8)] Rf V := by
  obtain h0 | h0 | h0 | h0 | h0 | h0 : x % 8 = 0 ∨ x % 8 = 1 ∨ x % 8 = 2 ∨ x % 8 = 3 ∨ x % 8 = 4 ∨ 5 ≤ x % 8 := by omega
  · rw [h0]
    refine wa_table 68 dX4_draw_33 (by decide) (by decide) (off := 35) rfl (by decide) ?_
    refine wa_ald0 dX4_draw_68 ?_
    refine wa_iconst dX4_draw_69 ?_
    refine wa_iconst dX4_draw_70 ?_
    refine wa_iconst dX4_draw_71 ?_
    refine kX4_115 dX4_draw_72 rfl (by first | assumption | exact hL.1 _ (by decide)) (H 4 0 0 (by decide) (by omega) (by omega)) (by decide) (Nat.le_of_ble_eq_true rfl) ⟨Nat.le_refl _, Nat.le_refl _⟩ (zdI ?_)
    refine wa_pop dX4_draw_75 rfl ?_
    refine wa_goto 120 dX4_draw_76 (by decide) ?_
    exact wa_return dX4_draw_120 rfl rfl (Nat.le_refl _) (by exact ⟨rfl, rfl, rfl, by unfold drwV; simp [h0]⟩)
  · rw [h0]
    refine wa_table 79 dX4_draw_33 (by decide) (by decide) (off := 46) rfl (by decide) ?_
    refine wa_ald0 dX4_draw_79 ?_
    refine wa_iconst dX4_draw_80 ?_
    refine wa_iconst dX4_draw_81 ?_
    refine wa_iconst dX4_draw_82 ?_
    refine kX4_115 dX4_draw_83 rfl (by first | assumption | exact hL.1 _ (by decide)) (H 5 0 0 (by decide) (by omega) (by omega)) (by decide) (Nat.le_of_ble_eq_true rfl) ⟨Nat.le_refl _, Nat.le_refl _⟩ (zdI ?_)
    refine wa_pop dX4_draw_86 rfl ?_
    refine wa_goto 120 dX4_draw_87 (by decide) ?_
    exact wa_return dX4_draw_120 rfl rfl (Nat.le_refl _) (by exact ⟨rfl, rfl, rfl, by unfold drwV; simp [h0]⟩)
  · rw [h0]
    refine wa_table 90 dX4_draw_33 (by decide) (by decide) (off := 57) rfl (by decide) ?_
    refine wa_ald0 dX4_draw_90 ?_
    refine wa_iconst dX4_draw_91 ?_
    refine wa_ild2 dX4_draw_92 ?_
    refine wa_ild3 dX4_draw_93 ?_
    refine kX4_115 dX4_draw_94 rfl (by first | assumption | exact hL.1 _ (by decide)) (H 2 _ _ (by decide) hg hw) (by decide) (Nat.le_of_ble_eq_true rfl) ⟨Nat.le_refl _, Nat.le_refl _⟩ (zdI ?_)
    refine wa_pop dX4_draw_97 rfl ?_
    refine wa_goto 120 dX4_draw_98 (by decide) ?_
    exact wa_return dX4_draw_120 rfl rfl (Nat.le_refl _) (by exact ⟨rfl, rfl, rfl, by unfold drwV; simp [h0]⟩)
  · rw [h0]
    refine wa_table 101 dX4_draw_33 (by decide) (by decide) (off := 68) rfl (by decide) ?_
    refine wa_ald0 dX4_draw_101 ?_
    refine wa_iconst dX4_draw_102 ?_
    refine wa_ild2 dX4_draw_103 ?_
    refine wa_ild3 dX4_draw_104 ?_
    refine kX4_115 dX4_draw_105 rfl (by first | assumption | exact hL.1 _ (by decide)) (H 0 _ _ (by decide) hg hw) (by decide) (Nat.le_of_ble_eq_true rfl) ⟨Nat.le_refl _, Nat.le_refl _⟩ (zdI ?_)
    refine wa_pop dX4_draw_108 rfl ?_
    refine wa_goto 120 dX4_draw_109 (by decide) ?_
    exact wa_return dX4_draw_120 rfl rfl (Nat.le_refl _) (by exact ⟨rfl, rfl, rfl, by unfold drwV; simp [h0]⟩)
  · rw [h0]
    refine wa_table 101 dX4_draw_33 (by decide) (by decide) (off := 68) rfl (by decide) ?_
    refine wa_ald0 dX4_draw_101 ?_
    refine wa_iconst dX4_draw_102 ?_
    refine wa_ild2 dX4_draw_103 ?_
    refine wa_ild3 dX4_draw_104 ?_
    refine kX4_115 dX4_draw_105 rfl (by first | assumption | exact hL.1 _ (by decide)) (H 0 _ _ (by decide) hg hw) (by decide) (Nat.le_of_ble_eq_true rfl) ⟨Nat.le_refl _, Nat.le_refl _⟩ (zdI ?_)
    refine wa_pop dX4_draw_108 rfl ?_
    refine wa_goto 120 dX4_draw_109 (by decide) ?_
    exact wa_return dX4_draw_120 rfl rfl (Nat.le_refl _) (by exact ⟨rfl, rfl, rfl, by unfold drwV; simp [h0]⟩)
  · refine wa_tabled 112 dX4_draw_33 (by omega) (by omega) (by decide) ?_
    refine wa_ald0 dX4_draw_112 ?_
    refine wa_iconst dX4_draw_113 ?_
    refine wa_ild2 dX4_draw_114 ?_
    refine wa_ild3 dX4_draw_115 ?_
    refine kX4_115 dX4_draw_116 rfl (by first | assumption | exact hL.1 _ (by decide)) (H 1 _ _ (by decide) hg hw) (by decide) (Nat.le_of_ble_eq_true rfl) ⟨Nat.le_refl _, Nat.le_refl _⟩ (zdI ?_)
    refine wa_pop dX4_draw_119 rfl ?_
    exact wa_return dX4_draw_120 rfl rfl (Nat.le_refl _) (by exact ⟨rfl, rfl, rfl, by unfold drwV; rw [if_neg (by omega), if_neg (by omega), if_neg (by omega), if_neg (by omega)]⟩)
theorem ct_draw {n : Nat} {S : zH} {Rf : zG} {V : zE} {r c : Nat} {x : Int} (hr : isStr S Rf r) (hc : V r 0 = (c : Int)) (h2 : 2 ≤ c) (h8 : c ≤ 8) (hx : 0 ≤ x ∧ x ≤ 1000000) (hd : ∀ j, 0 ≤ V (r + 1) j ∧ V (r + 1) j ≤ 90000) (hf : ∀ j, 0 ≤ V (r + 2) j ∧ V (r + 2) j ≤ 100000) (hu : ∀ j, 0 ≤ V (r + 3) j ∧ V (r + 3) j ≤ 9) (hs : ∀ j, -2147483648 ≤ V (r + 4) j ∧ V (r + 4) j ≤ 2147483647) :
    Cv 6 mX4_draw [zR r, zI x] n S Rf V (drwV r c x V) := by
  have hr' := hr
  obtain ⟨s0, s1, s2, s3, s4, s5, s6, s7, r1, r2, r3, r4, r5, r6, r7⟩ := hr
  have hg1 : 0 ≤ x / 8 % (c : Int) := Int.emod_nonneg _ (by omega)
  have hg2 : x / 8 % (c : Int) < c := Int.emod_lt_of_pos _ (by omega)
  have hw1 : 0 ≤ x / 64 % (c : Int) := Int.emod_nonneg _ (by omega)
  have hw2 : x / 64 % (c : Int) < c := Int.emod_lt_of_pos _ (by omega)
  refine ct_of (by decide) rfl (Nat.le_of_ble_eq_true rfl) ?_
  refine wa_ald0 dX4_draw_0 ?_
  refine gX4_37 dX4_draw_1 rfl (by first | assumption | exact hL.1 _ (by decide)) ?_
  refine wa_iconst dX4_draw_4 ?_
  refine wa_icmp_ge 9 dX4_draw_5 (by decide) (by omega) (by omega) (fun c5 => ?_) (fun c5 => ?_)
  · refine wa_ild1 dX4_draw_9 ?_
    refine wa_bipush dX4_draw_10 (by decide) ?_
    refine wa_idiv dX4_draw_12 (by omega) (by omega) ?_
    refine wa_ald0 dX4_draw_13 ?_
    refine gX4_37 dX4_draw_14 rfl (by first | assumption | exact hL.1 _ (by decide)) ?_
    refine wa_irem dX4_draw_17 (by omega) (by omega) ?_
    refine wa_ist2 dX4_draw_18 (by decide) rfl ?_
    refine wa_ild1 dX4_draw_19 ?_
    refine wa_bipush dX4_draw_20 (by decide) ?_
    refine wa_idiv dX4_draw_22 (by omega) (by omega) ?_
    refine wa_ald0 dX4_draw_23 ?_
    refine gX4_37 dX4_draw_24 rfl (by first | assumption | exact hL.1 _ (by decide)) ?_
    refine wa_irem dX4_draw_27 (by omega) (by omega) ?_
    refine wa_ist3 dX4_draw_28 (by decide) rfl ?_
    refine wa_ild1 dX4_draw_29 ?_
    refine wa_bipush dX4_draw_30 (by decide) ?_
    refine wa_irem dX4_draw_32 (by omega) (by omega) ?_
    rw [hc]
    have hm : 0 ≤ x % 8 ∧ x % 8 < 8 := by omega
    have H : ∀ (k g w : Int), 0 ≤ k ∧ k ≤ 5 → 0 ≤ g ∧ g < c → 0 ≤ w ∧ w < c → Ci 5 mX4_tell [zR r, zI k, zI g, zI w] n S Rf V (hinF c (V (r + 1)) (V (r + 3)) (V (r + 4)) k g w) (telV r c k g w V) := fun k g w a1 a2 a3 => ct_tell hr' hc h2 h8 a1 a2 a3 hd hf hu hs
    exact draw_rest hm ⟨hg1, hg2⟩ ⟨hw1, hw2⟩ (by omega) s0 H
  · exact absurd c5 (by omega)
/-- a street copied onto another -/
def cpV (a b : Nat) (V : zE) : zE := fun k => if a ≤ k ∧ k ≤ a + 7 then V (b + (k - a)) else V k
theorem cpV_i {a b i : Nat} {V : zE} (h : i ≤ 7) : cpV a b V (a + i) = V (b + i) := by
  unfold cpV; rw [if_pos (by omega)]; congr 1; omega
theorem cpV_0 {a b : Nat} {V : zE} : cpV a b V a = V b := cpV_i (i := 0) (by omega)
theorem cpV_o {a b k : Nat} {V : zE} (h : k < a ∨ a + 7 < k) : cpV a b V k = V k := by
  unfold cpV; rw [if_neg (by omega)]
theorem cpV_of {a b : Nat} {V V' : zE} (ho : ∀ k, (k < a ∨ a + 7 < k) → V' k = V k) (h0 : V' a = V b) (h1 : V' (a + 1) = V (b + 1)) (h2 : V' (a + 2) = V (b + 2)) (h3 : V' (a + 3) = V (b + 3)) (h4 : V' (a + 4) = V (b + 4)) (h5 : V' (a + 5) = V (b + 5)) (h6 : V' (a + 6) = V (b + 6)) (h7 : V' (a + 7) = V (b + 7)) : V' = cpV a b V := by
  funext k
  by_cases h : k < a ∨ a + 7 < k
  · rw [ho k h, cpV_o h]
  · obtain ⟨i, rfl⟩ : ∃ i, k = a + i := ⟨k - a, by omega⟩
    rw [cpV_i (by omega)]
    obtain rfl | rfl | rfl | rfl | rfl | rfl | rfl | rfl : i = 0 ∨ i = 1 ∨ i = 2 ∨ i = 3 ∨ i = 4 ∨ i = 5 ∨ i = 6 ∨ i = 7 := by omega
    all_goals assumption
theorem ct_copy {n : Nat} {S : zH} {Rf : zG} {V : zE} {a b : Nat} (ha : isStr S Rf a) (hb : isStr S Rf b) (hab : a + 8 ≤ b ∨ b + 8 ≤ a) :
    Cv 1 mX4_copy [zR a, zR b] n S Rf V (cpV a b V) := by
  obtain ⟨s0, s1, s2, s3, s4, s5, s6, s7, r1, r2, r3, r4, r5, r6, r7⟩ := ha
  obtain ⟨t0, t1, t2, t3, t4, t5, t6, t7, u1, u2, u3, u4, u5, u6, u7⟩ := hb
  refine ct_of (by decide) rfl (Nat.le_of_ble_eq_true rfl) ?_
  have n00 : b ≠ a := by omega
  have n01 : b ≠ a + 1 := by omega
  have n02 : b ≠ a + 2 := by omega
  have n03 : b ≠ a + 3 := by omega
  have n04 : b ≠ a + 4 := by omega
  have n05 : b ≠ a + 5 := by omega
  have n06 : b ≠ a + 6 := by omega
  have n07 : b ≠ a + 7 := by omega
  have n10 : b + 1 ≠ a := by omega
  have n11 : b + 1 ≠ a + 1 := by omega
  have n12 : b + 1 ≠ a + 2 := by omega
  have n13 : b + 1 ≠ a + 3 := by omega
  have n14 : b + 1 ≠ a + 4 := by omega
  have n15 : b + 1 ≠ a + 5 := by omega
  have n16 : b + 1 ≠ a + 6 := by omega
  have n17 : b + 1 ≠ a + 7 := by omega
  have n20 : b + 2 ≠ a := by omega
  have n21 : b + 2 ≠ a + 1 := by omega
  have n22 : b + 2 ≠ a + 2 := by omega
  have n23 : b + 2 ≠ a + 3 := by omega
  have n24 : b + 2 ≠ a + 4 := by omega
  have n25 : b + 2 ≠ a + 5 := by omega
  have n26 : b + 2 ≠ a + 6 := by omega
  have n27 : b + 2 ≠ a + 7 := by omega
  have n30 : b + 3 ≠ a := by omega
  have n31 : b + 3 ≠ a + 1 := by omega
  have n32 : b + 3 ≠ a + 2 := by omega
  have n33 : b + 3 ≠ a + 3 := by omega
  have n34 : b + 3 ≠ a + 4 := by omega
  have n35 : b + 3 ≠ a + 5 := by omega
  have n36 : b + 3 ≠ a + 6 := by omega
  have n37 : b + 3 ≠ a + 7 := by omega
  have n40 : b + 4 ≠ a := by omega
  have n41 : b + 4 ≠ a + 1 := by omega
  have n42 : b + 4 ≠ a + 2 := by omega
  have n43 : b + 4 ≠ a + 3 := by omega
  have n44 : b + 4 ≠ a + 4 := by omega
  have n45 : b + 4 ≠ a + 5 := by omega
  have n46 : b + 4 ≠ a + 6 := by omega
  have n47 : b + 4 ≠ a + 7 := by omega
  have n50 : b + 5 ≠ a := by omega
  have n51 : b + 5 ≠ a + 1 := by omega
  have n52 : b + 5 ≠ a + 2 := by omega
  have n53 : b + 5 ≠ a + 3 := by omega
  have n54 : b + 5 ≠ a + 4 := by omega
  have n55 : b + 5 ≠ a + 5 := by omega
  have n56 : b + 5 ≠ a + 6 := by omega
  have n57 : b + 5 ≠ a + 7 := by omega
  have n60 : b + 6 ≠ a := by omega
  have n61 : b + 6 ≠ a + 1 := by omega
  have n62 : b + 6 ≠ a + 2 := by omega
  have n63 : b + 6 ≠ a + 3 := by omega
  have n64 : b + 6 ≠ a + 4 := by omega
  have n65 : b + 6 ≠ a + 5 := by omega
  have n66 : b + 6 ≠ a + 6 := by omega
  have n67 : b + 6 ≠ a + 7 := by omega
  have n70 : b + 7 ≠ a := by omega
  have n71 : b + 7 ≠ a + 1 := by omega
  have n72 : b + 7 ≠ a + 2 := by omega
  have n73 : b + 7 ≠ a + 3 := by omega
  have n74 : b + 7 ≠ a + 4 := by omega
  have n75 : b + 7 ≠ a + 5 := by omega
  have n76 : b + 7 ≠ a + 6 := by omega
  have n77 : b + 7 ≠ a + 7 := by omega
  have m01 : a ≠ a + 1 := by omega
  have m02 : a ≠ a + 2 := by omega
  have m03 : a ≠ a + 3 := by omega
  have m04 : a ≠ a + 4 := by omega
  have m05 : a ≠ a + 5 := by omega
  have m06 : a ≠ a + 6 := by omega
  have m07 : a ≠ a + 7 := by omega
  have m10 : a + 1 ≠ a := by omega
  have m12 : a + 1 ≠ a + 2 := by omega
  have m13 : a + 1 ≠ a + 3 := by omega
  have m14 : a + 1 ≠ a + 4 := by omega
  have m15 : a + 1 ≠ a + 5 := by omega
  have m16 : a + 1 ≠ a + 6 := by omega
  have m17 : a + 1 ≠ a + 7 := by omega
  have m20 : a + 2 ≠ a := by omega
  have m21 : a + 2 ≠ a + 1 := by omega
  have m23 : a + 2 ≠ a + 3 := by omega
  have m24 : a + 2 ≠ a + 4 := by omega
  have m25 : a + 2 ≠ a + 5 := by omega
  have m26 : a + 2 ≠ a + 6 := by omega
  have m27 : a + 2 ≠ a + 7 := by omega
  have m30 : a + 3 ≠ a := by omega
  have m31 : a + 3 ≠ a + 1 := by omega
  have m32 : a + 3 ≠ a + 2 := by omega
  have m34 : a + 3 ≠ a + 4 := by omega
  have m35 : a + 3 ≠ a + 5 := by omega
  have m36 : a + 3 ≠ a + 6 := by omega
  have m37 : a + 3 ≠ a + 7 := by omega
  have m40 : a + 4 ≠ a := by omega
  have m41 : a + 4 ≠ a + 1 := by omega
  have m42 : a + 4 ≠ a + 2 := by omega
  have m43 : a + 4 ≠ a + 3 := by omega
  have m45 : a + 4 ≠ a + 5 := by omega
  have m46 : a + 4 ≠ a + 6 := by omega
  have m47 : a + 4 ≠ a + 7 := by omega
  have m50 : a + 5 ≠ a := by omega
  have m51 : a + 5 ≠ a + 1 := by omega
  have m52 : a + 5 ≠ a + 2 := by omega
  have m53 : a + 5 ≠ a + 3 := by omega
  have m54 : a + 5 ≠ a + 4 := by omega
  have m56 : a + 5 ≠ a + 6 := by omega
  have m57 : a + 5 ≠ a + 7 := by omega
  have m60 : a + 6 ≠ a := by omega
  have m61 : a + 6 ≠ a + 1 := by omega
  have m62 : a + 6 ≠ a + 2 := by omega
  have m63 : a + 6 ≠ a + 3 := by omega
  have m64 : a + 6 ≠ a + 4 := by omega
  have m65 : a + 6 ≠ a + 5 := by omega
  have m67 : a + 6 ≠ a + 7 := by omega
  have m70 : a + 7 ≠ a := by omega
  have m71 : a + 7 ≠ a + 1 := by omega
  have m72 : a + 7 ≠ a + 2 := by omega
  have m73 : a + 7 ≠ a + 3 := by omega
  have m74 : a + 7 ≠ a + 4 := by omega
  have m75 : a + 7 ≠ a + 5 := by omega
  have m76 : a + 7 ≠ a + 6 := by omega
  refine wa_ald1 dX4_copy_0 ?_
  refine wa_ifnonnull_r 5 dX4_copy_1 (by decide) ?_
  refine wa_ald0 dX4_copy_5 ?_
  refine wa_ald1 dX4_copy_6 ?_
  refine gX4_37 dX4_copy_7 rfl (by assumption) ?_
  refine pX4_37 dX4_copy_10 rfl (by assumption) ?_
  try simp only [zp_s, zp_n _ _ n00, zp_n _ _ n01, zp_n _ _ n02, zp_n _ _ n03, zp_n _ _ n04, zp_n _ _ n05, zp_n _ _ n06, zp_n _ _ n07, zp_n _ _ n10, zp_n _ _ n11, zp_n _ _ n12, zp_n _ _ n13, zp_n _ _ n14, zp_n _ _ n15, zp_n _ _ n16, zp_n _ _ n17, zp_n _ _ n20, zp_n _ _ n21, zp_n _ _ n22, zp_n _ _ n23, zp_n _ _ n24, zp_n _ _ n25, zp_n _ _ n26, zp_n _ _ n27, zp_n _ _ n30, zp_n _ _ n31, zp_n _ _ n32, zp_n _ _ n33, zp_n _ _ n34, zp_n _ _ n35, zp_n _ _ n36, zp_n _ _ n37, zp_n _ _ n40, zp_n _ _ n41, zp_n _ _ n42, zp_n _ _ n43, zp_n _ _ n44, zp_n _ _ n45, zp_n _ _ n46, zp_n _ _ n47, zp_n _ _ n50, zp_n _ _ n51, zp_n _ _ n52, zp_n _ _ n53, zp_n _ _ n54, zp_n _ _ n55, zp_n _ _ n56, zp_n _ _ n57, zp_n _ _ n60, zp_n _ _ n61, zp_n _ _ n62, zp_n _ _ n63, zp_n _ _ n64, zp_n _ _ n65, zp_n _ _ n66, zp_n _ _ n67, zp_n _ _ n70, zp_n _ _ n71, zp_n _ _ n72, zp_n _ _ n73, zp_n _ _ n74, zp_n _ _ n75, zp_n _ _ n76, zp_n _ _ n77, zp_n _ _ m01, zp_n _ _ m02, zp_n _ _ m03, zp_n _ _ m04, zp_n _ _ m05, zp_n _ _ m06, zp_n _ _ m07, zp_n _ _ m10, zp_n _ _ m12, zp_n _ _ m13, zp_n _ _ m14, zp_n _ _ m15, zp_n _ _ m16, zp_n _ _ m17, zp_n _ _ m20, zp_n _ _ m21, zp_n _ _ m23, zp_n _ _ m24, zp_n _ _ m25, zp_n _ _ m26, zp_n _ _ m27, zp_n _ _ m30, zp_n _ _ m31, zp_n _ _ m32, zp_n _ _ m34, zp_n _ _ m35, zp_n _ _ m36, zp_n _ _ m37, zp_n _ _ m40, zp_n _ _ m41, zp_n _ _ m42, zp_n _ _ m43, zp_n _ _ m45, zp_n _ _ m46, zp_n _ _ m47, zp_n _ _ m50, zp_n _ _ m51, zp_n _ _ m52, zp_n _ _ m53, zp_n _ _ m54, zp_n _ _ m56, zp_n _ _ m57, zp_n _ _ m60, zp_n _ _ m61, zp_n _ _ m62, zp_n _ _ m63, zp_n _ _ m64, zp_n _ _ m65, zp_n _ _ m67, zp_n _ _ m70, zp_n _ _ m71, zp_n _ _ m72, zp_n _ _ m73, zp_n _ _ m74, zp_n _ _ m75, zp_n _ _ m76]
  refine wa_ald1 dX4_copy_13 ?_
  refine gX4_9 dX4_copy_14 rfl (by assumption) (by assumption) ?_
  refine wa_iconst dX4_copy_17 ?_
  refine wa_ald0 dX4_copy_18 ?_
  refine gX4_9 dX4_copy_19 rfl (by assumption) (by assumption) ?_
  refine wa_iconst dX4_copy_22 ?_
  refine wa_ald0 dX4_copy_23 ?_
  refine gX4_9 dX4_copy_24 rfl (by assumption) (by assumption) ?_
  refine wa_alen dX4_copy_27 (by assumption) (by decide) ?_
  refine wa_copy dX4_copy_28 lX4_65 w_nat_copy w_st_copy w_iSys ⟨Nat.le_of_ble_eq_true rfl, Nat.le_of_ble_eq_true rfl⟩ (by decide) rfl (by assumption) (by assumption) ?_
  try simp only [zp_s, zp_n _ _ n00, zp_n _ _ n01, zp_n _ _ n02, zp_n _ _ n03, zp_n _ _ n04, zp_n _ _ n05, zp_n _ _ n06, zp_n _ _ n07, zp_n _ _ n10, zp_n _ _ n11, zp_n _ _ n12, zp_n _ _ n13, zp_n _ _ n14, zp_n _ _ n15, zp_n _ _ n16, zp_n _ _ n17, zp_n _ _ n20, zp_n _ _ n21, zp_n _ _ n22, zp_n _ _ n23, zp_n _ _ n24, zp_n _ _ n25, zp_n _ _ n26, zp_n _ _ n27, zp_n _ _ n30, zp_n _ _ n31, zp_n _ _ n32, zp_n _ _ n33, zp_n _ _ n34, zp_n _ _ n35, zp_n _ _ n36, zp_n _ _ n37, zp_n _ _ n40, zp_n _ _ n41, zp_n _ _ n42, zp_n _ _ n43, zp_n _ _ n44, zp_n _ _ n45, zp_n _ _ n46, zp_n _ _ n47, zp_n _ _ n50, zp_n _ _ n51, zp_n _ _ n52, zp_n _ _ n53, zp_n _ _ n54, zp_n _ _ n55, zp_n _ _ n56, zp_n _ _ n57, zp_n _ _ n60, zp_n _ _ n61, zp_n _ _ n62, zp_n _ _ n63, zp_n _ _ n64, zp_n _ _ n65, zp_n _ _ n66, zp_n _ _ n67, zp_n _ _ n70, zp_n _ _ n71, zp_n _ _ n72, zp_n _ _ n73, zp_n _ _ n74, zp_n _ _ n75, zp_n _ _ n76, zp_n _ _ n77, zp_n _ _ m01, zp_n _ _ m02, zp_n _ _ m03, zp_n _ _ m04, zp_n _ _ m05, zp_n _ _ m06, zp_n _ _ m07, zp_n _ _ m10, zp_n _ _ m12, zp_n _ _ m13, zp_n _ _ m14, zp_n _ _ m15, zp_n _ _ m16, zp_n _ _ m17, zp_n _ _ m20, zp_n _ _ m21, zp_n _ _ m23, zp_n _ _ m24, zp_n _ _ m25, zp_n _ _ m26, zp_n _ _ m27, zp_n _ _ m30, zp_n _ _ m31, zp_n _ _ m32, zp_n _ _ m34, zp_n _ _ m35, zp_n _ _ m36, zp_n _ _ m37, zp_n _ _ m40, zp_n _ _ m41, zp_n _ _ m42, zp_n _ _ m43, zp_n _ _ m45, zp_n _ _ m46, zp_n _ _ m47, zp_n _ _ m50, zp_n _ _ m51, zp_n _ _ m52, zp_n _ _ m53, zp_n _ _ m54, zp_n _ _ m56, zp_n _ _ m57, zp_n _ _ m60, zp_n _ _ m61, zp_n _ _ m62, zp_n _ _ m63, zp_n _ _ m64, zp_n _ _ m65, zp_n _ _ m67, zp_n _ _ m70, zp_n _ _ m71, zp_n _ _ m72, zp_n _ _ m73, zp_n _ _ m74, zp_n _ _ m75, zp_n _ _ m76]
  refine wa_ald1 dX4_copy_31 ?_
  refine gX4_15 dX4_copy_32 rfl (by assumption) (by assumption) ?_
  refine wa_iconst dX4_copy_35 ?_
  refine wa_ald0 dX4_copy_36 ?_
  refine gX4_15 dX4_copy_37 rfl (by assumption) (by assumption) ?_
  refine wa_iconst dX4_copy_40 ?_
  refine wa_ald0 dX4_copy_41 ?_
  refine gX4_15 dX4_copy_42 rfl (by assumption) (by assumption) ?_
  refine wa_alen dX4_copy_45 (by assumption) (by decide) ?_
  refine wa_copy dX4_copy_46 lX4_65 w_nat_copy w_st_copy w_iSys ⟨Nat.le_of_ble_eq_true rfl, Nat.le_of_ble_eq_true rfl⟩ (by decide) rfl (by assumption) (by assumption) ?_
  try simp only [zp_s, zp_n _ _ n00, zp_n _ _ n01, zp_n _ _ n02, zp_n _ _ n03, zp_n _ _ n04, zp_n _ _ n05, zp_n _ _ n06, zp_n _ _ n07, zp_n _ _ n10, zp_n _ _ n11, zp_n _ _ n12, zp_n _ _ n13, zp_n _ _ n14, zp_n _ _ n15, zp_n _ _ n16, zp_n _ _ n17, zp_n _ _ n20, zp_n _ _ n21, zp_n _ _ n22, zp_n _ _ n23, zp_n _ _ n24, zp_n _ _ n25, zp_n _ _ n26, zp_n _ _ n27, zp_n _ _ n30, zp_n _ _ n31, zp_n _ _ n32, zp_n _ _ n33, zp_n _ _ n34, zp_n _ _ n35, zp_n _ _ n36, zp_n _ _ n37, zp_n _ _ n40, zp_n _ _ n41, zp_n _ _ n42, zp_n _ _ n43, zp_n _ _ n44, zp_n _ _ n45, zp_n _ _ n46, zp_n _ _ n47, zp_n _ _ n50, zp_n _ _ n51, zp_n _ _ n52, zp_n _ _ n53, zp_n _ _ n54, zp_n _ _ n55, zp_n _ _ n56, zp_n _ _ n57, zp_n _ _ n60, zp_n _ _ n61, zp_n _ _ n62, zp_n _ _ n63, zp_n _ _ n64, zp_n _ _ n65, zp_n _ _ n66, zp_n _ _ n67, zp_n _ _ n70, zp_n _ _ n71, zp_n _ _ n72, zp_n _ _ n73, zp_n _ _ n74, zp_n _ _ n75, zp_n _ _ n76, zp_n _ _ n77, zp_n _ _ m01, zp_n _ _ m02, zp_n _ _ m03, zp_n _ _ m04, zp_n _ _ m05, zp_n _ _ m06, zp_n _ _ m07, zp_n _ _ m10, zp_n _ _ m12, zp_n _ _ m13, zp_n _ _ m14, zp_n _ _ m15, zp_n _ _ m16, zp_n _ _ m17, zp_n _ _ m20, zp_n _ _ m21, zp_n _ _ m23, zp_n _ _ m24, zp_n _ _ m25, zp_n _ _ m26, zp_n _ _ m27, zp_n _ _ m30, zp_n _ _ m31, zp_n _ _ m32, zp_n _ _ m34, zp_n _ _ m35, zp_n _ _ m36, zp_n _ _ m37, zp_n _ _ m40, zp_n _ _ m41, zp_n _ _ m42, zp_n _ _ m43, zp_n _ _ m45, zp_n _ _ m46, zp_n _ _ m47, zp_n _ _ m50, zp_n _ _ m51, zp_n _ _ m52, zp_n _ _ m53, zp_n _ _ m54, zp_n _ _ m56, zp_n _ _ m57, zp_n _ _ m60, zp_n _ _ m61, zp_n _ _ m62, zp_n _ _ m63, zp_n _ _ m64, zp_n _ _ m65, zp_n _ _ m67, zp_n _ _ m70, zp_n _ _ m71, zp_n _ _ m72, zp_n _ _ m73, zp_n _ _ m74, zp_n _ _ m75, zp_n _ _ m76]
  refine wa_ald0 dX4_copy_49 ?_
  refine wa_ald1 dX4_copy_50 ?_
  refine gX4_47 dX4_copy_51 rfl (by assumption) ?_
  refine pX4_47 dX4_copy_54 rfl (by assumption) ?_
  try simp only [zp_s, zp_n _ _ n00, zp_n _ _ n01, zp_n _ _ n02, zp_n _ _ n03, zp_n _ _ n04, zp_n _ _ n05, zp_n _ _ n06, zp_n _ _ n07, zp_n _ _ n10, zp_n _ _ n11, zp_n _ _ n12, zp_n _ _ n13, zp_n _ _ n14, zp_n _ _ n15, zp_n _ _ n16, zp_n _ _ n17, zp_n _ _ n20, zp_n _ _ n21, zp_n _ _ n22, zp_n _ _ n23, zp_n _ _ n24, zp_n _ _ n25, zp_n _ _ n26, zp_n _ _ n27, zp_n _ _ n30, zp_n _ _ n31, zp_n _ _ n32, zp_n _ _ n33, zp_n _ _ n34, zp_n _ _ n35, zp_n _ _ n36, zp_n _ _ n37, zp_n _ _ n40, zp_n _ _ n41, zp_n _ _ n42, zp_n _ _ n43, zp_n _ _ n44, zp_n _ _ n45, zp_n _ _ n46, zp_n _ _ n47, zp_n _ _ n50, zp_n _ _ n51, zp_n _ _ n52, zp_n _ _ n53, zp_n _ _ n54, zp_n _ _ n55, zp_n _ _ n56, zp_n _ _ n57, zp_n _ _ n60, zp_n _ _ n61, zp_n _ _ n62, zp_n _ _ n63, zp_n _ _ n64, zp_n _ _ n65, zp_n _ _ n66, zp_n _ _ n67, zp_n _ _ n70, zp_n _ _ n71, zp_n _ _ n72, zp_n _ _ n73, zp_n _ _ n74, zp_n _ _ n75, zp_n _ _ n76, zp_n _ _ n77, zp_n _ _ m01, zp_n _ _ m02, zp_n _ _ m03, zp_n _ _ m04, zp_n _ _ m05, zp_n _ _ m06, zp_n _ _ m07, zp_n _ _ m10, zp_n _ _ m12, zp_n _ _ m13, zp_n _ _ m14, zp_n _ _ m15, zp_n _ _ m16, zp_n _ _ m17, zp_n _ _ m20, zp_n _ _ m21, zp_n _ _ m23, zp_n _ _ m24, zp_n _ _ m25, zp_n _ _ m26, zp_n _ _ m27, zp_n _ _ m30, zp_n _ _ m31, zp_n _ _ m32, zp_n _ _ m34, zp_n _ _ m35, zp_n _ _ m36, zp_n _ _ m37, zp_n _ _ m40, zp_n _ _ m41, zp_n _ _ m42, zp_n _ _ m43, zp_n _ _ m45, zp_n _ _ m46, zp_n _ _ m47, zp_n _ _ m50, zp_n _ _ m51, zp_n _ _ m52, zp_n _ _ m53, zp_n _ _ m54, zp_n _ _ m56, zp_n _ _ m57, zp_n _ _ m60, zp_n _ _ m61, zp_n _ _ m62, zp_n _ _ m63, zp_n _ _ m64, zp_n _ _ m65, zp_n _ _ m67, zp_n _ _ m70, zp_n _ _ m71, zp_n _ _ m72, zp_n _ _ m73, zp_n _ _ m74, zp_n _ _ m75, zp_n _ _ m76]
  refine wa_ald0 dX4_copy_57 ?_
  refine wa_ald1 dX4_copy_58 ?_
  refine gX4_50 dX4_copy_59 rfl (by assumption) ?_
  refine pX4_50 dX4_copy_62 rfl (by assumption) ?_
  try simp only [zp_s, zp_n _ _ n00, zp_n _ _ n01, zp_n _ _ n02, zp_n _ _ n03, zp_n _ _ n04, zp_n _ _ n05, zp_n _ _ n06, zp_n _ _ n07, zp_n _ _ n10, zp_n _ _ n11, zp_n _ _ n12, zp_n _ _ n13, zp_n _ _ n14, zp_n _ _ n15, zp_n _ _ n16, zp_n _ _ n17, zp_n _ _ n20, zp_n _ _ n21, zp_n _ _ n22, zp_n _ _ n23, zp_n _ _ n24, zp_n _ _ n25, zp_n _ _ n26, zp_n _ _ n27, zp_n _ _ n30, zp_n _ _ n31, zp_n _ _ n32, zp_n _ _ n33, zp_n _ _ n34, zp_n _ _ n35, zp_n _ _ n36, zp_n _ _ n37, zp_n _ _ n40, zp_n _ _ n41, zp_n _ _ n42, zp_n _ _ n43, zp_n _ _ n44, zp_n _ _ n45, zp_n _ _ n46, zp_n _ _ n47, zp_n _ _ n50, zp_n _ _ n51, zp_n _ _ n52, zp_n _ _ n53, zp_n _ _ n54, zp_n _ _ n55, zp_n _ _ n56, zp_n _ _ n57, zp_n _ _ n60, zp_n _ _ n61, zp_n _ _ n62, zp_n _ _ n63, zp_n _ _ n64, zp_n _ _ n65, zp_n _ _ n66, zp_n _ _ n67, zp_n _ _ n70, zp_n _ _ n71, zp_n _ _ n72, zp_n _ _ n73, zp_n _ _ n74, zp_n _ _ n75, zp_n _ _ n76, zp_n _ _ n77, zp_n _ _ m01, zp_n _ _ m02, zp_n _ _ m03, zp_n _ _ m04, zp_n _ _ m05, zp_n _ _ m06, zp_n _ _ m07, zp_n _ _ m10, zp_n _ _ m12, zp_n _ _ m13, zp_n _ _ m14, zp_n _ _ m15, zp_n _ _ m16, zp_n _ _ m17, zp_n _ _ m20, zp_n _ _ m21, zp_n _ _ m23, zp_n _ _ m24, zp_n _ _ m25, zp_n _ _ m26, zp_n _ _ m27, zp_n _ _ m30, zp_n _ _ m31, zp_n _ _ m32, zp_n _ _ m34, zp_n _ _ m35, zp_n _ _ m36, zp_n _ _ m37, zp_n _ _ m40, zp_n _ _ m41, zp_n _ _ m42, zp_n _ _ m43, zp_n _ _ m45, zp_n _ _ m46, zp_n _ _ m47, zp_n _ _ m50, zp_n _ _ m51, zp_n _ _ m52, zp_n _ _ m53, zp_n _ _ m54, zp_n _ _ m56, zp_n _ _ m57, zp_n _ _ m60, zp_n _ _ m61, zp_n _ _ m62, zp_n _ _ m63, zp_n _ _ m64, zp_n _ _ m65, zp_n _ _ m67, zp_n _ _ m70, zp_n _ _ m71, zp_n _ _ m72, zp_n _ _ m73, zp_n _ _ m74, zp_n _ _ m75, zp_n _ _ m76]
  refine wa_ald1 dX4_copy_65 ?_
  refine gX4_18 dX4_copy_66 rfl (by assumption) (by assumption) ?_
  refine wa_iconst dX4_copy_69 ?_
  refine wa_ald0 dX4_copy_70 ?_
  refine gX4_18 dX4_copy_71 rfl (by assumption) (by assumption) ?_
  refine wa_iconst dX4_copy_74 ?_
  refine wa_ald0 dX4_copy_75 ?_
  refine gX4_18 dX4_copy_76 rfl (by assumption) (by assumption) ?_
  refine wa_alen dX4_copy_79 (by assumption) (by decide) ?_
  refine wa_copy dX4_copy_80 lX4_65 w_nat_copy w_st_copy w_iSys ⟨Nat.le_of_ble_eq_true rfl, Nat.le_of_ble_eq_true rfl⟩ (by decide) rfl (by assumption) (by assumption) ?_
  try simp only [zp_s, zp_n _ _ n00, zp_n _ _ n01, zp_n _ _ n02, zp_n _ _ n03, zp_n _ _ n04, zp_n _ _ n05, zp_n _ _ n06, zp_n _ _ n07, zp_n _ _ n10, zp_n _ _ n11, zp_n _ _ n12, zp_n _ _ n13, zp_n _ _ n14, zp_n _ _ n15, zp_n _ _ n16, zp_n _ _ n17, zp_n _ _ n20, zp_n _ _ n21, zp_n _ _ n22, zp_n _ _ n23, zp_n _ _ n24, zp_n _ _ n25, zp_n _ _ n26, zp_n _ _ n27, zp_n _ _ n30, zp_n _ _ n31, zp_n _ _ n32, zp_n _ _ n33, zp_n _ _ n34, zp_n _ _ n35, zp_n _ _ n36, zp_n _ _ n37, zp_n _ _ n40, zp_n _ _ n41, zp_n _ _ n42, zp_n _ _ n43, zp_n _ _ n44, zp_n _ _ n45, zp_n _ _ n46, zp_n _ _ n47, zp_n _ _ n50, zp_n _ _ n51, zp_n _ _ n52, zp_n _ _ n53, zp_n _ _ n54, zp_n _ _ n55, zp_n _ _ n56, zp_n _ _ n57, zp_n _ _ n60, zp_n _ _ n61, zp_n _ _ n62, zp_n _ _ n63, zp_n _ _ n64, zp_n _ _ n65, zp_n _ _ n66, zp_n _ _ n67, zp_n _ _ n70, zp_n _ _ n71, zp_n _ _ n72, zp_n _ _ n73, zp_n _ _ n74, zp_n _ _ n75, zp_n _ _ n76, zp_n _ _ n77, zp_n _ _ m01, zp_n _ _ m02, zp_n _ _ m03, zp_n _ _ m04, zp_n _ _ m05, zp_n _ _ m06, zp_n _ _ m07, zp_n _ _ m10, zp_n _ _ m12, zp_n _ _ m13, zp_n _ _ m14, zp_n _ _ m15, zp_n _ _ m16, zp_n _ _ m17, zp_n _ _ m20, zp_n _ _ m21, zp_n _ _ m23, zp_n _ _ m24, zp_n _ _ m25, zp_n _ _ m26, zp_n _ _ m27, zp_n _ _ m30, zp_n _ _ m31, zp_n _ _ m32, zp_n _ _ m34, zp_n _ _ m35, zp_n _ _ m36, zp_n _ _ m37, zp_n _ _ m40, zp_n _ _ m41, zp_n _ _ m42, zp_n _ _ m43, zp_n _ _ m45, zp_n _ _ m46, zp_n _ _ m47, zp_n _ _ m50, zp_n _ _ m51, zp_n _ _ m52, zp_n _ _ m53, zp_n _ _ m54, zp_n _ _ m56, zp_n _ _ m57, zp_n _ _ m60, zp_n _ _ m61, zp_n _ _ m62, zp_n _ _ m63, zp_n _ _ m64, zp_n _ _ m65, zp_n _ _ m67, zp_n _ _ m70, zp_n _ _ m71, zp_n _ _ m72, zp_n _ _ m73, zp_n _ _ m74, zp_n _ _ m75, zp_n _ _ m76]
  refine wa_ald1 dX4_copy_83 ?_
  refine gX4_21 dX4_copy_84 rfl (by assumption) (by assumption) ?_
  refine wa_iconst dX4_copy_87 ?_
  refine wa_ald0 dX4_copy_88 ?_
  refine gX4_21 dX4_copy_89 rfl (by assumption) (by assumption) ?_
  refine wa_iconst dX4_copy_92 ?_
  refine wa_ald0 dX4_copy_93 ?_
  refine gX4_21 dX4_copy_94 rfl (by assumption) (by assumption) ?_
  refine wa_alen dX4_copy_97 (by assumption) (by decide) ?_
  refine wa_copy dX4_copy_98 lX4_65 w_nat_copy w_st_copy w_iSys ⟨Nat.le_of_ble_eq_true rfl, Nat.le_of_ble_eq_true rfl⟩ (by decide) rfl (by assumption) (by assumption) ?_
  try simp only [zp_s, zp_n _ _ n00, zp_n _ _ n01, zp_n _ _ n02, zp_n _ _ n03, zp_n _ _ n04, zp_n _ _ n05, zp_n _ _ n06, zp_n _ _ n07, zp_n _ _ n10, zp_n _ _ n11, zp_n _ _ n12, zp_n _ _ n13, zp_n _ _ n14, zp_n _ _ n15, zp_n _ _ n16, zp_n _ _ n17, zp_n _ _ n20, zp_n _ _ n21, zp_n _ _ n22, zp_n _ _ n23, zp_n _ _ n24, zp_n _ _ n25, zp_n _ _ n26, zp_n _ _ n27, zp_n _ _ n30, zp_n _ _ n31, zp_n _ _ n32, zp_n _ _ n33, zp_n _ _ n34, zp_n _ _ n35, zp_n _ _ n36, zp_n _ _ n37, zp_n _ _ n40, zp_n _ _ n41, zp_n _ _ n42, zp_n _ _ n43, zp_n _ _ n44, zp_n _ _ n45, zp_n _ _ n46, zp_n _ _ n47, zp_n _ _ n50, zp_n _ _ n51, zp_n _ _ n52, zp_n _ _ n53, zp_n _ _ n54, zp_n _ _ n55, zp_n _ _ n56, zp_n _ _ n57, zp_n _ _ n60, zp_n _ _ n61, zp_n _ _ n62, zp_n _ _ n63, zp_n _ _ n64, zp_n _ _ n65, zp_n _ _ n66, zp_n _ _ n67, zp_n _ _ n70, zp_n _ _ n71, zp_n _ _ n72, zp_n _ _ n73, zp_n _ _ n74, zp_n _ _ n75, zp_n _ _ n76, zp_n _ _ n77, zp_n _ _ m01, zp_n _ _ m02, zp_n _ _ m03, zp_n _ _ m04, zp_n _ _ m05, zp_n _ _ m06, zp_n _ _ m07, zp_n _ _ m10, zp_n _ _ m12, zp_n _ _ m13, zp_n _ _ m14, zp_n _ _ m15, zp_n _ _ m16, zp_n _ _ m17, zp_n _ _ m20, zp_n _ _ m21, zp_n _ _ m23, zp_n _ _ m24, zp_n _ _ m25, zp_n _ _ m26, zp_n _ _ m27, zp_n _ _ m30, zp_n _ _ m31, zp_n _ _ m32, zp_n _ _ m34, zp_n _ _ m35, zp_n _ _ m36, zp_n _ _ m37, zp_n _ _ m40, zp_n _ _ m41, zp_n _ _ m42, zp_n _ _ m43, zp_n _ _ m45, zp_n _ _ m46, zp_n _ _ m47, zp_n _ _ m50, zp_n _ _ m51, zp_n _ _ m52, zp_n _ _ m53, zp_n _ _ m54, zp_n _ _ m56, zp_n _ _ m57, zp_n _ _ m60, zp_n _ _ m61, zp_n _ _ m62, zp_n _ _ m63, zp_n _ _ m64, zp_n _ _ m65, zp_n _ _ m67, zp_n _ _ m70, zp_n _ _ m71, zp_n _ _ m72, zp_n _ _ m73, zp_n _ _ m74, zp_n _ _ m75, zp_n _ _ m76]
  refine wa_ald1 dX4_copy_101 ?_
  refine gX4_24 dX4_copy_102 rfl (by assumption) (by assumption) ?_
  refine wa_iconst dX4_copy_105 ?_
  refine wa_ald0 dX4_copy_106 ?_
  refine gX4_24 dX4_copy_107 rfl (by assumption) (by assumption) ?_
  refine wa_iconst dX4_copy_110 ?_
  refine wa_ald0 dX4_copy_111 ?_
  refine gX4_24 dX4_copy_112 rfl (by assumption) (by assumption) ?_
  refine wa_alen dX4_copy_115 (by assumption) (by decide) ?_
  refine wa_copy dX4_copy_116 lX4_65 w_nat_copy w_st_copy w_iSys ⟨Nat.le_of_ble_eq_true rfl, Nat.le_of_ble_eq_true rfl⟩ (by decide) rfl (by assumption) (by assumption) ?_
  try simp only [zp_s, zp_n _ _ n00, zp_n _ _ n01, zp_n _ _ n02, zp_n _ _ n03, zp_n _ _ n04, zp_n _ _ n05, zp_n _ _ n06, zp_n _ _ n07, zp_n _ _ n10, zp_n _ _ n11, zp_n _ _ n12, zp_n _ _ n13, zp_n _ _ n14, zp_n _ _ n15, zp_n _ _ n16, zp_n _ _ n17, zp_n _ _ n20, zp_n _ _ n21, zp_n _ _ n22, zp_n _ _ n23, zp_n _ _ n24, zp_n _ _ n25, zp_n _ _ n26, zp_n _ _ n27, zp_n _ _ n30, zp_n _ _ n31, zp_n _ _ n32, zp_n _ _ n33, zp_n _ _ n34, zp_n _ _ n35, zp_n _ _ n36, zp_n _ _ n37, zp_n _ _ n40, zp_n _ _ n41, zp_n _ _ n42, zp_n _ _ n43, zp_n _ _ n44, zp_n _ _ n45, zp_n _ _ n46, zp_n _ _ n47, zp_n _ _ n50, zp_n _ _ n51, zp_n _ _ n52, zp_n _ _ n53, zp_n _ _ n54, zp_n _ _ n55, zp_n _ _ n56, zp_n _ _ n57, zp_n _ _ n60, zp_n _ _ n61, zp_n _ _ n62, zp_n _ _ n63, zp_n _ _ n64, zp_n _ _ n65, zp_n _ _ n66, zp_n _ _ n67, zp_n _ _ n70, zp_n _ _ n71, zp_n _ _ n72, zp_n _ _ n73, zp_n _ _ n74, zp_n _ _ n75, zp_n _ _ n76, zp_n _ _ n77, zp_n _ _ m01, zp_n _ _ m02, zp_n _ _ m03, zp_n _ _ m04, zp_n _ _ m05, zp_n _ _ m06, zp_n _ _ m07, zp_n _ _ m10, zp_n _ _ m12, zp_n _ _ m13, zp_n _ _ m14, zp_n _ _ m15, zp_n _ _ m16, zp_n _ _ m17, zp_n _ _ m20, zp_n _ _ m21, zp_n _ _ m23, zp_n _ _ m24, zp_n _ _ m25, zp_n _ _ m26, zp_n _ _ m27, zp_n _ _ m30, zp_n _ _ m31, zp_n _ _ m32, zp_n _ _ m34, zp_n _ _ m35, zp_n _ _ m36, zp_n _ _ m37, zp_n _ _ m40, zp_n _ _ m41, zp_n _ _ m42, zp_n _ _ m43, zp_n _ _ m45, zp_n _ _ m46, zp_n _ _ m47, zp_n _ _ m50, zp_n _ _ m51, zp_n _ _ m52, zp_n _ _ m53, zp_n _ _ m54, zp_n _ _ m56, zp_n _ _ m57, zp_n _ _ m60, zp_n _ _ m61, zp_n _ _ m62, zp_n _ _ m63, zp_n _ _ m64, zp_n _ _ m65, zp_n _ _ m67, zp_n _ _ m70, zp_n _ _ m71, zp_n _ _ m72, zp_n _ _ m73, zp_n _ _ m74, zp_n _ _ m75, zp_n _ _ m76]
  refine wa_ald0 dX4_copy_119 ?_
  refine wa_ald1 dX4_copy_120 ?_
  refine gX4_53 dX4_copy_121 rfl (by assumption) ?_
  refine pX4_53 dX4_copy_124 rfl (by assumption) ?_
  try simp only [zp_s, zp_n _ _ n00, zp_n _ _ n01, zp_n _ _ n02, zp_n _ _ n03, zp_n _ _ n04, zp_n _ _ n05, zp_n _ _ n06, zp_n _ _ n07, zp_n _ _ n10, zp_n _ _ n11, zp_n _ _ n12, zp_n _ _ n13, zp_n _ _ n14, zp_n _ _ n15, zp_n _ _ n16, zp_n _ _ n17, zp_n _ _ n20, zp_n _ _ n21, zp_n _ _ n22, zp_n _ _ n23, zp_n _ _ n24, zp_n _ _ n25, zp_n _ _ n26, zp_n _ _ n27, zp_n _ _ n30, zp_n _ _ n31, zp_n _ _ n32, zp_n _ _ n33, zp_n _ _ n34, zp_n _ _ n35, zp_n _ _ n36, zp_n _ _ n37, zp_n _ _ n40, zp_n _ _ n41, zp_n _ _ n42, zp_n _ _ n43, zp_n _ _ n44, zp_n _ _ n45, zp_n _ _ n46, zp_n _ _ n47, zp_n _ _ n50, zp_n _ _ n51, zp_n _ _ n52, zp_n _ _ n53, zp_n _ _ n54, zp_n _ _ n55, zp_n _ _ n56, zp_n _ _ n57, zp_n _ _ n60, zp_n _ _ n61, zp_n _ _ n62, zp_n _ _ n63, zp_n _ _ n64, zp_n _ _ n65, zp_n _ _ n66, zp_n _ _ n67, zp_n _ _ n70, zp_n _ _ n71, zp_n _ _ n72, zp_n _ _ n73, zp_n _ _ n74, zp_n _ _ n75, zp_n _ _ n76, zp_n _ _ n77, zp_n _ _ m01, zp_n _ _ m02, zp_n _ _ m03, zp_n _ _ m04, zp_n _ _ m05, zp_n _ _ m06, zp_n _ _ m07, zp_n _ _ m10, zp_n _ _ m12, zp_n _ _ m13, zp_n _ _ m14, zp_n _ _ m15, zp_n _ _ m16, zp_n _ _ m17, zp_n _ _ m20, zp_n _ _ m21, zp_n _ _ m23, zp_n _ _ m24, zp_n _ _ m25, zp_n _ _ m26, zp_n _ _ m27, zp_n _ _ m30, zp_n _ _ m31, zp_n _ _ m32, zp_n _ _ m34, zp_n _ _ m35, zp_n _ _ m36, zp_n _ _ m37, zp_n _ _ m40, zp_n _ _ m41, zp_n _ _ m42, zp_n _ _ m43, zp_n _ _ m45, zp_n _ _ m46, zp_n _ _ m47, zp_n _ _ m50, zp_n _ _ m51, zp_n _ _ m52, zp_n _ _ m53, zp_n _ _ m54, zp_n _ _ m56, zp_n _ _ m57, zp_n _ _ m60, zp_n _ _ m61, zp_n _ _ m62, zp_n _ _ m63, zp_n _ _ m64, zp_n _ _ m65, zp_n _ _ m67, zp_n _ _ m70, zp_n _ _ m71, zp_n _ _ m72, zp_n _ _ m73, zp_n _ _ m74, zp_n _ _ m75, zp_n _ _ m76]
  refine wa_ald1 dX4_copy_127 ?_
  refine gX4_27 dX4_copy_128 rfl (by assumption) (by assumption) ?_
  refine wa_iconst dX4_copy_131 ?_
  refine wa_ald0 dX4_copy_132 ?_
  refine gX4_27 dX4_copy_133 rfl (by assumption) (by assumption) ?_
  refine wa_iconst dX4_copy_136 ?_
  refine wa_ald0 dX4_copy_137 ?_
  refine gX4_27 dX4_copy_138 rfl (by assumption) (by assumption) ?_
  refine wa_alen dX4_copy_141 (by assumption) (by decide) ?_
  refine wa_copy dX4_copy_142 lX4_65 w_nat_copy w_st_copy w_iSys ⟨Nat.le_of_ble_eq_true rfl, Nat.le_of_ble_eq_true rfl⟩ (by decide) rfl (by assumption) (by assumption) ?_
  try simp only [zp_s, zp_n _ _ n00, zp_n _ _ n01, zp_n _ _ n02, zp_n _ _ n03, zp_n _ _ n04, zp_n _ _ n05, zp_n _ _ n06, zp_n _ _ n07, zp_n _ _ n10, zp_n _ _ n11, zp_n _ _ n12, zp_n _ _ n13, zp_n _ _ n14, zp_n _ _ n15, zp_n _ _ n16, zp_n _ _ n17, zp_n _ _ n20, zp_n _ _ n21, zp_n _ _ n22, zp_n _ _ n23, zp_n _ _ n24, zp_n _ _ n25, zp_n _ _ n26, zp_n _ _ n27, zp_n _ _ n30, zp_n _ _ n31, zp_n _ _ n32, zp_n _ _ n33, zp_n _ _ n34, zp_n _ _ n35, zp_n _ _ n36, zp_n _ _ n37, zp_n _ _ n40, zp_n _ _ n41, zp_n _ _ n42, zp_n _ _ n43, zp_n _ _ n44, zp_n _ _ n45, zp_n _ _ n46, zp_n _ _ n47, zp_n _ _ n50, zp_n _ _ n51, zp_n _ _ n52, zp_n _ _ n53, zp_n _ _ n54, zp_n _ _ n55, zp_n _ _ n56, zp_n _ _ n57, zp_n _ _ n60, zp_n _ _ n61, zp_n _ _ n62, zp_n _ _ n63, zp_n _ _ n64, zp_n _ _ n65, zp_n _ _ n66, zp_n _ _ n67, zp_n _ _ n70, zp_n _ _ n71, zp_n _ _ n72, zp_n _ _ n73, zp_n _ _ n74, zp_n _ _ n75, zp_n _ _ n76, zp_n _ _ n77, zp_n _ _ m01, zp_n _ _ m02, zp_n _ _ m03, zp_n _ _ m04, zp_n _ _ m05, zp_n _ _ m06, zp_n _ _ m07, zp_n _ _ m10, zp_n _ _ m12, zp_n _ _ m13, zp_n _ _ m14, zp_n _ _ m15, zp_n _ _ m16, zp_n _ _ m17, zp_n _ _ m20, zp_n _ _ m21, zp_n _ _ m23, zp_n _ _ m24, zp_n _ _ m25, zp_n _ _ m26, zp_n _ _ m27, zp_n _ _ m30, zp_n _ _ m31, zp_n _ _ m32, zp_n _ _ m34, zp_n _ _ m35, zp_n _ _ m36, zp_n _ _ m37, zp_n _ _ m40, zp_n _ _ m41, zp_n _ _ m42, zp_n _ _ m43, zp_n _ _ m45, zp_n _ _ m46, zp_n _ _ m47, zp_n _ _ m50, zp_n _ _ m51, zp_n _ _ m52, zp_n _ _ m53, zp_n _ _ m54, zp_n _ _ m56, zp_n _ _ m57, zp_n _ _ m60, zp_n _ _ m61, zp_n _ _ m62, zp_n _ _ m63, zp_n _ _ m64, zp_n _ _ m65, zp_n _ _ m67, zp_n _ _ m70, zp_n _ _ m71, zp_n _ _ m72, zp_n _ _ m73, zp_n _ _ m74, zp_n _ _ m75, zp_n _ _ m76]
  refine wa_ald1 dX4_copy_145 ?_
  refine gX4_30 dX4_copy_146 rfl (by assumption) (by assumption) ?_
  refine wa_iconst dX4_copy_149 ?_
  refine wa_ald0 dX4_copy_150 ?_
  refine gX4_30 dX4_copy_151 rfl (by assumption) (by assumption) ?_
  refine wa_iconst dX4_copy_154 ?_
  refine wa_ald0 dX4_copy_155 ?_
  refine gX4_30 dX4_copy_156 rfl (by assumption) (by assumption) ?_
  refine wa_alen dX4_copy_159 (by assumption) (by decide) ?_
  refine wa_copy dX4_copy_160 lX4_65 w_nat_copy w_st_copy w_iSys ⟨Nat.le_of_ble_eq_true rfl, Nat.le_of_ble_eq_true rfl⟩ (by decide) rfl (by assumption) (by assumption) ?_
  try simp only [zp_s, zp_n _ _ n00, zp_n _ _ n01, zp_n _ _ n02, zp_n _ _ n03, zp_n _ _ n04, zp_n _ _ n05, zp_n _ _ n06, zp_n _ _ n07, zp_n _ _ n10, zp_n _ _ n11, zp_n _ _ n12, zp_n _ _ n13, zp_n _ _ n14, zp_n _ _ n15, zp_n _ _ n16, zp_n _ _ n17, zp_n _ _ n20, zp_n _ _ n21, zp_n _ _ n22, zp_n _ _ n23, zp_n _ _ n24, zp_n _ _ n25, zp_n _ _ n26, zp_n _ _ n27, zp_n _ _ n30, zp_n _ _ n31, zp_n _ _ n32, zp_n _ _ n33, zp_n _ _ n34, zp_n _ _ n35, zp_n _ _ n36, zp_n _ _ n37, zp_n _ _ n40, zp_n _ _ n41, zp_n _ _ n42, zp_n _ _ n43, zp_n _ _ n44, zp_n _ _ n45, zp_n _ _ n46, zp_n _ _ n47, zp_n _ _ n50, zp_n _ _ n51, zp_n _ _ n52, zp_n _ _ n53, zp_n _ _ n54, zp_n _ _ n55, zp_n _ _ n56, zp_n _ _ n57, zp_n _ _ n60, zp_n _ _ n61, zp_n _ _ n62, zp_n _ _ n63, zp_n _ _ n64, zp_n _ _ n65, zp_n _ _ n66, zp_n _ _ n67, zp_n _ _ n70, zp_n _ _ n71, zp_n _ _ n72, zp_n _ _ n73, zp_n _ _ n74, zp_n _ _ n75, zp_n _ _ n76, zp_n _ _ n77, zp_n _ _ m01, zp_n _ _ m02, zp_n _ _ m03, zp_n _ _ m04, zp_n _ _ m05, zp_n _ _ m06, zp_n _ _ m07, zp_n _ _ m10, zp_n _ _ m12, zp_n _ _ m13, zp_n _ _ m14, zp_n _ _ m15, zp_n _ _ m16, zp_n _ _ m17, zp_n _ _ m20, zp_n _ _ m21, zp_n _ _ m23, zp_n _ _ m24, zp_n _ _ m25, zp_n _ _ m26, zp_n _ _ m27, zp_n _ _ m30, zp_n _ _ m31, zp_n _ _ m32, zp_n _ _ m34, zp_n _ _ m35, zp_n _ _ m36, zp_n _ _ m37, zp_n _ _ m40, zp_n _ _ m41, zp_n _ _ m42, zp_n _ _ m43, zp_n _ _ m45, zp_n _ _ m46, zp_n _ _ m47, zp_n _ _ m50, zp_n _ _ m51, zp_n _ _ m52, zp_n _ _ m53, zp_n _ _ m54, zp_n _ _ m56, zp_n _ _ m57, zp_n _ _ m60, zp_n _ _ m61, zp_n _ _ m62, zp_n _ _ m63, zp_n _ _ m64, zp_n _ _ m65, zp_n _ _ m67, zp_n _ _ m70, zp_n _ _ m71, zp_n _ _ m72, zp_n _ _ m73, zp_n _ _ m74, zp_n _ _ m75, zp_n _ _ m76]
  refine wa_obj s0 (V b) (fun j hj ht => ?_) ?_
  · have hj' : j = 0 ∨ j = 3 ∨ j = 4 ∨ j = 8 := by
      have hall : ∀ j, j < 11 → zT 4 j = .int → j = 0 ∨ j = 3 ∨ j = 4 ∨ j = 8 := by decide +kernel
      exact hall j hj ht
    simp only [zp_s, zp_n _ _ n00, zp_n _ _ n01, zp_n _ _ n02, zp_n _ _ n03, zp_n _ _ n04, zp_n _ _ n05, zp_n _ _ n06, zp_n _ _ n07, zp_n _ _ n10, zp_n _ _ n11, zp_n _ _ n12, zp_n _ _ n13, zp_n _ _ n14, zp_n _ _ n15, zp_n _ _ n16, zp_n _ _ n17, zp_n _ _ n20, zp_n _ _ n21, zp_n _ _ n22, zp_n _ _ n23, zp_n _ _ n24, zp_n _ _ n25, zp_n _ _ n26, zp_n _ _ n27, zp_n _ _ n30, zp_n _ _ n31, zp_n _ _ n32, zp_n _ _ n33, zp_n _ _ n34, zp_n _ _ n35, zp_n _ _ n36, zp_n _ _ n37, zp_n _ _ n40, zp_n _ _ n41, zp_n _ _ n42, zp_n _ _ n43, zp_n _ _ n44, zp_n _ _ n45, zp_n _ _ n46, zp_n _ _ n47, zp_n _ _ n50, zp_n _ _ n51, zp_n _ _ n52, zp_n _ _ n53, zp_n _ _ n54, zp_n _ _ n55, zp_n _ _ n56, zp_n _ _ n57, zp_n _ _ n60, zp_n _ _ n61, zp_n _ _ n62, zp_n _ _ n63, zp_n _ _ n64, zp_n _ _ n65, zp_n _ _ n66, zp_n _ _ n67, zp_n _ _ n70, zp_n _ _ n71, zp_n _ _ n72, zp_n _ _ n73, zp_n _ _ n74, zp_n _ _ n75, zp_n _ _ n76, zp_n _ _ n77, zp_n _ _ m01, zp_n _ _ m02, zp_n _ _ m03, zp_n _ _ m04, zp_n _ _ m05, zp_n _ _ m06, zp_n _ _ m07, zp_n _ _ m10, zp_n _ _ m12, zp_n _ _ m13, zp_n _ _ m14, zp_n _ _ m15, zp_n _ _ m16, zp_n _ _ m17, zp_n _ _ m20, zp_n _ _ m21, zp_n _ _ m23, zp_n _ _ m24, zp_n _ _ m25, zp_n _ _ m26, zp_n _ _ m27, zp_n _ _ m30, zp_n _ _ m31, zp_n _ _ m32, zp_n _ _ m34, zp_n _ _ m35, zp_n _ _ m36, zp_n _ _ m37, zp_n _ _ m40, zp_n _ _ m41, zp_n _ _ m42, zp_n _ _ m43, zp_n _ _ m45, zp_n _ _ m46, zp_n _ _ m47, zp_n _ _ m50, zp_n _ _ m51, zp_n _ _ m52, zp_n _ _ m53, zp_n _ _ m54, zp_n _ _ m56, zp_n _ _ m57, zp_n _ _ m60, zp_n _ _ m61, zp_n _ _ m62, zp_n _ _ m63, zp_n _ _ m64, zp_n _ _ m65, zp_n _ _ m67, zp_n _ _ m70, zp_n _ _ m71, zp_n _ _ m72, zp_n _ _ m73, zp_n _ _ m74, zp_n _ _ m75, zp_n _ _ m76]
    rcases hj' with rfl | rfl | rfl | rfl <;> simp [za]
  · refine wa_return dX4_copy_163 rfl rfl (Nat.le_refl _) ⟨rfl, rfl, rfl, ?_⟩
    refine cpV_of (fun k hk => ?_) ?_ ?_ ?_ ?_ ?_ ?_ ?_ ?_
    · simp only [zp_n _ _ (show k ≠ a by omega), zp_n _ _ (show k ≠ a + 1 by omega), zp_n _ _ (show k ≠ a + 2 by omega), zp_n _ _ (show k ≠ a + 3 by omega), zp_n _ _ (show k ≠ a + 4 by omega), zp_n _ _ (show k ≠ a + 5 by omega), zp_n _ _ (show k ≠ a + 6 by omega), zp_n _ _ (show k ≠ a + 7 by omega)]
    all_goals simp only [zp_s, zp_n _ _ n00, zp_n _ _ n01, zp_n _ _ n02, zp_n _ _ n03, zp_n _ _ n04, zp_n _ _ n05, zp_n _ _ n06, zp_n _ _ n07, zp_n _ _ n10, zp_n _ _ n11, zp_n _ _ n12, zp_n _ _ n13, zp_n _ _ n14, zp_n _ _ n15, zp_n _ _ n16, zp_n _ _ n17, zp_n _ _ n20, zp_n _ _ n21, zp_n _ _ n22, zp_n _ _ n23, zp_n _ _ n24, zp_n _ _ n25, zp_n _ _ n26, zp_n _ _ n27, zp_n _ _ n30, zp_n _ _ n31, zp_n _ _ n32, zp_n _ _ n33, zp_n _ _ n34, zp_n _ _ n35, zp_n _ _ n36, zp_n _ _ n37, zp_n _ _ n40, zp_n _ _ n41, zp_n _ _ n42, zp_n _ _ n43, zp_n _ _ n44, zp_n _ _ n45, zp_n _ _ n46, zp_n _ _ n47, zp_n _ _ n50, zp_n _ _ n51, zp_n _ _ n52, zp_n _ _ n53, zp_n _ _ n54, zp_n _ _ n55, zp_n _ _ n56, zp_n _ _ n57, zp_n _ _ n60, zp_n _ _ n61, zp_n _ _ n62, zp_n _ _ n63, zp_n _ _ n64, zp_n _ _ n65, zp_n _ _ n66, zp_n _ _ n67, zp_n _ _ n70, zp_n _ _ n71, zp_n _ _ n72, zp_n _ _ n73, zp_n _ _ n74, zp_n _ _ n75, zp_n _ _ n76, zp_n _ _ n77, zp_n _ _ m01, zp_n _ _ m02, zp_n _ _ m03, zp_n _ _ m04, zp_n _ _ m05, zp_n _ _ m06, zp_n _ _ m07, zp_n _ _ m10, zp_n _ _ m12, zp_n _ _ m13, zp_n _ _ m14, zp_n _ _ m15, zp_n _ _ m16, zp_n _ _ m17, zp_n _ _ m20, zp_n _ _ m21, zp_n _ _ m23, zp_n _ _ m24, zp_n _ _ m25, zp_n _ _ m26, zp_n _ _ m27, zp_n _ _ m30, zp_n _ _ m31, zp_n _ _ m32, zp_n _ _ m34, zp_n _ _ m35, zp_n _ _ m36, zp_n _ _ m37, zp_n _ _ m40, zp_n _ _ m41, zp_n _ _ m42, zp_n _ _ m43, zp_n _ _ m45, zp_n _ _ m46, zp_n _ _ m47, zp_n _ _ m50, zp_n _ _ m51, zp_n _ _ m52, zp_n _ _ m53, zp_n _ _ m54, zp_n _ _ m56, zp_n _ _ m57, zp_n _ _ m60, zp_n _ _ m61, zp_n _ _ m62, zp_n _ _ m63, zp_n _ _ m64, zp_n _ _ m65, zp_n _ _ m67, zp_n _ _ m70, zp_n _ _ m71, zp_n _ _ m72, zp_n _ _ m73, zp_n _ _ m74, zp_n _ _ m75, zp_n _ _ m76]
