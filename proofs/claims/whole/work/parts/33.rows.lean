/-! Rows 29: picks 30, day 31, morning 32, tally 33, said 29.4, fit 29.5, inSome 29.6, inAll 29.7 -/
def mxF (f : Nat → Int) : Nat → Int
  | 0 => 0
  | m + 1 => max (mxF f m) (f m)
theorem mxF_b {f : Nat → Int} {B : Int} (hB : 0 ≤ B) (hf : ∀ j, 0 ≤ f j ∧ f j ≤ B) (m : Nat) : 0 ≤ mxF f m ∧ mxF f m ≤ B := by
  induction m with
  | zero => exact ⟨Int.le_refl _, hB⟩
  | succ m ih => have := hf m; unfold mxF; omega
theorem ct_mostLeft {n : Nat} {S : zH} {Rf : zG} {V : zE} {g : Nat} (hL : Lay S Rf) (hg : g < 8) (hx : ∀ j, 0 ≤ V 33 j ∧ V 33 j ≤ 1000000) : Ci 2 mX2_mostLeft [zR 29, zI (g : Int)] n S Rf V (mxF (fun i => V 33 (g * 32 + i)) 32) V := by
  refine ct_of (by decide) rfl (Nat.le_of_ble_eq_true rfl) ?_
  have loop : ∀ (q i : Nat), i + q = 32 → Wa zXn mX2_mostLeft (zrm 2 0 0) (zZm (qI (mxF (fun i => V 33 (g * 32 + i)) 32) S Rf V) (n + 0) 0 0) 0 0 n S 16 [some (zR 29), some (zI (g : Int)), some (zI (mxF (fun i => V 33 (g * 32 + i)) i)), some (zI (i : Int))] [] Rf V := by
    intro q
    induction q with
    | zero =>
      intro i hi
      obtain rfl : i = 32 := by omega
      refine wa_ild3 dX2_mostLeft_16 ?_
      refine wa_bipush dX2_mostLeft_17 (by decide) ?_
      refine wa_icmp_ge 44 dX2_mostLeft_19 (by decide) (by omega) (by omega) (fun c19 => ?_) (fun c19 => ?_)
      · refine wa_ild2 dX2_mostLeft_44 ?_
        exact wa_ireturn dX2_mostLeft_45 rfl rfl (Nat.le_refl _) (by exact ⟨rfl, rfl, rfl, rfl⟩)
      · exact absurd c19 (by decide)
    | succ q ih =>
      intro i hi
      have e1 := ih (i + 1) (by omega)
      have hb := mxF_b (f := fun i => V 33 (g * 32 + i)) (B := 1000000) (by decide) (fun j => hx _) i
      have hxi := hx (g * 32 + i)
      have ti : ((g : Int) * 32 + (i : Int)).toNat = g * 32 + i := by omega
      refine wa_ild3 dX2_mostLeft_16 ?_
      refine wa_bipush dX2_mostLeft_17 (by decide) ?_
      refine wa_icmp_ge 44 dX2_mostLeft_19 (by decide) (by first | omega | (simp only [ti]; omega)) (by first | omega | (simp only [ti]; omega)) (fun c19 => ?_) (fun c19 => ?_)
      · exact absurd c19 (by omega)
      · refine wa_ild2 dX2_mostLeft_22 ?_
        refine wa_ald0 dX2_mostLeft_23 ?_
        refine gX2_21 dX2_mostLeft_24 rfl (by first | assumption | exact hL.1 _ (by decide)) (by first | assumption | exact hL.2 _ _ (by decide)) ?_
        refine wa_ild1 dX2_mostLeft_27 ?_
        refine wa_bipush dX2_mostLeft_28 (by decide) ?_
        refine wa_imul dX2_mostLeft_30 ?_
        refine wa_ild3 dX2_mostLeft_31 ?_
        refine wa_iadd dX2_mostLeft_32 ?_
        refine wa_iaload dX2_mostLeft_33 (by first | assumption | exact hL.1 _ (by decide)) (by first | omega | (simp only [ti]; omega)) (by first | decide | omega) ?_
        refine wa_max dX2_mostLeft_34 lX2_69 w_st_max w_iMath w_co_max ⟨Nat.le_of_ble_eq_true rfl, Nat.le_of_ble_eq_true rfl⟩ (by decide) (by first | omega | (simp only [ti]; omega)) (by first | omega | (simp only [ti]; omega)) ?_
        refine wa_ist2 dX2_mostLeft_37 (by decide) rfl ?_
        refine wa_iinc3 dX2_mostLeft_38 (by decide) rfl ?_
        refine wa_goto 16 dX2_mostLeft_41 (by decide) ?_
        rw [ti]
        exact e1
  refine wa_iconst dX2_mostLeft_0 ?_
  refine wa_ist2 dX2_mostLeft_1 (by decide) rfl ?_
  refine wa_ild1 dX2_mostLeft_2 ?_
  refine wa_iconst dX2_mostLeft_3 ?_
  refine wa_bipush dX2_mostLeft_4 (by decide) ?_
  refine kX2_37 dX2_mostLeft_6 rfl (ct_isOutside (by omega) (by decide) (by decide)) (by decide) (Nat.le_of_ble_eq_true rfl) ⟨Nat.le_refl _, Nat.le_refl _⟩ (zdI ?_)
  refine wa_ifeq_B 14 dX2_mostLeft_9 (by decide) (fun c9 => ?_) (fun c9 => ?_)
  · refine wa_iconst dX2_mostLeft_14 ?_
    refine wa_ist3 dX2_mostLeft_15 (by decide) rfl ?_
    exact loop 32 0 (by omega)
  · exact absurd c9 (by omega)
/-- in how many orders: of the first i + 1 picks; how many are the same at the end -/
def orS (pk : Nat → Int) : Nat → Int × Int
  | 0 => (1, 1)
  | i + 1 => if pk (i + 1) = pk i then ((orS pk i).1 * ((i : Int) + 2) / ((orS pk i).2 + 1), (orS pk i).2 + 1) else ((orS pk i).1 * ((i : Int) + 2) / 1, 1)
theorem orS_b {pk : Nat → Int} {i : Nat} (hi : i ≤ 2) : 1 ≤ (orS pk i).2 ∧ (orS pk i).2 ≤ 1 + i ∧ 0 ≤ (orS pk i).1 ∧ (orS pk i).1 ≤ 6 := by
  have h1 : 1 ≤ (orS pk 1).2 ∧ (orS pk 1).2 ≤ 2 ∧ 0 ≤ (orS pk 1).1 ∧ (orS pk 1).1 ≤ 2 := by
    simp only [orS]; split <;> simp
  obtain rfl | rfl | rfl : i = 0 ∨ i = 1 ∨ i = 2 := by omega
  · simp [orS]
  · refine ⟨h1.1, h1.2.1, h1.2.2.1, ?_⟩; omega
  · rw [orS]
    have hs : (orS pk 1).2 = 1 ∨ (orS pk 1).2 = 2 := by omega
    split
    · dsimp only
      have hd : ∀ s : Int, (s = 2 ∨ s = 3) → 0 ≤ (orS pk 1).1 * (((1 : Nat) : Int) + 2) / s ∧ (orS pk 1).1 * (((1 : Nat) : Int) + 2) / s ≤ 6 := by
        intro s hs; rcases hs with rfl | rfl <;> omega
      have := hd ((orS pk 1).2 + 1) (by omega)
      omega
    · dsimp only; omega
theorem ct_orders {n : Nat} {S : zH} {Rf : zG} {V : zE} {m : Nat} (hL : Lay S Rf) (hm : V 29 4 = (m : Int)) (hm3 : m ≤ 3) (hp : ∀ j, 0 ≤ V 30 j ∧ V 30 j ≤ 100) : Ci 1 mX2_orders [zR 29] n S Rf V (orS (V 30) (m - 1)).1 V := by
  refine ct_of (by decide) rfl (Nat.le_of_ble_eq_true rfl) ?_
  have loop : ∀ (q i : Nat), (i + 1) + q = max m 1 → Wa zXn mX2_orders (zrm 1 0 0) (zZm (qI (orS (V 30) (m - 1)).1 S Rf V) (n + 0) 0 0) 0 0 n S 6 [some (zR 29), some (zI (orS (V 30) i).1), some (zI (orS (V 30) i).2), some (zI (((i + 1 : Nat) : Int)))] [] Rf V := by
    intro q
    induction q with
    | zero =>
      intro i hi
      obtain rfl : i = m - 1 := by omega
      refine wa_ild3 dX2_orders_6 ?_
      refine wa_ald0 dX2_orders_7 ?_
      refine gX2_24 dX2_orders_8 rfl (by first | assumption | exact hL.1 _ (by decide)) ?_
      refine wa_icmp_ge 58 dX2_orders_11 (by decide) (by omega) (by omega) (fun c11 => ?_) (fun c11 => ?_)
      · refine wa_ild1 dX2_orders_58 ?_
        exact wa_ireturn dX2_orders_59 rfl rfl (Nat.le_refl _) (by exact ⟨rfl, rfl, rfl, rfl⟩)
      · exact absurd c11 (by omega)
    | succ q ih =>
      intro i hi
      have e1 := ih (i + 1) (by omega)
      have hb := orS_b (pk := V 30) (i := i) (by omega)
      have hp1 := hp (i + 1)
      have hp0 := hp i
      have ti : (((i + 1 : Nat) : Int) - 1).toNat = i := by omega
      have e6 : 0 ≤ (orS (V 30) i).1 * (((i + 1 : Nat) : Int) + 1) ∧ (orS (V 30) i).1 * (((i + 1 : Nat) : Int) + 1) ≤ 24 := by
        obtain rfl | rfl | rfl : i = 0 ∨ i = 1 ∨ i = 2 := by omega
        · simp only [Nat.zero_add]; omega
        · simp only [Nat.reduceAdd]; omega
        · simp only [Nat.reduceAdd]; omega
      rw [orS] at e1
      rw [show (i : Int) + 2 = ((i + 1 : Nat) : Int) + 1 by omega] at e1
      refine wa_ild3 dX2_orders_6 ?_
      refine wa_ald0 dX2_orders_7 ?_
      refine gX2_24 dX2_orders_8 rfl (by first | assumption | exact hL.1 _ (by decide)) ?_
      refine wa_icmp_ge 58 dX2_orders_11 (by decide) (by first | omega | (simp only [ti, Int.toNat_natCast]; omega)) (by first | omega | (simp only [ti, Int.toNat_natCast]; omega)) (fun c11 => ?_) (fun c11 => ?_)
      · exact absurd c11 (by omega)
      · refine wa_ild3 dX2_orders_14 ?_
        refine wa_iconst dX2_orders_15 ?_
        refine wa_icmp_ge 58 dX2_orders_16 (by decide) (by first | omega | (simp only [ti, Int.toNat_natCast]; omega)) (by first | omega | (simp only [ti, Int.toNat_natCast]; omega)) (fun c16 => ?_) (fun c16 => ?_)
        · exact absurd c16 (by omega)
        · refine wa_ald0 dX2_orders_19 ?_
          refine gX2_9 dX2_orders_20 rfl (by first | assumption | exact hL.1 _ (by decide)) (by first | assumption | exact hL.2 _ _ (by decide)) ?_
          refine wa_ild3 dX2_orders_23 ?_
          refine wa_iaload dX2_orders_24 (by first | assumption | exact hL.1 _ (by decide)) (by first | omega | (simp only [ti, Int.toNat_natCast]; omega)) (by first | decide | omega) ?_
          refine wa_ald0 dX2_orders_25 ?_
          refine gX2_9 dX2_orders_26 rfl (by first | assumption | exact hL.1 _ (by decide)) (by first | assumption | exact hL.2 _ _ (by decide)) ?_
          refine wa_ild3 dX2_orders_29 ?_
          refine wa_iconst dX2_orders_30 ?_
          refine wa_isub dX2_orders_31 ?_
          refine wa_iaload dX2_orders_32 (by first | assumption | exact hL.1 _ (by decide)) (by first | omega | (simp only [ti, Int.toNat_natCast]; omega)) (by first | decide | omega) ?_
          refine wa_icmp_ne 42 dX2_orders_33 (by decide) (by first | omega | (simp only [ti, Int.toNat_natCast]; omega)) (by first | omega | (simp only [ti, Int.toNat_natCast]; omega)) (fun c33 => ?_) (fun c33 => ?_)
          · refine wa_iconst dX2_orders_42 ?_
            refine wa_ist2 dX2_orders_43 (by decide) rfl ?_
            refine wa_ild1 dX2_orders_44 ?_
            refine wa_ild3 dX2_orders_45 ?_
            refine wa_iconst dX2_orders_46 ?_
            refine wa_iadd dX2_orders_47 ?_
            refine wa_imul dX2_orders_48 ?_
            refine wa_ild2 dX2_orders_49 ?_
            refine wa_idiv dX2_orders_50 (by first | omega | (simp only [ti, Int.toNat_natCast]; omega)) (by first | omega | (simp only [ti, Int.toNat_natCast]; omega)) ?_
            refine wa_ist1 dX2_orders_51 (by decide) rfl ?_
            refine wa_iinc3 dX2_orders_52 (by decide) rfl ?_
            refine wa_goto 6 dX2_orders_55 (by decide) ?_
            simp only [ti, Int.toNat_natCast] at c33
            first | rw [if_pos c33] at e1 | rw [if_neg c33] at e1
            exact e1
          · refine wa_ild2 dX2_orders_36 ?_
            refine wa_iconst dX2_orders_37 ?_
            refine wa_iadd dX2_orders_38 ?_
            refine wa_goto 43 dX2_orders_39 (by decide) ?_
            refine wa_ist2 dX2_orders_43 (by decide) rfl ?_
            refine wa_ild1 dX2_orders_44 ?_
            refine wa_ild3 dX2_orders_45 ?_
            refine wa_iconst dX2_orders_46 ?_
            refine wa_iadd dX2_orders_47 ?_
            refine wa_imul dX2_orders_48 ?_
            refine wa_ild2 dX2_orders_49 ?_
            refine wa_idiv dX2_orders_50 (by first | omega | (simp only [ti, Int.toNat_natCast]; omega)) (by first | omega | (simp only [ti, Int.toNat_natCast]; omega)) ?_
            refine wa_ist1 dX2_orders_51 (by decide) rfl ?_
            refine wa_iinc3 dX2_orders_52 (by decide) rfl ?_
            refine wa_goto 6 dX2_orders_55 (by decide) ?_
            simp only [ti, Int.toNat_natCast] at c33
            first | rw [if_pos c33] at e1 | rw [if_neg c33] at e1
            exact e1
  refine wa_iconst dX2_orders_0 ?_
  refine wa_ist1 dX2_orders_1 (by decide) rfl ?_
  refine wa_iconst dX2_orders_2 ?_
  refine wa_ist2 dX2_orders_3 (by decide) rfl ?_
  refine wa_iconst dX2_orders_4 ?_
  refine wa_ist3 dX2_orders_5 (by decide) rfl ?_
  exact loop (max m 1 - 1) 0 (by omega)
