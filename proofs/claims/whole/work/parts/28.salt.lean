/-! Salt 26: tooDeep 27, spreads 28, count 26.2, fewest 26.3 -/
def spI (c : Nat) (x : Nat → Int) (g : Int) : Int := if 0 ≤ g ∧ g < c then x g.toNat else 0
theorem ct_spreadsIn {n : Nat} {S : zH} {Rf : zG} {V : zE} {c : Nat} {g : Int} (hL : Lay S Rf) (hc : V 26 2 = (c : Int)) (h8 : c ≤ 8) (hg : -100 ≤ g ∧ g ≤ 100) : Ci 1 mX3_spreadsIn [zR 26, zI g] n S Rf V (spI c (V 28) g) V := by
  refine ct_of (by decide) rfl (Nat.le_of_ble_eq_true rfl) ?_
  refine wa_ild1 dX3_spreadsIn_0 ?_
  refine wa_if_lt 27 dX3_spreadsIn_1 (by decide) (by omega) (fun c1 => ?_) (fun c1 => ?_)
  · refine wa_iconst dX3_spreadsIn_27 ?_
    exact wa_ireturn dX3_spreadsIn_28 rfl rfl (Nat.le_refl _) (by refine ⟨?_, rfl, rfl, rfl⟩; unfold spI; first | rw [if_neg (by omega)] | rw [if_pos (by omega)])
  · refine wa_ild1 dX3_spreadsIn_4 ?_
    refine wa_ald0 dX3_spreadsIn_5 ?_
    refine gX3_18 dX3_spreadsIn_6 rfl (by first | assumption | exact hL.1 _ (by decide)) ?_
    refine wa_icmp_ge 27 dX3_spreadsIn_9 (by decide) (by omega) (by omega) (fun c9 => ?_) (fun c9 => ?_)
    · refine wa_iconst dX3_spreadsIn_27 ?_
      exact wa_ireturn dX3_spreadsIn_28 rfl rfl (Nat.le_refl _) (by refine ⟨?_, rfl, rfl, rfl⟩; unfold spI; first | rw [if_neg (by omega)] | rw [if_pos (by omega)])
    · refine wa_ild1 dX3_spreadsIn_12 ?_
      refine wa_bipush dX3_spreadsIn_13 (by decide) ?_
      refine wa_icmp_ge 27 dX3_spreadsIn_15 (by decide) (by omega) (by omega) (fun c15 => ?_) (fun c15 => ?_)
      · refine wa_iconst dX3_spreadsIn_27 ?_
        exact wa_ireturn dX3_spreadsIn_28 rfl rfl (Nat.le_refl _) (by refine ⟨?_, rfl, rfl, rfl⟩; unfold spI; first | rw [if_neg (by omega)] | rw [if_pos (by omega)])
      · refine wa_ald0 dX3_spreadsIn_18 ?_
        refine gX3_15 dX3_spreadsIn_19 rfl (by first | assumption | exact hL.1 _ (by decide)) (by first | assumption | exact hL.2 _ _ (by decide)) ?_
        refine wa_ild1 dX3_spreadsIn_22 ?_
        refine wa_iaload dX3_spreadsIn_23 (by first | assumption | exact hL.1 _ (by decide)) (by omega) (by first | decide | omega) ?_
        refine wa_goto 28 dX3_spreadsIn_24 (by decide) ?_
        exact wa_ireturn dX3_spreadsIn_28 rfl rfl (Nat.le_refl _) (by refine ⟨?_, rfl, rfl, rfl⟩; unfold spI; first | rw [if_neg (by omega)] | rw [if_pos (by omega)])
theorem spI_b {c : Nat} {x : Nat → Int} {g : Int} (hx : ∀ j, 0 ≤ x j ∧ x j ≤ 100) : 0 ≤ spI c x g ∧ spI c x g ≤ 100 := by
  have := hx g.toNat
  unfold spI; split <;> omega
/-- the garden is covered -/
def enP (c : Nat) (t x : Nat → Int) (g : Int) : Prop := g < 0 ∨ 8 ≤ g ∨ t g.toNat ≤ 2 * spI c x g + spI c x (g - 1) + spI c x (g + 1)
theorem ct_isEnough {n : Nat} {S : zH} {Rf : zG} {V : zE} {c : Nat} {g : Int} [Decidable (enP c (V 27) (V 28) g)] (hL : Lay S Rf) (hc : V 26 2 = (c : Int)) (h8 : c ≤ 8) (hg : -1 ≤ g ∧ g ≤ 8) (ht : ∀ j, -1000 ≤ V 27 j ∧ V 27 j ≤ 1000) (hx : ∀ j, 0 ≤ V 28 j ∧ V 28 j ≤ 100) : Ci 2 mX3_isEnough [zR 26, zI g] n S Rf V (if enP c (V 27) (V 28) g then 1 else 0) V := by
  have b0 := spI_b (c := c) (g := g) hx
  have b1 := spI_b (c := c) (g := g - 1) hx
  have b2 := spI_b (c := c) (g := g + 1) hx
  have htg := ht g.toNat
  refine ct_of (by decide) rfl (Nat.le_of_ble_eq_true rfl) ?_
  refine wa_ild1 dX3_isEnough_0 ?_
  refine wa_if_lt 42 dX3_isEnough_1 (by decide) (by omega) (fun c1 => ?_) (fun c1 => ?_)
  · refine wa_iconst dX3_isEnough_42 ?_
    refine wa_goto 47 dX3_isEnough_43 (by decide) ?_
    exact wa_breturn dX3_isEnough_47 rfl rfl (Nat.le_refl _) (by first | exact Or.inl rfl | exact Or.inr rfl | (split <;> simp)) (by refine ⟨?_, rfl, rfl, rfl⟩; first | rw [if_pos (by unfold enP; omega)] | rw [if_neg (by unfold enP; omega)])
  · refine wa_ild1 dX3_isEnough_4 ?_
    refine wa_bipush dX3_isEnough_5 (by decide) ?_
    refine wa_icmp_ge 42 dX3_isEnough_7 (by decide) (by omega) (by omega) (fun c7 => ?_) (fun c7 => ?_)
    · refine wa_iconst dX3_isEnough_42 ?_
      refine wa_goto 47 dX3_isEnough_43 (by decide) ?_
      exact wa_breturn dX3_isEnough_47 rfl rfl (Nat.le_refl _) (by first | exact Or.inl rfl | exact Or.inr rfl | (split <;> simp)) (by refine ⟨?_, rfl, rfl, rfl⟩; first | rw [if_pos (by unfold enP; omega)] | rw [if_neg (by unfold enP; omega)])
    · refine wa_ald0 dX3_isEnough_10 ?_
      refine gX3_9 dX3_isEnough_11 rfl (by first | assumption | exact hL.1 _ (by decide)) (by first | assumption | exact hL.2 _ _ (by decide)) ?_
      refine wa_ild1 dX3_isEnough_14 ?_
      refine wa_iaload dX3_isEnough_15 (by first | assumption | exact hL.1 _ (by decide)) (by omega) (by first | decide | omega) ?_
      refine wa_iconst dX3_isEnough_16 ?_
      refine wa_ald0 dX3_isEnough_17 ?_
      refine wa_ild1 dX3_isEnough_18 ?_
      refine kX3_39 dX3_isEnough_19 rfl (by first | assumption | exact hL.1 _ (by decide)) (ct_spreadsIn hL hc h8 (by omega)) (by decide) (Nat.le_of_ble_eq_true rfl) ⟨Nat.le_refl _, Nat.le_refl _⟩ (zdI ?_)
      refine wa_imul dX3_isEnough_22 ?_
      refine wa_ald0 dX3_isEnough_23 ?_
      refine wa_ild1 dX3_isEnough_24 ?_
      refine wa_iconst dX3_isEnough_25 ?_
      refine wa_isub dX3_isEnough_26 ?_
      refine kX3_39 dX3_isEnough_27 rfl (by first | assumption | exact hL.1 _ (by decide)) (ct_spreadsIn hL hc h8 (by omega)) (by decide) (Nat.le_of_ble_eq_true rfl) ⟨Nat.le_refl _, Nat.le_refl _⟩ (zdI ?_)
      refine wa_iadd dX3_isEnough_30 ?_
      refine wa_ald0 dX3_isEnough_31 ?_
      refine wa_ild1 dX3_isEnough_32 ?_
      refine wa_iconst dX3_isEnough_33 ?_
      refine wa_iadd dX3_isEnough_34 ?_
      refine kX3_39 dX3_isEnough_35 rfl (by first | assumption | exact hL.1 _ (by decide)) (ct_spreadsIn hL hc h8 (by omega)) (by decide) (Nat.le_of_ble_eq_true rfl) ⟨Nat.le_refl _, Nat.le_refl _⟩ (zdI ?_)
      refine wa_iadd dX3_isEnough_38 ?_
      refine wa_icmp_gt 46 dX3_isEnough_39 (by decide) (by omega) (by omega) (fun c39 => ?_) (fun c39 => ?_)
      · refine wa_iconst dX3_isEnough_46 ?_
        exact wa_breturn dX3_isEnough_47 rfl rfl (Nat.le_refl _) (by first | exact Or.inl rfl | exact Or.inr rfl | (split <;> simp)) (by refine ⟨?_, rfl, rfl, rfl⟩; first | rw [if_pos (by unfold enP; omega)] | rw [if_neg (by unfold enP; omega)])
      · refine wa_iconst dX3_isEnough_42 ?_
        refine wa_goto 47 dX3_isEnough_43 (by decide) ?_
        exact wa_breturn dX3_isEnough_47 rfl rfl (Nat.le_refl _) (by first | exact Or.inl rfl | exact Or.inr rfl | (split <;> simp)) (by refine ⟨?_, rfl, rfl, rfl⟩; first | rw [if_pos (by unfold enP; omega)] | rw [if_neg (by unfold enP; omega)])
/-- a sum of places p to p + m -/
def sumR (y : Nat → Int) (p : Nat) : Nat → Int
  | 0 => 0
  | m + 1 => sumR y p m + y (p + m)
/-- y goes on from x at g: nothing behind c, no place less than 0, all that isn't looked at yet covered -/
def goOn (c : Nat) (t x : Nat → Int) (g : Nat) (y : Nat → Int) : Prop := (∀ j, j < g → y j = x j) ∧ (∀ j, 0 ≤ y j) ∧ ∀ j : Nat, g ≤ j + 1 → j < c → t j ≤ 2 * spI c y j + spI c y ((j : Int) - 1) + spI c y ((j : Int) + 1)
/-- what a search from g leaves as the fewest -/
def slP (c : Nat) (t x : Nat → Int) (g : Nat) (sp f f' : Int) : Prop := f' ≤ f ∧ sp ≤ f' ∧ (∀ y, goOn c t x g y → f' ≤ sp + sumR y g (c - g)) ∧ (f' = f ∨ ∃ y, goOn c t x g y ∧ f' = sp + sumR y g (c - g))
theorem spI_eq {c : Nat} {x y : Nat → Int} {g : Int} (h : ∀ j : Nat, (j : Int) = g → y j = x j) : spI c y g = spI c x g := by
  unfold spI; split
  · exact h g.toNat (by omega)
  · rfl
theorem sumR_0 {y : Nat → Int} {p m : Nat} (h : ∀ j, 0 ≤ y j) : 0 ≤ sumR y p m := by
  induction m with
  | zero => exact Int.le_refl _
  | succ m ih => unfold sumR; have := h (p + m); omega
theorem sumR_l {y : Nat → Int} {p m : Nat} : sumR y p (m + 1) = y p + sumR y (p + 1) m := by
  induction m with
  | zero => simp [sumR]
  | succ m ih => rw [sumR, ih, sumR, show p + 1 + m = p + (m + 1) by omega]; omega
theorem sumR_eq {x y : Nat → Int} {p m : Nat} (h : ∀ j, p ≤ j → j < p + m → y j = x j) : sumR y p m = sumR x p m := by
  induction m with
  | zero => rfl
  | succ m ih => rw [sumR, sumR, ih (fun j a b => h j a (by omega)), h (p + m) (by omega) (by omega)]
/-- at the end of the street -/
theorem slP_end {c : Nat} {t x : Nat → Int} {sp f : Int} (hsf : sp < f) (hx : ∀ j, 0 ≤ x j) : (enP c t x ((c : Int) - 1) → 1 ≤ c → c ≤ 8 → slP c t x c sp f sp) ∧ (¬ enP c t x ((c : Int) - 1) → 1 ≤ c → slP c t x c sp f f) := by
  have hs : ∀ y : Nat → Int, sumR y c (c - c) = 0 := fun y => by rw [Nat.sub_self]; rfl
  constructor
  · intro he h1 h8
    refine ⟨by omega, Int.le_refl _, fun y _ => by rw [hs]; omega, Or.inr ⟨x, ⟨fun _ _ => rfl, hx, fun j h1 h2 => ?_⟩, by rw [hs]; omega⟩⟩
    obtain rfl : j = c - 1 := by omega
    rcases he with h | h | h
    · omega
    · omega
    · rw [show ((c - 1 : Nat) : Int) = (c : Int) - 1 by omega, show (c - 1 : Nat) = ((c : Int) - 1).toNat by omega]; exact h
  · intro he h1
    refine ⟨by omega, by omega, fun y hy => ?_, Or.inl rfl⟩
    exfalso
    apply he
    have h3 := hy.2.2 (c - 1) (by omega) (by omega)
    right; right
    rw [show ((c - 1 : Nat) : Int) = (c : Int) - 1 by omega] at h3
    rw [show ((c : Int) - 1).toNat = c - 1 by omega]
    rw [spI_eq (x := x) (y := y) (g := (c : Int) - 1) (fun j hj => hy.1 j (by omega)), spI_eq (x := x) (y := y) (g := (c : Int) - 1 - 1) (fun j hj => hy.1 j (by omega))] at h3
    rw [show spI c y ((c : Int) - 1 + 1) = spI c x ((c : Int) - 1 + 1) by unfold spI; rw [if_neg (by omega), if_neg (by omega)]] at h3
    exact h3
/-- the loop of a garden: with h tried, the fewest so far -/
def slL (c : Nat) (t x : Nat → Int) (g : Nat) (sp f : Int) (h : Nat) (f' : Int) : Prop := f' ≤ f ∧ sp ≤ f' ∧ (∀ y, goOn c t x g y → y g < h → f' ≤ sp + sumR y g (c - g)) ∧ (f' = f ∨ ∃ y, goOn c t x g y ∧ f' = sp + sumR y g (c - g))
theorem slL_0 {c : Nat} {t x : Nat → Int} {g : Nat} {sp f : Int} (hsf : sp < f) : slL c t x g sp f 0 f := ⟨Int.le_refl _, by omega, fun y hy h => by have := hy.2.1 g; omega, Or.inl rfl⟩
theorem slL_end {c : Nat} {t x : Nat → Int} {g h : Nat} {sp f f' : Int} (hg : g < c) (hl : slL c t x g sp f h f') (he : f' ≤ sp + h) : slP c t x g sp f f' := by
  refine ⟨hl.1, hl.2.1, fun y hy => ?_, hl.2.2.2⟩
  by_cases hh : y g < h
  · exact hl.2.2.1 y hy hh
  · have h1 : sumR y g (c - g) = y g + sumR y (g + 1) (c - g - 1) := by rw [show c - g = (c - g - 1) + 1 by omega, sumR_l]; simp
    have h2 := sumR_0 (p := g + 1) (m := c - g - 1) hy.2.1
    omega
theorem goOn_s {c : Nat} {t x y : Nat → Int} {g h : Nat} (hg : g < c) (hy : goOn c t x g y) (hh : y g = h) : goOn c t (za x g h) (g + 1) y := by
  refine ⟨fun j hj => ?_, hy.2.1, fun j h1 h2 => hy.2.2 j (by omega) h2⟩
  by_cases hjg : j = g
  · subst hjg; rw [za_s, hh]
  · rw [za_n _ _ hjg]; exact hy.1 j (by omega)
theorem goOn_b {c : Nat} {t x y : Nat → Int} {g h : Nat} (hg : g < c) (he : enP c t (za x g h) ((g : Int) - 1)) (hy : goOn c t (za x g h) (g + 1) y) (h8 : c ≤ 8) : goOn c t x g y ∧ y g = h := by
  have hyg : y g = h := by rw [hy.1 g (by omega), za_s]
  refine ⟨⟨fun j hj => by rw [hy.1 j (by omega), za_n _ _ (by omega)], hy.2.1, fun j h1 h2 => ?_⟩, hyg⟩
  by_cases hj : g ≤ j
  · exact hy.2.2 j (by omega) h2
  · obtain rfl : g = j + 1 := by omega
    rcases he with he | he | he
    · omega
    · omega
    · rw [show (((j + 1 : Nat) : Int) - 1) = (j : Int) by omega] at he
      rw [spI_eq (x := za x (j + 1) h) (y := y) (g := (j : Int)) (fun q hq => hy.1 q (by omega)), spI_eq (x := za x (j + 1) h) (y := y) (g := (j : Int) - 1) (fun q hq => hy.1 q (by omega)), spI_eq (x := za x (j + 1) h) (y := y) (g := (j : Int) + 1) (fun q hq => hy.1 q (by omega))]
      simpa using he
theorem slL_yes {c : Nat} {t x : Nat → Int} {g h : Nat} {sp f f' f2 : Int} (hg : g < c) (h8 : c ≤ 8) (hl : slL c t x g sp f h f') (he : enP c t (za x g h) ((g : Int) - 1)) (hp : slP c t (za x g h) (g + 1) (sp + h) f' f2) : slL c t x g sp f (h + 1) f2 := by
  have hs : ∀ y : Nat → Int, y g = h → sumR y g (c - g) = h + sumR y (g + 1) (c - (g + 1)) := fun y hy => by rw [show c - g = (c - (g + 1)) + 1 by omega, sumR_l, hy]
  refine ⟨by have := hp.1; have := hl.1; omega, by have := hp.2.1; omega, fun y hy hh => ?_, ?_⟩
  · by_cases h1 : y g < h
    · have := hl.2.2.1 y hy h1; have := hp.1; omega
    · have h2 : y g = h := by omega
      have := hp.2.2.1 y (goOn_s hg hy h2)
      rw [hs y h2]; omega
  · rcases hp.2.2.2 with h1 | ⟨y, hy, h1⟩
    · rcases hl.2.2.2 with h2 | ⟨y, hy, h2⟩
      · left; omega
      · right; exact ⟨y, hy, by omega⟩
    · obtain ⟨a1, a2⟩ := goOn_b hg he hy h8
      right
      exact ⟨y, a1, by rw [hs y a2]; omega⟩
theorem slL_no {c : Nat} {t x : Nat → Int} {g h : Nat} {sp f f' : Int} (hg : g < c) (h8 : c ≤ 8) (hl : slL c t x g sp f h f') (he : ¬ enP c t (za x g h) ((g : Int) - 1)) : slL c t x g sp f (h + 1) f' := by
  refine ⟨hl.1, hl.2.1, fun y hy hh => ?_, hl.2.2.2⟩
  by_cases h1 : y g < h
  · exact hl.2.2.1 y hy h1
  · exfalso
    apply he
    have h2 : y g = h := by omega
    by_cases hg0 : g = 0
    · left; omega
    · right; right
      have h3 := hy.2.2 (g - 1) (by omega) (by omega)
      have hz : ∀ q : Nat, q < g + 1 → y q = za x g h q := (goOn_s hg hy h2).1
      rw [show ((g : Int) - 1) = ((g - 1 : Nat) : Int) by omega, Int.toNat_natCast]
      rw [← spI_eq (x := za x g h) (y := y) (g := ((g - 1 : Nat) : Int)) (fun q hq => hz q (by omega)), ← spI_eq (x := za x g h) (y := y) (g := ((g - 1 : Nat) : Int) - 1) (fun q hq => hz q (by omega)), ← spI_eq (x := za x g h) (y := y) (g := ((g - 1 : Nat) : Int) + 1) (fun q hq => hz q (by omega))]
      exact h3
