/-! Salt's search -/
def sfP (c g : Nat) (sp : Int) (V V' : zE) : Prop := slP c (V 27) (V 28) g sp (V 26 3) (V' 26 3) ∧ V' 28 = V 28 ∧ (∀ j, j ≠ 3 → V' 26 j = V 26 j) ∧ ∀ k, k ≠ 26 → k ≠ 28 → V' k = V k
theorem ct_spreadFrom {n : Nat} {S : zH} {Rf : zG} {c : Nat} (hL : Lay S Rf) (h1c : 1 ≤ c) (h8 : c ≤ 8) : ∀ (q g : Nat) (V : zE) (sp : Int), g + q = c → V 26 2 = (c : Int) → 0 ≤ sp → sp < V 26 3 → V 26 3 ≤ 6 → (∀ j, -1000 ≤ V 27 j ∧ V 27 j ≤ 1000) → (∀ j, 0 ≤ V 28 j ∧ V 28 j ≤ 10) → (∀ j, g ≤ j → V 28 j = 0) →
    Cpv (3 + q) mX3_spreadFrom [zR 26, zI (g : Int), zI sp] n S Rf V (sfP c g sp V) := by
  intro q
  induction q with
  | zero =>
    intro g V sp hg hc h0 hsf hf6 ht hx hz
    obtain rfl : g = c := by omega
    have hde : Decidable (enP g (V 27) (V 28) ((g : Int) - 1)) := by unfold enP; infer_instance
    have hend := slP_end (c := g) (t := V 27) (x := V 28) (sp := sp) (f := V 26 3) hsf (fun j => (hx j).1)
    refine ct_of (by decide) rfl (Nat.le_of_ble_eq_true rfl) ?_
    refine wa_ild1 dX3_spreadFrom_0 ?_
    refine wa_if_lt 18 dX3_spreadFrom_1 (by decide) (by omega) (fun c1 => ?_) (fun c1 => ?_)
    · exact absurd c1 (by omega)
    · refine wa_ild1 dX3_spreadFrom_4 ?_
      refine wa_ald0 dX3_spreadFrom_5 ?_
      refine gX3_18 dX3_spreadFrom_6 rfl (by first | assumption | exact hL.1 _ (by decide)) ?_
      refine wa_icmp_ge 18 dX3_spreadFrom_9 (by decide) (by omega) (by omega) (fun c9 => ?_) (fun c9 => ?_)
      · refine wa_ald0 dX3_spreadFrom_18 ?_
        refine wa_ild1 dX3_spreadFrom_19 ?_
        refine wa_iconst dX3_spreadFrom_20 ?_
        refine wa_isub dX3_spreadFrom_21 ?_
        refine kX3_35 dX3_spreadFrom_22 rfl (by first | assumption | exact hL.1 _ (by decide)) (ct_isEnough (c := g) hL hc h8 (by omega) ht (fun j => by have := hx j; omega)) (by decide) (Nat.le_of_ble_eq_true rfl) ⟨Nat.le_refl _, Nat.le_refl _⟩ (zdI ?_)
        refine wa_ifeq_B 33 dX3_spreadFrom_25 (by decide) (fun c25 => ?_) (fun c25 => ?_)
        · exact wa_return dX3_spreadFrom_33 rfl rfl (Nat.le_refl _) (by first | exact ⟨rfl, rfl, rfl, hend.2 c25 h1c, rfl, fun _ _ => rfl, fun _ _ _ => rfl⟩ | exact ⟨rfl, rfl, rfl, by rw [zp_s, za_s]; exact hend.1 c25 h1c h8, by rw [zp_n _ _ (by decide)], fun j hj => by rw [zp_s, za_n _ _ hj], fun k k1 _ => zp_n _ _ k1⟩)
        · refine wa_ald0 dX3_spreadFrom_28 ?_
          refine wa_ild2 dX3_spreadFrom_29 ?_
          refine pX3_22 dX3_spreadFrom_30 rfl (by first | assumption | exact hL.1 _ (by decide)) ?_
          exact wa_return dX3_spreadFrom_33 rfl rfl (Nat.le_refl _) (by first | exact ⟨rfl, rfl, rfl, hend.2 c25 h1c, rfl, fun _ _ => rfl, fun _ _ _ => rfl⟩ | exact ⟨rfl, rfl, rfl, by rw [zp_s, za_s]; exact hend.1 c25 h1c h8, by rw [zp_n _ _ (by decide)], fun j hj => by rw [zp_s, za_n _ _ hj], fun k k1 _ => zp_n _ _ k1⟩)
      · exact absurd c9 (by omega)
  | succ q ih =>
    intro g V sp hg hc h0 hsf hf6 ht hx hz
    have hgc : g < c := by omega
    refine ct_of (by decide) rfl (Nat.le_of_ble_eq_true rfl) ?_
    have loop : ∀ (m h : Nat) (V' : zE), h + m = 7 → slL c (V 27) (V 28) g sp (V 26 3) h (V' 26 3) → (∃ y, 0 ≤ y ∧ y ≤ 10 ∧ V' 28 = za (V 28) g y) → (∀ j, j ≠ 3 → V' 26 j = V 26 j) → (∀ k, k ≠ 26 → k ≠ 28 → V' k = V k) → Wa zXn mX3_spreadFrom (zrm (3 + (q + 1)) 0 0) (zZm (qPN S Rf (sfP c g sp V)) (n + 0) 0 0) 0 0 n S 36 [some (zR 26), some (zI (g : Int)), some (zI sp), some (zI (h : Int))] [] Rf V' := by
      intro m
      induction m with
      | zero =>
        intro h V' hh hl hy h26 ho
        have hf1 := hl.1
        have hf2 := hl.2.1
        obtain ⟨y, y0, y1, h28⟩ := hy
        have hse := slL_end hgc hl (by omega)
        refine wa_ild3 dX3_spreadFrom_36 ?_
        refine wa_iconst dX3_spreadFrom_37 ?_
        refine wa_icmp_gt 84 dX3_spreadFrom_38 (by decide) (by omega) (by omega) (fun c38 => ?_) (fun c38 => ?_)
        · refine wa_ald0 dX3_spreadFrom_84 ?_
          refine gX3_15 dX3_spreadFrom_85 rfl (by first | assumption | exact hL.1 _ (by decide)) (by first | assumption | exact hL.2 _ _ (by decide)) ?_
          refine wa_ild1 dX3_spreadFrom_88 ?_
          refine wa_iconst dX3_spreadFrom_89 ?_
          refine wa_iastore dX3_spreadFrom_90 (by first | assumption | exact hL.1 _ (by decide)) (by omega) (by first | decide | omega) ?_
          exact wa_return dX3_spreadFrom_91 rfl rfl (Nat.le_refl _) (by exact ⟨rfl, rfl, rfl, by rw [zp_n _ _ (by decide)]; exact hse, by rw [zp_s, h28, Int.toNat_natCast, za_za, ← hz g (Nat.le_refl _), za_self], fun j hj => by rw [zp_n _ _ (by decide)]; exact h26 j hj, fun k k1 k2 => by rw [zp_n _ _ k2]; exact ho k k1 k2⟩)
        · exact absurd c38 (by omega)
      | succ m ihm =>
        intro h V' hh hl hy h26 ho
        have hf1 := hl.1
        have hf2 := hl.2.1
        obtain ⟨y, y0, y1, h28⟩ := hy
        have e27 := ho 27 (by decide) (by decide)
        have e2 : V' 26 2 = (c : Int) := by rw [h26 2 (by decide)]; exact hc
        have hV1 : zp V' 28 (za (V' 28) g h) 28 = za (V 28) g h := by rw [zp_s, h28, za_za]
        have hxx : ∀ j, 0 ≤ za (V 28) g (h : Int) j ∧ za (V 28) g (h : Int) j ≤ 10 := by
          intro j; have := hx j; simp only [za]; split <;> omega
        have hde : Decidable (enP c (zp V' 28 (za (V' 28) g h) 27) (zp V' 28 (za (V' 28) g h) 28) ((g : Int) - 1)) := by unfold enP; infer_instance
        have hen : enP c (zp V' 28 (za (V' 28) g h) 27) (zp V' 28 (za (V' 28) g h) 28) ((g : Int) - 1) ↔ enP c (V 27) (za (V 28) g h) ((g : Int) - 1) := by rw [hV1, zp_n _ _ (by decide), e27]
        refine wa_ild3 dX3_spreadFrom_36 ?_
        refine wa_iconst dX3_spreadFrom_37 ?_
        refine wa_icmp_gt 84 dX3_spreadFrom_38 (by decide) (by omega) (by omega) (fun c38 => ?_) (fun c38 => ?_)
        · have hse := slL_end hgc hl (by omega)
          refine wa_ald0 dX3_spreadFrom_84 ?_
          refine gX3_15 dX3_spreadFrom_85 rfl (hL.1 _ (by decide)) (hL.2 _ _ (by decide)) ?_
          refine wa_ild1 dX3_spreadFrom_88 ?_
          refine wa_iconst dX3_spreadFrom_89 ?_
          refine wa_iastore dX3_spreadFrom_90 (hL.1 _ (by decide)) (by omega) (by decide) ?_
          exact wa_return dX3_spreadFrom_91 rfl rfl (Nat.le_refl _) ⟨rfl, rfl, rfl, by rw [zp_n _ _ (by decide)]; exact hse, by rw [zp_s, h28, Int.toNat_natCast, za_za, ← hz g (Nat.le_refl _), za_self], fun j hj => by rw [zp_n _ _ (by decide)]; exact h26 j hj, fun k k1 k2 => by rw [zp_n _ _ k2]; exact ho k k1 k2⟩
        · refine wa_ild2 dX3_spreadFrom_41 ?_
          refine wa_ild3 dX3_spreadFrom_42 ?_
          refine wa_iadd dX3_spreadFrom_43 ?_
          refine wa_ald0 dX3_spreadFrom_44 ?_
          refine gX3_22 dX3_spreadFrom_45 rfl (by first | assumption | exact hL.1 _ (by decide)) ?_
          refine wa_icmp_ge 84 dX3_spreadFrom_48 (by decide) (by omega) (by omega) (fun c48 => ?_) (fun c48 => ?_)
          · have hse := slL_end hgc hl c48
            refine wa_ald0 dX3_spreadFrom_84 ?_
            refine gX3_15 dX3_spreadFrom_85 rfl (hL.1 _ (by decide)) (hL.2 _ _ (by decide)) ?_
            refine wa_ild1 dX3_spreadFrom_88 ?_
            refine wa_iconst dX3_spreadFrom_89 ?_
            refine wa_iastore dX3_spreadFrom_90 (hL.1 _ (by decide)) (by omega) (by decide) ?_
            exact wa_return dX3_spreadFrom_91 rfl rfl (Nat.le_refl _) ⟨rfl, rfl, rfl, by rw [zp_n _ _ (by decide)]; exact hse, by rw [zp_s, h28, Int.toNat_natCast, za_za, ← hz g (Nat.le_refl _), za_self], fun j hj => by rw [zp_n _ _ (by decide)]; exact h26 j hj, fun k k1 k2 => by rw [zp_n _ _ k2]; exact ho k k1 k2⟩
          · refine wa_ald0 dX3_spreadFrom_51 ?_
            refine gX3_15 dX3_spreadFrom_52 rfl (by first | assumption | exact hL.1 _ (by decide)) (by first | assumption | exact hL.2 _ _ (by decide)) ?_
            refine wa_ild1 dX3_spreadFrom_55 ?_
            refine wa_ild3 dX3_spreadFrom_56 ?_
            refine wa_iastore dX3_spreadFrom_57 (by first | assumption | exact hL.1 _ (by decide)) (by omega) (by first | decide | omega) ?_
            rw [Int.toNat_natCast]
            refine wa_ald0 dX3_spreadFrom_58 ?_
            refine wa_ild1 dX3_spreadFrom_59 ?_
            refine wa_iconst dX3_spreadFrom_60 ?_
            refine wa_isub dX3_spreadFrom_61 ?_
            refine kX3_35 dX3_spreadFrom_62 rfl (by first | assumption | exact hL.1 _ (by decide)) (ct_isEnough (c := c) hL (by rw [zp_n _ _ (by decide)]; exact e2) h8 (by omega) (fun j => by rw [zp_n _ _ (by decide), e27]; exact ht j) (fun j => by rw [hV1]; have := hxx j; omega)) (by dsimp only [zrm]; omega) (Nat.le_of_ble_eq_true rfl) ⟨Nat.le_refl _, Nat.le_refl _⟩ (zdI ?_)
            refine wa_ifeq_B 78 dX3_spreadFrom_65 (by decide) (fun c65 => ?_) (fun c65 => ?_)
            · refine wa_iinc3 dX3_spreadFrom_78 (by decide) rfl ?_
              refine wa_goto 36 dX3_spreadFrom_81 (by decide) ?_
              rw [show (h : Int) + 1 = ((h + 1 : Nat) : Int) by omega]
              exact ihm (h + 1) _ (by omega) (by rw [zp_n _ _ (by decide)]; exact slL_no hgc h8 hl (fun q => c65 (hen.mpr q))) ⟨h, by omega, by omega, hV1⟩ (fun j hj => by rw [zp_n _ _ (by decide)]; exact h26 j hj) (fun k k1 k2 => by rw [zp_n _ _ k2]; exact ho k k1 k2)
            · have hl2 := hen.mp c65
              refine wa_ald0 dX3_spreadFrom_68 ?_
              refine wa_ild1 dX3_spreadFrom_69 ?_
              refine wa_iconst dX3_spreadFrom_70 ?_
              refine wa_iadd dX3_spreadFrom_71 ?_
              refine wa_ild2 dX3_spreadFrom_72 ?_
              refine wa_ild3 dX3_spreadFrom_73 ?_
              refine wa_iadd dX3_spreadFrom_74 ?_
              refine kX3_31 dX3_spreadFrom_75 rfl (ih (g + 1) _ (sp + h) (by omega) (by rw [zp_n _ _ (by decide)]; exact e2) (by omega) (by rw [zp_n _ _ (by decide)]; omega) (by rw [zp_n _ _ (by decide)]; omega) (fun j => by rw [zp_n _ _ (by decide), e27]; exact ht j) (fun j => by rw [hV1]; exact hxx j) (fun j hj => by rw [hV1, za_n _ _ (by omega)]; exact hz j (by omega))) (by dsimp only [zrm]; omega) (Nat.le_of_ble_eq_true rfl) ⟨Nat.le_refl _, Nat.le_refl _⟩ (zpN fun V2 h2 => ?_)
              obtain ⟨p1, p2, p3, p4⟩ := h2
              rw [hV1, zp_n _ _ (show 27 ≠ 28 by decide), zp_n _ _ (show 26 ≠ 28 by decide), e27] at p1
              refine wa_iinc3 dX3_spreadFrom_78 (by decide) rfl ?_
              refine wa_goto 36 dX3_spreadFrom_81 (by decide) ?_
              rw [show (h : Int) + 1 = ((h + 1 : Nat) : Int) by omega]
              exact ihm (h + 1) V2 (by omega) (slL_yes hgc h8 hl hl2 p1) ⟨h, by omega, by omega, by rw [p2, hV1]⟩ (fun j hj => by rw [p3 j hj, zp_n _ _ (by decide)]; exact h26 j hj) (fun k k1 k2 => by rw [p4 k k1 k2, zp_n _ _ k2]; exact ho k k1 k2)
    refine wa_ild1 dX3_spreadFrom_0 ?_
    refine wa_if_lt 18 dX3_spreadFrom_1 (by decide) (by omega) (fun c1 => ?_) (fun c1 => ?_)
    · exact absurd c1 (by omega)
    · refine wa_ild1 dX3_spreadFrom_4 ?_
      refine wa_ald0 dX3_spreadFrom_5 ?_
      refine gX3_18 dX3_spreadFrom_6 rfl (by first | assumption | exact hL.1 _ (by decide)) ?_
      refine wa_icmp_ge 18 dX3_spreadFrom_9 (by decide) (by omega) (by omega) (fun c9 => ?_) (fun c9 => ?_)
      · exact absurd c9 (by omega)
      · refine wa_ild1 dX3_spreadFrom_12 ?_
        refine wa_bipush dX3_spreadFrom_13 (by decide) ?_
        refine wa_icmp_lt 34 dX3_spreadFrom_15 (by decide) (by omega) (by omega) (fun c15 => ?_) (fun c15 => ?_)
        · refine wa_iconst dX3_spreadFrom_34 ?_
          refine wa_ist3 dX3_spreadFrom_35 (by decide) rfl ?_
          exact loop 7 0 V (by omega) (slL_0 hsf) ⟨0, by decide, by decide, by rw [← hz g (Nat.le_refl _), za_self]⟩ (fun _ _ => rfl) (fun _ _ _ => rfl)
        · exact absurd c15 (by omega)
theorem goOn_t {c : Nat} {t t' x y : Nat → Int} {g : Nat} (h : ∀ j, j < c → t j = t' j) (hy : goOn c t x g y) : goOn c t' x g y := ⟨hy.1, hy.2.1, fun j h1 h2 => by rw [← h j h2]; exact hy.2.2 j h1 h2⟩
theorem slP_t {c : Nat} {t t' x : Nat → Int} {g : Nat} {sp f f' : Int} (h : ∀ j, j < c → t j = t' j) (hp : slP c t x g sp f f') : slP c t' x g sp f f' := by
  refine ⟨hp.1, hp.2.1, fun y hy => hp.2.2.1 y (goOn_t (fun j hj => (h j hj).symm) hy), ?_⟩
  rcases hp.2.2.2 with h1 | ⟨y, hy, h1⟩
  · exact Or.inl h1
  · exact Or.inr ⟨y, goOn_t h hy, h1⟩
def fwP (c : Nat) (v : Int) (V : zE) (x : Int) (V' : zE) : Prop := (∃ f', slP c (fun j => V 2 j - v) (fun _ => 0) 0 0 6 f' ∧ x = (if f' ≤ 5 then f' else -6)) ∧ V' 28 = V 28 ∧ (∀ j, -1000 ≤ V' 27 j ∧ V' 27 j ≤ 1000) ∧ ∀ k, k ≠ 26 → k ≠ 27 → k ≠ 28 → V' k = V k
theorem ct_fewestFor {n : Nat} {S : zH} {Rf : zG} {V : zE} {c : Nat} {v : Int} (hL : Lay S Rf) (hc : V 1 0 = (c : Int)) (h2 : 2 ≤ c) (h8 : c ≤ 8) (hd : ∀ j, 0 ≤ V 2 j ∧ V 2 j ≤ 999) (hv : 0 ≤ v ∧ v ≤ 999) (ht : ∀ j, -1000 ≤ V 27 j ∧ V 27 j ≤ 1000) (hz : ∀ j, V 28 j = 0) :
    Cpi 12 mX3_fewestFor [zR 26, zR 1, zI v] n S Rf V (fwP c v V) := by
  refine ct_of (by decide) rfl (Nat.le_of_ble_eq_true rfl) ?_
  have loop : ∀ (m i : Nat) (V' : zE), i + m = c → (∀ k, k ≠ 26 → k ≠ 27 → k ≠ 28 → V' k = V k) → V' 26 2 = (c : Int) → (∀ j, V' 28 j = 0) → (∀ j, j < i → V' 27 j = V 2 j - v) → (∀ j, -1000 ≤ V' 27 j ∧ V' 27 j ≤ 1000) → Wa zXn mX3_fewestFor (zrm 12 0 0) (zZm (qPI S Rf (fwP c v V)) (n + 0) 0 0) 0 0 n S 17 [some (zR 26), some (zR 1), some (zI v), some (zI (i : Int))] [] Rf V' := by
    intro m
    induction m with
    | zero =>
      intro i V' hi ho h2' hz' hf hb
      obtain rfl : i = c := by omega
      have e28 : V' 28 = fun _ => 0 := funext hz'
      have e28' : V 28 = fun _ => 0 := funext hz
      refine wa_ild3 dX3_fewestFor_17 ?_
      refine wa_ald0 dX3_fewestFor_18 ?_
      refine gX3_18 dX3_fewestFor_19 rfl (by first | assumption | exact hL.1 _ (by decide)) ?_
      refine wa_icmp_ge 58 dX3_fewestFor_22 (by decide) (by omega) (by omega) (fun c22 => ?_) (fun c22 => ?_)
      · refine wa_ald0 dX3_fewestFor_58 ?_
        refine wa_bipush dX3_fewestFor_59 (by decide) ?_
        refine pX3_22 dX3_fewestFor_61 rfl (by first | assumption | exact hL.1 _ (by decide)) ?_
        refine wa_ald0 dX3_fewestFor_64 ?_
        refine wa_iconst dX3_fewestFor_65 ?_
        refine wa_iconst dX3_fewestFor_66 ?_
        refine kX3_31 dX3_fewestFor_67 rfl (ct_spreadFrom (c := i) hL (by omega) h8 i 0 _ 0 (by omega) (by rw [zp_s, za_n _ _ (by decide)]; exact h2') (by decide) (by rw [zp_s, za_s]; decide) (by rw [zp_s, za_s]; decide) (fun j => by rw [zp_n _ _ (by decide)]; exact hb j) (fun j => by rw [zp_n _ _ (by decide), hz' j]; decide) (fun j _ => by rw [zp_n _ _ (by decide)]; exact hz' j)) (by dsimp only [zrm]; omega) (Nat.le_of_ble_eq_true rfl) ⟨Nat.le_refl _, Nat.le_refl _⟩ (zpN fun V2 hp2 => ?_)
        obtain ⟨p1, p2, p3, p4⟩ := hp2
        rw [zp_s, za_s, zp_n _ _ (show 27 ≠ 26 by decide), zp_n _ _ (show 28 ≠ 26 by decide), e28] at p1
        have q1 := p1.1
        have q2 := p1.2.1
        refine wa_ald0 dX3_fewestFor_70 ?_
        refine gX3_22 dX3_fewestFor_71 rfl (by first | assumption | exact hL.1 _ (by decide)) ?_
        refine wa_iconst dX3_fewestFor_74 ?_
        refine wa_icmp_gt 85 dX3_fewestFor_75 (by decide) (by omega) (by omega) (fun c75 => ?_) (fun c75 => ?_)
        · refine wa_bipush dX3_fewestFor_85 (by decide) ?_
          exact wa_ireturn dX3_fewestFor_87 rfl rfl (Nat.le_refl _) (by refine ⟨_, rfl, rfl, rfl, ⟨_, slP_t (fun j hj => hf j hj) p1, ?_⟩, by rw [p2, zp_n _ _ (by decide), e28, e28'], fun j => by rw [p4 27 (by decide) (by decide), zp_n _ _ (by decide)]; exact hb j, fun k k1 k2 k3 => by rw [p4 k k1 k3, zp_n _ _ k1]; exact ho k k1 k2 k3⟩; first | rw [if_pos c75] | rw [if_neg (by omega)])
        · refine wa_ald0 dX3_fewestFor_78 ?_
          refine gX3_22 dX3_fewestFor_79 rfl (by first | assumption | exact hL.1 _ (by decide)) ?_
          refine wa_goto 87 dX3_fewestFor_82 (by decide) ?_
          exact wa_ireturn dX3_fewestFor_87 rfl rfl (Nat.le_refl _) (by refine ⟨_, rfl, rfl, rfl, ⟨_, slP_t (fun j hj => hf j hj) p1, ?_⟩, by rw [p2, zp_n _ _ (by decide), e28, e28'], fun j => by rw [p4 27 (by decide) (by decide), zp_n _ _ (by decide)]; exact hb j, fun k k1 k2 k3 => by rw [p4 k k1 k3, zp_n _ _ k1]; exact ho k k1 k2 k3⟩; first | rw [if_pos c75] | rw [if_neg (by omega)])
      · exact absurd c22 (by omega)
    | succ m ih =>
      intro i V' hi ho h2' hz' hf hb
      have hdi := hd i
      have e2 := ho 2 (by decide) (by decide) (by decide)
      refine wa_ild3 dX3_fewestFor_17 ?_
      refine wa_ald0 dX3_fewestFor_18 ?_
      refine gX3_18 dX3_fewestFor_19 rfl (by first | assumption | exact hL.1 _ (by decide)) ?_
      refine wa_icmp_ge 58 dX3_fewestFor_22 (by decide) (by omega) (by omega) (fun c22 => ?_) (fun c22 => ?_)
      · exact absurd c22 (by omega)
      · refine wa_ild3 dX3_fewestFor_25 ?_
        refine wa_bipush dX3_fewestFor_26 (by decide) ?_
        refine wa_icmp_ge 58 dX3_fewestFor_28 (by decide) (by omega) (by omega) (fun c28 => ?_) (fun c28 => ?_)
        · exact absurd c28 (by omega)
        · refine wa_ald0 dX3_fewestFor_31 ?_
          refine gX3_9 dX3_fewestFor_32 rfl (by first | assumption | exact hL.1 _ (by decide)) (by first | assumption | exact hL.2 _ _ (by decide)) ?_
          refine wa_ild3 dX3_fewestFor_35 ?_
          refine wa_ald1 dX3_fewestFor_36 ?_
          refine gX3_28 dX3_fewestFor_37 rfl (by first | assumption | exact hL.1 _ (by decide)) (by first | assumption | exact hL.2 _ _ (by decide)) ?_
          refine wa_ild3 dX3_fewestFor_40 ?_
          refine wa_iaload dX3_fewestFor_41 (by first | assumption | exact hL.1 _ (by decide)) (by omega) (by first | decide | omega) ?_
          refine wa_ild2 dX3_fewestFor_42 ?_
          refine wa_isub dX3_fewestFor_43 ?_
          refine wa_iastore dX3_fewestFor_44 (by first | assumption | exact hL.1 _ (by decide)) (by omega) (by first | decide | omega) ?_
          refine wa_ald0 dX3_fewestFor_45 ?_
          refine gX3_15 dX3_fewestFor_46 rfl (by first | assumption | exact hL.1 _ (by decide)) (by first | assumption | exact hL.2 _ _ (by decide)) ?_
          refine wa_ild3 dX3_fewestFor_49 ?_
          refine wa_iconst dX3_fewestFor_50 ?_
          refine wa_iastore dX3_fewestFor_51 (by first | assumption | exact hL.1 _ (by decide)) (by omega) (by first | decide | omega) ?_
          refine wa_iinc3 dX3_fewestFor_52 (by decide) rfl ?_
          refine wa_goto 17 dX3_fewestFor_55 (by decide) ?_
          rw [show (i : Int) + 1 = ((i + 1 : Nat) : Int) by omega]
          simp only [Int.toNat_natCast, e2]
          refine ih (i + 1) _ (by omega) (fun k k1 k2 k3 => by rw [zp_n _ _ k3, zp_n _ _ k2]; exact ho k k1 k2 k3) (by rw [zp_n _ _ (by decide), zp_n _ _ (by decide)]; exact h2') (fun j => ?_) (fun j hj => ?_) (fun j => ?_)
          · rw [zp_s, zp_n _ _ (by decide)]; simp only [za, hz']; split <;> rfl
          · rw [zp_n _ _ (by decide), zp_s]
            by_cases hji : j = i
            · subst hji; rw [za_s]
            · rw [za_n _ _ hji]; exact hf j (by omega)
          · rw [zp_n _ _ (by decide), zp_s]
            by_cases hji : j = i
            · subst hji; rw [za_s]; omega
            · rw [za_n _ _ hji]; exact hb j
  refine wa_ald1 dX3_fewestFor_0 ?_
  refine wa_ifnonnull_r 7 dX3_fewestFor_1 (by decide) ?_
  refine wa_ald0 dX3_fewestFor_7 ?_
  refine wa_ald1 dX3_fewestFor_8 ?_
  refine gX3_25 dX3_fewestFor_9 rfl (by first | assumption | exact hL.1 _ (by decide)) ?_
  refine pX3_18 dX3_fewestFor_12 rfl (by first | assumption | exact hL.1 _ (by decide)) ?_
  refine wa_iconst dX3_fewestFor_15 ?_
  refine wa_ist3 dX3_fewestFor_16 (by decide) rfl ?_
  rw [hc]
  exact loop c 0 _ (by omega) (fun k k1 _ _ => zp_n _ _ k1) (by rw [zp_s, za_s]) (fun j => by rw [zp_n _ _ (by decide)]; exact hz j) (fun j hj => absurd hj (by omega)) (fun j => by rw [zp_n _ _ (by decide)]; exact ht j)
