/-! SnowTalk: slides, sights, who, next, elsewhere, winter, told, where -/
section
variable {X : zXt} {μ : zM} {R : Room} {Z : zZt} {ce sl n : Nat} {S : zH} {pc : Nat} {L : List (Option zV)} {st : List zV} {Rf : zG} {V : zE}
theorem wa_wrap {a b : Int} (h : Int32.ofInt a = Int32.ofInt b) (kk : Wa X μ R Z ce sl n S pc L (zI b :: st) Rf V) : Wa X μ R Z ce sl n S pc L (zI a :: st) Rf V := by
  intro p l e s m args below meth c D cy base bb H locs ls C HH LL
  have := kk p l e s m args below meth c D cy base bb H locs ls C HH LL
  rw [show (zI a :: st).map (zu base bb) = (zI b :: st).map (zu base bb) from by simp only [List.map_cons, zu, h]]
  exact this
end
theorem i32_wrap (a : Int) : Int32.ofInt a = Int32.ofInt (a + 4294967296) := by
  rw [Int32.ofInt_add, show Int32.ofInt 4294967296 = 0 by decide, Int32.add_zero]
/-- a slide: how much comes, where it stops -/
def slR (d : Nat → Int) (v : Int) : Nat → Nat → Int → Int × Nat
  | 0, a, cm => (cm, a)
  | q + 1, a, cm => if v ≤ d a then slR d v q (a + 1) (cm + d a) else (cm, a)
theorem slR_le {d : Nat → Int} {v : Int} : ∀ (q a : Nat) (cm : Int), a ≤ (slR d v q a cm).2 ∧ (slR d v q a cm).2 ≤ a + q := by
  intro q
  induction q with
  | zero => intro a cm; simp [slR]
  | succ q ih => intro a cm; rw [slR]; split; (have := ih (a + 1) (cm + d a); omega); (dsimp only; omega)
def slX (c : Nat) (g v w : Int) (V : zE) : Int := if ¬ (0 ≤ g ∧ g < c) then -1 else if (v < 1 ∨ 999 < v) ∨ (w < 0 ∨ 1 < w) then -2 else if V 2 g.toNat < v then -3 else if w = 1 then (slR (V 2) v (c - 1 - g.toNat) (g.toNat + 1) (V 2 g.toNat)).1 else if (slR (V 2) v (c - 1 - g.toNat) (g.toNat + 1) (V 2 g.toNat)).2 < c then ((slR (V 2) v (c - 1 - g.toNat) (g.toNat + 1) (V 2 g.toNat)).2 : Int) else -6
theorem ct_slide {n : Nat} {S : zH} {Rf : zG} {V : zE} {c k len : Nat} {F g v w : Int} (hL : Lay S Rf) (hI : CI c k len F V) (hg : -2147483648 ≤ g ∧ g ≤ 2147483647) (hv : -2147483648 ≤ v ∧ v ≤ 2147483647) (hw : -2147483648 ≤ w ∧ w ≤ 2147483647) : Ci 2 mX6_slide [zR 0, zI g, zI v, zI w] n S Rf V (slX c g v w V) V := by
  obtain ⟨hc, h2, h8, hd, hf, hu, hu3, hs, hfl, hF, hfa, hk, hk8, hsg, hsd, hl, h60, hp, hsc⟩ := hI
  refine ct_of (by decide) rfl (Nat.le_of_ble_eq_true rfl) ?_
  have loop : ∀ (q a : Nat) (cm : Int), a + q = c → 0 ≤ w ∧ w ≤ 1 → 1 ≤ v ∧ v ≤ 999 → Wa zXn mX6_slide (zrm 2 0 0) (zZm (qI (if w = 1 then (slR (V 2) v q a cm).1 else if (slR (V 2) v q a cm).2 < c then ((slR (V 2) v q a cm).2 : Int) else -6) S Rf V) (n + 0) 0 0) 0 0 n S 68 [some (zR 0), some (zI g), some (zI v), some (zI w), some (zI cm), some (zI (a : Int))] [] Rf V := by
    intro q
    induction q with
    | zero =>
      intro a cm ha hw' hv'
      obtain rfl : a = c := by omega
      simp only [slR]
      refine wa_ild5 dX6_slide_68 ?_
      refine wa_ald0 dX6_slide_70 ?_
      refine gX6_10 dX6_slide_71 rfl (by first | assumption | exact hL.1 _ (by decide)) (by first | assumption | exact hL.2 _ _ (by decide)) ?_
      refine gX6_58 dX6_slide_74 rfl (by first | assumption | exact hL.1 _ (by decide)) ?_
      refine wa_icmp_ge 122 dX6_slide_77 (by decide) (by omega) (by omega) (fun c77 => ?_) (fun c77 => ?_)
      · refine wa_ild3 dX6_slide_122 ?_
        refine wa_iconst dX6_slide_123 ?_
        refine wa_icmp_ne 130 dX6_slide_124 (by decide) (by omega) (by omega) (fun c124 => ?_) (fun c124 => ?_)
        · refine wa_ald0 dX6_slide_130 ?_
          refine gX6_10 dX6_slide_131 rfl (by first | assumption | exact hL.1 _ (by decide)) (by first | assumption | exact hL.2 _ _ (by decide)) ?_
          refine wa_ild5 dX6_slide_134 ?_
          refine kX6_66 dX6_slide_136 rfl (by first | assumption | exact hL.1 _ (by decide)) (ct_has hL.s1 (by omega) (by omega)) (by decide) (Nat.le_of_ble_eq_true rfl) ⟨Nat.le_refl _, Nat.le_refl _⟩ (zdI ?_)
          refine wa_ifeq_B 147 dX6_slide_139 (by decide) (fun c139 => ?_) (fun c139 => ?_)
          · refine wa_bipush dX6_slide_147 (by decide) ?_
            exact wa_ireturn dX6_slide_149 rfl rfl (Nat.le_refl _) (by first | (exfalso; omega) | exact ⟨by rw [if_neg c124]; simp, rfl, rfl, rfl⟩)
          · refine wa_ild5 dX6_slide_142 ?_
            refine wa_goto 149 dX6_slide_144 (by decide) ?_
            exact wa_ireturn dX6_slide_149 rfl rfl (Nat.le_refl _) (by first | (exfalso; omega) | exact ⟨by rw [if_neg c124]; simp, rfl, rfl, rfl⟩)
        · refine wa_ild4 dX6_slide_127 ?_
          exact wa_ireturn dX6_slide_129 rfl rfl (Nat.le_refl _) (by exact ⟨by rw [if_pos c124], rfl, rfl, rfl⟩)
      · exact absurd c77 (by omega)
    | succ q ih =>
      intro a cm ha hw' hv'
      have hda := hd a
      simp only [slR]
      refine wa_ild5 dX6_slide_68 ?_
      refine wa_ald0 dX6_slide_70 ?_
      refine gX6_10 dX6_slide_71 rfl (by first | assumption | exact hL.1 _ (by decide)) (by first | assumption | exact hL.2 _ _ (by decide)) ?_
      refine gX6_58 dX6_slide_74 rfl (by first | assumption | exact hL.1 _ (by decide)) ?_
      refine wa_icmp_ge 122 dX6_slide_77 (by decide) (by first | omega | (simp only [Int.toNat_natCast]; omega)) (by first | omega | (simp only [Int.toNat_natCast]; omega)) (fun c77 => ?_) (fun c77 => ?_)
      · exact absurd c77 (by omega)
      · refine wa_ild5 dX6_slide_80 ?_
        refine wa_bipush dX6_slide_82 (by decide) ?_
        refine wa_icmp_ge 122 dX6_slide_84 (by decide) (by first | omega | (simp only [Int.toNat_natCast]; omega)) (by first | omega | (simp only [Int.toNat_natCast]; omega)) (fun c84 => ?_) (fun c84 => ?_)
        · exact absurd c84 (by omega)
        · refine wa_ald0 dX6_slide_87 ?_
          refine gX6_10 dX6_slide_88 rfl (by first | assumption | exact hL.1 _ (by decide)) (by first | assumption | exact hL.2 _ _ (by decide)) ?_
          refine gX6_74 dX6_slide_91 rfl (by first | assumption | exact hL.1 _ (by decide)) (by first | assumption | exact hL.2 _ _ (by decide)) ?_
          refine wa_ild5 dX6_slide_94 ?_
          refine wa_iaload dX6_slide_96 (by first | assumption | exact hL.1 _ (by decide)) (by first | omega | (simp only [Int.toNat_natCast]; omega)) (by first | decide | omega) ?_
          refine wa_ild2 dX6_slide_97 ?_
          refine wa_icmp_lt 122 dX6_slide_98 (by decide) (by first | omega | (simp only [Int.toNat_natCast]; omega)) (by first | omega | (simp only [Int.toNat_natCast]; omega)) (fun c98 => ?_) (fun c98 => ?_)
          · simp only [Int.toNat_natCast] at c98
            simp only [if_neg (show ¬ v ≤ V 2 a by omega)]
            refine wa_ild3 dX6_slide_122 ?_
            refine wa_iconst dX6_slide_123 ?_
            refine wa_icmp_ne 130 dX6_slide_124 (by decide) (by first | omega | (simp only [Int.toNat_natCast]; omega)) (by first | omega | (simp only [Int.toNat_natCast]; omega)) (fun c124 => ?_) (fun c124 => ?_)
            · refine wa_ald0 dX6_slide_130 ?_
              refine gX6_10 dX6_slide_131 rfl (by first | assumption | exact hL.1 _ (by decide)) (by first | assumption | exact hL.2 _ _ (by decide)) ?_
              refine wa_ild5 dX6_slide_134 ?_
              refine kX6_66 dX6_slide_136 rfl (by first | assumption | exact hL.1 _ (by decide)) (ct_has hL.s1 (by omega) (by omega)) (by decide) (Nat.le_of_ble_eq_true rfl) ⟨Nat.le_refl _, Nat.le_refl _⟩ (zdI ?_)
              refine wa_ifeq_B 147 dX6_slide_139 (by decide) (fun c139 => ?_) (fun c139 => ?_)
              · refine wa_bipush dX6_slide_147 (by decide) ?_
                exact wa_ireturn dX6_slide_149 rfl rfl (Nat.le_refl _) (by first | (exfalso; omega) | exact ⟨by rw [if_neg c124, if_pos (by omega)], rfl, rfl, rfl⟩)
              · refine wa_ild5 dX6_slide_142 ?_
                refine wa_goto 149 dX6_slide_144 (by decide) ?_
                exact wa_ireturn dX6_slide_149 rfl rfl (Nat.le_refl _) (by first | (exfalso; omega) | exact ⟨by rw [if_neg c124, if_pos (by omega)], rfl, rfl, rfl⟩)
            · refine wa_ild4 dX6_slide_127 ?_
              exact wa_ireturn dX6_slide_129 rfl rfl (Nat.le_refl _) (by exact ⟨by rw [if_pos c124], rfl, rfl, rfl⟩)
          · refine wa_ild4 dX6_slide_101 ?_
            refine wa_ald0 dX6_slide_103 ?_
            refine gX6_10 dX6_slide_104 rfl (by first | assumption | exact hL.1 _ (by decide)) (by first | assumption | exact hL.2 _ _ (by decide)) ?_
            refine gX6_74 dX6_slide_107 rfl (by first | assumption | exact hL.1 _ (by decide)) (by first | assumption | exact hL.2 _ _ (by decide)) ?_
            refine wa_ild5 dX6_slide_110 ?_
            refine wa_iaload dX6_slide_112 (by first | assumption | exact hL.1 _ (by decide)) (by first | omega | (simp only [Int.toNat_natCast]; omega)) (by first | decide | omega) ?_
            refine wa_iadd dX6_slide_113 ?_
            refine wa_ist4 dX6_slide_114 (by decide) rfl ?_
            refine wa_iinc5 dX6_slide_116 (by decide) rfl ?_
            refine wa_goto 68 dX6_slide_119 (by decide) ?_
            simp only [Int.toNat_natCast] at c98 ⊢
            simp only [if_pos (show v ≤ V 2 a by omega)]
            exact ih (a + 1) (cm + V 2 a) (by omega) hw' hv'
  unfold slX
  refine wa_ald0 dX6_slide_0 ?_
  refine gX6_10 dX6_slide_1 rfl (by first | assumption | exact hL.1 _ (by decide)) (by first | assumption | exact hL.2 _ _ (by decide)) ?_
  refine wa_ild1 dX6_slide_4 ?_
  refine kX6_66 dX6_slide_5 rfl (by first | assumption | exact hL.1 _ (by decide)) (ct_has hL.s1 (by omega) hg) (by decide) (Nat.le_of_ble_eq_true rfl) ⟨Nat.le_refl _, Nat.le_refl _⟩ (zdI ?_)
  rw [hc]
  refine wa_ifne_B 13 dX6_slide_8 (by decide) (fun c8 => ?_) (fun c8 => ?_)
  · refine wa_ild2 dX6_slide_13 ?_
    refine wa_iconst dX6_slide_14 ?_
    refine wa_sipush dX6_slide_15 (by decide) ?_
    refine kX6_70 dX6_slide_18 rfl (ct_isOutside hv (by decide) (by decide)) (by decide) (Nat.le_of_ble_eq_true rfl) ⟨Nat.le_refl _, Nat.le_refl _⟩ (zdI ?_)
    refine wa_ifne_B 33 dX6_slide_21 (by decide) (fun c21 => ?_) (fun c21 => ?_)
    · refine wa_bipush dX6_slide_33 (by decide) ?_
      exact wa_ireturn dX6_slide_35 rfl rfl (Nat.le_refl _) (by refine ⟨?_, rfl, rfl, rfl⟩; rw [if_neg (show ¬ ¬ (0 ≤ g ∧ g < (c : Int)) by omega), if_pos (by omega)])
    · refine wa_ild3 dX6_slide_24 ?_
      refine wa_iconst dX6_slide_25 ?_
      refine wa_iconst dX6_slide_26 ?_
      refine kX6_70 dX6_slide_27 rfl (ct_isOutside hw (by decide) (by decide)) (by decide) (Nat.le_of_ble_eq_true rfl) ⟨Nat.le_refl _, Nat.le_refl _⟩ (zdI ?_)
      refine wa_ifeq_B 36 dX6_slide_30 (by decide) (fun c30 => ?_) (fun c30 => ?_)
      · refine wa_ald0 dX6_slide_36 ?_
        refine gX6_10 dX6_slide_37 rfl (by first | assumption | exact hL.1 _ (by decide)) (by first | assumption | exact hL.2 _ _ (by decide)) ?_
        refine gX6_74 dX6_slide_40 rfl (by first | assumption | exact hL.1 _ (by decide)) (by first | assumption | exact hL.2 _ _ (by decide)) ?_
        refine wa_ild1 dX6_slide_43 ?_
        refine wa_iaload dX6_slide_44 (by first | assumption | exact hL.1 _ (by decide)) (by first | omega | (have := hd g.toNat; omega)) (by first | decide | omega) ?_
        refine wa_ild2 dX6_slide_45 ?_
        refine wa_icmp_ge 52 dX6_slide_46 (by decide) (by first | omega | (have := hd g.toNat; omega)) (by first | omega | (have := hd g.toNat; omega)) (fun c46 => ?_) (fun c46 => ?_)
        · refine wa_ald0 dX6_slide_52 ?_
          refine gX6_10 dX6_slide_53 rfl (by first | assumption | exact hL.1 _ (by decide)) (by first | assumption | exact hL.2 _ _ (by decide)) ?_
          refine gX6_74 dX6_slide_56 rfl (by first | assumption | exact hL.1 _ (by decide)) (by first | assumption | exact hL.2 _ _ (by decide)) ?_
          refine wa_ild1 dX6_slide_59 ?_
          refine wa_iaload dX6_slide_60 (by first | assumption | exact hL.1 _ (by decide)) (by first | omega | (have := hd g.toNat; omega)) (by first | decide | omega) ?_
          refine wa_ist4 dX6_slide_61 (by decide) rfl ?_
          refine wa_ild1 dX6_slide_63 ?_
          refine wa_iconst dX6_slide_64 ?_
          refine wa_iadd dX6_slide_65 ?_
          refine wa_ist5 dX6_slide_66 (by decide) rfl ?_
          rw [if_neg (show ¬ ¬ (0 ≤ g ∧ g < (c : Int)) by omega), if_neg (show ¬ ((v < 1 ∨ 999 < v) ∨ (w < 0 ∨ 1 < w)) by omega), if_neg (show ¬ V 2 g.toNat < v by omega), show g + 1 = ((g.toNat + 1 : Nat) : Int) by omega]
          exact loop _ _ _ (by omega) (by omega) (by omega)
        · refine wa_bipush dX6_slide_49 (by decide) ?_
          exact wa_ireturn dX6_slide_51 rfl rfl (Nat.le_refl _) (by refine ⟨?_, rfl, rfl, rfl⟩; rw [if_neg (show ¬ ¬ (0 ≤ g ∧ g < (c : Int)) by omega), if_neg (show ¬ ((v < 1 ∨ 999 < v) ∨ (w < 0 ∨ 1 < w)) by omega), if_pos (by omega)])
      · refine wa_bipush dX6_slide_33 (by decide) ?_
        exact wa_ireturn dX6_slide_35 rfl rfl (Nat.le_refl _) (by refine ⟨?_, rfl, rfl, rfl⟩; rw [if_neg (show ¬ ¬ (0 ≤ g ∧ g < (c : Int)) by omega), if_pos (by omega)])
  · refine wa_iconst dX6_slide_11 ?_
    exact wa_ireturn dX6_slide_12 rfl rfl (Nat.le_refl _) (by exact ⟨by rw [if_pos c8], rfl, rfl, rfl⟩)
def hlF (d : Nat → Int) (p : Nat) : Nat → Int
  | 0 => 1000
  | q + 1 => min (hlF d p q) (d (p + q) + 1)
theorem hlF_b {d : Nat → Int} {p : Nat} (hd : ∀ j, 0 ≤ d j ∧ d j ≤ 999) (q : Nat) : 1 ≤ hlF d p q ∧ hlF d p q ≤ 1000 := by
  induction q with
  | zero => unfold hlF; omega
  | succ q ih => have := hd (p + q); unfold hlF; omega
def hoX (c : Nat) (g : Int) (V : zE) : Int := if ¬ (0 ≤ g ∧ g < c) then -1 else if V 2 g.toNat = 0 then -3 else if hlF (V 2) (g.toNat + 1) (c - 1 - g.toNat) ≤ V 2 g.toNat then hlF (V 2) (g.toNat + 1) (c - 1 - g.toNat) else -6
theorem ct_holds {n : Nat} {S : zH} {Rf : zG} {V : zE} {c k len : Nat} {F g : Int} (hL : Lay S Rf) (hI : CI c k len F V) (hg : -2147483648 ≤ g ∧ g ≤ 2147483647) : Ci 2 mX6_holds [zR 0, zI g] n S Rf V (hoX c g V) V := by
  obtain ⟨hc, h2, h8, hd, hf, hu, hu3, hs, hfl, hF, hfa, hk, hk8, hsg, hsd, hl, h60, hp, hsc⟩ := hI
  have hdg := hd g.toNat
  refine ct_of (by decide) rfl (Nat.le_of_ble_eq_true rfl) ?_
  have loop : ∀ (r q : Nat), 0 ≤ g → (g.toNat + 1 + q) + r = c → Wa zXn mX6_holds (zrm 2 0 0) (zZm (qI (if hlF (V 2) (g.toNat + 1) (c - 1 - g.toNat) ≤ V 2 g.toNat then hlF (V 2) (g.toNat + 1) (c - 1 - g.toNat) else -6) S Rf V) (n + 0) 0 0) 0 0 n S 36 [some (zR 0), some (zI g), some (zI (hlF (V 2) (g.toNat + 1) q)), some (zI ((g.toNat + 1 + q : Nat) : Int))] [] Rf V := by
    intro r
    induction r with
    | zero =>
      intro q hg0 hq
      obtain rfl : q = c - 1 - g.toNat := by omega
      have hb := hlF_b (p := g.toNat + 1) hd (c - 1 - g.toNat)
      refine wa_ild3 dX6_holds_36 ?_
      refine wa_ald0 dX6_holds_37 ?_
      refine gX6_10 dX6_holds_38 rfl (by first | assumption | exact hL.1 _ (by decide)) (by first | assumption | exact hL.2 _ _ (by decide)) ?_
      refine gX6_58 dX6_holds_41 rfl (by first | assumption | exact hL.1 _ (by decide)) ?_
      refine wa_icmp_ge 75 dX6_holds_44 (by decide) (by omega) (by omega) (fun c44 => ?_) (fun c44 => ?_)
      · refine wa_ild2 dX6_holds_75 ?_
        refine wa_ald0 dX6_holds_76 ?_
        refine gX6_10 dX6_holds_77 rfl (by first | assumption | exact hL.1 _ (by decide)) (by first | assumption | exact hL.2 _ _ (by decide)) ?_
        refine gX6_74 dX6_holds_80 rfl (by first | assumption | exact hL.1 _ (by decide)) (by first | assumption | exact hL.2 _ _ (by decide)) ?_
        refine wa_ild1 dX6_holds_83 ?_
        refine wa_iaload dX6_holds_84 (by first | assumption | exact hL.1 _ (by decide)) (by omega) (by first | decide | omega) ?_
        refine wa_icmp_gt 92 dX6_holds_85 (by decide) (by omega) (by omega) (fun c85 => ?_) (fun c85 => ?_)
        · refine wa_bipush dX6_holds_92 (by decide) ?_
          exact wa_ireturn dX6_holds_94 rfl rfl (Nat.le_refl _) (by refine ⟨?_, rfl, rfl, rfl⟩; first | rw [if_pos c85] | rw [if_neg (by omega)])
        · refine wa_ild2 dX6_holds_88 ?_
          refine wa_goto 94 dX6_holds_89 (by decide) ?_
          exact wa_ireturn dX6_holds_94 rfl rfl (Nat.le_refl _) (by refine ⟨?_, rfl, rfl, rfl⟩; first | rw [if_pos c85] | rw [if_neg (by omega)])
      · exact absurd c44 (by omega)
    | succ r ih =>
      intro q hg0 hq
      have hb := hlF_b (p := g.toNat + 1) hd q
      have hdq := hd (g.toNat + 1 + q)
      have e1 := ih (q + 1) hg0 (by omega)
      refine wa_ild3 dX6_holds_36 ?_
      refine wa_ald0 dX6_holds_37 ?_
      refine gX6_10 dX6_holds_38 rfl (by first | assumption | exact hL.1 _ (by decide)) (by first | assumption | exact hL.2 _ _ (by decide)) ?_
      refine gX6_58 dX6_holds_41 rfl (by first | assumption | exact hL.1 _ (by decide)) ?_
      refine wa_icmp_ge 75 dX6_holds_44 (by decide) (by first | omega | (simp only [Int.toNat_natCast]; omega)) (by first | omega | (simp only [Int.toNat_natCast]; omega)) (fun c44 => ?_) (fun c44 => ?_)
      · exact absurd c44 (by omega)
      · refine wa_ild3 dX6_holds_47 ?_
        refine wa_bipush dX6_holds_48 (by decide) ?_
        refine wa_icmp_ge 75 dX6_holds_50 (by decide) (by first | omega | (simp only [Int.toNat_natCast]; omega)) (by first | omega | (simp only [Int.toNat_natCast]; omega)) (fun c50 => ?_) (fun c50 => ?_)
        · exact absurd c50 (by omega)
        · refine wa_ild2 dX6_holds_53 ?_
          refine wa_ald0 dX6_holds_54 ?_
          refine gX6_10 dX6_holds_55 rfl (by first | assumption | exact hL.1 _ (by decide)) (by first | assumption | exact hL.2 _ _ (by decide)) ?_
          refine gX6_74 dX6_holds_58 rfl (by first | assumption | exact hL.1 _ (by decide)) (by first | assumption | exact hL.2 _ _ (by decide)) ?_
          refine wa_ild3 dX6_holds_61 ?_
          refine wa_iaload dX6_holds_62 (by first | assumption | exact hL.1 _ (by decide)) (by first | omega | (simp only [Int.toNat_natCast]; omega)) (by first | decide | omega) ?_
          refine wa_iconst dX6_holds_63 ?_
          refine wa_iadd dX6_holds_64 ?_
          refine wa_min dX6_holds_65 lX6_147 w_st_min w_iMath w_co_min ⟨Nat.le_of_ble_eq_true rfl, Nat.le_of_ble_eq_true rfl⟩ (by decide) (by first | omega | (simp only [Int.toNat_natCast]; omega)) (by first | omega | (simp only [Int.toNat_natCast]; omega)) ?_
          refine wa_ist2 dX6_holds_68 (by decide) rfl ?_
          refine wa_iinc3 dX6_holds_69 (by decide) rfl ?_
          refine wa_goto 36 dX6_holds_72 (by decide) ?_
          simp only [Int.toNat_natCast]
          exact e1
  unfold hoX
  refine wa_ald0 dX6_holds_0 ?_
  refine gX6_10 dX6_holds_1 rfl (by first | assumption | exact hL.1 _ (by decide)) (by first | assumption | exact hL.2 _ _ (by decide)) ?_
  refine wa_ild1 dX6_holds_4 ?_
  refine kX6_66 dX6_holds_5 rfl (by first | assumption | exact hL.1 _ (by decide)) (ct_has hL.s1 (by omega) hg) (by decide) (Nat.le_of_ble_eq_true rfl) ⟨Nat.le_refl _, Nat.le_refl _⟩ (zdI ?_)
  rw [hc]
  refine wa_ifne_B 13 dX6_holds_8 (by decide) (fun c8 => ?_) (fun c8 => ?_)
  · refine wa_ald0 dX6_holds_13 ?_
    refine gX6_10 dX6_holds_14 rfl (by first | assumption | exact hL.1 _ (by decide)) (by first | assumption | exact hL.2 _ _ (by decide)) ?_
    refine gX6_74 dX6_holds_17 rfl (by first | assumption | exact hL.1 _ (by decide)) (by first | assumption | exact hL.2 _ _ (by decide)) ?_
    refine wa_ild1 dX6_holds_20 ?_
    refine wa_iaload dX6_holds_21 (by first | assumption | exact hL.1 _ (by decide)) (by omega) (by first | decide | omega) ?_
    refine wa_if_ne 28 dX6_holds_22 (by decide) (by omega) (fun c22 => ?_) (fun c22 => ?_)
    · refine wa_sipush dX6_holds_28 (by decide) ?_
      refine wa_ist2 dX6_holds_31 (by decide) rfl ?_
      refine wa_ild1 dX6_holds_32 ?_
      refine wa_iconst dX6_holds_33 ?_
      refine wa_iadd dX6_holds_34 ?_
      refine wa_ist3 dX6_holds_35 (by decide) rfl ?_
      rw [if_neg (show ¬ ¬ (0 ≤ g ∧ g < (c : Int)) by omega), if_neg c22]
      have h9 := loop (c - 1 - g.toNat) 0 (by omega) (by omega)
      rw [show ((g.toNat + 1 + 0 : Nat) : Int) = g + 1 by omega] at h9
      exact h9
    · refine wa_bipush dX6_holds_25 (by decide) ?_
      exact wa_ireturn dX6_holds_27 rfl rfl (Nat.le_refl _) (by refine ⟨?_, rfl, rfl, rfl⟩; rw [if_neg (show ¬ ¬ (0 ≤ g ∧ g < (c : Int)) by omega), if_pos c22])
  · refine wa_iconst dX6_holds_11 ?_
    exact wa_ireturn dX6_holds_12 rfl rfl (Nat.le_refl _) (by exact ⟨by rw [if_pos c8], rfl, rfl, rfl⟩)
def snX (c : Nat) (g v : Int) (V : zE) : Int := if ¬ (0 ≤ g ∧ g < c) then -1 else if v < 0 ∨ 999 < v then -2 else if 8 ≤ V 1 8 then -4 else V 1 8 + 1
def snV (c : Nat) (g v : Int) (V : zE) : zE := if ¬ (0 ≤ g ∧ g < c) then V else if v < 0 ∨ 999 < v then V else if 8 ≤ V 1 8 then V else zp (zp (zp V 7 (za (V 7) (V 1 8).toNat g)) 8 (za (V 8) (V 1 8).toNat v)) 1 (za (V 1) 8 (V 1 8 + 1))
theorem ct_seen {n : Nat} {S : zH} {Rf : zG} {V : zE} {c k len : Nat} {F g v : Int} (hL : Lay S Rf) (hI : CI c k len F V) (hg : -2147483648 ≤ g ∧ g ≤ 2147483647) (hv : -2147483648 ≤ v ∧ v ≤ 2147483647) : Ci 2 mX6_seen [zR 0, zI g, zI v] n S Rf V (snX c g v V) (snV c g v V) := by
  obtain ⟨hc, h2, h8, hd, hf, hu, hu3, hs, hfl, hF, hfa, hk, hk8, hsg, hsd, hl, h60, hp, hsc⟩ := hI
  refine ct_of (by decide) rfl (Nat.le_of_ble_eq_true rfl) ?_
  unfold snX snV
  refine wa_ald0 dX6_seen_0 ?_
  refine gX6_10 dX6_seen_1 rfl (by first | assumption | exact hL.1 _ (by decide)) (by first | assumption | exact hL.2 _ _ (by decide)) ?_
  refine wa_ild1 dX6_seen_4 ?_
  refine kX6_66 dX6_seen_5 rfl (by first | assumption | exact hL.1 _ (by decide)) (ct_has hL.s1 (by omega) hg) (by decide) (Nat.le_of_ble_eq_true rfl) ⟨Nat.le_refl _, Nat.le_refl _⟩ (zdI ?_)
  rw [hc]
  refine wa_ifne_B 13 dX6_seen_8 (by decide) (fun c8 => ?_) (fun c8 => ?_)
  · refine wa_ild2 dX6_seen_13 ?_
    refine wa_iconst dX6_seen_14 ?_
    refine wa_sipush dX6_seen_15 (by decide) ?_
    refine kX6_70 dX6_seen_18 rfl (ct_isOutside hv (by decide) (by decide)) (by decide) (Nat.le_of_ble_eq_true rfl) ⟨Nat.le_refl _, Nat.le_refl _⟩ (zdI ?_)
    refine wa_ifeq_B 27 dX6_seen_21 (by decide) (fun c21 => ?_) (fun c21 => ?_)
    · refine wa_ald0 dX6_seen_27 ?_
      refine gX6_10 dX6_seen_28 rfl (by first | assumption | exact hL.1 _ (by decide)) (by first | assumption | exact hL.2 _ _ (by decide)) ?_
      refine gX6_150 dX6_seen_31 rfl (by first | assumption | exact hL.1 _ (by decide)) ?_
      refine wa_bipush dX6_seen_34 (by decide) ?_
      refine wa_icmp_lt 42 dX6_seen_36 (by decide) (by first | omega | (simp only [zp_n _ _ (show 1 ≠ 7 by decide), zp_n _ _ (show 1 ≠ 8 by decide)]; omega)) (by first | omega | (simp only [zp_n _ _ (show 1 ≠ 7 by decide), zp_n _ _ (show 1 ≠ 8 by decide)]; omega)) (fun c36 => ?_) (fun c36 => ?_)
      · refine wa_ald0 dX6_seen_42 ?_
        refine gX6_10 dX6_seen_43 rfl (by first | assumption | exact hL.1 _ (by decide)) (by first | assumption | exact hL.2 _ _ (by decide)) ?_
        refine gX6_153 dX6_seen_46 rfl (by first | assumption | exact hL.1 _ (by decide)) (by first | assumption | exact hL.2 _ _ (by decide)) ?_
        refine wa_ald0 dX6_seen_49 ?_
        refine gX6_10 dX6_seen_50 rfl (by first | assumption | exact hL.1 _ (by decide)) (by first | assumption | exact hL.2 _ _ (by decide)) ?_
        refine gX6_150 dX6_seen_53 rfl (by first | assumption | exact hL.1 _ (by decide)) ?_
        refine wa_ild1 dX6_seen_56 ?_
        refine wa_iastore dX6_seen_57 (by first | assumption | exact hL.1 _ (by decide)) (by first | omega | (simp only [zp_n _ _ (show 1 ≠ 7 by decide), zp_n _ _ (show 1 ≠ 8 by decide)]; omega)) (by first | decide | omega) ?_
        refine wa_ald0 dX6_seen_58 ?_
        refine gX6_10 dX6_seen_59 rfl (by first | assumption | exact hL.1 _ (by decide)) (by first | assumption | exact hL.2 _ _ (by decide)) ?_
        refine gX6_156 dX6_seen_62 rfl (by first | assumption | exact hL.1 _ (by decide)) (by first | assumption | exact hL.2 _ _ (by decide)) ?_
        refine wa_ald0 dX6_seen_65 ?_
        refine gX6_10 dX6_seen_66 rfl (by first | assumption | exact hL.1 _ (by decide)) (by first | assumption | exact hL.2 _ _ (by decide)) ?_
        refine gX6_150 dX6_seen_69 rfl (by first | assumption | exact hL.1 _ (by decide)) ?_
        refine wa_ild2 dX6_seen_72 ?_
        refine wa_iastore dX6_seen_73 (by first | assumption | exact hL.1 _ (by decide)) (by first | omega | (simp only [zp_n _ _ (show 1 ≠ 7 by decide), zp_n _ _ (show 1 ≠ 8 by decide)]; omega)) (by first | decide | omega) ?_
        refine wa_ald0 dX6_seen_74 ?_
        refine gX6_10 dX6_seen_75 rfl (by first | assumption | exact hL.1 _ (by decide)) (by first | assumption | exact hL.2 _ _ (by decide)) ?_
        refine wa_dup dX6_seen_78 rfl ?_
        refine gX6_150 dX6_seen_79 rfl (by first | assumption | exact hL.1 _ (by decide)) ?_
        refine wa_iconst dX6_seen_82 ?_
        refine wa_iadd dX6_seen_83 ?_
        refine pX6_150 dX6_seen_84 rfl (by first | assumption | exact hL.1 _ (by decide)) ?_
        refine wa_ald0 dX6_seen_87 ?_
        refine gX6_10 dX6_seen_88 rfl (by first | assumption | exact hL.1 _ (by decide)) (by first | assumption | exact hL.2 _ _ (by decide)) ?_
        refine gX6_150 dX6_seen_91 rfl (by first | assumption | exact hL.1 _ (by decide)) ?_
        exact wa_ireturn dX6_seen_94 rfl rfl (Nat.le_refl _) (by refine ⟨?_, rfl, rfl, ?_⟩ <;> rw [if_neg (show ¬ ¬ (0 ≤ g ∧ g < (c : Int)) by omega), if_neg c21, if_neg (show ¬ 8 ≤ V 1 8 by omega)]; simp only [zp_s, za_s, zp_n _ _ (show 1 ≠ 7 by decide), zp_n _ _ (show 1 ≠ 8 by decide)]; simp only [zp_n _ _ (show 1 ≠ 7 by decide), zp_n _ _ (show 1 ≠ 8 by decide), zp_n _ _ (show 8 ≠ 7 by decide)])
      · refine wa_bipush dX6_seen_39 (by decide) ?_
        exact wa_ireturn dX6_seen_41 rfl rfl (Nat.le_refl _) (by refine ⟨?_, rfl, rfl, ?_⟩ <;> rw [if_neg (show ¬ ¬ (0 ≤ g ∧ g < (c : Int)) by omega), if_neg c21, if_pos c36])
    · refine wa_bipush dX6_seen_24 (by decide) ?_
      exact wa_ireturn dX6_seen_26 rfl rfl (Nat.le_refl _) (by refine ⟨?_, rfl, rfl, ?_⟩ <;> rw [if_neg (show ¬ ¬ (0 ≤ g ∧ g < (c : Int)) by omega), if_pos c21])
  · refine wa_iconst dX6_seen_11 ?_
    exact wa_ireturn dX6_seen_12 rfl rfl (Nat.le_refl _) (by exact ⟨by rw [if_pos c8], rfl, rfl, by rw [if_pos c8]⟩)
theorem ct_forget {n : Nat} {S : zH} {Rf : zG} {V : zE} (hL : Lay S Rf) : Ci 1 mX6_forget [zR 0] n S Rf V (V 1 8) (zp V 1 (za (V 1) 8 0)) := by
  refine ct_of (by decide) rfl (Nat.le_of_ble_eq_true rfl) ?_
  refine wa_ald0 dX6_forget_0 ?_
  refine gX6_10 dX6_forget_1 rfl (by first | assumption | exact hL.1 _ (by decide)) (by first | assumption | exact hL.2 _ _ (by decide)) ?_
  refine gX6_150 dX6_forget_4 rfl (by first | assumption | exact hL.1 _ (by decide)) ?_
  refine wa_ist1 dX6_forget_7 (by decide) rfl ?_
  refine wa_ald0 dX6_forget_8 ?_
  refine gX6_10 dX6_forget_9 rfl (by first | assumption | exact hL.1 _ (by decide)) (by first | assumption | exact hL.2 _ _ (by decide)) ?_
  refine wa_iconst dX6_forget_12 ?_
  refine pX6_150 dX6_forget_13 rfl (by first | assumption | exact hL.1 _ (by decide)) ?_
  refine wa_ild1 dX6_forget_16 ?_
  exact wa_ireturn dX6_forget_17 rfl rfl (Nat.le_refl _) (by exact ⟨rfl, rfl, rfl, rfl⟩)
theorem ga_qry {a : zAc} {V V' : zE} (hsc : scrI V) (h : gaP a V V') : qry V V' := by
  obtain ⟨h1, h2, h3⟩ := h
  refine ⟨fun k hk => ?_, by rw [h3 18 (by decide) (by decide) (by decide) (by decide) (by decide)], fun j => ?_, fun j => ?_, h2⟩
  · unfold scr at hk; exact h3 k (by omega) (by omega) (by omega) (by omega) (by omega)
  · rw [h3 27 (by decide) (by decide) (by decide) (by decide) (by decide)]; exact hsc.1 j
  · rw [h3 28 (by decide) (by decide) (by decide) (by decide) (by decide)]; exact hsc.2.1 j
abbrev gaV (c k m : Nat) (V : zE) : zAc := gaF c k m (V 2) (V 4) (V 7) (V 8)
def whX (c k : Nat) (m w : Int) (V : zE) : Int := if (m < 0 ∨ 3 < m) ∨ (w < 0 ∨ 2 < w) then -2 else if w = 0 then (gaV c k m.toNat V).1 else if w = 1 then (gaV c k m.toNat V).2.1 else if (gaV c k m.toNat V).1 = 0 then 0 else (gaV c k m.toNat V).2.2.1
theorem ct_who {n : Nat} {S : zH} {Rf : zG} {V : zE} {c k len : Nat} {F m w : Int} (hL : Lay S Rf) (hI : CI c k len F V) (hm : -2147483648 ≤ m ∧ m ≤ 2147483647) (hw : -2147483648 ≤ w ∧ w ≤ 2147483647) : Ct 9 0 0 mX6_who [zR 0, zI m, zI w] n S Rf V (qQ S Rf V (whX c k m w V)) := by
  obtain ⟨hc, h2, h8, hd, hf, hu, hu3, hs, hfl, hF, hfa, hk, hk8, hsg, hsd, hl, h60, hp, hsc⟩ := hI
  refine ct_of (by decide) rfl (Nat.le_of_ble_eq_true rfl) ?_
  unfold whX
  refine wa_ild1 dX6_who_0 ?_
  refine wa_iconst dX6_who_1 ?_
  refine wa_iconst dX6_who_2 ?_
  refine kX6_70 dX6_who_3 rfl (ct_isOutside hm (by decide) (by decide)) (by decide) (Nat.le_of_ble_eq_true rfl) ⟨Nat.le_refl _, Nat.le_refl _⟩ (zdI ?_)
  refine wa_ifne_B 18 dX6_who_6 (by decide) (fun c6 => ?_) (fun c6 => ?_)
  · refine wa_bipush dX6_who_18 (by decide) ?_
    exact wa_ireturn dX6_who_20 rfl rfl (Nat.le_refl _) (by refine ⟨?_, rfl, rfe_rf, qry_rf hsc⟩; rw [if_pos (by omega)])
  · refine wa_ild2 dX6_who_9 ?_
    refine wa_iconst dX6_who_10 ?_
    refine wa_iconst dX6_who_11 ?_
    refine kX6_70 dX6_who_12 rfl (ct_isOutside hw (by decide) (by decide)) (by decide) (Nat.le_of_ble_eq_true rfl) ⟨Nat.le_refl _, Nat.le_refl _⟩ (zdI ?_)
    refine wa_ifeq_B 21 dX6_who_15 (by decide) (fun c15 => ?_) (fun c15 => ?_)
    · refine wa_ald0 dX6_who_21 ?_
      refine gX6_47 dX6_who_22 rfl (by first | assumption | exact hL.1 _ (by decide)) (by first | assumption | exact hL.2 _ _ (by decide)) ?_
      refine wa_ald0 dX6_who_25 ?_
      refine gX6_10 dX6_who_26 rfl (by first | assumption | exact hL.1 _ (by decide)) (by first | assumption | exact hL.2 _ _ (by decide)) ?_
      refine wa_ild1 dX6_who_29 ?_
      obtain ⟨m', rfl⟩ : ∃ m' : Nat, m = (m' : Int) := ⟨m.toNat, by omega⟩
      refine kX6_159 dX6_who_30 rfl (by first | assumption | exact hL.1 _ (by decide)) (ct_gather hL hc h2 h8 hk hk8 (by omega) hsc.2.2 hd hu hsg (fun j => by have := hsd j; omega)) (by decide) (Nat.le_of_ble_eq_true rfl) ⟨Nat.le_refl _, Nat.le_refl _⟩ (zpN fun V1 hg => ?_)
      have hg1 := hg.1
      refine wa_ild2 dX6_who_33 ?_
      refine wa_if_ne 45 dX6_who_34 (by decide) (by omega) (fun c34 => ?_) (fun c34 => ?_)
      · refine wa_ild2 dX6_who_45 ?_
        refine wa_iconst dX6_who_46 ?_
        refine wa_icmp_ne 60 dX6_who_47 (by decide) (by omega) (by omega) (fun c47 => ?_) (fun c47 => ?_)
        · refine wa_ald0 dX6_who_60 ?_
          refine gX6_47 dX6_who_61 rfl (by first | assumption | exact hL.1 _ (by decide)) (by first | assumption | exact hL.2 _ _ (by decide)) ?_
          refine gX6_169 dX6_who_64 rfl (by first | assumption | exact hL.1 _ (by decide)) ?_
          exact wa_ireturn dX6_who_67 rfl rfl (Nat.le_refl _) (by refine ⟨?_, rfl, rfe_rf, ga_qry hsc hg⟩; rw [if_neg (by omega), if_neg c34, Int.toNat_natCast]; first | (rw [if_pos c47, show V1 29 6 = (acV V1).2.1 from rfl, hg1]) | (rw [if_neg c47, show V1 29 7 = (acV V1).2.2.1 from rfl, hg1]))
        · refine wa_ald0 dX6_who_50 ?_
          refine gX6_47 dX6_who_51 rfl (by first | assumption | exact hL.1 _ (by decide)) (by first | assumption | exact hL.2 _ _ (by decide)) ?_
          refine gX6_166 dX6_who_54 rfl (by first | assumption | exact hL.1 _ (by decide)) ?_
          refine wa_goto 67 dX6_who_57 (by decide) ?_
          exact wa_ireturn dX6_who_67 rfl rfl (Nat.le_refl _) (by refine ⟨?_, rfl, rfe_rf, ga_qry hsc hg⟩; rw [if_neg (by omega), if_neg c34, Int.toNat_natCast]; first | (rw [if_pos c47, show V1 29 6 = (acV V1).2.1 from rfl, hg1]) | (rw [if_neg c47, show V1 29 7 = (acV V1).2.2.1 from rfl, hg1]))
      · refine wa_ald0 dX6_who_37 ?_
        refine gX6_47 dX6_who_38 rfl (by first | assumption | exact hL.1 _ (by decide)) (by first | assumption | exact hL.2 _ _ (by decide)) ?_
        refine gX6_163 dX6_who_41 rfl (by first | assumption | exact hL.1 _ (by decide)) ?_
        exact wa_ireturn dX6_who_44 rfl rfl (Nat.le_refl _) (by refine ⟨?_, rfl, rfe_rf, ga_qry hsc hg⟩; rw [if_neg (by omega), if_pos c34, Int.toNat_natCast]; rw [show V1 29 5 = (acV V1).1 from rfl, hg1])
    · refine wa_bipush dX6_who_18 (by decide) ?_
      exact wa_ireturn dX6_who_20 rfl rfl (Nat.le_refl _) (by refine ⟨?_, rfl, rfe_rf, qry_rf hsc⟩; rw [if_pos (by omega)])
def nxG (c k m : Nat) (V : zE) : Int := if (gaV c k m V).1 = 0 then -6 else gmF (fun g => mxF (fun i => (gaV c k m V).2.2.2 (g * 32 + i)) 32) (fun g => anyB (fun i => V 7 i == (g : Int)) k) c
def nxX (c k : Nat) (m w : Int) (V : zE) : Int := if (m < 0 ∨ 3 < m) ∨ (w < 0 ∨ 1 < w) then -2 else if w = 0 ∨ nxG c k m.toNat V = -6 then nxG c k m.toNat V else mxF (fun i => (gaV c k m.toNat V).2.2.2 ((nxG c k m.toNat V).toNat * 32 + i)) 32
theorem ct_next {n : Nat} {S : zH} {Rf : zG} {V : zE} {c k len : Nat} {F m w : Int} (hL : Lay S Rf) (hI : CI c k len F V) (hm : -2147483648 ≤ m ∧ m ≤ 2147483647) (hw : -2147483648 ≤ w ∧ w ≤ 2147483647) : Ct 9 0 0 mX6_next [zR 0, zI m, zI w] n S Rf V (qQ S Rf V (nxX c k m w V)) := by
  obtain ⟨hc, h2, h8, hd, hf, hu, hu3, hs, hfl, hF, hfa, hk, hk8, hsg, hsd, hl, h60, hp, hsc⟩ := hI
  refine ct_of (by decide) rfl (Nat.le_of_ble_eq_true rfl) ?_
  unfold nxX
  refine wa_ild1 dX6_next_0 ?_
  refine wa_iconst dX6_next_1 ?_
  refine wa_iconst dX6_next_2 ?_
  refine kX6_70 dX6_next_3 rfl (ct_isOutside hm (by decide) (by decide)) (by decide) (Nat.le_of_ble_eq_true rfl) ⟨Nat.le_refl _, Nat.le_refl _⟩ (zdI ?_)
  refine wa_ifne_B 18 dX6_next_6 (by decide) (fun c6 => ?_) (fun c6 => ?_)
  · refine wa_bipush dX6_next_18 (by decide) ?_
    exact wa_ireturn dX6_next_20 rfl rfl (Nat.le_refl _) (by refine ⟨?_, rfl, rfe_rf, qry_rf hsc⟩; rw [if_pos (by omega)])
  · refine wa_ild2 dX6_next_9 ?_
    refine wa_iconst dX6_next_10 ?_
    refine wa_iconst dX6_next_11 ?_
    refine kX6_70 dX6_next_12 rfl (ct_isOutside hw (by decide) (by decide)) (by decide) (Nat.le_of_ble_eq_true rfl) ⟨Nat.le_refl _, Nat.le_refl _⟩ (zdI ?_)
    refine wa_ifeq_B 21 dX6_next_15 (by decide) (fun c15 => ?_) (fun c15 => ?_)
    · refine wa_ald0 dX6_next_21 ?_
      refine gX6_47 dX6_next_22 rfl (by first | assumption | exact hL.1 _ (by decide)) (by first | assumption | exact hL.2 _ _ (by decide)) ?_
      refine wa_ald0 dX6_next_25 ?_
      refine gX6_10 dX6_next_26 rfl (by first | assumption | exact hL.1 _ (by decide)) (by first | assumption | exact hL.2 _ _ (by decide)) ?_
      refine wa_ild1 dX6_next_29 ?_
      obtain ⟨m', rfl⟩ : ∃ m' : Nat, m = (m' : Int) := ⟨m.toNat, by omega⟩
      refine kX6_159 dX6_next_30 rfl (by first | assumption | exact hL.1 _ (by decide)) (ct_gather hL hc h2 h8 hk hk8 (by omega) hsc.2.2 hd hu hsg (fun j => by have := hsd j; omega)) (by decide) (Nat.le_of_ble_eq_true rfl) ⟨Nat.le_refl _, Nat.le_refl _⟩ (zpN fun V1 hg => ?_)
      have hg1 := hg.1
      have hgb := gaF_b (c := c) (k := k) (m := m') (d := V 2) (rule := V 4) (sg := V 7) (sd := V 8) h8 (by omega)
      have hab : acB 200000 (acV V1) := by rw [hg1]; exact hgb
      have o1 := hg.2.2 1 (by decide) (by decide) (by decide) (by decide) (by decide)
      have o7 := hg.2.2 7 (by decide) (by decide) (by decide) (by decide) (by decide)
      have e6 : V1 29 5 = (gaV c k m' V).1 := by rw [show V1 29 5 = (acV V1).1 from rfl, hg1]
      have e33 : V1 33 = (gaV c k m' V).2.2.2 := by rw [show V1 33 = (acV V1).2.2.2 from rfl, hg1]
      refine wa_ald0 dX6_next_33 ?_
      refine gX6_47 dX6_next_34 rfl (by first | assumption | exact hL.1 _ (by decide)) (by first | assumption | exact hL.2 _ _ (by decide)) ?_
      refine wa_ald0 dX6_next_37 ?_
      refine gX6_10 dX6_next_38 rfl (by first | assumption | exact hL.1 _ (by decide)) (by first | assumption | exact hL.2 _ _ (by decide)) ?_
      refine kX6_172 dX6_next_41 rfl (by first | assumption | exact hL.1 _ (by decide)) (ct_gardenToMeasure (k := k) hL (by rw [o1]; exact hc) h2 h8 (by rw [o1]; exact hk) hk8 (fun j => by rw [o7]; exact hsg j) hab) (by decide) (Nat.le_of_ble_eq_true rfl) ⟨Nat.le_refl _, Nat.le_refl _⟩ (zdI ?_)
      rw [e6, e33, o7, show (if (gaV c k m' V).1 = 0 then -6 else gmF (fun g => mxF (fun i => (gaV c k m' V).2.2.2 (g * 32 + i)) 32) (fun g => anyB (fun i => V 7 i == (g : Int)) k) c) = nxG c k m' V from rfl]
      have hnx : nxG c k m' V = -6 ∨ (0 ≤ nxG c k m' V ∧ nxG c k m' V < c) := by unfold nxG; split; exact Or.inl rfl; exact gmF_b c
      rw [if_neg (by omega), Int.toNat_natCast]
      refine wa_ist3 dX6_next_44 (by decide) rfl ?_
      refine wa_ild2 dX6_next_45 ?_
      refine wa_if_eq 55 dX6_next_46 (by decide) (by omega) (fun c46 => ?_) (fun c46 => ?_)
      · refine wa_ild3 dX6_next_55 ?_
        refine wa_goto 67 dX6_next_56 (by decide) ?_
        exact wa_ireturn dX6_next_67 rfl rfl (Nat.le_refl _) (by first | exact ⟨by rw [if_pos (by omega)], rfl, rfe_rf, ga_qry hsc hg⟩ | exact ⟨by rw [if_neg (by omega), e33, Int.toNat_natCast], rfl, rfe_rf, ga_qry hsc hg⟩)
      · refine wa_ild3 dX6_next_49 ?_
        refine wa_bipush dX6_next_50 (by decide) ?_
        refine wa_icmp_ne 59 dX6_next_52 (by decide) (by omega) (by omega) (fun c52 => ?_) (fun c52 => ?_)
        · refine wa_ald0 dX6_next_59 ?_
          refine gX6_47 dX6_next_60 rfl (by first | assumption | exact hL.1 _ (by decide)) (by first | assumption | exact hL.2 _ _ (by decide)) ?_
          refine wa_ild3 dX6_next_63 ?_
          have hnn : nxG c k m' V = ((nxG c k m' V).toNat : Int) := by omega
          generalize nxG c k m' V = nx at *
          rw [hnn]
          refine kX6_175 dX6_next_64 rfl (by first | assumption | exact hL.1 _ (by decide)) (ct_mostLeft hL (by omega) (fun j => by have := hab.2 j; exact ⟨this.1, by have := this.2; dsimp only at this; omega⟩)) (by decide) (Nat.le_of_ble_eq_true rfl) ⟨Nat.le_refl _, Nat.le_refl _⟩ (zdI ?_)
          exact wa_ireturn dX6_next_67 rfl rfl (Nat.le_refl _) (by first | exact ⟨by rw [if_pos (by omega)], rfl, rfe_rf, ga_qry hsc hg⟩ | exact ⟨by rw [if_neg (by omega), e33, Int.toNat_natCast], rfl, rfe_rf, ga_qry hsc hg⟩)
        · refine wa_ild3 dX6_next_55 ?_
          refine wa_goto 67 dX6_next_56 (by decide) ?_
          exact wa_ireturn dX6_next_67 rfl rfl (Nat.le_refl _) (by first | exact ⟨by rw [if_pos (by omega)], rfl, rfe_rf, ga_qry hsc hg⟩ | exact ⟨by rw [if_neg (by omega), e33, Int.toNat_natCast], rfl, rfe_rf, ga_qry hsc hg⟩)
    · refine wa_bipush dX6_next_18 (by decide) ?_
      exact wa_ireturn dX6_next_20 rfl rfl (Nat.le_refl _) (by refine ⟨?_, rfl, rfe_rf, qry_rf hsc⟩; rw [if_pos (by omega)])
