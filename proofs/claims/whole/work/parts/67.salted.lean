/-! the reference: salted -/
def sdP (c : Nat) (v : Int) (W : zE) (x : Int) : Prop := (v < 0 ∨ 999 < v) ∧ x = -2 ∨ ¬ (v < 0 ∨ 999 < v) ∧ ∃ f', slP c (fun j => W 2 j - v) (fun _ => 0) 0 0 6 f' ∧ x = (if f' ≤ 5 then f' else -6)
theorem cm_salted {n c k len : Nat} {S : zH} {Rf : zG} {W V : zE} {F v x : Int} (hL : Lay S Rf) (hI : CI c k len F W) (hR : RI c k len W V) (hv : -2147483648 ≤ v ∧ v ≤ 2147483647) (hx : sdP c v W x) : Ct 3 0 0 mX7_salted [zR 37, zI v] n S Rf V (rQ S Rf V x) := by
  obtain ⟨hc, h2, h8, hd, hf, hu, hu3, hs, hflk, hF, hfa, hk, hk8, hsg, hsd, hl, h60, hp, hsc⟩ := hI
  have r0 := hR.1
  refine ct_of (by decide) rfl (Nat.le_of_ble_eq_true rfl) ?_
  generalize hdd : W 2 = d at hd
  have hd0 : ∀ j, 0 ≤ d j := fun j => (hd j).1
  have big : ∀ s : Nat, s ≤ 6 → c ^ s ≤ 262144 := fun s h => Nat.le_trans (Nat.pow_le_pow_left h8 s) (Nat.le_trans (Nat.pow_le_pow_right (by decide) h) (by decide))
  have loopS : ∀ (q s : Nat) (V1 : zE) (o4 o5 o6 o7 : Option zV), s + q = 6 → 0 ≤ v ∧ v ≤ 999 → rfr V V1 → (∀ s', s' < s → ¬ exS c v d s') → Wa zXn mX7_salted (zrm 3 0 0) (zZm (rQ S Rf V x) (n + 0) 0 0) 0 0 n S 18 [some (zR 37), some (zI v), some (zI ((c ^ s : Nat) : Int)), some (zI (s : Int)), o4, o5, o6, o7] [] Rf V1 := by
    intro q
    induction q with
    | zero =>
      intro s V1 o4 o5 o6 o7 hs6 hv9 hf1 hno
      obtain rfl : s = 6 := by omega
      rcases hx with ⟨h1, _⟩ | ⟨_, f', h1, h2⟩
      · omega
      · rw [hdd] at h1
        have h3 : ¬ f' ≤ 5 := fun h => hno f'.toNat (by have := h1.2.1; omega) (sl_hi hv9.1 hd0 h1 h)
        rw [if_neg h3] at h2
        refine wa_ild3 dX7_salted_18 ?_
        refine wa_bipush dX7_salted_19 (by decide) ?_
        refine wa_icmp_ge 172 dX7_salted_21 (by decide) (by omega) (by omega) (fun c21 => ?_) (fun c21 => ?_)
        · refine wa_bipush dX7_salted_172 (by decide) ?_
          exact wa_ireturn dX7_salted_174 rfl rfl (Nat.le_refl _) (by exact ⟨by rw [h2], rfl, rfl, hf1⟩)
        · exact absurd c21 (by decide)
    | succ q ihS =>
      intro s V1 o4 o5 o6 o7 hs6 hv9 hf1 hno
      have hbs := big s (by omega)
      have hbs1 := big (s + 1) (by omega)
      have ans : exS c v d s → x = (s : Int) := by
        intro he
        rcases hx with ⟨h1, _⟩ | ⟨_, f', h1, h2⟩
        · omega
        · rw [hdd] at h1
          have h3 := sl_lo hd0 h1 he
          rw [if_pos (by omega)] at h2
          by_cases h4 : f' = s
          · rw [h2, h4]
          · exact absurd (sl_hi hv9.1 hd0 h1 (by omega)) (hno _ (by have := h1.2.1; omega))
      have loopC : ∀ (r a : Nat) (V2 : zE) (o5 o6 o7 : Option zV), a + r = c ^ s → rfr V V2 → (∀ a', a' < a → ¬ okQ c v (dgL c s a') d) → Wa zXn mX7_salted (zrm 3 0 0) (zZm (rQ S Rf V x) (n + 0) 0 0) 0 0 n S 27 [some (zR 37), some (zI v), some (zI ((c ^ s : Nat) : Int)), some (zI (s : Int)), some (zI (a : Int)), o5, o6, o7] [] Rf V2 := by
        intro r
        induction r with
        | zero =>
          intro a V2 o5 o6 o7 ha hf2 hn
          have r02 := (hf2.2 0 (by decide)).trans r0
          have e1 := fun o4 => ihS (s + 1) V2 o4 o5 o6 o7 (by omega) hv9 hf2 (fun s' hs' => by
            by_cases h : s' = s
            · subst h
              rw [ex_dg (by omega)]
              rintro ⟨a', h1, h2⟩
              exact hn a' (by omega) h2
            · exact hno s' (by omega))
          refine wa_ild4 dX7_salted_27 ?_
          refine wa_ild2 dX7_salted_29 ?_
          refine wa_icmp_ge 159 dX7_salted_30 (by decide) (by omega) (by omega) (fun c30 => ?_) (fun c30 => ?_)
          · refine wa_ild2 dX7_salted_159 ?_
            refine wa_ald0 dX7_salted_160 ?_
            refine gX7_7 dX7_salted_161 rfl (by first | assumption | exact hL.1 _ (by decide)) ?_
            refine wa_imul dX7_salted_164 ?_
            refine wa_ist2 dX7_salted_165 (by decide) rfl ?_
            refine wa_iinc3 dX7_salted_166 (by decide) rfl ?_
            refine wa_goto 18 dX7_salted_169 (by decide) ?_
            rw [r02, show ((c ^ s : Nat) : Int) * (c : Int) = ((c ^ (s + 1) : Nat) : Int) by rw [Nat.pow_succ, Int.natCast_mul]]
            exact e1 _
          · exact absurd c30 (by omega)
        | succ r ihC =>
          intro a V2 o5 o6 o7 ha hf2 hn
          have hRa := hR.go hf2
          obtain ⟨a1, a2⟩ := as_vr hRa
          have r44 : asV V2 44 = d := by
            have : (vr (asV V2)).1 = (vw 1 W).1 := by rw [a1]
            rw [← hdd]; exact this
          have tail : ∀ (V3 : zE) (cn : Int) (o5 o7 : Option zV), (cn = 1 ∧ okQ c v (dgL c s a) d ∨ cn = 0 ∧ ¬ okQ c v (dgL c s a) d) → rfr V V3 → Wa zXn mX7_salted (zrm 3 0 0) (zZm (rQ S Rf V x) (n + 0) 0 0) 0 0 n S 146 [some (zR 37), some (zI v), some (zI ((c ^ s : Nat) : Int)), some (zI (s : Int)), some (zI (a : Int)), o5, some (zI cn), o7] [] Rf V3 := by
            intro V3 cn o5 o7 hcn hf3
            rcases hcn with ⟨rfl, hok⟩ | ⟨rfl, hok⟩
            · have hxs := ans ((ex_dg (by omega)).mpr ⟨a, by omega, hok⟩)
              refine wa_ild6 dX7_salted_146 ?_
              refine wa_if_eq 153 dX7_salted_148 (by decide) (by omega) (fun c148 => absurd c148 (by decide)) (fun c148 => ?_)
              refine wa_ild3 dX7_salted_151 ?_
              exact wa_ireturn dX7_salted_152 rfl rfl (Nat.le_refl _) (by exact ⟨by rw [hxs], rfl, rfl, hf3⟩)
            · have e1 := ihC (a + 1) V3 o5 (some (zI 0)) o7 (by omega) hf3 (fun a' ha' => by
                by_cases h : a' = a
                · rw [h]; exact hok
                · exact hn a' (by omega))
              refine wa_ild6 dX7_salted_146 ?_
              refine wa_if_eq 153 dX7_salted_148 (by decide) (by omega) (fun c148 => ?_) (fun c148 => absurd c148 (by decide))
              refine wa_iinc4 dX7_salted_153 (by decide) rfl ?_
              refine wa_goto 27 dX7_salted_156 (by decide) ?_
              exact e1
          have loopG : ∀ (q i : Nat) (V3 : zE) (l5 : Int), i + q = c → rfr V V3 → (∀ j, 0 ≤ V3 44 j ∧ V3 44 j ≤ 999) → (okQ c v (dgL c s a) d ↔ ∀ j, j < c → V3 44 j ≤ v) → (∀ j, j < i → V3 44 j ≤ v) → Wa zXn mX7_salted (zrm 3 0 0) (zZm (rQ S Rf V x) (n + 0) 0 0) 0 0 n S 108 [some (zR 37), some (zI v), some (zI ((c ^ s : Nat) : Int)), some (zI (s : Int)), some (zI (a : Int)), some (zI l5), some (zI 1), some (zI (i : Int))] [] Rf V3 := by
            intro q
            induction q with
            | zero =>
              intro i V3 l5 hi hf3 hb hiff hall
              have r03 := (hf3.2 0 (by decide)).trans r0
              refine wa_ild7 dX7_salted_108 ?_
              refine wa_ald0 dX7_salted_110 ?_
              refine gX7_7 dX7_salted_111 rfl (by first | assumption | exact hL.1 _ (by decide)) ?_
              refine wa_icmp_ge 146 dX7_salted_114 (by decide) (by omega) (by omega) (fun c114 => ?_) (fun c114 => ?_)
              · exact tail V3 1 _ _ (Or.inl ⟨rfl, hiff.mpr (fun j hj => hall j (by omega))⟩) hf3
              · exact absurd c114 (by omega)
            | succ q ih =>
              intro i V3 l5 hi hf3 hb hiff hall
              have r03 := (hf3.2 0 (by decide)).trans r0
              have hbi := hb i
              by_cases hvi : V3 44 i ≤ v
              · have e1 := ih (i + 1) V3 l5 (by omega) hf3 hb hiff (fun j hj => by
                  by_cases h : j = i
                  · rw [h]; exact hvi
                  · exact hall j (by omega))
                refine wa_ild7 dX7_salted_108 ?_
                refine wa_ald0 dX7_salted_110 ?_
                refine gX7_7 dX7_salted_111 rfl (by first | assumption | exact hL.1 _ (by decide)) ?_
                refine wa_icmp_ge 146 dX7_salted_114 (by decide) (by first | omega | decide | (simp only [Int.toNat_natCast]; omega)) (by first | omega | decide | (simp only [Int.toNat_natCast]; omega)) (fun c114 => ?_) (fun c114 => ?_)
                · exact absurd c114 (by omega)
                · refine wa_ild6 dX7_salted_117 ?_
                  refine wa_if_eq 146 dX7_salted_119 (by decide) (by first | omega | decide | (simp only [Int.toNat_natCast]; omega)) (fun c119 => absurd c119 (by decide)) (fun c119 => ?_)
                  refine wa_ald0 dX7_salted_122 ?_
                  refine gX7_44 dX7_salted_123 rfl (by first | assumption | exact hL.1 _ (by decide)) (by first | assumption | exact hL.2 _ _ (by decide)) ?_
                  refine wa_ild7 dX7_salted_126 ?_
                  refine wa_iaload dX7_salted_128 (by first | assumption | exact hL.1 _ (by decide)) (by first | omega | decide | (simp only [Int.toNat_natCast]; omega)) (by first | decide | omega) ?_
                  refine wa_ild1 dX7_salted_129 ?_
                  refine wa_icmp_gt 137 dX7_salted_130 (by decide) (by first | omega | decide | (simp only [Int.toNat_natCast]; omega)) (by first | omega | decide | (simp only [Int.toNat_natCast]; omega)) (fun c130 => absurd c130 (by simp only [Int.toNat_natCast]; omega)) (fun c130 => ?_)
                  refine wa_iconst dX7_salted_133 ?_
                  refine wa_goto 138 dX7_salted_134 (by decide) ?_
                  refine wa_ist6 dX7_salted_138 (by decide) rfl ?_
                  refine wa_iinc7 dX7_salted_140 (by decide) rfl ?_
                  refine wa_goto 108 dX7_salted_143 (by decide) ?_
                  exact e1
              · have hno2 : ¬ okQ c v (dgL c s a) d := fun h => hvi (hiff.mp h i (by omega))
                have fin : Wa zXn mX7_salted (zrm 3 0 0) (zZm (rQ S Rf V x) (n + 0) 0 0) 0 0 n S 108 [some (zR 37), some (zI v), some (zI ((c ^ s : Nat) : Int)), some (zI (s : Int)), some (zI (a : Int)), some (zI l5), some (zI 0), some (zI ((i : Int) + 1))] [] Rf V3 := by
                  refine wa_ild7 dX7_salted_108 ?_
                  refine wa_ald0 dX7_salted_110 ?_
                  refine gX7_7 dX7_salted_111 rfl (by first | assumption | exact hL.1 _ (by decide)) ?_
                  refine wa_icmp_ge 146 dX7_salted_114 (by decide) (by omega) (by omega) (fun c114 => ?_) (fun c114 => ?_)
                  · exact tail V3 0 _ _ (Or.inr ⟨rfl, hno2⟩) hf3
                  · refine wa_ild6 dX7_salted_117 ?_
                    refine wa_if_eq 146 dX7_salted_119 (by decide) (by omega) (fun c119 => ?_) (fun c119 => absurd c119 (by decide))
                    exact tail V3 0 _ _ (Or.inr ⟨rfl, hno2⟩) hf3
                refine wa_ild7 dX7_salted_108 ?_
                refine wa_ald0 dX7_salted_110 ?_
                refine gX7_7 dX7_salted_111 rfl (by first | assumption | exact hL.1 _ (by decide)) ?_
                refine wa_icmp_ge 146 dX7_salted_114 (by decide) (by first | omega | decide | (simp only [Int.toNat_natCast]; omega)) (by first | omega | decide | (simp only [Int.toNat_natCast]; omega)) (fun c114 => ?_) (fun c114 => ?_)
                · exact absurd c114 (by omega)
                · refine wa_ild6 dX7_salted_117 ?_
                  refine wa_if_eq 146 dX7_salted_119 (by decide) (by first | omega | decide | (simp only [Int.toNat_natCast]; omega)) (fun c119 => absurd c119 (by decide)) (fun c119 => ?_)
                  refine wa_ald0 dX7_salted_122 ?_
                  refine gX7_44 dX7_salted_123 rfl (by first | assumption | exact hL.1 _ (by decide)) (by first | assumption | exact hL.2 _ _ (by decide)) ?_
                  refine wa_ild7 dX7_salted_126 ?_
                  refine wa_iaload dX7_salted_128 (by first | assumption | exact hL.1 _ (by decide)) (by first | omega | decide | (simp only [Int.toNat_natCast]; omega)) (by first | decide | omega) ?_
                  refine wa_ild1 dX7_salted_129 ?_
                  refine wa_icmp_gt 137 dX7_salted_130 (by decide) (by first | omega | decide | (simp only [Int.toNat_natCast]; omega)) (by first | omega | decide | (simp only [Int.toNat_natCast]; omega)) (fun c130 => ?_) (fun c130 => absurd c130 (by simp only [Int.toNat_natCast]; omega))
                  refine wa_iconst dX7_salted_137 ?_
                  refine wa_ist6 dX7_salted_138 (by decide) rfl ?_
                  refine wa_iinc7 dX7_salted_140 (by decide) rfl ?_
                  refine wa_goto 108 dX7_salted_143 (by decide) ?_
                  exact fin
          have loopK : ∀ (q i lf : Nat) (V3 : zE), i + q = s → lf ≤ 262144 → rfr V V3 → (∀ j, 0 ≤ V3 44 j ∧ V3 44 j ≤ 999) → (okQ c v (dgL c s a) d ↔ okQ c v (dgL c q lf) (V3 44)) → Wa zXn mX7_salted (zrm 3 0 0) (zZm (rQ S Rf V x) (n + 0) 0 0) 0 0 n S 47 [some (zR 37), some (zI v), some (zI ((c ^ s : Nat) : Int)), some (zI (s : Int)), some (zI (a : Int)), some (zI (lf : Int)), some (zI 1), some (zI (i : Int))] [] Rf V3 := by
            intro q
            induction q with
            | zero =>
              intro i lf V3 hi hlf hf3 hb hiff
              refine wa_ild7 dX7_salted_47 ?_
              refine wa_ild3 dX7_salted_49 ?_
              refine wa_icmp_ge 105 dX7_salted_50 (by decide) (by omega) (by omega) (fun c50 => ?_) (fun c50 => ?_)
              · refine wa_iconst dX7_salted_105 ?_
                refine wa_ist7 dX7_salted_106 (by decide) rfl ?_
                exact loopG c 0 V3 _ (by omega) hf3 hb hiff (fun j hj => absurd hj (by omega))
              · exact absurd c50 (by omega)
            | succ q ih =>
              intro i lf V3 hi hlf hf3 hb hiff
              have r03 := (hf3.2 0 (by decide)).trans r0
              have hm : (lf : Int) % (c : Int) = ((lf % c : Nat) : Int) := rfl
              have hdv : (lf : Int) / (c : Int) = ((lf / c : Nat) : Int) := rfl
              have hmc : lf % c < c := Nat.mod_lt _ (by omega)
              have hdl : lf / c ≤ lf := Nat.div_le_self _ _
              have hb' : ∀ j, 0 ≤ V3 44 j ∧ V3 44 j ≤ 100000 := fun j => by have := hb j; omega
              rw [dgL, okQ] at hiff
              generalize hmm : lf % c = m at hm hmc hiff
              have nxt : ∀ (V4 : zE) (w : Int), smP (spkS c (W 4) 3 (m : Int) w (vr V3)) V3 V4 → V4 44 = ssF c m (V3 44) ∧ rfr V V4 ∧ V4 37 0 = (c : Int) ∧ ∀ j, 0 ≤ V4 44 j ∧ V4 44 j ≤ 999 := by
                intro V4 w hp4
                have e44 : V4 44 = ssF c m (V3 44) := by
                  have h5 : (vr V4).1 = (spkS c (W 4) 3 (m : Int) w (vr V3)).1 := by rw [hp4.1]
                  rw [spkS, if_neg (by decide), if_neg (by decide), if_pos rfl] at h5
                  exact h5
                refine ⟨e44, hf3.trans hp4.r, (hp4.2.1 0 (by decide) (by decide)).trans r03, fun j => ?_⟩
                rw [e44]
                exact lwF_b (by decide) (lwF_b (by decide) (lwF_b (by decide) hb)) j
              by_cases hbare : spB c (V3 44) (m : Int)
              · have h00 : hinF c (V3 44) (W 4) (V3 46) 3 (m : Int) 0 = 0 := hin_sp.mpr hbare
                refine wa_ild7 dX7_salted_47 ?_
                refine wa_ild3 dX7_salted_49 ?_
                refine wa_icmp_ge 105 dX7_salted_50 (by decide) (by first | omega | decide | (simp only [r03]; omega)) (by first | omega | decide | (simp only [r03]; omega)) (fun c50 => ?_) (fun c50 => ?_)
                · exact absurd c50 (by omega)
                · refine wa_ild6 dX7_salted_53 ?_
                  refine wa_if_eq 105 dX7_salted_55 (by decide) (by first | omega | decide | (simp only [r03]; omega)) (fun c55 => absurd c55 (by decide)) (fun c55 => ?_)
                  refine wa_ald0 dX7_salted_58 ?_
                  refine wa_ild5 dX7_salted_59 ?_
                  refine wa_ald0 dX7_salted_61 ?_
                  refine gX7_7 dX7_salted_62 rfl (by first | assumption | exact hL.1 _ (by decide)) ?_
                  refine wa_irem dX7_salted_65 (by first | omega | decide | (simp only [r03]; omega)) (by first | omega | decide | (simp only [r03]; omega)) ?_
                  rw [r03, hm]
                  refine kX7_152 dX7_salted_66 rfl (by first | assumption | exact hL.1 _ (by decide)) (cm_isBare (rule := W 4) (said := V3 46) (w := 0) hL r03 h2 h8 (by omega) hb') (by decide) (Nat.le_of_ble_eq_true rfl) ⟨Nat.le_refl _, Nat.le_refl _⟩ (zdI ?_)
                  refine wa_ifne_B 76 dX7_salted_69 (by decide) (fun c69 => absurd c69 (fun q => q h00)) (fun c69 => ?_)
                  refine wa_iconst dX7_salted_72 ?_
                  refine wa_goto 77 dX7_salted_73 (by decide) ?_
                  refine wa_ist6 dX7_salted_77 (by decide) rfl ?_
                  refine wa_ald0 dX7_salted_79 ?_
                  refine wa_ild5 dX7_salted_80 ?_
                  refine wa_ald0 dX7_salted_82 ?_
                  refine gX7_7 dX7_salted_83 rfl (by first | assumption | exact hL.1 _ (by decide)) ?_
                  refine wa_irem dX7_salted_86 (by first | omega | decide | (simp only [r03]; omega)) (by first | omega | decide | (simp only [r03]; omega)) ?_
                  rw [r03, hm]
                  refine kX7_155 dX7_salted_87 rfl (by first | assumption | exact hL.1 _ (by decide)) (cm_salt (rule := W 4) (w := 0) hL r03 h8 (by omega) hb') (by decide) (Nat.le_of_ble_eq_true rfl) ⟨Nat.le_refl _, Nat.le_refl _⟩ (zpN fun V4 q4 => ?_)
                  obtain ⟨n1, n2, n3, n4⟩ := nxt V4 0 q4
                  refine wa_ild5 dX7_salted_90 ?_
                  refine wa_ald0 dX7_salted_92 ?_
                  refine gX7_7 dX7_salted_93 rfl (by first | assumption | exact hL.1 _ (by decide)) ?_
                  refine wa_idiv dX7_salted_96 (by first | omega | decide | (simp only [r03]; omega)) (by first | omega | decide | (simp only [r03]; omega)) ?_
                  rw [n3, hdv]
                  refine wa_ist5 dX7_salted_97 (by decide) rfl ?_
                  refine wa_iinc7 dX7_salted_99 (by decide) rfl ?_
                  refine wa_goto 47 dX7_salted_102 (by decide) ?_
                  exact ih (i + 1) (lf / c) V4 (by omega) (by omega) n2 n4 (by rw [n1]; exact hiff.trans ⟨fun q => q.2, fun q => ⟨hbare, q⟩⟩)
              · have h00 : ¬ hinF c (V3 44) (W 4) (V3 46) 3 (m : Int) 0 = 0 := fun h => hbare (hin_sp.mp h)
                have hno2 : ¬ okQ c v (dgL c s a) d := fun h => hbare (hiff.mp h).1
                have fin : ∀ (V4 : zE) (l4 : Int), rfr V V4 → Wa zXn mX7_salted (zrm 3 0 0) (zZm (rQ S Rf V x) (n + 0) 0 0) 0 0 n S 47 [some (zR 37), some (zI v), some (zI ((c ^ s : Nat) : Int)), some (zI (s : Int)), some (zI (a : Int)), some (zI l4), some (zI 0), some (zI ((i : Int) + 1))] [] Rf V4 := by
                  intro V4 l4 hf4
                  have r04 := (hf4.2 0 (by decide)).trans r0
                  have e9 : ∀ i : Int, Wa zXn mX7_salted (zrm 3 0 0) (zZm (rQ S Rf V x) (n + 0) 0 0) 0 0 n S 105 [some (zR 37), some (zI v), some (zI ((c ^ s : Nat) : Int)), some (zI (s : Int)), some (zI (a : Int)), some (zI l4), some (zI 0), some (zI i)] [] Rf V4 := by
                    intro i
                    refine wa_iconst dX7_salted_105 ?_
                    refine wa_ist7 dX7_salted_106 (by decide) rfl ?_
                    refine wa_ild7 dX7_salted_108 ?_
                    refine wa_ald0 dX7_salted_110 ?_
                    refine gX7_7 dX7_salted_111 rfl (by first | assumption | exact hL.1 _ (by decide)) ?_
                    refine wa_icmp_ge 146 dX7_salted_114 (by decide) (by omega) (by omega) (fun c114 => ?_) (fun c114 => ?_)
                    · exact tail V4 0 _ _ (Or.inr ⟨rfl, hno2⟩) hf4
                    · refine wa_ild6 dX7_salted_117 ?_
                      refine wa_if_eq 146 dX7_salted_119 (by decide) (by omega) (fun c119 => ?_) (fun c119 => absurd c119 (by decide))
                      exact tail V4 0 _ _ (Or.inr ⟨rfl, hno2⟩) hf4
                  refine wa_ild7 dX7_salted_47 ?_
                  refine wa_ild3 dX7_salted_49 ?_
                  refine wa_icmp_ge 105 dX7_salted_50 (by decide) (by omega) (by omega) (fun c50 => ?_) (fun c50 => ?_)
                  · exact e9 _
                  · refine wa_ild6 dX7_salted_53 ?_
                    refine wa_if_eq 105 dX7_salted_55 (by decide) (by omega) (fun c55 => ?_) (fun c55 => absurd c55 (by decide))
                    exact e9 _
                refine wa_ild7 dX7_salted_47 ?_
                refine wa_ild3 dX7_salted_49 ?_
                refine wa_icmp_ge 105 dX7_salted_50 (by decide) (by first | omega | decide | (simp only [r03]; omega)) (by first | omega | decide | (simp only [r03]; omega)) (fun c50 => ?_) (fun c50 => ?_)
                · exact absurd c50 (by omega)
                · refine wa_ild6 dX7_salted_53 ?_
                  refine wa_if_eq 105 dX7_salted_55 (by decide) (by first | omega | decide | (simp only [r03]; omega)) (fun c55 => absurd c55 (by decide)) (fun c55 => ?_)
                  refine wa_ald0 dX7_salted_58 ?_
                  refine wa_ild5 dX7_salted_59 ?_
                  refine wa_ald0 dX7_salted_61 ?_
                  refine gX7_7 dX7_salted_62 rfl (by first | assumption | exact hL.1 _ (by decide)) ?_
                  refine wa_irem dX7_salted_65 (by first | omega | decide | (simp only [r03]; omega)) (by first | omega | decide | (simp only [r03]; omega)) ?_
                  rw [r03, hm]
                  refine kX7_152 dX7_salted_66 rfl (by first | assumption | exact hL.1 _ (by decide)) (cm_isBare (rule := W 4) (said := V3 46) (w := 0) hL r03 h2 h8 (by omega) hb') (by decide) (Nat.le_of_ble_eq_true rfl) ⟨Nat.le_refl _, Nat.le_refl _⟩ (zdI ?_)
                  refine wa_ifne_B 76 dX7_salted_69 (by decide) (fun c69 => ?_) (fun c69 => absurd c69 (fun q => q h00))
                  refine wa_iconst dX7_salted_76 ?_
                  refine wa_ist6 dX7_salted_77 (by decide) rfl ?_
                  refine wa_ald0 dX7_salted_79 ?_
                  refine wa_ild5 dX7_salted_80 ?_
                  refine wa_ald0 dX7_salted_82 ?_
                  refine gX7_7 dX7_salted_83 rfl (by first | assumption | exact hL.1 _ (by decide)) ?_
                  refine wa_irem dX7_salted_86 (by first | omega | decide | (simp only [r03]; omega)) (by first | omega | decide | (simp only [r03]; omega)) ?_
                  rw [r03, hm]
                  refine kX7_155 dX7_salted_87 rfl (by first | assumption | exact hL.1 _ (by decide)) (cm_salt (rule := W 4) (w := 0) hL r03 h8 (by omega) hb') (by decide) (Nat.le_of_ble_eq_true rfl) ⟨Nat.le_refl _, Nat.le_refl _⟩ (zpN fun V4 q4 => ?_)
                  obtain ⟨n1, n2, n3, n4⟩ := nxt V4 0 q4
                  refine wa_ild5 dX7_salted_90 ?_
                  refine wa_ald0 dX7_salted_92 ?_
                  refine gX7_7 dX7_salted_93 rfl (by first | assumption | exact hL.1 _ (by decide)) ?_
                  refine wa_idiv dX7_salted_96 (by first | omega | decide | (simp only [r03]; omega)) (by first | omega | decide | (simp only [r03]; omega)) ?_
                  rw [n3, hdv]
                  refine wa_ist5 dX7_salted_97 (by decide) rfl ?_
                  refine wa_iinc7 dX7_salted_99 (by decide) rfl ?_
                  refine wa_goto 47 dX7_salted_102 (by decide) ?_
                  exact fin V4 _ n2
          refine wa_ild4 dX7_salted_27 ?_
          refine wa_ild2 dX7_salted_29 ?_
          refine wa_icmp_ge 159 dX7_salted_30 (by decide) (by omega) (by omega) (fun c30 => ?_) (fun c30 => ?_)
          · exact absurd c30 (by omega)
          · refine wa_ald0 dX7_salted_33 ?_
            refine kX7_168 dX7_salted_34 rfl (by first | assumption | exact hL.1 _ (by decide)) (cm_asNow hL) (by decide) (Nat.le_of_ble_eq_true rfl) ⟨Nat.le_refl _, Nat.le_refl _⟩ (zdN ?_)
            refine wa_ild4 dX7_salted_37 ?_
            refine wa_ist5 dX7_salted_39 (by decide) rfl ?_
            refine wa_iconst dX7_salted_41 ?_
            refine wa_ist6 dX7_salted_42 (by decide) rfl ?_
            refine wa_iconst dX7_salted_44 ?_
            refine wa_ist7 dX7_salted_45 (by decide) rfl ?_
            refine loopK s 0 a (asV V2) (by omega) (by omega) (hf2.trans as_r) (fun j => by rw [r44]; exact hd j) (by rw [r44])
      refine wa_ild3 dX7_salted_18 ?_
      refine wa_bipush dX7_salted_19 (by decide) ?_
      refine wa_icmp_ge 172 dX7_salted_21 (by decide) (by omega) (by omega) (fun c21 => ?_) (fun c21 => ?_)
      · exact absurd c21 (by omega)
      · refine wa_iconst dX7_salted_24 ?_
        refine wa_ist4 dX7_salted_25 (by decide) rfl ?_
        exact loopC (c ^ s) 0 V1 _ _ _ (by omega) hf1 (fun a' h => absurd h (by omega))
  have go0 := fun h => loopS 6 0 V none none none none (by decide) h rfr_rf (fun s' h => absurd h (by omega))
  rw [Nat.pow_zero] at go0
  refine wa_ild1 dX7_salted_0 ?_
  refine wa_iconst dX7_salted_1 ?_
  refine wa_sipush dX7_salted_2 (by decide) ?_
  refine kX7_91 dX7_salted_5 rfl (cm_in hv (by decide) (by decide)) (by decide) (Nat.le_of_ble_eq_true rfl) ⟨Nat.le_refl _, Nat.le_refl _⟩ (zdI ?_)
  refine wa_ifne_B 14 dX7_salted_8 (by decide) (fun c8 => ?_) (fun c8 => ?_)
  · refine wa_iconst dX7_salted_14 ?_
    refine wa_ist2 dX7_salted_15 (by decide) rfl ?_
    refine wa_iconst dX7_salted_16 ?_
    refine wa_ist3 dX7_salted_17 (by decide) rfl ?_
    exact go0 c8
  · refine wa_bipush dX7_salted_11 (by decide) ?_
    refine wa_ireturn dX7_salted_13 rfl rfl (Nat.le_refl _) ?_
    refine ⟨?_, rfl, rfl, rfr_rf⟩
    rcases hx with ⟨_, h1⟩ | ⟨h1, _⟩
    · rw [h1]
    · exfalso; omega
