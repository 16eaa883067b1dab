/-! the reference: layWho, who -/
abbrev rfW2 (c k m : Nat) (W : zE) (a : Nat) : zAc := rfA c k m (W 2) (W 4) (W 7) (W 8) a
def lyI (c k m : Nat) (W V : zE) (a : Nat) (V1 : zE) : Prop :=
  V1 37 31 = (rfW2 c k m W a).1 ∧ V1 37 32 = (rfW2 c k m W a).2.1 ∧ V1 37 33 = (rfW2 c k m W a).2.2.1 ∧ (∀ g ch, g < c → ch < 32 → (rfW2 c k m W a).2.2.2 (g * 32 + ch) = anF (fun j => V1 50 (8 * j + g)) (W 2 g + (ch : Int) - 1) (rfW2 c k m W a).1.toNat) ∧ (∀ g j, g < c → j < (rfW2 c k m W a).1.toNat → 0 ≤ V1 50 (8 * j + g) ∧ W 2 g - 1 ≤ V1 50 (8 * j + g) ∧ V1 50 (8 * j + g) ≤ W 2 g + 30) ∧ rfr V V1
theorem ly_same {c k m : Nat} {W V : zE} {a : Nat} {V1 V2 : zE} (h : lyI c k m W V a V1) (hu : ufr V1 V2) (hf : fitE c k (W 7) (W 8) (evL (W 4 0) (W 4 1) (W 2) (dgL (2 * c) m a)) = false) : lyI c k m W V (a + 1) V2 := by
  have e : rfW2 c k m W (a + 1) = rfW2 c k m W a := by
    show stpE c k (W 2) (W 7) (W 8) _ (rfW2 c k m W a) = _
    unfold stpE
    rw [if_neg (by rw [hf]; decide)]
  obtain ⟨h1, h2, h3, h4, h5, h6⟩ := h
  unfold lyI
  rw [e, hu.1 31 (by decide), hu.1 32 (by decide), hu.1 33 (by decide), hu.2 50 (by decide) (by decide)]
  exact ⟨h1, h2, h3, h4, h5, h6.trans hu.r⟩
theorem ly_more {c k m K : Nat} {W V : zE} {a : Nat} {V1 V2 V3 : zE} {ev : zEv} (h : lyI c k m W V a V1) (hu : ufr V1 V2) (hev : evL (W 4 0) (W 4 1) (W 2) (dgL (2 * c) m a) = ev) (hf : fitE c k (W 7) (W 8) ev = true) (hK : (rfW2 c k m W a).1 = (K : Int))
    (h31 : V3 37 31 = (K : Int) + 1) (h32 : V3 37 32 = zor (V2 37 32) ev.1) (h33 : V3 37 33 = zand (V2 37 33) ev.1) (h37 : ∀ j, j ≤ 14 → V3 37 j = V2 37 j) (h50 : ∀ j, j < 8 * K → V3 50 j = V2 50 j) (hmo : ∀ g, g < c → V3 50 (8 * K + g) = ngF c ev.2 g) (ho : ∀ q, q ≠ 37 → q ≠ 50 → V3 q = V2 q) (hb : ∀ g, 0 ≤ ngF c ev.2 g ∧ W 2 g - 1 ≤ ngF c ev.2 g ∧ ngF c ev.2 g ≤ W 2 g + 30) (hc8 : c ≤ 8) : lyI c k m W V (a + 1) V3 := by
  have e : rfW2 c k m W (a + 1) = ((rfW2 c k m W a).1 + 1, zor (rfW2 c k m W a).2.1 ev.1, zand (rfW2 c k m W a).2.2.1 ev.1, fun j => (rfW2 c k m W a).2.2.2 j + tnF (W 2) (ngF c ev.2) j c) := by
    show stpE c k (W 2) (W 7) (W 8) _ (rfW2 c k m W a) = _
    unfold stpE
    rw [hev, if_pos hf]
  obtain ⟨h1, h2, h3, h4, h5, h6⟩ := h
  rw [hK, Int.toNat_natCast] at h4 h5
  unfold lyI
  rw [e]
  dsimp only
  rw [hK, show ((K : Int) + 1).toNat = K + 1 by omega]
  refine ⟨h31, by rw [h32, hu.1 32 (by decide), h2], by rw [h33, hu.1 33 (by decide), h3], fun g ch hg hch => ?_, fun g j hg hj => ?_, ?_⟩
  · rw [h4 g ch hg hch, tn_at hch, anF, hmo g hg]
    congr 1
    · refine anF_c K (fun j hj => ?_)
      rw [h50 _ (by omega), hu.2 50 (by decide) (by decide)]
    · by_cases hq : ngF c ev.2 g = W 2 g + (ch : Int) - 1
      · rw [if_pos hq, if_pos (by omega)]
      · rw [if_neg hq, if_neg (by omega)]
  · by_cases hj2 : j = K
    · rw [hj2, hmo g hg]; exact hb g
    · rw [h50 _ (by omega), hu.2 50 (by decide) (by decide)]; exact h5 g j hg (by omega)
  · refine (h6.trans hu.r).trans ⟨fun q a b => ho q a (by omega), h37⟩
theorem cm_layWho {n c k len m : Nat} {S : zH} {Rf : zG} {W V : zE} {F : Int} (hL : Lay S Rf) (hI : CI c k len F W) (hR : RI c k len W V) (hm3 : m ≤ 3) : Cpv 2 mX7_layWho [zR 37, zI (m : Int)] n S Rf V (lyI c k m W V ((2 * c) ^ m)) := by
  have hR0 := hR
  obtain ⟨hc, h2, h8, hd, hf, hu, hu3, hs, hflk, hF, hfa, hk, hk8, hsg, hsd, hl, h60, hp, hsc⟩ := hI
  obtain ⟨r0, r38, r39, r40, r41, r3, r4, r7, r8, r9, r10, r11, r42, r13, r43⟩ := hR
  have hu0 := hu 0
  have hu1 := hu 1
  have big : ∀ j, j ≤ 3 → (2 * c) ^ j ≤ 4096 := fun j h => Nat.le_trans (Nat.pow_le_pow_left (show 2 * c ≤ 16 by omega) j) (Nat.le_trans (Nat.pow_le_pow_right (by decide) h) (by decide))
  have hN := big m hm3
  refine ct_of (by decide) rfl (Nat.le_of_ble_eq_true rfl) ?_
  have loopC : ∀ (r a : Nat) (V1 : zE) (o4 o5 o6 o7 : Option zV), a + r = (2 * c) ^ m → lyI c k m W V a V1 → Wa zXn mX7_layWho (zrm 2 0 0) (zZm (qPN S Rf (lyI c k m W V ((2 * c) ^ m))) (n + 0) 0 0) 0 0 n S 43 [some (zR 37), some (zI (m : Int)), some (zI (((2 * c) ^ m : Nat) : Int)), some (zI (a : Int)), o4, o5, o6, o7] [] Rf V1 := by
    intro r
    induction r with
    | zero =>
      intro a V1 o4 o5 o6 o7 ha hly
      obtain rfl : a = (2 * c) ^ m := by omega
      refine wa_ild3 dX7_layWho_43 ?_
      refine wa_ild2 dX7_layWho_44 ?_
      refine wa_icmp_ge 225 dX7_layWho_45 (by decide) (by omega) (by omega) (fun c45 => ?_) (fun c45 => ?_)
      · exact wa_return dX7_layWho_225 rfl rfl (Nat.le_refl _) (by exact ⟨rfl, rfl, rfl, hly⟩)
      · exact absurd c45 (by omega)
    | succ r ih =>
      intro a V1 o4 o5 o6 o7 ha hly
      have hf1 := hly.2.2.2.2.2
      have hRa := hR0.go hf1
      obtain ⟨a1, a2⟩ := as_vr hRa
      have v44 : asV V1 44 = W 2 := congrArg (fun z : zSt => z.1) a1
      have hAb : 0 ≤ (rfW2 c k m W a).1 ∧ (rfW2 c k m W a).1 ≤ (a : Int) := rfA_b (c := c) (k := k) (m := m) (d := W 2) (rule := W 4) (sg := W 7) (sd := W 8) a
      obtain ⟨K, hK⟩ : ∃ K : Nat, (rfW2 c k m W a).1 = (K : Int) := ⟨(rfW2 c k m W a).1.toNat, by omega⟩
      have hKa : K ≤ a := by have := hAb.2; rw [hK] at this; omega
      generalize hev : evL (W 4 0) (W 4 1) (W 2) (dgL (2 * c) m a) = ev
      have hdb := day_b (t := W 4 0) (l := W 4 1) hu0 hu1 (dgL (2 * c) m a) (W 2)
      have hdl := (dg_ok (c := 2 * c) (by omega) m a).1
      have hday : ∀ j, W 2 j ≤ ev.2 j ∧ ev.2 j ≤ W 2 j + 27 := fun j => by
        have h9 := hdb j
        rw [hdl] at h9
        rw [← hev]
        exact ⟨h9.1, Int.le_trans h9.2 (by omega)⟩
      have hngb := ngF_b (c := c) (d := ev.2) (B := 2000) (fun j => by have := hday j; have := hd j; omega)
      have hmo : ∀ g, 0 ≤ ngF c ev.2 g ∧ W 2 g - 1 ≤ ngF c ev.2 g ∧ ngF c ev.2 g ≤ W 2 g + 30 := fun g => by
        have h1 := ng_pm (c := c) (d := ev.2) (g := g)
        have h2 := hday g
        have h3 := hngb g
        omega
      have nxt : ∀ (V5 : zE) (o4 o5 o6 o7 : Option zV), lyI c k m W V (a + 1) V5 → Wa zXn mX7_layWho (zrm 2 0 0) (zZm (qPN S Rf (lyI c k m W V ((2 * c) ^ m))) (n + 0) 0 0) 0 0 n S 219 [some (zR 37), some (zI (m : Int)), some (zI (((2 * c) ^ m : Nat) : Int)), some (zI (a : Int)), o4, o5, o6, o7] [] Rf V5 := by
        intro V5 o4 o5 o6 o7 h5
        have e1 := ih (a + 1) V5 o4 o5 o6 o7 (by omega) h5
        refine wa_iinc3 dX7_layWho_219 (by decide) rfl ?_
        refine wa_goto 43 dX7_layWho_222 (by decide) ?_
        exact e1
      /- a row that fits is laid down -/
      have store : ∀ (q i : Nat) (V3 : zE) (f : Nat → Int) (l4 : Int) (o7 : Option zV), i + q = c → ufr V1 V3 → V3 44 = ngF c ev.2 → fitE c k (W 7) (W 8) ev = true → (∀ j, j < 8 * K → f j = V3 50 j) → (∀ p, p < i → f (8 * K + p) = ngF c ev.2 p) → Wa zXn mX7_layWho (zrm 2 0 0) (zZm (qPN S Rf (lyI c k m W V ((2 * c) ^ m))) (n + 0) 0 0) 0 0 n S 150 [some (zR 37), some (zI (m : Int)), some (zI (((2 * c) ^ m : Nat) : Int)), some (zI (a : Int)), some (zI l4), some (zI ev.1), some (zI (i : Int)), o7] [] Rf (zp V3 50 f) := by
        intro q
        induction q with
        | zero =>
          intro i V3 f l4 o7 hi hu3 h44 hfit hfo hfn
          obtain rfl : c = i := by omega
          have r03 := ((hu3.1 0 (by decide)).trans (hf1.2 0 (by decide))).trans r0
          have k31 := ((hu3.1 31 (by decide)).trans hly.1).trans hK
          refine wa_ild6 dX7_layWho_150 ?_
          refine wa_ald0 dX7_layWho_152 ?_
          refine gX7_7 dX7_layWho_153 rfl (by first | assumption | exact hL.1 _ (by decide)) ?_
          refine wa_icmp_ge 187 dX7_layWho_156 (by decide) (by first | omega | (simp (decide := true) only [zp_n, ne_eq]; omega)) (by first | omega | (simp (decide := true) only [zp_n, ne_eq]; omega)) (fun c156 => ?_) (fun c156 => ?_)
          · refine wa_ald0 dX7_layWho_187 ?_
            refine wa_dup dX7_layWho_188 rfl ?_
            refine gX7_195 dX7_layWho_189 rfl (by first | assumption | exact hL.1 _ (by decide)) ?_
            refine wa_iconst dX7_layWho_192 ?_
            refine wa_iadd dX7_layWho_193 ?_
            refine pX7_195 dX7_layWho_194 rfl (by first | assumption | exact hL.1 _ (by decide)) ?_
            refine wa_ald0 dX7_layWho_197 ?_
            refine wa_dup dX7_layWho_198 rfl ?_
            refine gX7_198 dX7_layWho_199 rfl (by first | assumption | exact hL.1 _ (by decide)) ?_
            refine wa_ild5 dX7_layWho_202 ?_
            refine wa_ior dX7_layWho_204 ?_
            refine pX7_198 dX7_layWho_205 rfl (by first | assumption | exact hL.1 _ (by decide)) ?_
            refine wa_ald0 dX7_layWho_208 ?_
            refine wa_dup dX7_layWho_209 rfl ?_
            refine gX7_201 dX7_layWho_210 rfl (by first | assumption | exact hL.1 _ (by decide)) ?_
            refine wa_ild5 dX7_layWho_213 ?_
            refine wa_iand dX7_layWho_215 ?_
            refine pX7_201 dX7_layWho_216 rfl (by first | assumption | exact hL.1 _ (by decide)) ?_
            refine nxt _ _ _ _ _ (ly_more (K := K) hly hu3 hev hfit hK ?_ ?_ ?_ (fun j hj => ?_) (fun j hj => ?_) (fun g hg => ?_) (fun q a b => ?_) hmo h8)
            · simp (decide := true) only [zp_s, zp_n, za_s, za_n, ne_eq, k31]
            · simp (decide := true) only [zp_s, zp_n, za_s, za_n, ne_eq]
            · simp (decide := true) only [zp_s, zp_n, za_s, za_n, ne_eq]
            · simp (decide := true) only [zp_s, zp_n, ne_eq]; rw [za_n _ _ (by omega), za_n _ _ (by omega), za_n _ _ (by omega)]
            · simp (decide := true) only [zp_s, zp_n, ne_eq]; exact hfo j hj
            · simp (decide := true) only [zp_s, zp_n, ne_eq]; exact hfn g hg
            · simp only [zp_n _ _ a, zp_n _ _ b]
          · simp (decide := true) only [zp_n, ne_eq] at c156; omega
        | succ q ihq =>
          intro i V3 f l4 o7 hi hu3 h44 hfit hfo hfn
          have r03 := ((hu3.1 0 (by decide)).trans (hf1.2 0 (by decide))).trans r0
          have k31 := ((hu3.1 31 (by decide)).trans hly.1).trans hK
          have tk : (8 * (K : Int) + (i : Int)).toNat = 8 * K + i := by omega
          have e1 := ihq (i + 1) V3 (za f (8 * K + i) (ngF c ev.2 i)) l4 o7 (by omega) hu3 h44 hfit (fun j hj => by rw [za_n _ _ (by omega)]; exact hfo j hj) (fun p hp => by
            by_cases h : p = i
            · rw [h, za_s]
            · rw [za_n _ _ (by omega)]; exact hfn p (by omega))
          refine wa_ild6 dX7_layWho_150 ?_
          refine wa_ald0 dX7_layWho_152 ?_
          refine gX7_7 dX7_layWho_153 rfl (by first | assumption | exact hL.1 _ (by decide)) ?_
          refine wa_icmp_ge 187 dX7_layWho_156 (by decide) (by first | omega | (simp (decide := true) only [zp_n, ne_eq, k31]; omega)) (by first | omega | (simp (decide := true) only [zp_n, ne_eq, k31]; omega)) (fun c156 => ?_) (fun c156 => ?_)
          · simp (decide := true) only [zp_n, ne_eq] at c156; omega
          · refine wa_ald0 dX7_layWho_159 ?_
            refine gX7_63 dX7_layWho_160 rfl (by first | assumption | exact hL.1 _ (by decide)) (by first | assumption | exact hL.2 _ _ (by decide)) ?_
            refine wa_bipush dX7_layWho_163 (by decide) ?_
            refine wa_ald0 dX7_layWho_165 ?_
            refine gX7_195 dX7_layWho_166 rfl (by first | assumption | exact hL.1 _ (by decide)) ?_
            refine wa_imul dX7_layWho_169 ?_
            refine wa_ild6 dX7_layWho_170 ?_
            refine wa_iadd dX7_layWho_172 ?_
            refine wa_ald0 dX7_layWho_173 ?_
            refine gX7_44 dX7_layWho_174 rfl (by first | assumption | exact hL.1 _ (by decide)) (by first | assumption | exact hL.2 _ _ (by decide)) ?_
            refine wa_ild6 dX7_layWho_177 ?_
            refine wa_iaload dX7_layWho_179 (by first | assumption | exact hL.1 _ (by decide)) (by first | omega | (simp (decide := true) only [zp_n, ne_eq, k31]; omega)) (by first | decide | omega) ?_
            refine wa_iastore dX7_layWho_180 (by first | assumption | exact hL.1 _ (by decide)) (by first | omega | (simp (decide := true) only [zp_n, ne_eq, k31]; omega)) (by first | decide | omega) ?_
            refine wa_iinc6 dX7_layWho_181 (by decide) rfl ?_
            refine wa_goto 150 dX7_layWho_184 (by decide) ?_
            simp (decide := true) only [zp_zp, zp_s, zp_n, ne_eq, k31, tk, Int.toNat_natCast, h44]
            exact e1
      /- behind the words -/
      have rest : ∀ (V2 : zE) (l4 : Int) (o6 o7 : Option zV), ufr V1 V2 → V2 44 = ev.2 → Wa zXn mX7_layWho (zrm 2 0 0) (zZm (qPN S Rf (lyI c k m W V ((2 * c) ^ m))) (n + 0) 0 0) 0 0 n S 136 [some (zR 37), some (zI (m : Int)), some (zI (((2 * c) ^ m : Nat) : Int)), some (zI (a : Int)), some (zI l4), some (zI ev.1), o6, o7] [] Rf V2 := by
        intro V2 l4 o6 o7 hu2 h44
        have hf2 := hf1.trans hu2.r
        have r02 := (hf2.2 0 (by decide)).trans r0
        refine wa_ald0 dX7_layWho_136 ?_
        refine kX7_146 dX7_layWho_137 rfl (by first | assumption | exact hL.1 _ (by decide)) (cm_night hL r02 h2 h8 (fun j => by rw [h44]; have := hday j; have := hd j; omega)) (by decide) (Nat.le_of_ble_eq_true rfl) ⟨Nat.le_refl _, Nat.le_refl _⟩ (zpN fun V3 p3 => ?_)
        have hu3 := hu2.sm p3
        have hf3 := hf1.trans hu3.r
        have g44 : V3 44 = ngF c ev.2 := by rw [← h44]; exact congrArg (fun z : zSt => z.1) p3.1
        have r113 := (hf3.2 11 (by decide)).trans r11
        have r423 := hf3.1 42 (by decide) (by decide)
        refine wa_ald0 dX7_layWho_140 ?_
        refine kX7_204 dX7_layWho_141 rfl (by first | assumption | exact hL.1 _ (by decide)) (cm_holdsNow (k := k) (sg := W 7) (sd := W 8) hL r113 hk8 (fun i hi => by rw [r423]; exact r42 i hi) hsg hsd (fun j => by rw [g44]; have := hngb j; omega)) (by decide) (Nat.le_of_ble_eq_true rfl) ⟨Nat.le_refl _, Nat.le_refl _⟩ (zdI ?_)
        rw [g44]
        refine wa_ifeq_B 219 dX7_layWho_144 (by decide) (fun c144 => ?_) (fun c144 => ?_)
        · refine nxt _ _ _ _ _ (ly_same hly hu3 ?_)
          rw [hev]
          exact Bool.eq_false_iff.mpr c144
        · refine wa_iconst dX7_layWho_147 ?_
          refine wa_ist6 dX7_layWho_148 (by decide) rfl ?_
          refine wa_eqV (zp_self _ 50).symm (store c 0 V3 _ _ _ (by omega) hu3 g44 c144 (fun _ _ => rfl) (fun p hp => absurd hp (by omega)))
      have words : ∀ (q i lf : Nat) (s : Int) (V2 : zE) (o7 : Option zV), i + q = m → lf ≤ 4096 → ufr V1 V2 → (∀ j, 0 ≤ V2 44 j ∧ V2 44 j ≤ 999 + 9 * (i : Int)) → ev = ((dgL (2 * c) q lf).foldl (fun s p => zor s (2 ^ (p / 2))) s, (dgL (2 * c) q lf).foldl (fun d p => adF (W 4 0) (W 4 1) p d) (V2 44)) → Wa zXn mX7_layWho (zrm 2 0 0) (zZm (qPN S Rf (lyI c k m W V ((2 * c) ^ m))) (n + 0) 0 0) 0 0 n S 61 [some (zR 37), some (zI (m : Int)), some (zI (((2 * c) ^ m : Nat) : Int)), some (zI (a : Int)), some (zI (lf : Int)), some (zI s), some (zI (i : Int)), o7] [] Rf V2 := by
        intro q
        induction q with
        | zero =>
          intro i lf s V2 o7 hi hlf hu2 hb hE
          rw [dgL, List.foldl_nil, List.foldl_nil] at hE
          have e1 := rest V2 lf (some (zI (i : Int))) o7 hu2 (by rw [hE])
          rw [hE] at e1
          refine wa_ild6 dX7_layWho_61 ?_
          refine wa_ild1 dX7_layWho_63 ?_
          refine wa_icmp_ge 136 dX7_layWho_64 (by decide) (by omega) (by omega) (fun c64 => ?_) (fun c64 => ?_)
          · exact e1
          · exact absurd c64 (by omega)
        | succ q ihq =>
          intro i lf s V2 o7 hi hlf hu2 hb hE
          have hf2 := hf1.trans hu2.r
          have r02 := (hf2.2 0 (by decide)).trans r0
          have r72 := (hf2.2 7 (by decide)).trans r7
          have r82 := (hf2.2 8 (by decide)).trans r8
          rw [dgL, List.foldl_cons, List.foldl_cons] at hE
          have hmd : (lf : Int) % (2 * (c : Int)) = ((lf % (2 * c) : Nat) : Int) := rfl
          have hdv : (lf : Int) / (2 * (c : Int)) = ((lf / (2 * c) : Nat) : Int) := rfl
          have hml : lf % (2 * c) < 2 * c := Nat.mod_lt _ (by omega)
          have hdl2 : lf / (2 * c) ≤ lf := Nat.div_le_self _ _
          generalize hw : lf % (2 * c) = w at hE hmd hml
          have tw : ((w : Int) / 2).toNat = w / 2 := by omega
          have hbw := hb (w / 2)
          have go : ∀ more : Int, more = (if w % 2 = 0 then W 4 0 else W 4 1) → Wa zXn mX7_layWho (zrm 2 0 0) (zZm (qPN S Rf (lyI c k m W V ((2 * c) ^ m))) (n + 0) 0 0) 0 0 n S 61 [some (zR 37), some (zI (m : Int)), some (zI (((2 * c) ^ m : Nat) : Int)), some (zI (a : Int)), some (zI ((lf / (2 * c) : Nat) : Int)), some (zI (zor s (2 ^ (w / 2)))), some (zI ((i : Int) + 1)), some (zI (w : Int))] [] Rf (zp V2 44 (za (V2 44) (w / 2) (V2 44 (w / 2) + more))) := by
            intro more hmore
            have hmb : 0 ≤ more ∧ more ≤ 9 := by rw [hmore]; split <;> omega
            refine ihq (i + 1) (lf / (2 * c)) (zor s (2 ^ (w / 2))) _ _ (by omega) (by omega) ⟨fun j hj => by rw [zp_n _ _ (by decide)]; exact hu2.1 j hj, fun q a b => by rw [zp_n _ _ (by omega)]; exact hu2.2 q a b⟩ (fun j => ?_) ?_
            · rw [zp_s]
              have := hb j
              by_cases hj : j = w / 2
              · rw [hj, za_s]; omega
              · rw [za_n _ _ hj]; omega
            · rw [zp_s, hE, hmore]; rfl
          refine wa_ild6 dX7_layWho_61 ?_
          refine wa_ild1 dX7_layWho_63 ?_
          refine wa_icmp_ge 136 dX7_layWho_64 (by decide) (by first | omega | (simp only [r02]; omega) | (simp only [tw]; omega) | (rw [show ((w : Int) % 2) = ((w % 2 : Nat) : Int) from rfl]; omega)) (by first | omega | (simp only [r02]; omega) | (simp only [tw]; omega) | (rw [show ((w : Int) % 2) = ((w % 2 : Nat) : Int) from rfl]; omega)) (fun c64 => ?_) (fun c64 => ?_)
          · exact absurd c64 (by omega)
          · refine wa_ild4 dX7_layWho_67 ?_
            refine wa_iconst dX7_layWho_69 ?_
            refine wa_ald0 dX7_layWho_70 ?_
            refine gX7_7 dX7_layWho_71 rfl (by first | assumption | exact hL.1 _ (by decide)) ?_
            refine wa_imul dX7_layWho_74 ?_
            refine wa_irem dX7_layWho_75 (by first | omega | (simp only [r02]; omega) | (simp only [tw]; omega) | (rw [show ((w : Int) % 2) = ((w % 2 : Nat) : Int) from rfl]; omega)) (by first | omega | (simp only [r02]; omega) | (simp only [tw]; omega) | (rw [show ((w : Int) % 2) = ((w % 2 : Nat) : Int) from rfl]; omega)) ?_
            rw [r02, hmd]
            refine wa_ist7 dX7_layWho_76 (by decide) rfl ?_
            refine wa_ild4 dX7_layWho_78 ?_
            refine wa_iconst dX7_layWho_80 ?_
            refine wa_ald0 dX7_layWho_81 ?_
            refine gX7_7 dX7_layWho_82 rfl (by first | assumption | exact hL.1 _ (by decide)) ?_
            refine wa_imul dX7_layWho_85 ?_
            refine wa_idiv dX7_layWho_86 (by first | omega | (simp only [r02]; omega) | (simp only [tw]; omega) | (rw [show ((w : Int) % 2) = ((w % 2 : Nat) : Int) from rfl]; omega)) (by first | omega | (simp only [r02]; omega) | (simp only [tw]; omega) | (rw [show ((w : Int) % 2) = ((w % 2 : Nat) : Int) from rfl]; omega)) ?_
            rw [r02, hdv]
            refine wa_ist4 dX7_layWho_87 (by decide) rfl ?_
            refine wa_ald0 dX7_layWho_89 ?_
            refine gX7_44 dX7_layWho_90 rfl (by first | assumption | exact hL.1 _ (by decide)) (by first | assumption | exact hL.2 _ _ (by decide)) ?_
            refine wa_ild7 dX7_layWho_93 ?_
            refine wa_iconst dX7_layWho_95 ?_
            refine wa_idiv dX7_layWho_96 (by first | omega | (simp only [r02]; omega) | (simp only [tw]; omega) | (rw [show ((w : Int) % 2) = ((w % 2 : Nat) : Int) from rfl]; omega)) (by first | omega | (simp only [r02]; omega) | (simp only [tw]; omega) | (rw [show ((w : Int) % 2) = ((w % 2 : Nat) : Int) from rfl]; omega)) ?_
            refine wa_dup2 dX7_layWho_97 rfl rfl ?_
            refine wa_iaload dX7_layWho_98 (by first | assumption | exact hL.1 _ (by decide)) (by first | omega | (simp only [r02]; omega) | (simp only [tw]; omega) | (rw [show ((w : Int) % 2) = ((w % 2 : Nat) : Int) from rfl]; omega)) (by first | decide | omega) ?_
            refine wa_ild7 dX7_layWho_99 ?_
            refine wa_iconst dX7_layWho_101 ?_
            refine wa_irem dX7_layWho_102 (by first | omega | (simp only [r02]; omega) | (simp only [tw]; omega) | (rw [show ((w : Int) % 2) = ((w % 2 : Nat) : Int) from rfl]; omega)) (by first | omega | (simp only [r02]; omega) | (simp only [tw]; omega) | (rw [show ((w : Int) % 2) = ((w % 2 : Nat) : Int) from rfl]; omega)) ?_
            refine wa_if_ne 113 dX7_layWho_103 (by decide) (by first | omega | (simp only [r02]; omega) | (simp only [tw]; omega) | (rw [show ((w : Int) % 2) = ((w % 2 : Nat) : Int) from rfl]; omega)) (fun c103 => ?_) (fun c103 => ?_)
            · refine wa_ald0 dX7_layWho_113 ?_
              refine gX7_29 dX7_layWho_114 rfl (by first | assumption | exact hL.1 _ (by decide)) ?_
              refine wa_iadd dX7_layWho_117 ?_
              refine wa_iastore dX7_layWho_118 (by first | assumption | exact hL.1 _ (by decide)) (by first | omega | (simp only [r02]; omega) | (simp only [tw]; omega) | (rw [show ((w : Int) % 2) = ((w % 2 : Nat) : Int) from rfl]; omega)) (by first | decide | omega) ?_
              refine wa_ild5 dX7_layWho_119 ?_
              refine wa_iconst dX7_layWho_121 ?_
              refine wa_ild7 dX7_layWho_122 ?_
              refine wa_iconst dX7_layWho_124 ?_
              refine wa_idiv dX7_layWho_125 (by first | omega | (simp only [r02]; omega) | (simp only [tw]; omega) | (rw [show ((w : Int) % 2) = ((w % 2 : Nat) : Int) from rfl]; omega)) (by first | omega | (simp only [r02]; omega) | (simp only [tw]; omega) | (rw [show ((w : Int) % 2) = ((w % 2 : Nat) : Int) from rfl]; omega)) ?_
              refine wa_ishl1 dX7_layWho_126 (by first | omega | (simp only [r02]; omega) | (simp only [tw]; omega) | (rw [show ((w : Int) % 2) = ((w % 2 : Nat) : Int) from rfl]; omega)) ?_
              refine wa_ior dX7_layWho_127 ?_
              refine wa_ist5 dX7_layWho_128 (by decide) rfl ?_
              refine wa_iinc6 dX7_layWho_130 (by decide) rfl ?_
              refine wa_goto 61 dX7_layWho_133 (by decide) ?_
              simp only [tw, r72, r82]
              first
                | exact go _ (by rw [if_pos (by omega)])
                | exact go _ (by rw [if_neg (by omega)])
            · refine wa_ald0 dX7_layWho_106 ?_
              refine gX7_26 dX7_layWho_107 rfl (by first | assumption | exact hL.1 _ (by decide)) ?_
              refine wa_goto 117 dX7_layWho_110 (by decide) ?_
              refine wa_iadd dX7_layWho_117 ?_
              refine wa_iastore dX7_layWho_118 (by first | assumption | exact hL.1 _ (by decide)) (by first | omega | (simp only [r02]; omega) | (simp only [tw]; omega) | (rw [show ((w : Int) % 2) = ((w % 2 : Nat) : Int) from rfl]; omega)) (by first | decide | omega) ?_
              refine wa_ild5 dX7_layWho_119 ?_
              refine wa_iconst dX7_layWho_121 ?_
              refine wa_ild7 dX7_layWho_122 ?_
              refine wa_iconst dX7_layWho_124 ?_
              refine wa_idiv dX7_layWho_125 (by first | omega | (simp only [r02]; omega) | (simp only [tw]; omega) | (rw [show ((w : Int) % 2) = ((w % 2 : Nat) : Int) from rfl]; omega)) (by first | omega | (simp only [r02]; omega) | (simp only [tw]; omega) | (rw [show ((w : Int) % 2) = ((w % 2 : Nat) : Int) from rfl]; omega)) ?_
              refine wa_ishl1 dX7_layWho_126 (by first | omega | (simp only [r02]; omega) | (simp only [tw]; omega) | (rw [show ((w : Int) % 2) = ((w % 2 : Nat) : Int) from rfl]; omega)) ?_
              refine wa_ior dX7_layWho_127 ?_
              refine wa_ist5 dX7_layWho_128 (by decide) rfl ?_
              refine wa_iinc6 dX7_layWho_130 (by decide) rfl ?_
              refine wa_goto 61 dX7_layWho_133 (by decide) ?_
              simp only [tw, r72, r82]
              first
                | exact go _ (by rw [if_pos (by omega)])
                | exact go _ (by rw [if_neg (by omega)])
      refine wa_ild3 dX7_layWho_43 ?_
      refine wa_ild2 dX7_layWho_44 ?_
      refine wa_icmp_ge 225 dX7_layWho_45 (by decide) (by omega) (by omega) (fun c45 => ?_) (fun c45 => ?_)
      · exact absurd c45 (by omega)
      · refine wa_ald0 dX7_layWho_48 ?_
        refine kX7_168 dX7_layWho_49 rfl (by first | assumption | exact hL.1 _ (by decide)) (cm_asNow hL) (by decide) (Nat.le_of_ble_eq_true rfl) ⟨Nat.le_refl _, Nat.le_refl _⟩ (zdN ?_)
        refine wa_ild3 dX7_layWho_52 ?_
        refine wa_ist4 dX7_layWho_53 (by decide) rfl ?_
        refine wa_iconst dX7_layWho_55 ?_
        refine wa_ist5 dX7_layWho_56 (by decide) rfl ?_
        refine wa_iconst dX7_layWho_58 ?_
        refine wa_ist6 dX7_layWho_59 (by decide) rfl ?_
        refine words m 0 a 0 (asV V1) _ (by omega) (by omega) as_u (fun j => by rw [v44]; have := hd j; omega) ?_
        rw [v44]; exact hev.symm
  have loopN : ∀ (q j : Nat) (V0 : zE), j + q = m → lyI c k m W V 0 V0 → Wa zXn mX7_layWho (zrm 2 0 0) (zZm (qPN S Rf (lyI c k m W V ((2 * c) ^ m))) (n + 0) 0 0) 0 0 n S 21 [some (zR 37), some (zI (m : Int)), some (zI (((2 * c) ^ j : Nat) : Int)), some (zI (j : Int)), none, none, none, none] [] Rf V0 := by
    intro q
    induction q with
    | zero =>
      intro j V0 hj h0
      obtain rfl : m = j := by omega
      refine wa_ild3 dX7_layWho_21 ?_
      refine wa_ild1 dX7_layWho_22 ?_
      refine wa_icmp_ge 41 dX7_layWho_23 (by decide) (by omega) (by omega) (fun c23 => ?_) (fun c23 => ?_)
      · refine wa_iconst dX7_layWho_41 ?_
        refine wa_ist3 dX7_layWho_42 (by decide) rfl ?_
        exact loopC ((2 * c) ^ m) 0 V0 _ _ _ _ (by omega) h0
      · exact absurd c23 (by omega)
    | succ q ihq =>
      intro j V0 hj h0
      have r00 := (h0.2.2.2.2.2.2 0 (by decide)).trans r0
      have hbj := big j (by omega)
      have e1 := ihq (j + 1) V0 (by omega) h0
      rw [Nat.pow_succ] at e1
      refine wa_ild3 dX7_layWho_21 ?_
      refine wa_ild1 dX7_layWho_22 ?_
      refine wa_icmp_ge 41 dX7_layWho_23 (by decide) (by omega) (by omega) (fun c23 => ?_) (fun c23 => ?_)
      · exact absurd c23 (by omega)
      · refine wa_ild2 dX7_layWho_26 ?_
        refine wa_iconst dX7_layWho_27 ?_
        refine wa_ald0 dX7_layWho_28 ?_
        refine gX7_7 dX7_layWho_29 rfl (by first | assumption | exact hL.1 _ (by decide)) ?_
        refine wa_imul dX7_layWho_32 ?_
        refine wa_imul dX7_layWho_33 ?_
        refine wa_ist2 dX7_layWho_34 (by decide) rfl ?_
        refine wa_iinc3 dX7_layWho_35 (by decide) rfl ?_
        refine wa_goto 21 dX7_layWho_38 (by decide) ?_
        rw [r00]
        exact e1
  refine wa_ald0 dX7_layWho_0 ?_
  refine wa_iconst dX7_layWho_1 ?_
  refine pX7_195 dX7_layWho_2 rfl (by first | assumption | exact hL.1 _ (by decide)) ?_
  refine wa_ald0 dX7_layWho_5 ?_
  refine wa_iconst dX7_layWho_6 ?_
  refine pX7_198 dX7_layWho_7 rfl (by first | assumption | exact hL.1 _ (by decide)) ?_
  refine wa_ald0 dX7_layWho_10 ?_
  refine wa_sipush dX7_layWho_11 (by decide) ?_
  refine pX7_201 dX7_layWho_14 rfl (by first | assumption | exact hL.1 _ (by decide)) ?_
  refine wa_iconst dX7_layWho_17 ?_
  refine wa_ist2 dX7_layWho_18 (by decide) rfl ?_
  refine wa_iconst dX7_layWho_19 ?_
  refine wa_ist3 dX7_layWho_20 (by decide) rfl ?_
  refine loopN m 0 _ (by omega) ⟨?_, ?_, ?_, fun g ch _ _ => rfl, fun g j _ hj => absurd hj (Nat.not_lt_zero _), fun q a b => ?_, fun j hj => ?_⟩
  · simp (decide := true) only [zp_s, za_s, za_n, ne_eq]; rfl
  · simp (decide := true) only [zp_s, za_s, za_n, ne_eq]; rfl
  · simp (decide := true) only [zp_s, za_s, za_n, ne_eq]; rfl
  · simp only [zp_n _ _ a]
  · simp (decide := true) only [zp_s]; rw [za_n _ _ (by omega), za_n _ _ (by omega), za_n _ _ (by omega)]
theorem cm_who {n c k len : Nat} {S : zH} {Rf : zG} {W V : zE} {F m w : Int} (hL : Lay S Rf) (hI : CI c k len F W) (hR : RI c k len W V) (hm : -2147483648 ≤ m ∧ m ≤ 2147483647) (hw : -2147483648 ≤ w ∧ w ≤ 2147483647) : Ct 3 0 0 mX7_who [zR 37, zI m, zI w] n S Rf V (rQ S Rf V (whX c k m w W)) := by
  have h2 := hI.2.1
  have h8 := hI.2.2.1
  refine ct_of (by decide) rfl (Nat.le_of_ble_eq_true rfl) ?_
  unfold whX
  by_cases hm0 : 0 ≤ m
  · obtain ⟨M, rfl⟩ : ∃ M : Nat, m = M := ⟨m.toNat, by omega⟩
    rw [Int.toNat_natCast]
    refine wa_ild1 dX7_who_0 ?_
    refine wa_iconst dX7_who_1 ?_
    refine wa_iconst dX7_who_2 ?_
    refine kX7_91 dX7_who_3 rfl (cm_in hm (by decide) (by decide)) (by decide) (Nat.le_of_ble_eq_true rfl) ⟨Nat.le_refl _, Nat.le_refl _⟩ (zdI ?_)
    refine wa_ifeq_B 18 dX7_who_6 (by decide) (fun c6 => ?_) (fun c6 => ?_)
    · refine wa_bipush dX7_who_18 (by decide) ?_
      exact wa_ireturn dX7_who_20 rfl rfl (Nat.le_refl _) (by exact ⟨by rw [if_pos (by omega)], rfl, rfl, rfr_rf⟩)
    · refine wa_ild2 dX7_who_9 ?_
      refine wa_iconst dX7_who_10 ?_
      refine wa_iconst dX7_who_11 ?_
      refine kX7_91 dX7_who_12 rfl (cm_in hw (by decide) (by decide)) (by decide) (Nat.le_of_ble_eq_true rfl) ⟨Nat.le_refl _, Nat.le_refl _⟩ (zdI ?_)
      refine wa_ifne_B 21 dX7_who_15 (by decide) (fun c15 => ?_) (fun c15 => ?_)
      · refine wa_ald0 dX7_who_21 ?_
        refine wa_ild1 dX7_who_22 ?_
        refine kX7_207 dX7_who_23 rfl (by first | assumption | exact hL.1 _ (by decide)) (cm_layWho hL hI hR (by omega)) (by decide) (Nat.le_of_ble_eq_true rfl) ⟨Nat.le_refl _, Nat.le_refl _⟩ (zpN fun V1 p1 => ?_)
        obtain ⟨q1, q2, q3, q4, q5, q6⟩ := p1
        obtain ⟨e1, e2, e3, e4⟩ := who_eq (c := c) (k := k) (m := M) (d := W 2) (rule := W 4) (sg := W 7) (sd := W 8) h2 h8 (by omega)
        have hb : 0 ≤ (rfW2 c k M W ((2 * c) ^ M)).1 ∧ (rfW2 c k M W ((2 * c) ^ M)).1 ≤ (((2 * c) ^ M : Nat) : Int) := rfA_b (c := c) (k := k) (m := M) (d := W 2) (rule := W 4) (sg := W 7) (sd := W 8) ((2 * c) ^ M)
        have hbb : (2 * c) ^ M ≤ 4096 := Nat.le_trans (Nat.pow_le_pow_left (show 2 * c ≤ 16 by omega) M) (Nat.le_trans (Nat.pow_le_pow_right (by decide) (show M ≤ 3 by omega)) (by decide))
        refine wa_ild2 dX7_who_26 ?_
        refine wa_if_ne 37 dX7_who_27 (by decide) (by first | omega | (rw [q1]; omega)) (fun c27 => ?_) (fun c27 => ?_)
        · refine wa_ild2 dX7_who_37 ?_
          refine wa_iconst dX7_who_38 ?_
          refine wa_icmp_ne 49 dX7_who_39 (by decide) (by first | omega | (rw [q1]; omega)) (by first | omega | (rw [q1]; omega)) (fun c39 => ?_) (fun c39 => ?_)
          · refine wa_ald0 dX7_who_49 ?_
            refine gX7_195 dX7_who_50 rfl (by first | assumption | exact hL.1 _ (by decide)) ?_
            refine wa_if_ne 60 dX7_who_53 (by decide) (by first | omega | (rw [q1]; omega)) (fun c53 => ?_) (fun c53 => ?_)
            · refine wa_ald0 dX7_who_60 ?_
              refine gX7_201 dX7_who_61 rfl (by first | assumption | exact hL.1 _ (by decide)) ?_
              refine wa_ireturn dX7_who_64 rfl rfl (Nat.le_refl _) ?_
              refine ⟨?_, rfl, rfl, q6⟩
              rw [if_neg (by omega)]
              by_cases w0 : w = 0
              · first | (exfalso; omega) | rw [if_pos w0, q1, e1]
              · by_cases w1 : w = 1
                · first | (exfalso; omega) | rw [if_neg w0, if_pos w1, q2, e2]
                · rw [if_neg w0, if_neg w1]
                  first
                    | (exfalso; omega)
                    | (rw [q1] at c53; rw [if_pos (by rw [← e1]; exact c53)]; done)
                    | (rw [q1] at c53; rw [if_neg (by rw [← e1]; exact c53), q3, e4 c53]; done)
            · refine wa_iconst dX7_who_56 ?_
              refine wa_goto 64 dX7_who_57 (by decide) ?_
              refine wa_ireturn dX7_who_64 rfl rfl (Nat.le_refl _) ?_
              refine ⟨?_, rfl, rfl, q6⟩
              rw [if_neg (by omega)]
              by_cases w0 : w = 0
              · first | (exfalso; omega) | rw [if_pos w0, q1, e1]
              · by_cases w1 : w = 1
                · first | (exfalso; omega) | rw [if_neg w0, if_pos w1, q2, e2]
                · rw [if_neg w0, if_neg w1]
                  first
                    | (exfalso; omega)
                    | (rw [q1] at c53; rw [if_pos (by rw [← e1]; exact c53)]; done)
                    | (rw [q1] at c53; rw [if_neg (by rw [← e1]; exact c53), q3, e4 c53]; done)
          · refine wa_ald0 dX7_who_42 ?_
            refine gX7_198 dX7_who_43 rfl (by first | assumption | exact hL.1 _ (by decide)) ?_
            refine wa_goto 64 dX7_who_46 (by decide) ?_
            refine wa_ireturn dX7_who_64 rfl rfl (Nat.le_refl _) ?_
            refine ⟨?_, rfl, rfl, q6⟩
            rw [if_neg (by omega)]
            by_cases w0 : w = 0
            · first | (exfalso; omega) | rw [if_pos w0, q1, e1]
            · by_cases w1 : w = 1
              · first | (exfalso; omega) | rw [if_neg w0, if_pos w1, q2, e2]
              · rw [if_neg w0, if_neg w1]
                first
                  | (exfalso; omega)
                  | (rw [q1] at c53; rw [if_pos (by rw [← e1]; exact c53)]; done)
                  | (rw [q1] at c53; rw [if_neg (by rw [← e1]; exact c53), q3, e4 c53]; done)
        · refine wa_ald0 dX7_who_30 ?_
          refine gX7_195 dX7_who_31 rfl (by first | assumption | exact hL.1 _ (by decide)) ?_
          refine wa_goto 64 dX7_who_34 (by decide) ?_
          refine wa_ireturn dX7_who_64 rfl rfl (Nat.le_refl _) ?_
          refine ⟨?_, rfl, rfl, q6⟩
          rw [if_neg (by omega)]
          by_cases w0 : w = 0
          · first | (exfalso; omega) | rw [if_pos w0, q1, e1]
          · by_cases w1 : w = 1
            · first | (exfalso; omega) | rw [if_neg w0, if_pos w1, q2, e2]
            · rw [if_neg w0, if_neg w1]
              first
                | (exfalso; omega)
                | (rw [q1] at c53; rw [if_pos (by rw [← e1]; exact c53)]; done)
                | (rw [q1] at c53; rw [if_neg (by rw [← e1]; exact c53), q3, e4 c53]; done)
      · refine wa_bipush dX7_who_18 (by decide) ?_
        exact wa_ireturn dX7_who_20 rfl rfl (Nat.le_refl _) (by exact ⟨by rw [if_pos (by omega)], rfl, rfl, rfr_rf⟩)
  · refine wa_ild1 dX7_who_0 ?_
    refine wa_iconst dX7_who_1 ?_
    refine wa_iconst dX7_who_2 ?_
    refine kX7_91 dX7_who_3 rfl (cm_in hm (by decide) (by decide)) (by decide) (Nat.le_of_ble_eq_true rfl) ⟨Nat.le_refl _, Nat.le_refl _⟩ (zdI ?_)
    refine wa_ifeq_B 18 dX7_who_6 (by decide) (fun c6 => ?_) (fun c6 => absurd c6 (by omega))
    refine wa_bipush dX7_who_18 (by decide) ?_
    exact wa_ireturn dX7_who_20 rfl rfl (Nat.le_refl _) (by exact ⟨by rw [if_pos (by omega)], rfl, rfl, rfr_rf⟩)
