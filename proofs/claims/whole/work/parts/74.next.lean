/-! the reference: next -/
theorem mx_c {f g : Nat → Int} : ∀ m, (∀ i, i < m → f i = g i) → mxF f m = mxF g m := by
  intro m
  induction m with
  | zero => intro _; rfl
  | succ m ih => intro h; rw [mxF, mxF, ih (fun i hi => h i (by omega)), h m (by omega)]
theorem cm_next {n c k len : Nat} {S : zH} {Rf : zG} {W V : zE} {F m w : Int} (hL : Lay S Rf) (hI : CI c k len F W) (hR : RI c k len W V) (hm : -2147483648 ≤ m ∧ m ≤ 2147483647) (hw : -2147483648 ≤ w ∧ w ≤ 2147483647) : Ct 3 0 0 mX7_next [zR 37, zI m, zI w] n S Rf V (rQ S Rf V (nxX c k m w W)) := by
  have hI0 := hI
  have hR0 := hR
  obtain ⟨hc, h2, h8, hd, hf, hu, hu3, hs, hflk, hF, hfa, hk, hk8, hsg, hsd, hl, h60, hp, hsc⟩ := hI
  obtain ⟨r0, r38, r39, r40, r41, r3, r4, r7, r8, r9, r10, r11, r42, r13, r43⟩ := hR
  refine ct_of (by decide) rfl (Nat.le_of_ble_eq_true rfl) ?_
  have main : ∀ (M : Nat) (V1 : zE), M ≤ 3 → (0 ≤ w ∧ w ≤ 1) → lyI c k M W V ((2 * c) ^ M) V1 → Wa zXn mX7_next (zrm 3 0 0) (zZm (rQ S Rf V (if w = 0 ∨ nxG c k M W = -6 then nxG c k M W else mxF (fun i => (gaV c k M W).2.2.2 ((nxG c k M W).toNat * 32 + i)) 32)) (n + 0) 0 0) 0 0 n S 26 [some (zR 37), some (zI (M : Int)), some (zI w), none, none, none, none, none, none] [] Rf V1 := by
    intro M V1 hM hw1 hly
    obtain ⟨q1, q2, q3, q4, q5, q6⟩ := hly
    obtain ⟨e1, e2, e3, e4⟩ := who_eq (c := c) (k := k) (m := M) (d := W 2) (rule := W 4) (sg := W 7) (sd := W 8) h2 h8 hM
    have hb : 0 ≤ (rfW2 c k M W ((2 * c) ^ M)).1 ∧ (rfW2 c k M W ((2 * c) ^ M)).1 ≤ (((2 * c) ^ M : Nat) : Int) := rfA_b (c := c) (k := k) (m := M) (d := W 2) (rule := W 4) (sg := W 7) (sd := W 8) ((2 * c) ^ M)
    have hbb : (2 * c) ^ M ≤ 4096 := Nat.le_trans (Nat.pow_le_pow_left (show 2 * c ≤ 16 by omega) M) (Nat.le_trans (Nat.pow_le_pow_right (by decide) hM) (by decide))
    change (rfW2 c k M W ((2 * c) ^ M)).1 = (gaV c k M W).1 at e1
    change (rfW2 c k M W ((2 * c) ^ M)).2.2.2 = (gaV c k M W).2.2.2 at e3
    obtain ⟨K, hK⟩ : ∃ K : Nat, (rfW2 c k M W ((2 * c) ^ M)).1 = (K : Int) := ⟨(rfW2 c k M W ((2 * c) ^ M)).1.toNat, by omega⟩
    rw [hK, Int.toNat_natCast] at q4 q5
    rw [hK] at q1 e1 hb
    have hmx : ∀ g, g < c → wsF (fun j => V1 50 (8 * j + g)) K = mxF (fun i => (gaV c k M W).2.2.2 (g * 32 + i)) 32 := fun g hg => by
      rw [ws_mx (dg := W 2 g) (fun j hj => by have := q5 g j hg hj; omega)]
      refine mx_c 32 (fun i hi => ?_)
      rw [← e3, q4 g i hg hi]
    have hG : nxG c k M W = if K = 0 then -6 else gmF (fun g => mxF (fun i => (gaV c k M W).2.2.2 (g * 32 + i)) 32) (fun g => anyB (fun i => W 7 i == (g : Int)) k) c := by
      unfold nxG
      rw [← e1]
      by_cases h : K = 0
      · rw [if_pos h, if_pos (by omega)]
      · rw [if_neg h, if_neg (by omega)]
    generalize hmm : (fun g : Nat => mxF (fun i => (gaV c k M W).2.2.2 (g * 32 + i)) 32) = mx at hG
    have hmx' : ∀ g, g < c → wsF (fun j => V1 50 (8 * j + g)) K = mx g := fun g hg => by rw [← hmm]; exact hmx g hg
    have hmxb : ∀ g, g < c → 0 ≤ mx g ∧ mx g ≤ 4096 := fun g hg => by rw [← hmx' g hg]; have := ws_0 (f := fun j => V1 50 (8 * j + g)) K; omega
    have hX : (if w = 0 ∨ nxG c k M W = -6 then nxG c k M W else mxF (fun i => (gaV c k M W).2.2.2 ((nxG c k M W).toNat * 32 + i)) 32) = (if w = 0 ∨ nxG c k M W = -6 then nxG c k M W else mx (nxG c k M W).toNat) := by rw [← hmm]
    rw [hX, hG]
    generalize hsn : (fun g : Nat => anyB (fun i => W 7 i == (g : Int)) k) = sn
    generalize hXX : (if w = 0 ∨ (if K = 0 then -6 else gmF mx sn c) = -6 then (if K = 0 then -6 else gmF mx sn c) else mx (if K = 0 then -6 else gmF mx sn c).toNat) = X
    have loopG : ∀ (q i : Nat) (V2 : zE) (fo le : Int) (o6 o7 o8 : Option zV), i + q = c → rfr V V2 → V2 50 = V1 50 → V2 37 31 = (K : Int) → fo = (if K = 0 then -6 else gmF mx sn i) → le = (if fo = -6 then 10000000 else mx fo.toNat) → Wa zXn mX7_next (zrm 3 0 0) (zZm (rQ S Rf V X) (n + 0) 0 0) 0 0 n S 36 [some (zR 37), some (zI (M : Int)), some (zI w), some (zI le), some (zI fo), some (zI (i : Int)), o6, o7, o8] [] Rf V2 := by
      intro q
      induction q with
      | zero =>
        intro i V2 fo le o6 o7 o8 hi hf2 h50 h31 hfo hle
        obtain rfl : c = i := by omega
        have r02 := (hf2.2 0 (by decide)).trans r0
        have hgm := gmF_b (mx := mx) (sn := sn) c
        rw [← hfo] at hXX
        have hfb : fo = -6 ∨ (0 ≤ fo ∧ fo < c) := by
          by_cases hK0 : K = 0
          · rw [if_pos hK0] at hfo; exact Or.inl hfo
          · rw [if_neg hK0] at hfo; omega
        refine wa_ild5 dX7_next_36 ?_
        refine wa_ald0 dX7_next_38 ?_
        refine gX7_7 dX7_next_39 rfl (by first | assumption | exact hL.1 _ (by decide)) ?_
        refine wa_icmp_ge 204 dX7_next_42 (by decide) (by omega) (by omega) (fun c42 => ?_) (fun c42 => ?_)
        · refine wa_ild4 dX7_next_204 ?_
          refine wa_if_lt 213 dX7_next_206 (by decide) (by omega) (fun c206 => ?_) (fun c206 => ?_)
          · refine wa_ild4 dX7_next_213 ?_
            refine wa_goto 219 dX7_next_215 (by decide) ?_
            refine wa_ireturn dX7_next_219 rfl rfl (Nat.le_refl _) ?_
            refine ⟨?_, rfl, rfl, hf2⟩
            rw [← hXX]
            first
              | (rw [if_pos (show w = 0 ∨ fo = -6 by omega)]; done)
              | (rw [if_neg (show ¬ (w = 0 ∨ fo = -6) by omega), hle, if_neg (show ¬ fo = -6 by omega)]; done)
          · refine wa_ild2 dX7_next_209 ?_
            refine wa_if_ne 218 dX7_next_210 (by decide) (by omega) (fun c210 => ?_) (fun c210 => ?_)
            · refine wa_ild3 dX7_next_218 ?_
              refine wa_ireturn dX7_next_219 rfl rfl (Nat.le_refl _) ?_
              refine ⟨?_, rfl, rfl, hf2⟩
              rw [← hXX]
              first
                | (rw [if_pos (show w = 0 ∨ fo = -6 by omega)]; done)
                | (rw [if_neg (show ¬ (w = 0 ∨ fo = -6) by omega), hle, if_neg (show ¬ fo = -6 by omega)]; done)
            · refine wa_ild4 dX7_next_213 ?_
              refine wa_goto 219 dX7_next_215 (by decide) ?_
              refine wa_ireturn dX7_next_219 rfl rfl (Nat.le_refl _) ?_
              refine ⟨?_, rfl, rfl, hf2⟩
              rw [← hXX]
              first
                | (rw [if_pos (show w = 0 ∨ fo = -6 by omega)]; done)
                | (rw [if_neg (show ¬ (w = 0 ∨ fo = -6) by omega), hle, if_neg (show ¬ fo = -6 by omega)]; done)
        · exact absurd c42 (by omega)
      | succ q ih =>
        intro i V2 fo le o6 o7 o8 hi hf2 h50 h31 hfo hle
        have r02 := (hf2.2 0 (by decide)).trans r0
        have hic : i < c := by omega
        have hgm := gmF_b (mx := mx) (sn := sn) i
        have hfb : fo = -6 ∨ (0 ≤ fo ∧ fo < i) := by
          by_cases hK0 : K = 0
          · rw [if_pos hK0] at hfo; exact Or.inl hfo
          · rw [if_neg hK0] at hfo; omega
        have hmi := hmxb i hic
        have hleb : 0 ≤ le ∧ le ≤ 10000000 := by
          rw [hle]
          split
          · omega
          · have := hmxb fo.toNat (by omega); omega
        generalize hfg : (fun j => V1 50 (8 * j + i)) = fg
        have hws := hmx' i hic
        rw [hfg] at hws
        have hfgb : ∀ j, j < K → 0 ≤ fg j ∧ fg j < 1100 := fun j hj => by
          rw [← hfg]
          have h5 := q5 i j hic hj
          have := hd i
          dsimp only
          omega
        /- behind the rows of a garden -/
        have after : ∀ (V3 : zE) (o7 o8 : Option zV), rfr V V3 → V3 50 = V1 50 → V3 37 31 = (K : Int) → Wa zXn mX7_next (zrm 3 0 0) (zZm (rQ S Rf V X) (n + 0) 0 0) 0 0 n S 143 [some (zR 37), some (zI (M : Int)), some (zI w), some (zI le), some (zI fo), some (zI (i : Int)), some (zI (mx i)), o7, o8] [] Rf V3 := by
          intro V3 o7 o8 hf3 h503 h313
          have r113 := (hf3.2 11 (by decide)).trans r11
          have r423 := hf3.1 42 (by decide) (by decide)
          have yes : (K ≠ 0 ∧ sn i = false ∧ mx i < le) → ∀ (o7 o8 : Option zV), Wa zXn mX7_next (zrm 3 0 0) (zZm (rQ S Rf V X) (n + 0) 0 0) 0 0 n S 36 [some (zR 37), some (zI (M : Int)), some (zI w), some (zI (mx i)), some (zI (i : Int)), some (zI ((i : Int) + 1)), some (zI (mx i)), o7, o8] [] Rf V3 := by
            intro hy o7 o8
            refine ih (i + 1) V3 i (mx i) _ o7 o8 (by omega) hf3 h503 h313 ?_ ?_
            · rw [if_neg hy.1, gmF, if_pos]
              refine ⟨hy.2.1, ?_⟩
              rw [if_neg hy.1] at hfo
              rw [← hfo]
              by_cases h6 : fo = -6
              · exact Or.inl h6
              · right; rw [if_neg h6] at hle; omega
            · rw [if_neg (by omega), Int.toNat_natCast]
          have no : ¬ (K ≠ 0 ∧ sn i = false ∧ mx i < le) → ∀ (o7 o8 : Option zV), Wa zXn mX7_next (zrm 3 0 0) (zZm (rQ S Rf V X) (n + 0) 0 0) 0 0 n S 36 [some (zR 37), some (zI (M : Int)), some (zI w), some (zI le), some (zI fo), some (zI ((i : Int) + 1)), some (zI (mx i)), o7, o8] [] Rf V3 := by
            intro hy o7 o8
            refine ih (i + 1) V3 fo le _ o7 o8 (by omega) hf3 h503 h313 ?_ hle
            by_cases hK0 : K = 0
            · rw [if_pos hK0] at hfo ⊢; exact hfo
            · rw [if_neg hK0] at hfo ⊢
              rw [gmF, if_neg]
              · exact hfo
              · rintro ⟨h1, h2⟩
                refine hy ⟨hK0, h1, ?_⟩
                rw [← hfo] at h2
                by_cases h6 : fo = -6
                · rw [if_pos h6] at hle; omega
                · rw [if_neg h6] at hle; omega
          have seen : sn i = anyB (fun j => W 7 j == (i : Int)) k := by rw [← hsn]
          refine wa_ald0 dX7_next_143 ?_
          refine gX7_195 dX7_next_144 rfl (by first | assumption | exact hL.1 _ (by decide)) ?_
          refine wa_if_le 169 dX7_next_147 (by decide) (by omega) (fun c147 => ?_) (fun c147 => ?_)
          · refine wa_iconst dX7_next_169 ?_
            refine wa_ist7 dX7_next_170 (by decide) rfl ?_
            refine wa_ild7 dX7_next_172 ?_
            refine wa_if_eq 182 dX7_next_174 (by decide) (by decide) (fun c174 => ?_) (fun c174 => absurd c174 (by decide))
            refine wa_ild4 dX7_next_182 ?_
            refine wa_ist4 dX7_next_184 (by decide) rfl ?_
            refine wa_ild7 dX7_next_186 ?_
            refine wa_if_eq 196 dX7_next_188 (by decide) (by decide) (fun c188 => ?_) (fun c188 => absurd c188 (by decide))
            refine wa_ild3 dX7_next_196 ?_
            refine wa_ist3 dX7_next_197 (by decide) rfl ?_
            refine wa_iinc5 dX7_next_198 (by decide) rfl ?_
            refine wa_goto 36 dX7_next_201 (by decide) ?_
            first
              | exact yes ⟨by omega, by simpa using c156, by omega⟩ _ _
              | exact no (fun h => by omega) _ _
              | exact no (fun h => by rw [c156] at h; exact absurd h.2.1 (by decide)) _ _
          · refine wa_ald0 dX7_next_150 ?_
            refine wa_ild5 dX7_next_151 ?_
            refine kX7_210 dX7_next_153 rfl (by first | assumption | exact hL.1 _ (by decide)) (cm_isSeen (k := k) (sg := W 7) hL r113 hk8 (fun j hj => by rw [r423]; exact (r42 j hj).1) hsg (by omega)) (by decide) (Nat.le_of_ble_eq_true rfl) ⟨Nat.le_refl _, Nat.le_refl _⟩ (zdI ?_)
            rw [← seen]
            refine wa_ifne_B 169 dX7_next_156 (by decide) (fun c156 => ?_) (fun c156 => ?_)
            · refine wa_iconst dX7_next_169 ?_
              refine wa_ist7 dX7_next_170 (by decide) rfl ?_
              refine wa_ild7 dX7_next_172 ?_
              refine wa_if_eq 182 dX7_next_174 (by decide) (by decide) (fun c174 => ?_) (fun c174 => absurd c174 (by decide))
              refine wa_ild4 dX7_next_182 ?_
              refine wa_ist4 dX7_next_184 (by decide) rfl ?_
              refine wa_ild7 dX7_next_186 ?_
              refine wa_if_eq 196 dX7_next_188 (by decide) (by decide) (fun c188 => ?_) (fun c188 => absurd c188 (by decide))
              refine wa_ild3 dX7_next_196 ?_
              refine wa_ist3 dX7_next_197 (by decide) rfl ?_
              refine wa_iinc5 dX7_next_198 (by decide) rfl ?_
              refine wa_goto 36 dX7_next_201 (by decide) ?_
              first
                | exact yes ⟨by omega, by simpa using c156, by omega⟩ _ _
                | exact no (fun h => by omega) _ _
                | exact no (fun h => by rw [c156] at h; exact absurd h.2.1 (by decide)) _ _
            · refine wa_ild6 dX7_next_159 ?_
              refine wa_ild3 dX7_next_161 ?_
              refine wa_icmp_ge 169 dX7_next_162 (by decide) (by omega) (by omega) (fun c162 => ?_) (fun c162 => ?_)
              · refine wa_iconst dX7_next_169 ?_
                refine wa_ist7 dX7_next_170 (by decide) rfl ?_
                refine wa_ild7 dX7_next_172 ?_
                refine wa_if_eq 182 dX7_next_174 (by decide) (by decide) (fun c174 => ?_) (fun c174 => absurd c174 (by decide))
                refine wa_ild4 dX7_next_182 ?_
                refine wa_ist4 dX7_next_184 (by decide) rfl ?_
                refine wa_ild7 dX7_next_186 ?_
                refine wa_if_eq 196 dX7_next_188 (by decide) (by decide) (fun c188 => ?_) (fun c188 => absurd c188 (by decide))
                refine wa_ild3 dX7_next_196 ?_
                refine wa_ist3 dX7_next_197 (by decide) rfl ?_
                refine wa_iinc5 dX7_next_198 (by decide) rfl ?_
                refine wa_goto 36 dX7_next_201 (by decide) ?_
                first
                  | exact yes ⟨by omega, by simpa using c156, by omega⟩ _ _
                  | exact no (fun h => by omega) _ _
                  | exact no (fun h => by rw [c156] at h; exact absurd h.2.1 (by decide)) _ _
              · refine wa_iconst dX7_next_165 ?_
                refine wa_goto 170 dX7_next_166 (by decide) ?_
                refine wa_ist7 dX7_next_170 (by decide) rfl ?_
                refine wa_ild7 dX7_next_172 ?_
                refine wa_if_eq 182 dX7_next_174 (by decide) (by decide) (fun c174 => absurd c174 (by decide)) (fun c174 => ?_)
                refine wa_ild5 dX7_next_177 ?_
                refine wa_goto 184 dX7_next_179 (by decide) ?_
                refine wa_ist4 dX7_next_184 (by decide) rfl ?_
                refine wa_ild7 dX7_next_186 ?_
                refine wa_if_eq 196 dX7_next_188 (by decide) (by decide) (fun c188 => absurd c188 (by decide)) (fun c188 => ?_)
                refine wa_ild6 dX7_next_191 ?_
                refine wa_goto 197 dX7_next_193 (by decide) ?_
                refine wa_ist3 dX7_next_197 (by decide) rfl ?_
                refine wa_iinc5 dX7_next_198 (by decide) rfl ?_
                refine wa_goto 36 dX7_next_201 (by decide) ?_
                first
                  | exact yes ⟨by omega, by simpa using c156, by omega⟩ _ _
                  | exact no (fun h => by omega) _ _
                  | exact no (fun h => by rw [c156] at h; exact absurd h.2.1 (by decide)) _ _
        have rowsL : ∀ (q j : Nat) (f : Nat → Int) (o8 : Option zV), j + q = K → (∀ v, v < 1100 → f v = anF fg (v : Int) j) → Wa zXn mX7_next (zrm 3 0 0) (zZm (rQ S Rf V X) (n + 0) 0 0) 0 0 n S 76 [some (zR 37), some (zI (M : Int)), some (zI w), some (zI le), some (zI fo), some (zI (i : Int)), some (zI (wsF fg j)), some (zI (j : Int)), o8] [] Rf (zp V2 51 f) := by
          intro q
          induction q with
          | zero =>
            intro j f o8 hj hfv
            obtain rfl : K = j := by omega
            have h312 : zp V2 51 f 37 31 = (K : Int) := by rw [zp_n _ _ (by decide)]; exact h31
            have e5 := after (zp V2 51 f) (some (zI (K : Int))) o8 (hf2.trans ⟨fun k a b => by rw [zp_n _ _ (by omega)], fun j a => by rw [zp_n _ _ (by decide)]⟩) (by rw [zp_n _ _ (by decide)]; exact h50) h312
            rw [hws]
            refine wa_ild7 dX7_next_76 ?_
            refine wa_ald0 dX7_next_78 ?_
            refine gX7_195 dX7_next_79 rfl (by first | assumption | exact hL.1 _ (by decide)) ?_
            refine wa_icmp_ge 143 dX7_next_82 (by decide) (by omega) (by omega) (fun c82 => ?_) (fun c82 => ?_)
            · exact e5
            · exact absurd c82 (by omega)
          | succ q ihq =>
            intro j f o8 hj hfv
            have h312 : zp V2 51 f 37 31 = (K : Int) := by rw [zp_n _ _ (by decide)]; exact h31
            have hfj := hfgb j (by omega)
            have tk : (8 * (j : Int) + (i : Int)).toNat = 8 * j + i := by omega
            have hg5 : V2 50 (8 * j + i) = fg j := by rw [h50, ← hfg]
            have hv := hfv (fg j).toNat (by omega)
            rw [show (((fg j).toNat : Nat) : Int) = fg j by omega] at hv
            have hvs : anF fg (fg j) (j + 1) = anF fg (fg j) j + 1 := by rw [anF, if_pos rfl]
            have hab := anF_b (s := fg) (g := fg j) j
            have hwb := ws_0 (f := fg) j
            have e5 := fun o8 => ihq (j + 1) (za f (fg j).toNat (f (fg j).toNat + 1)) o8 (by omega) (fun v hv2 => by
              rw [anF]
              by_cases h : v = (fg j).toNat
              · rw [h, za_s, hv, if_pos (by omega), show (((fg j).toNat : Nat) : Int) = fg j by omega]
              · rw [za_n _ _ h, hfv v hv2, if_neg (by omega), Int.add_zero])
            rw [wsF, hvs] at e5
            refine wa_ild7 dX7_next_76 ?_
            refine wa_ald0 dX7_next_78 ?_
            refine gX7_195 dX7_next_79 rfl (by first | assumption | exact hL.1 _ (by decide)) ?_
            refine wa_icmp_ge 143 dX7_next_82 (by decide) (by first | omega | (simp (decide := true) only [zp_n, zp_s, za_s, ne_eq, tk, hg5, hv]; omega)) (by first | omega | (simp (decide := true) only [zp_n, zp_s, za_s, ne_eq, tk, hg5, hv]; omega)) (fun c82 => ?_) (fun c82 => ?_)
            · exact absurd c82 (by omega)
            · refine wa_ald0 dX7_next_85 ?_
              refine gX7_63 dX7_next_86 rfl (by first | assumption | exact hL.1 _ (by decide)) (by first | assumption | exact hL.2 _ _ (by decide)) ?_
              refine wa_bipush dX7_next_89 (by decide) ?_
              refine wa_ild7 dX7_next_91 ?_
              refine wa_imul dX7_next_93 ?_
              refine wa_ild5 dX7_next_94 ?_
              refine wa_iadd dX7_next_96 ?_
              refine wa_iaload dX7_next_97 (by first | assumption | exact hL.1 _ (by decide)) (by first | omega | (simp (decide := true) only [zp_n, zp_s, za_s, ne_eq, tk, hg5, hv]; omega)) (by first | decide | omega) ?_
              simp (decide := true) only [zp_n, ne_eq, tk, hg5]
              refine wa_ist8 dX7_next_98 (by decide) rfl ?_
              refine wa_ald0 dX7_next_100 ?_
              refine gX7_66 dX7_next_101 rfl (by first | assumption | exact hL.1 _ (by decide)) (by first | assumption | exact hL.2 _ _ (by decide)) ?_
              refine wa_ild8 dX7_next_104 ?_
              refine wa_dup2 dX7_next_106 rfl rfl ?_
              refine wa_iaload dX7_next_107 (by first | assumption | exact hL.1 _ (by decide)) (by first | omega | (simp (decide := true) only [zp_n, zp_s, za_s, ne_eq, tk, hg5, hv]; omega)) (by first | decide | omega) ?_
              refine wa_iconst dX7_next_108 ?_
              refine wa_iadd dX7_next_109 ?_
              refine wa_iastore dX7_next_110 (by first | assumption | exact hL.1 _ (by decide)) (by first | omega | (simp (decide := true) only [zp_n, zp_s, za_s, ne_eq, tk, hg5, hv]; omega)) (by first | decide | omega) ?_
              refine wa_ald0 dX7_next_111 ?_
              refine gX7_66 dX7_next_112 rfl (by first | assumption | exact hL.1 _ (by decide)) (by first | assumption | exact hL.2 _ _ (by decide)) ?_
              refine wa_ild8 dX7_next_115 ?_
              refine wa_iaload dX7_next_117 (by first | assumption | exact hL.1 _ (by decide)) (by first | omega | (simp (decide := true) only [zp_n, zp_s, za_s, ne_eq, tk, hg5, hv]; omega)) (by first | decide | omega) ?_
              refine wa_ild6 dX7_next_118 ?_
              refine wa_icmp_le 133 dX7_next_120 (by decide) (by first | omega | (simp (decide := true) only [zp_n, zp_s, za_s, ne_eq, tk, hg5, hv]; omega)) (by first | omega | (simp (decide := true) only [zp_n, zp_s, za_s, ne_eq, tk, hg5, hv]; omega)) (fun c120 => ?_) (fun c120 => ?_)
              · refine wa_ild6 dX7_next_133 ?_
                refine wa_ist6 dX7_next_135 (by decide) rfl ?_
                refine wa_iinc7 dX7_next_137 (by decide) rfl ?_
                refine wa_goto 76 dX7_next_140 (by decide) ?_
                simp (decide := true) only [zp_zp, zp_s, za_s, hv] at c120 ⊢
                rw [hv] at e5
                first
                  | (rw [Int.max_eq_left (by omega)] at e5; exact e5 _)
                  | (rw [Int.max_eq_right (by omega)] at e5; exact e5 _)
              · refine wa_ald0 dX7_next_123 ?_
                refine gX7_66 dX7_next_124 rfl (by first | assumption | exact hL.1 _ (by decide)) (by first | assumption | exact hL.2 _ _ (by decide)) ?_
                refine wa_ild8 dX7_next_127 ?_
                refine wa_iaload dX7_next_129 (by first | assumption | exact hL.1 _ (by decide)) (by first | omega | (simp (decide := true) only [zp_n, zp_s, za_s, ne_eq, tk, hg5, hv]; omega)) (by first | decide | omega) ?_
                refine wa_goto 135 dX7_next_130 (by decide) ?_
                refine wa_ist6 dX7_next_135 (by decide) rfl ?_
                refine wa_iinc7 dX7_next_137 (by decide) rfl ?_
                refine wa_goto 76 dX7_next_140 (by decide) ?_
                simp (decide := true) only [zp_zp, zp_s, za_s, hv] at c120 ⊢
                rw [hv] at e5
                first
                  | (rw [Int.max_eq_left (by omega)] at e5; exact e5 _)
                  | (rw [Int.max_eq_right (by omega)] at e5; exact e5 _)
        have zeros : ∀ (q j : Nat) (f : Nat → Int) (o7 o8 : Option zV), j + q = 1100 → (∀ p, p < j → f p = 0) → Wa zXn mX7_next (zrm 3 0 0) (zZm (rQ S Rf V X) (n + 0) 0 0) 0 0 n S 48 [some (zR 37), some (zI (M : Int)), some (zI w), some (zI le), some (zI fo), some (zI (i : Int)), some (zI (j : Int)), o7, o8] [] Rf (zp V2 51 f) := by
          intro q
          induction q with
          | zero =>
            intro j f o7 o8 hj hfz
            have e5 := rowsL K 0 f o8 (by omega) (fun v hv => by rw [hfz v (by omega)]; rfl)
            refine wa_ild6 dX7_next_48 ?_
            refine wa_sipush dX7_next_50 (by decide) ?_
            refine wa_icmp_ge 70 dX7_next_53 (by decide) (by omega) (by omega) (fun c53 => ?_) (fun c53 => ?_)
            · refine wa_iconst dX7_next_70 ?_
              refine wa_ist6 dX7_next_71 (by decide) rfl ?_
              refine wa_iconst dX7_next_73 ?_
              refine wa_ist7 dX7_next_74 (by decide) rfl ?_
              exact e5
            · exact absurd c53 (by omega)
          | succ q ihq =>
            intro j f o7 o8 hj hfz
            have e5 := ihq (j + 1) (za f j 0) o7 o8 (by omega) (fun p hp => by
              by_cases h : p = j
              · rw [h, za_s]
              · rw [za_n _ _ h]; exact hfz p (by omega))
            refine wa_ild6 dX7_next_48 ?_
            refine wa_sipush dX7_next_50 (by decide) ?_
            refine wa_icmp_ge 70 dX7_next_53 (by decide) (by omega) (by omega) (fun c53 => ?_) (fun c53 => ?_)
            · exact absurd c53 (by omega)
            · refine wa_ald0 dX7_next_56 ?_
              refine gX7_66 dX7_next_57 rfl (by first | assumption | exact hL.1 _ (by decide)) (by first | assumption | exact hL.2 _ _ (by decide)) ?_
              refine wa_ild6 dX7_next_60 ?_
              refine wa_iconst dX7_next_62 ?_
              refine wa_iastore dX7_next_63 (by first | assumption | exact hL.1 _ (by decide)) (by omega) (by first | decide | omega) ?_
              refine wa_iinc6 dX7_next_64 (by decide) rfl ?_
              refine wa_goto 48 dX7_next_67 (by decide) ?_
              rw [zp_zp, zp_s, Int.toNat_natCast]
              exact e5
        refine wa_ild5 dX7_next_36 ?_
        refine wa_ald0 dX7_next_38 ?_
        refine gX7_7 dX7_next_39 rfl (by first | assumption | exact hL.1 _ (by decide)) ?_
        refine wa_icmp_ge 204 dX7_next_42 (by decide) (by omega) (by omega) (fun c42 => ?_) (fun c42 => ?_)
        · exact absurd c42 (by omega)
        · refine wa_iconst dX7_next_45 ?_
          refine wa_ist6 dX7_next_46 (by decide) rfl ?_
          refine wa_eqV (zp_self _ 51).symm (zeros 1100 0 _ _ _ (by decide) (fun p hp => absurd hp (by omega)))
    refine wa_ldc dX7_next_26 coX7_181 10000000 (by decide) ?_
    refine wa_ist3 dX7_next_28 (by decide) rfl ?_
    refine wa_bipush dX7_next_29 (by decide) ?_
    refine wa_ist4 dX7_next_31 (by decide) rfl ?_
    refine wa_iconst dX7_next_33 ?_
    refine wa_ist5 dX7_next_34 (by decide) rfl ?_
    refine loopG c 0 V1 (-6) 10000000 _ _ _ (by omega) q6 rfl q1 ?_ ?_
    · by_cases h : K = 0
      · rw [if_pos h]
      · rw [if_neg h]; rfl
    · rw [if_pos rfl]
  unfold nxX
  by_cases hm0 : 0 ≤ m
  · obtain ⟨M, rfl⟩ : ∃ M : Nat, m = M := ⟨m.toNat, by omega⟩
    rw [Int.toNat_natCast]
    refine wa_ild1 dX7_next_0 ?_
    refine wa_iconst dX7_next_1 ?_
    refine wa_iconst dX7_next_2 ?_
    refine kX7_91 dX7_next_3 rfl (cm_in hm (by decide) (by decide)) (by decide) (Nat.le_of_ble_eq_true rfl) ⟨Nat.le_refl _, Nat.le_refl _⟩ (zdI ?_)
    refine wa_ifeq_B 18 dX7_next_6 (by decide) (fun c6 => ?_) (fun c6 => ?_)
    · refine wa_bipush dX7_next_18 (by decide) ?_
      exact wa_ireturn dX7_next_20 rfl rfl (Nat.le_refl _) (by exact ⟨by rw [if_pos (by omega)], rfl, rfl, rfr_rf⟩)
    · refine wa_ild2 dX7_next_9 ?_
      refine wa_iconst dX7_next_10 ?_
      refine wa_iconst dX7_next_11 ?_
      refine kX7_91 dX7_next_12 rfl (cm_in hw (by decide) (by decide)) (by decide) (Nat.le_of_ble_eq_true rfl) ⟨Nat.le_refl _, Nat.le_refl _⟩ (zdI ?_)
      refine wa_ifne_B 21 dX7_next_15 (by decide) (fun c15 => ?_) (fun c15 => ?_)
      · refine wa_ald0 dX7_next_21 ?_
        refine wa_ild1 dX7_next_22 ?_
        refine kX7_207 dX7_next_23 rfl (by first | assumption | exact hL.1 _ (by decide)) (cm_layWho hL hI0 hR0 (by omega)) (by decide) (Nat.le_of_ble_eq_true rfl) ⟨Nat.le_refl _, Nat.le_refl _⟩ (zpN fun V1 p1 => ?_)
        rw [if_neg (by omega)]
        exact main M V1 (by omega) (by omega) p1
      · refine wa_bipush dX7_next_18 (by decide) ?_
        exact wa_ireturn dX7_next_20 rfl rfl (Nat.le_refl _) (by exact ⟨by rw [if_pos (by omega)], rfl, rfl, rfr_rf⟩)
  · refine wa_ild1 dX7_next_0 ?_
    refine wa_iconst dX7_next_1 ?_
    refine wa_iconst dX7_next_2 ?_
    refine kX7_91 dX7_next_3 rfl (cm_in hm (by decide) (by decide)) (by decide) (Nat.le_of_ble_eq_true rfl) ⟨Nat.le_refl _, Nat.le_refl _⟩ (zdI ?_)
    refine wa_ifeq_B 18 dX7_next_6 (by decide) (fun c6 => ?_) (fun c6 => absurd c6 (by omega))
    refine wa_bipush dX7_next_18 (by decide) ?_
    exact wa_ireturn dX7_next_20 rfl rfl (Nat.le_refl _) (by exact ⟨by rw [if_pos (by omega)], rfl, rfl, rfr_rf⟩)
