/-! the reference: winter, sights -/
theorem spk_19 {c : Nat} {rule : Nat → Int} {k g w : Int} {q : zSt} : (spkS c rule k g w q).2.2.2.1 = q.2.2.2.1 := by
  unfold spkS; (repeat' split) <;> rfl
theorem tel_of {c : Nat} {rule roof : Nat → Int} {k g w : Int} {V2 V3 : zE} {q : zSt} (h0 : hinF c q.1 rule q.2.1 k g w = 0) (h2 : vr V2 = spkS c rule k g w q) (h39 : V2 39 = roof) (h3 : smP (V2 44, V2 46, V2 47, zor (V2 37 19) (ovl (V2 44) (V2 39) c), V2 37 20) V2 V3) : vr V3 = telS c roof rule k g w q := by
  have e19 : V2 37 19 = q.2.2.2.1 := by
    have h5 : (vr V2).2.2.2.1 = q.2.2.2.1 := by rw [h2]; exact spk_19
    exact h5
  rw [telS, if_pos h0, ← h2, zor_an, ← e19, h3.1, h39]
theorem spk_pre {c : Nat} {rule : Nat → Int} {k g w : Int} {V2 : zE} {q : zSt} (hu : ∀ j, 0 ≤ rule j ∧ rule j ≤ 9) (hg : sGd q) (h2 : vr V2 = spkS c rule k g w q) : (∀ j, 0 ≤ V2 44 j ∧ V2 44 j ≤ 100000) ∧ (-2147483648 ≤ V2 37 19 ∧ V2 37 19 ≤ 2147483647) := by
  refine ⟨fun j => ?_, ?_⟩
  · have := spkS_d (c := c) (k := k) (g := g) (w := w) hg.1 hu j
    rw [← h2] at this; dsimp only at this; omega
  · have h5 : (vr V2).2.2.2.1 = q.2.2.2.1 := by rw [h2]; exact spk_19
    have h6 : V2 37 19 = q.2.2.2.1 := h5
    rw [h6]; exact hg.2.2
theorem smP.self {q : zSt} {V V' : zE} (h : smP q V V') : smP (vr V') V V' := ⟨rfl, h.2.1, h.2.2⟩
theorem smP.r {q : zSt} {V V' : zE} (h : smP q V V') : rfr V V' := ⟨fun k a b => h.2.2 k a (by omega), fun j a => h.2.1 j (by omega) (by omega)⟩
theorem drwS_fl {c : Nat} {roof rule : Nat → Int} {x : Int} {q : zSt} (h2 : 2 ≤ c) (h8 : c ≤ 8) (h : flI c q) : flI c (drwS c roof rule x q) := by
  have g1 : 0 ≤ x / 8 % (c : Int) ∧ x / 8 % (c : Int) < c := ⟨Int.emod_nonneg _ (by omega), Int.emod_lt_of_pos _ (by omega)⟩
  have w1 : 0 ≤ x / 64 % (c : Int) ∧ x / 64 % (c : Int) < c := ⟨Int.emod_nonneg _ (by omega), Int.emod_lt_of_pos _ (by omega)⟩
  unfold drwS
  (repeat' split)
  · exact telS_fl h8 (by omega) (by omega) h
  · exact telS_fl h8 (by omega) (by omega) h
  · exact telS_fl h8 g1 w1 h
  · exact telS_fl h8 g1 w1 h
  · exact telS_fl h8 g1 w1 h
theorem cm_winter {n c k len : Nat} {S : zH} {Rf : zG} {W V : zE} {F sd m w : Int} (hL : Lay S Rf) (hI : CI c k len F W) (hfl : flI c (vw 1 W)) (hR : RI c k len W V) (hsd : -2147483648 ≤ sd ∧ sd ≤ 2147483647) (hm : -2147483648 ≤ m ∧ m ≤ 2147483647) (hw : -2147483648 ≤ w ∧ w ≤ 2147483647) : Ct 6 0 0 mX7_winter [zR 37, zI sd, zI m, zI w] n S Rf V (rQ S Rf V (wnX c sd m w W)) := by
  obtain ⟨hc, h2, h8, hd, hf, hu, hu3, hs, hflk, hF, hfa, hk, hk8, hsg, hsd8, hl, h60, hp, hsc⟩ := hI
  obtain ⟨a1, a2⟩ := as_vr hR
  obtain ⟨r0, r38, r39, r40, r41, r3, r4, r7, r8, r9, r10, r11, r42, r13, r43⟩ := hR.go as_r
  refine ct_of (by decide) rfl (Nat.le_of_ble_eq_true rfl) ?_
  unfold wnX
  have sum : ∀ (q i : Nat) (V1 : zE), i + q = c → 0 ≤ w ∧ w ≤ 2 → sGd (vr V1) → vr V1 = wnS c (W 3) (W 4) m.toNat sd (vw 1 W) → V1 37 0 = (c : Int) → rfr V V1 → Wa zXn mX7_winter (zrm 6 0 0) (zZm (rQ S Rf V (if w = 0 then sumF (wnS c (W 3) (W 4) m.toNat sd (vw 1 W)).1 c else if w = 1 then (wnS c (W 3) (W 4) m.toNat sd (vw 1 W)).2.2.2.1 else (wnS c (W 3) (W 4) m.toNat sd (vw 1 W)).2.2.2.2)) (n + 0) 0 0) 0 0 n S 191 [some (zR 37), some (zI sd), some (zI m), some (zI w), none, some (zI (sumF (V1 44) i)), some (zI (i : Int)), none, none, none] [] Rf V1 := by
    intro q
    induction q with
    | zero =>
      intro i V1 hi hw3 hg1 hv1 hc1 hf1
      obtain rfl : i = c := by omega
      refine wa_ild6 dX7_winter_191 ?_
      refine wa_ald0 dX7_winter_193 ?_
      refine gX7_7 dX7_winter_194 rfl (by first | assumption | exact hL.1 _ (by decide)) ?_
      refine wa_icmp_ge 218 dX7_winter_197 (by decide) (by omega) (by omega) (fun c197 => ?_) (fun c197 => ?_)
      · refine wa_ild3 dX7_winter_218 ?_
        refine wa_if_ne 227 dX7_winter_219 (by decide) (by omega) (fun c219 => ?_) (fun c219 => ?_)
        · refine wa_ild3 dX7_winter_227 ?_
          refine wa_iconst dX7_winter_228 ?_
          refine wa_icmp_ne 239 dX7_winter_229 (by decide) (by omega) (by omega) (fun c229 => ?_) (fun c229 => ?_)
          · refine wa_ald0 dX7_winter_239 ?_
            refine gX7_109 dX7_winter_240 rfl (by first | assumption | exact hL.1 _ (by decide)) ?_
            refine wa_ireturn dX7_winter_243 rfl rfl (Nat.le_refl _) ?_
            refine ⟨?_, rfl, rfl, hf1⟩
            rw [← hv1]
            by_cases q0 : w = 0
            · first | (exfalso; omega) | rw [if_pos q0]
            · by_cases q1 : w = 1
              · first | (exfalso; omega) | rw [if_neg q0, if_pos q1]
              · first | (exfalso; omega) | rw [if_neg q0, if_neg q1]
          · refine wa_ald0 dX7_winter_232 ?_
            refine gX7_106 dX7_winter_233 rfl (by first | assumption | exact hL.1 _ (by decide)) ?_
            refine wa_goto 243 dX7_winter_236 (by decide) ?_
            refine wa_ireturn dX7_winter_243 rfl rfl (Nat.le_refl _) ?_
            refine ⟨?_, rfl, rfl, hf1⟩
            rw [← hv1]
            by_cases q0 : w = 0
            · first | (exfalso; omega) | rw [if_pos q0]
            · by_cases q1 : w = 1
              · first | (exfalso; omega) | rw [if_neg q0, if_pos q1]
              · first | (exfalso; omega) | rw [if_neg q0, if_neg q1]
        · refine wa_ild5 dX7_winter_222 ?_
          refine wa_goto 243 dX7_winter_224 (by decide) ?_
          refine wa_ireturn dX7_winter_243 rfl rfl (Nat.le_refl _) ?_
          refine ⟨?_, rfl, rfl, hf1⟩
          rw [← hv1]
          by_cases q0 : w = 0
          · first | (exfalso; omega) | rw [if_pos q0]
          · by_cases q1 : w = 1
            · first | (exfalso; omega) | rw [if_neg q0, if_pos q1]
            · first | (exfalso; omega) | rw [if_neg q0, if_neg q1]
      · exact absurd c197 (by omega)
    | succ q ih =>
      intro i V1 hi hw3 hg1 hv1 hc1 hf1
      have hdi := hg1.1 i
      have e1 := ih (i + 1) V1 (by omega) hw3 hg1 hv1 hc1 hf1
      rw [sumF] at e1
      refine wa_ild6 dX7_winter_191 ?_
      refine wa_ald0 dX7_winter_193 ?_
      refine gX7_7 dX7_winter_194 rfl (by first | assumption | exact hL.1 _ (by decide)) ?_
      refine wa_icmp_ge 218 dX7_winter_197 (by decide) (by omega) (by omega) (fun c197 => ?_) (fun c197 => ?_)
      · exact absurd c197 (by omega)
      · refine wa_ild5 dX7_winter_200 ?_
        refine wa_ald0 dX7_winter_202 ?_
        refine gX7_44 dX7_winter_203 rfl (by first | assumption | exact hL.1 _ (by decide)) (by first | assumption | exact hL.2 _ _ (by decide)) ?_
        refine wa_ild6 dX7_winter_206 ?_
        refine wa_iaload dX7_winter_208 (by first | assumption | exact hL.1 _ (by decide)) (by omega) (by first | decide | omega) ?_
        refine wa_iadd dX7_winter_209 ?_
        refine wa_ist5 dX7_winter_210 (by decide) rfl ?_
        refine wa_iinc6 dX7_winter_212 (by decide) rfl ?_
        refine wa_goto 191 dX7_winter_215 (by decide) ?_
        simp only [Int.toNat_natCast]
        exact e1
  have loop : ∀ (q i : Nat) (x : Int) (V1 : zE), (i : Int) + q = m → 0 ≤ w ∧ w ≤ 2 → m ≤ 99 → (0 ≤ x ∧ x ≤ 65536) → smP (vr V1) (asV V) V1 → sGd (vr V1) → flI c (vr V1) → wnS c (W 3) (W 4) m.toNat sd (vw 1 W) = wnS c (W 3) (W 4) q x (vr V1) → Wa zXn mX7_winter (zrm 6 0 0) (zZm (rQ S Rf V (if w = 0 then sumF (wnS c (W 3) (W 4) m.toNat sd (vw 1 W)).1 c else if w = 1 then (wnS c (W 3) (W 4) m.toNat sd (vw 1 W)).2.2.2.1 else (wnS c (W 3) (W 4) m.toNat sd (vw 1 W)).2.2.2.2)) (n + 0) 0 0) 0 0 n S 43 [some (zR 37), some (zI sd), some (zI m), some (zI w), some (zI x), some (zI (i : Int)), none, none, none, none] [] Rf V1 := by
    intro q
    induction q with
    | zero =>
      intro i x V1 hi hw3 hm9 hx hs1 hg1 hfl1 he
      rw [wnS] at he
      refine wa_ild5 dX7_winter_43 ?_
      refine wa_ild2 dX7_winter_45 ?_
      refine wa_icmp_ge 185 dX7_winter_46 (by decide) (by omega) (by omega) (fun c46 => ?_) (fun c46 => ?_)
      · refine wa_iconst dX7_winter_185 ?_
        refine wa_ist5 dX7_winter_186 (by decide) rfl ?_
        refine wa_iconst dX7_winter_188 ?_
        refine wa_ist6 dX7_winter_189 (by decide) rfl ?_
        refine wa_drop4 ?_
        exact sum c 0 V1 (by omega) hw3 hg1 he.symm ((hs1.2.1 0 (by decide) (by decide)).trans r0) (as_r.trans hs1.r)
      · exact absurd c46 (by omega)
    | succ q ih =>
      intro i x V1 hi hw3 hm9 hx hs1 hg1 hfl1 he
      rw [wnS] at he
      have hc1 := (hs1.2.1 0 (by decide) (by decide)).trans r0
      have h391 := (hs1.2.2 39 (by decide) (by decide)).trans r39
      have hr1 := a2.go hs1
      have hg4 := drwS_g (c := c) (roof := W 3) (x := (75 * x + 74) % 65537) hu hg1
      have hf4 := drwS_fl (c := c) (roof := W 3) (rule := W 4) (x := (75 * x + 74) % 65537) h2 h8 hfl1
      have hy : 0 ≤ (75 * x + 74) % 65537 ∧ (75 * x + 74) % 65537 ≤ 65536 := by omega
      generalize hyy : (75 * x + 74) % 65537 = y at he hg4 hf4 hy
      have g1 : 0 ≤ y / 8 % (c : Int) ∧ y / 8 % (c : Int) < c := ⟨Int.emod_nonneg _ (by omega), Int.emod_lt_of_pos _ (by omega)⟩
      have w1 : 0 ≤ y / 64 % (c : Int) ∧ y / 64 % (c : Int) < c := ⟨Int.emod_nonneg _ (by omega), Int.emod_lt_of_pos _ (by omega)⟩
      have fin : ∀ (V3 : zE) (o6 o7 o8 o9 : Option zV), smP (vr V3) (asV V) V3 → vr V3 = drwS c (W 3) (W 4) y (vr V1) → Wa zXn mX7_winter (zrm 6 0 0) (zZm (rQ S Rf V (if w = 0 then sumF (wnS c (W 3) (W 4) m.toNat sd (vw 1 W)).1 c else if w = 1 then (wnS c (W 3) (W 4) m.toNat sd (vw 1 W)).2.2.2.1 else (wnS c (W 3) (W 4) m.toNat sd (vw 1 W)).2.2.2.2)) (n + 0) 0 0) 0 0 n S 43 [some (zR 37), some (zI sd), some (zI m), some (zI w), some (zI y), some (zI ((i : Int) + 1)), o6, o7, o8, o9] [] Rf V3 := by
        intro V3 o6 o7 o8 o9 hs3 hv3
        refine wa_drop9 (wa_drop8 (wa_drop7 (wa_drop6 ?_)))
        rw [← hv3] at he hg4 hf4
        exact ih (i + 1) y V3 (by omega) hw3 hm9 hy hs3 hg4 hf4 he
      refine wa_ild5 dX7_winter_43 ?_
      refine wa_ild2 dX7_winter_45 ?_
      refine wa_icmp_ge 185 dX7_winter_46 (by decide) (by first | omega | (simp only [hc1]; omega)) (by first | omega | (simp only [hc1]; omega)) (fun c46 => ?_) (fun c46 => ?_)
      · exact absurd c46 (by omega)
      · refine wa_bipush dX7_winter_49 (by decide) ?_
        refine wa_ild4 dX7_winter_51 ?_
        refine wa_imul dX7_winter_53 ?_
        refine wa_bipush dX7_winter_54 (by decide) ?_
        refine wa_iadd dX7_winter_56 ?_
        refine wa_ldc dX7_winter_57 coX7_233 65537 (by decide) ?_
        refine wa_irem dX7_winter_59 (by first | omega | (simp only [hc1]; omega)) (by first | omega | (simp only [hc1]; omega)) ?_
        refine wa_ist4 dX7_winter_60 (by decide) rfl ?_
        rw [hyy]
        refine wa_ild4 dX7_winter_62 ?_
        refine wa_bipush dX7_winter_64 (by decide) ?_
        refine wa_irem dX7_winter_66 (by first | omega | (simp only [hc1]; omega)) (by first | omega | (simp only [hc1]; omega)) ?_
        refine wa_ist6 dX7_winter_67 (by decide) rfl ?_
        refine wa_ild4 dX7_winter_69 ?_
        refine wa_bipush dX7_winter_71 (by decide) ?_
        refine wa_idiv dX7_winter_73 (by first | omega | (simp only [hc1]; omega)) (by first | omega | (simp only [hc1]; omega)) ?_
        refine wa_ald0 dX7_winter_74 ?_
        refine gX7_7 dX7_winter_75 rfl (by first | assumption | exact hL.1 _ (by decide)) ?_
        refine wa_irem dX7_winter_78 (by first | omega | (simp only [hc1]; omega)) (by first | omega | (simp only [hc1]; omega)) ?_
        refine wa_ist7 dX7_winter_79 (by decide) rfl ?_
        refine wa_ild4 dX7_winter_81 ?_
        refine wa_bipush dX7_winter_83 (by decide) ?_
        refine wa_idiv dX7_winter_85 (by first | omega | (simp only [hc1]; omega)) (by first | omega | (simp only [hc1]; omega)) ?_
        refine wa_ald0 dX7_winter_86 ?_
        refine gX7_7 dX7_winter_87 rfl (by first | assumption | exact hL.1 _ (by decide)) ?_
        refine wa_irem dX7_winter_90 (by first | omega | (simp only [hc1]; omega)) (by first | omega | (simp only [hc1]; omega)) ?_
        refine wa_ist8 dX7_winter_91 (by decide) rfl ?_
        simp only [hc1]
        refine wa_ild6 dX7_winter_93 ?_
        refine wa_iconst dX7_winter_95 ?_
        refine wa_icmp_ne 104 dX7_winter_96 (by decide) (by first | omega | (simp only [hc1]; omega)) (by first | omega | (simp only [hc1]; omega)) (fun c96 => ?_) (fun c96 => ?_)
        · refine wa_ild6 dX7_winter_104 ?_
          refine wa_iconst dX7_winter_106 ?_
          refine wa_icmp_ge 115 dX7_winter_107 (by decide) (by first | omega | (simp only [hc1]; omega)) (by first | omega | (simp only [hc1]; omega)) (fun c107 => ?_) (fun c107 => ?_)
          · refine wa_bipush dX7_winter_115 (by decide) ?_
            refine wa_ist9 dX7_winter_117 (by decide) rfl ?_
            refine wa_ild6 dX7_winter_119 ?_
            refine wa_if_ne 135 dX7_winter_121 (by decide) (by first | omega | (simp only [hc1]; omega)) (fun c121 => ?_) (fun c121 => ?_)
            · refine wa_ild6 dX7_winter_135 ?_
              refine wa_iconst dX7_winter_137 ?_
              refine wa_icmp_ne 152 dX7_winter_138 (by decide) (by first | omega | (simp only [hc1]; omega)) (by first | omega | (simp only [hc1]; omega)) (fun c138 => ?_) (fun c138 => ?_)
              · have hkk : ∃ kd : Int, drwS c (W 3) (W 4) y (vr V1) = telS c (W 3) (W 4) kd (y / 8 % (c : Int)) (y / 64 % (c : Int)) (vr V1) ∧ ((kd = 0 ∧ y % 8 ≠ 2 ∧ y % 8 < 5) ∨ (kd = 1 ∧ 5 ≤ y % 8) ∨ (kd = 2 ∧ y % 8 = 2)) := by
                  unfold drwS
                  rw [if_neg (by omega), if_neg (by omega)]
                  by_cases q2 : y % 8 = 2
                  · exact ⟨2, by rw [if_pos q2], by omega⟩
                  · rw [if_neg q2]
                    by_cases q4 : y % 8 ≤ 4
                    · exact ⟨0, by rw [if_pos q4], by omega⟩
                    · exact ⟨1, by rw [if_neg q4], by omega⟩
                obtain ⟨kd, hk1, hk2⟩ := hkk
                have hrg := hinF_rg (c := c) (d := V1 44) (rule := W 4) (said := V1 46) (k := kd) (g := y / 8 % (c : Int)) (w := y / 64 % (c : Int))
                refine wa_ald0 dX7_winter_152 ?_
                refine wa_ild7 dX7_winter_153 ?_
                refine wa_ild8 dX7_winter_155 ?_
                refine wa_ild9 dX7_winter_157 ?_
                refine kX7_159 dX7_winter_159 rfl (by first | assumption | exact hL.1 _ (by decide)) (cm_whyNot (k := kd) hL hr1 hu h8 g1 w1 (fun j => by have := hg1.1 j; dsimp only at this; omega) (by omega)) (by decide) (Nat.le_of_ble_eq_true rfl) ⟨Nat.le_refl _, Nat.le_refl _⟩ (zdI ?_)
                refine wa_if_ne 179 dX7_winter_162 (by decide) (by first | omega | (simp only [hc1]; omega)) (fun c162 => ?_) (fun c162 => ?_)
                · refine wa_iinc5 dX7_winter_179 (by decide) rfl ?_
                  refine wa_goto 43 dX7_winter_182 (by decide) ?_
                  first
                    | exact fin V3 _ _ _ _ ((hs1.trans p2).trans p3).self pv4
                    | exact fin V1 _ _ _ _ hs1 (by rw [hk1, telS, if_neg c162])
                · refine wa_ald0 dX7_winter_165 ?_
                  refine wa_ild7 dX7_winter_166 ?_
                  refine wa_ild8 dX7_winter_168 ?_
                  refine wa_ild9 dX7_winter_170 ?_
                  refine kX7_162 dX7_winter_172 rfl (by first | assumption | exact hL.1 _ (by decide)) (cm_speak (c := c) (k := kd) hL hr1 hu h8 g1 w1 (fun j => by have := hg1.1 j; dsimp only at this; omega) (by omega)) (by decide) (Nat.le_of_ble_eq_true rfl) ⟨Nat.le_refl _, Nat.le_refl _⟩ (zpN fun V2 p2 => ?_)
                  have pv2 := p2.1
                  have h392 := (p2.2.2 39 (by decide) (by decide)).trans h391
                  obtain ⟨pb1, pb2⟩ := spk_pre hu hg1 pv2
                  have hc2 := (p2.2.1 0 (by decide) (by decide)).trans hc1
                  refine wa_ald0 dX7_winter_175 ?_
                  refine kX7_165 dX7_winter_176 rfl (by first | assumption | exact hL.1 _ (by decide)) (cm_collapse hL hc2 h8 pb1 (fun j => by rw [h392]; have := hf j; omega) pb2) (by decide) (Nat.le_of_ble_eq_true rfl) ⟨Nat.le_refl _, Nat.le_refl _⟩ (zpN fun V3 p3 => ?_)
                  have pv4 := (tel_of c162 pv2 h392 p3).trans hk1.symm
                  refine wa_iinc5 dX7_winter_179 (by decide) rfl ?_
                  refine wa_goto 43 dX7_winter_182 (by decide) ?_
                  first
                    | exact fin V3 _ _ _ _ ((hs1.trans p2).trans p3).self pv4
                    | exact fin V1 _ _ _ _ hs1 (by rw [hk1, telS, if_neg c162])
              · refine wa_ald0 dX7_winter_141 ?_
                refine kX7_149 dX7_winter_142 rfl (by first | assumption | exact hL.1 _ (by decide)) (cm_thaw (fgF (V1 46) (V1 47)) (fgF_0 hfl1) hL hc1 h8 (fun j => by have := hg1.1 j; dsimp only at this; omega) (fun g a1 a2 => hfl1.2 g a1 a2)) (by decide) (Nat.le_of_ble_eq_true rfl) ⟨Nat.le_refl _, Nat.le_refl _⟩ (zpN fun V2 p2 => ?_)
                have pv2 : vr V2 = spkS c (W 4) 5 0 0 (vr V1) := by rw [p2.1]; simp [spkS]
                have h392 := (p2.2.2 39 (by decide) (by decide)).trans h391
                obtain ⟨pb1, pb2⟩ := spk_pre hu hg1 pv2
                have hc2 := (p2.2.1 0 (by decide) (by decide)).trans hc1
                refine wa_ald0 dX7_winter_145 ?_
                refine kX7_165 dX7_winter_146 rfl (by first | assumption | exact hL.1 _ (by decide)) (cm_collapse hL hc2 h8 pb1 (fun j => by rw [h392]; have := hf j; omega) pb2) (by decide) (Nat.le_of_ble_eq_true rfl) ⟨Nat.le_refl _, Nat.le_refl _⟩ (zpN fun V3 p3 => ?_)
                have pv3 := tel_of (by rw [hinF, if_pos (by decide)]) pv2 h392 p3
                have pv4 : vr V3 = drwS c (W 3) (W 4) y (vr V1) := by rw [pv3, drwS, if_neg c121, if_pos c138]
                refine wa_goto 179 dX7_winter_149 (by decide) ?_
                refine wa_iinc5 dX7_winter_179 (by decide) rfl ?_
                refine wa_goto 43 dX7_winter_182 (by decide) ?_
                first
                  | exact fin V3 _ _ _ _ ((hs1.trans p2).trans p3).self pv4
                  | exact fin V1 _ _ _ _ hs1 (by rw [hk1, telS, if_neg c162])
            · refine wa_ald0 dX7_winter_124 ?_
              refine kX7_146 dX7_winter_125 rfl (by first | assumption | exact hL.1 _ (by decide)) (cm_night hL hc1 h2 h8 (fun j => by have := hg1.1 j; dsimp only at this; omega)) (by decide) (Nat.le_of_ble_eq_true rfl) ⟨Nat.le_refl _, Nat.le_refl _⟩ (zpN fun V2 p2 => ?_)
              have pv2 : vr V2 = spkS c (W 4) 4 0 0 (vr V1) := by rw [p2.1]; simp [spkS]
              have h392 := (p2.2.2 39 (by decide) (by decide)).trans h391
              obtain ⟨pb1, pb2⟩ := spk_pre hu hg1 pv2
              have hc2 := (p2.2.1 0 (by decide) (by decide)).trans hc1
              refine wa_ald0 dX7_winter_128 ?_
              refine kX7_165 dX7_winter_129 rfl (by first | assumption | exact hL.1 _ (by decide)) (cm_collapse hL hc2 h8 pb1 (fun j => by rw [h392]; have := hf j; omega) pb2) (by decide) (Nat.le_of_ble_eq_true rfl) ⟨Nat.le_refl _, Nat.le_refl _⟩ (zpN fun V3 p3 => ?_)
              have pv3 := tel_of (by rw [hinF, if_pos (by decide)]) pv2 h392 p3
              have pv4 : vr V3 = drwS c (W 3) (W 4) y (vr V1) := by rw [pv3, drwS, if_pos c121]
              refine wa_goto 179 dX7_winter_132 (by decide) ?_
              refine wa_iinc5 dX7_winter_179 (by decide) rfl ?_
              refine wa_goto 43 dX7_winter_182 (by decide) ?_
              first
                | exact fin V3 _ _ _ _ ((hs1.trans p2).trans p3).self pv4
                | exact fin V1 _ _ _ _ hs1 (by rw [hk1, telS, if_neg c162])
          · refine wa_bipush dX7_winter_110 (by decide) ?_
            refine wa_goto 117 dX7_winter_112 (by decide) ?_
            refine wa_ist9 dX7_winter_117 (by decide) rfl ?_
            refine wa_ild6 dX7_winter_119 ?_
            refine wa_if_ne 135 dX7_winter_121 (by decide) (by first | omega | (simp only [hc1]; omega)) (fun c121 => ?_) (fun c121 => ?_)
            · refine wa_ild6 dX7_winter_135 ?_
              refine wa_iconst dX7_winter_137 ?_
              refine wa_icmp_ne 152 dX7_winter_138 (by decide) (by first | omega | (simp only [hc1]; omega)) (by first | omega | (simp only [hc1]; omega)) (fun c138 => ?_) (fun c138 => ?_)
              · have hkk : ∃ kd : Int, drwS c (W 3) (W 4) y (vr V1) = telS c (W 3) (W 4) kd (y / 8 % (c : Int)) (y / 64 % (c : Int)) (vr V1) ∧ ((kd = 0 ∧ y % 8 ≠ 2 ∧ y % 8 < 5) ∨ (kd = 1 ∧ 5 ≤ y % 8) ∨ (kd = 2 ∧ y % 8 = 2)) := by
                  unfold drwS
                  rw [if_neg (by omega), if_neg (by omega)]
                  by_cases q2 : y % 8 = 2
                  · exact ⟨2, by rw [if_pos q2], by omega⟩
                  · rw [if_neg q2]
                    by_cases q4 : y % 8 ≤ 4
                    · exact ⟨0, by rw [if_pos q4], by omega⟩
                    · exact ⟨1, by rw [if_neg q4], by omega⟩
                obtain ⟨kd, hk1, hk2⟩ := hkk
                have hrg := hinF_rg (c := c) (d := V1 44) (rule := W 4) (said := V1 46) (k := kd) (g := y / 8 % (c : Int)) (w := y / 64 % (c : Int))
                refine wa_ald0 dX7_winter_152 ?_
                refine wa_ild7 dX7_winter_153 ?_
                refine wa_ild8 dX7_winter_155 ?_
                refine wa_ild9 dX7_winter_157 ?_
                refine kX7_159 dX7_winter_159 rfl (by first | assumption | exact hL.1 _ (by decide)) (cm_whyNot (k := kd) hL hr1 hu h8 g1 w1 (fun j => by have := hg1.1 j; dsimp only at this; omega) (by omega)) (by decide) (Nat.le_of_ble_eq_true rfl) ⟨Nat.le_refl _, Nat.le_refl _⟩ (zdI ?_)
                refine wa_if_ne 179 dX7_winter_162 (by decide) (by first | omega | (simp only [hc1]; omega)) (fun c162 => ?_) (fun c162 => ?_)
                · refine wa_iinc5 dX7_winter_179 (by decide) rfl ?_
                  refine wa_goto 43 dX7_winter_182 (by decide) ?_
                  first
                    | exact fin V3 _ _ _ _ ((hs1.trans p2).trans p3).self pv4
                    | exact fin V1 _ _ _ _ hs1 (by rw [hk1, telS, if_neg c162])
                · refine wa_ald0 dX7_winter_165 ?_
                  refine wa_ild7 dX7_winter_166 ?_
                  refine wa_ild8 dX7_winter_168 ?_
                  refine wa_ild9 dX7_winter_170 ?_
                  refine kX7_162 dX7_winter_172 rfl (by first | assumption | exact hL.1 _ (by decide)) (cm_speak (c := c) (k := kd) hL hr1 hu h8 g1 w1 (fun j => by have := hg1.1 j; dsimp only at this; omega) (by omega)) (by decide) (Nat.le_of_ble_eq_true rfl) ⟨Nat.le_refl _, Nat.le_refl _⟩ (zpN fun V2 p2 => ?_)
                  have pv2 := p2.1
                  have h392 := (p2.2.2 39 (by decide) (by decide)).trans h391
                  obtain ⟨pb1, pb2⟩ := spk_pre hu hg1 pv2
                  have hc2 := (p2.2.1 0 (by decide) (by decide)).trans hc1
                  refine wa_ald0 dX7_winter_175 ?_
                  refine kX7_165 dX7_winter_176 rfl (by first | assumption | exact hL.1 _ (by decide)) (cm_collapse hL hc2 h8 pb1 (fun j => by rw [h392]; have := hf j; omega) pb2) (by decide) (Nat.le_of_ble_eq_true rfl) ⟨Nat.le_refl _, Nat.le_refl _⟩ (zpN fun V3 p3 => ?_)
                  have pv4 := (tel_of c162 pv2 h392 p3).trans hk1.symm
                  refine wa_iinc5 dX7_winter_179 (by decide) rfl ?_
                  refine wa_goto 43 dX7_winter_182 (by decide) ?_
                  first
                    | exact fin V3 _ _ _ _ ((hs1.trans p2).trans p3).self pv4
                    | exact fin V1 _ _ _ _ hs1 (by rw [hk1, telS, if_neg c162])
              · refine wa_ald0 dX7_winter_141 ?_
                refine kX7_149 dX7_winter_142 rfl (by first | assumption | exact hL.1 _ (by decide)) (cm_thaw (fgF (V1 46) (V1 47)) (fgF_0 hfl1) hL hc1 h8 (fun j => by have := hg1.1 j; dsimp only at this; omega) (fun g a1 a2 => hfl1.2 g a1 a2)) (by decide) (Nat.le_of_ble_eq_true rfl) ⟨Nat.le_refl _, Nat.le_refl _⟩ (zpN fun V2 p2 => ?_)
                have pv2 : vr V2 = spkS c (W 4) 5 0 0 (vr V1) := by rw [p2.1]; simp [spkS]
                have h392 := (p2.2.2 39 (by decide) (by decide)).trans h391
                obtain ⟨pb1, pb2⟩ := spk_pre hu hg1 pv2
                have hc2 := (p2.2.1 0 (by decide) (by decide)).trans hc1
                refine wa_ald0 dX7_winter_145 ?_
                refine kX7_165 dX7_winter_146 rfl (by first | assumption | exact hL.1 _ (by decide)) (cm_collapse hL hc2 h8 pb1 (fun j => by rw [h392]; have := hf j; omega) pb2) (by decide) (Nat.le_of_ble_eq_true rfl) ⟨Nat.le_refl _, Nat.le_refl _⟩ (zpN fun V3 p3 => ?_)
                have pv3 := tel_of (by rw [hinF, if_pos (by decide)]) pv2 h392 p3
                have pv4 : vr V3 = drwS c (W 3) (W 4) y (vr V1) := by rw [pv3, drwS, if_neg c121, if_pos c138]
                refine wa_goto 179 dX7_winter_149 (by decide) ?_
                refine wa_iinc5 dX7_winter_179 (by decide) rfl ?_
                refine wa_goto 43 dX7_winter_182 (by decide) ?_
                first
                  | exact fin V3 _ _ _ _ ((hs1.trans p2).trans p3).self pv4
                  | exact fin V1 _ _ _ _ hs1 (by rw [hk1, telS, if_neg c162])
            · refine wa_ald0 dX7_winter_124 ?_
              refine kX7_146 dX7_winter_125 rfl (by first | assumption | exact hL.1 _ (by decide)) (cm_night hL hc1 h2 h8 (fun j => by have := hg1.1 j; dsimp only at this; omega)) (by decide) (Nat.le_of_ble_eq_true rfl) ⟨Nat.le_refl _, Nat.le_refl _⟩ (zpN fun V2 p2 => ?_)
              have pv2 : vr V2 = spkS c (W 4) 4 0 0 (vr V1) := by rw [p2.1]; simp [spkS]
              have h392 := (p2.2.2 39 (by decide) (by decide)).trans h391
              obtain ⟨pb1, pb2⟩ := spk_pre hu hg1 pv2
              have hc2 := (p2.2.1 0 (by decide) (by decide)).trans hc1
              refine wa_ald0 dX7_winter_128 ?_
              refine kX7_165 dX7_winter_129 rfl (by first | assumption | exact hL.1 _ (by decide)) (cm_collapse hL hc2 h8 pb1 (fun j => by rw [h392]; have := hf j; omega) pb2) (by decide) (Nat.le_of_ble_eq_true rfl) ⟨Nat.le_refl _, Nat.le_refl _⟩ (zpN fun V3 p3 => ?_)
              have pv3 := tel_of (by rw [hinF, if_pos (by decide)]) pv2 h392 p3
              have pv4 : vr V3 = drwS c (W 3) (W 4) y (vr V1) := by rw [pv3, drwS, if_pos c121]
              refine wa_goto 179 dX7_winter_132 (by decide) ?_
              refine wa_iinc5 dX7_winter_179 (by decide) rfl ?_
              refine wa_goto 43 dX7_winter_182 (by decide) ?_
              first
                | exact fin V3 _ _ _ _ ((hs1.trans p2).trans p3).self pv4
                | exact fin V1 _ _ _ _ hs1 (by rw [hk1, telS, if_neg c162])
        · refine wa_bipush dX7_winter_99 (by decide) ?_
          refine wa_goto 117 dX7_winter_101 (by decide) ?_
          refine wa_ist9 dX7_winter_117 (by decide) rfl ?_
          refine wa_ild6 dX7_winter_119 ?_
          refine wa_if_ne 135 dX7_winter_121 (by decide) (by first | omega | (simp only [hc1]; omega)) (fun c121 => ?_) (fun c121 => ?_)
          · refine wa_ild6 dX7_winter_135 ?_
            refine wa_iconst dX7_winter_137 ?_
            refine wa_icmp_ne 152 dX7_winter_138 (by decide) (by first | omega | (simp only [hc1]; omega)) (by first | omega | (simp only [hc1]; omega)) (fun c138 => ?_) (fun c138 => ?_)
            · have hkk : ∃ kd : Int, drwS c (W 3) (W 4) y (vr V1) = telS c (W 3) (W 4) kd (y / 8 % (c : Int)) (y / 64 % (c : Int)) (vr V1) ∧ ((kd = 0 ∧ y % 8 ≠ 2 ∧ y % 8 < 5) ∨ (kd = 1 ∧ 5 ≤ y % 8) ∨ (kd = 2 ∧ y % 8 = 2)) := by
                unfold drwS
                rw [if_neg (by omega), if_neg (by omega)]
                by_cases q2 : y % 8 = 2
                · exact ⟨2, by rw [if_pos q2], by omega⟩
                · rw [if_neg q2]
                  by_cases q4 : y % 8 ≤ 4
                  · exact ⟨0, by rw [if_pos q4], by omega⟩
                  · exact ⟨1, by rw [if_neg q4], by omega⟩
              obtain ⟨kd, hk1, hk2⟩ := hkk
              have hrg := hinF_rg (c := c) (d := V1 44) (rule := W 4) (said := V1 46) (k := kd) (g := y / 8 % (c : Int)) (w := y / 64 % (c : Int))
              refine wa_ald0 dX7_winter_152 ?_
              refine wa_ild7 dX7_winter_153 ?_
              refine wa_ild8 dX7_winter_155 ?_
              refine wa_ild9 dX7_winter_157 ?_
              refine kX7_159 dX7_winter_159 rfl (by first | assumption | exact hL.1 _ (by decide)) (cm_whyNot (k := kd) hL hr1 hu h8 g1 w1 (fun j => by have := hg1.1 j; dsimp only at this; omega) (by omega)) (by decide) (Nat.le_of_ble_eq_true rfl) ⟨Nat.le_refl _, Nat.le_refl _⟩ (zdI ?_)
              refine wa_if_ne 179 dX7_winter_162 (by decide) (by first | omega | (simp only [hc1]; omega)) (fun c162 => ?_) (fun c162 => ?_)
              · refine wa_iinc5 dX7_winter_179 (by decide) rfl ?_
                refine wa_goto 43 dX7_winter_182 (by decide) ?_
                first
                  | exact fin V3 _ _ _ _ ((hs1.trans p2).trans p3).self pv4
                  | exact fin V1 _ _ _ _ hs1 (by rw [hk1, telS, if_neg c162])
              · refine wa_ald0 dX7_winter_165 ?_
                refine wa_ild7 dX7_winter_166 ?_
                refine wa_ild8 dX7_winter_168 ?_
                refine wa_ild9 dX7_winter_170 ?_
                refine kX7_162 dX7_winter_172 rfl (by first | assumption | exact hL.1 _ (by decide)) (cm_speak (c := c) (k := kd) hL hr1 hu h8 g1 w1 (fun j => by have := hg1.1 j; dsimp only at this; omega) (by omega)) (by decide) (Nat.le_of_ble_eq_true rfl) ⟨Nat.le_refl _, Nat.le_refl _⟩ (zpN fun V2 p2 => ?_)
                have pv2 := p2.1
                have h392 := (p2.2.2 39 (by decide) (by decide)).trans h391
                obtain ⟨pb1, pb2⟩ := spk_pre hu hg1 pv2
                have hc2 := (p2.2.1 0 (by decide) (by decide)).trans hc1
                refine wa_ald0 dX7_winter_175 ?_
                refine kX7_165 dX7_winter_176 rfl (by first | assumption | exact hL.1 _ (by decide)) (cm_collapse hL hc2 h8 pb1 (fun j => by rw [h392]; have := hf j; omega) pb2) (by decide) (Nat.le_of_ble_eq_true rfl) ⟨Nat.le_refl _, Nat.le_refl _⟩ (zpN fun V3 p3 => ?_)
                have pv4 := (tel_of c162 pv2 h392 p3).trans hk1.symm
                refine wa_iinc5 dX7_winter_179 (by decide) rfl ?_
                refine wa_goto 43 dX7_winter_182 (by decide) ?_
                first
                  | exact fin V3 _ _ _ _ ((hs1.trans p2).trans p3).self pv4
                  | exact fin V1 _ _ _ _ hs1 (by rw [hk1, telS, if_neg c162])
            · refine wa_ald0 dX7_winter_141 ?_
              refine kX7_149 dX7_winter_142 rfl (by first | assumption | exact hL.1 _ (by decide)) (cm_thaw (fgF (V1 46) (V1 47)) (fgF_0 hfl1) hL hc1 h8 (fun j => by have := hg1.1 j; dsimp only at this; omega) (fun g a1 a2 => hfl1.2 g a1 a2)) (by decide) (Nat.le_of_ble_eq_true rfl) ⟨Nat.le_refl _, Nat.le_refl _⟩ (zpN fun V2 p2 => ?_)
              have pv2 : vr V2 = spkS c (W 4) 5 0 0 (vr V1) := by rw [p2.1]; simp [spkS]
              have h392 := (p2.2.2 39 (by decide) (by decide)).trans h391
              obtain ⟨pb1, pb2⟩ := spk_pre hu hg1 pv2
              have hc2 := (p2.2.1 0 (by decide) (by decide)).trans hc1
              refine wa_ald0 dX7_winter_145 ?_
              refine kX7_165 dX7_winter_146 rfl (by first | assumption | exact hL.1 _ (by decide)) (cm_collapse hL hc2 h8 pb1 (fun j => by rw [h392]; have := hf j; omega) pb2) (by decide) (Nat.le_of_ble_eq_true rfl) ⟨Nat.le_refl _, Nat.le_refl _⟩ (zpN fun V3 p3 => ?_)
              have pv3 := tel_of (by rw [hinF, if_pos (by decide)]) pv2 h392 p3
              have pv4 : vr V3 = drwS c (W 3) (W 4) y (vr V1) := by rw [pv3, drwS, if_neg c121, if_pos c138]
              refine wa_goto 179 dX7_winter_149 (by decide) ?_
              refine wa_iinc5 dX7_winter_179 (by decide) rfl ?_
              refine wa_goto 43 dX7_winter_182 (by decide) ?_
              first
                | exact fin V3 _ _ _ _ ((hs1.trans p2).trans p3).self pv4
                | exact fin V1 _ _ _ _ hs1 (by rw [hk1, telS, if_neg c162])
          · refine wa_ald0 dX7_winter_124 ?_
            refine kX7_146 dX7_winter_125 rfl (by first | assumption | exact hL.1 _ (by decide)) (cm_night hL hc1 h2 h8 (fun j => by have := hg1.1 j; dsimp only at this; omega)) (by decide) (Nat.le_of_ble_eq_true rfl) ⟨Nat.le_refl _, Nat.le_refl _⟩ (zpN fun V2 p2 => ?_)
            have pv2 : vr V2 = spkS c (W 4) 4 0 0 (vr V1) := by rw [p2.1]; simp [spkS]
            have h392 := (p2.2.2 39 (by decide) (by decide)).trans h391
            obtain ⟨pb1, pb2⟩ := spk_pre hu hg1 pv2
            have hc2 := (p2.2.1 0 (by decide) (by decide)).trans hc1
            refine wa_ald0 dX7_winter_128 ?_
            refine kX7_165 dX7_winter_129 rfl (by first | assumption | exact hL.1 _ (by decide)) (cm_collapse hL hc2 h8 pb1 (fun j => by rw [h392]; have := hf j; omega) pb2) (by decide) (Nat.le_of_ble_eq_true rfl) ⟨Nat.le_refl _, Nat.le_refl _⟩ (zpN fun V3 p3 => ?_)
            have pv3 := tel_of (by rw [hinF, if_pos (by decide)]) pv2 h392 p3
            have pv4 : vr V3 = drwS c (W 3) (W 4) y (vr V1) := by rw [pv3, drwS, if_pos c121]
            refine wa_goto 179 dX7_winter_132 (by decide) ?_
            refine wa_iinc5 dX7_winter_179 (by decide) rfl ?_
            refine wa_goto 43 dX7_winter_182 (by decide) ?_
            first
              | exact fin V3 _ _ _ _ ((hs1.trans p2).trans p3).self pv4
              | exact fin V1 _ _ _ _ hs1 (by rw [hk1, telS, if_neg c162])
  refine wa_ild1 dX7_winter_0 ?_
  refine wa_iconst dX7_winter_1 ?_
  refine wa_sipush dX7_winter_2 (by decide) ?_
  refine kX7_91 dX7_winter_5 rfl (cm_in hsd (by decide) (by decide)) (by decide) (Nat.le_of_ble_eq_true rfl) ⟨Nat.le_refl _, Nat.le_refl _⟩ (zdI ?_)
  refine wa_ifeq_B 30 dX7_winter_8 (by decide) (fun c8 => ?_) (fun c8 => ?_)
  · refine wa_bipush dX7_winter_30 (by decide) ?_
    exact wa_ireturn dX7_winter_32 rfl rfl (Nat.le_refl _) (by exact ⟨by rw [if_pos (by omega)], rfl, rfl, rfr_rf⟩)
  · refine wa_ild2 dX7_winter_11 ?_
    refine wa_iconst dX7_winter_12 ?_
    refine wa_bipush dX7_winter_13 (by decide) ?_
    refine kX7_91 dX7_winter_15 rfl (cm_in hm (by decide) (by decide)) (by decide) (Nat.le_of_ble_eq_true rfl) ⟨Nat.le_refl _, Nat.le_refl _⟩ (zdI ?_)
    refine wa_ifeq_B 30 dX7_winter_18 (by decide) (fun c18 => ?_) (fun c18 => ?_)
    · refine wa_bipush dX7_winter_30 (by decide) ?_
      exact wa_ireturn dX7_winter_32 rfl rfl (Nat.le_refl _) (by exact ⟨by rw [if_pos (by omega)], rfl, rfl, rfr_rf⟩)
    · refine wa_ild3 dX7_winter_21 ?_
      refine wa_iconst dX7_winter_22 ?_
      refine wa_iconst dX7_winter_23 ?_
      refine kX7_91 dX7_winter_24 rfl (cm_in hw (by decide) (by decide)) (by decide) (Nat.le_of_ble_eq_true rfl) ⟨Nat.le_refl _, Nat.le_refl _⟩ (zdI ?_)
      refine wa_ifne_B 33 dX7_winter_27 (by decide) (fun c27 => ?_) (fun c27 => ?_)
      · refine wa_ald0 dX7_winter_33 ?_
        refine kX7_168 dX7_winter_34 rfl (by first | assumption | exact hL.1 _ (by decide)) (cm_asNow hL) (by decide) (Nat.le_of_ble_eq_true rfl) ⟨Nat.le_refl _, Nat.le_refl _⟩ (zdN ?_)
        refine wa_ild1 dX7_winter_37 ?_
        refine wa_ist4 dX7_winter_38 (by decide) rfl ?_
        refine wa_iconst dX7_winter_40 ?_
        refine wa_ist5 dX7_winter_41 (by decide) rfl ?_
        rw [if_neg (by omega)]
        exact loop m.toNat 0 sd _ (by omega) c27 (by omega) (by omega) ⟨rfl, fun _ _ _ => rfl, fun _ _ _ => rfl⟩ (by rw [a1]; exact ⟨hd, hs, hfa⟩) (by rw [a1]; exact hfl) (by rw [a1])
      · refine wa_bipush dX7_winter_30 (by decide) ?_
        exact wa_ireturn dX7_winter_32 rfl rfl (Nat.le_refl _) (by exact ⟨by rw [if_pos (by omega)], rfl, rfl, rfr_rf⟩)
