/-! the reference: where -/
theorem wr_ans {c len : Nat} {W : zE} {t b : Nat → Int} {m : Nat} (hm : (wdF c len W).1.length = m) (hm4 : m ≤ 4) : (0 ≤ (bsF (fun a => ownF c (W 3) (W 4) (W 1 3) (wdF c len W).1 a (W 2, W 5) 0) ((c + 1) ^ m)).1 ∧ (bsF (fun a => ownF c (W 3) (W 4) (W 1 3) (wdF c len W).1 a (W 2, W 5) 0) ((c + 1) ^ m)).1 ≤ m) ∧ whS c len W t b = ((bsF (fun a => ownF c (W 3) (W 4) (W 1 3) (wdF c len W).1 a (W 2, W 5) 0) ((c + 1) ^ m)).1, putF c m (bsF (fun a => ownF c (W 3) (W 4) (W 1 3) (wdF c len W).1 a (W 2, W 5) 0) ((c + 1) ^ m)).2 0 t) ∧ (bsF (fun a => ownF c (W 3) (W 4) (W 1 3) (wdF c len W).1 a (W 2, W 5) 0) ((c + 1) ^ m)).2 < (c + 1) ^ m := by
  have h1 := pl_bs (own := fun a => ownF c (W 3) (W 4) (W 1 3) (wdF c len W).1 a (W 2, W 5) 0) (pt := fun a => putF c m a 0 t) (m := (m : Int)) (b := b) (by omega) ((c + 1) ^ m) (fun a _ => by
    have := own_b (c := c) (roof := W 3) (rule := W 4) (f0 := W 1 3) (wdF c len W).1 a (W 2, W 5) 0
    omega)
  have h2 := pl_fold (c := c) (roof := W 3) (rule := W 4) (f0 := W 1 3) (wdF c len W).1 0 (W 2, W 5) t 0 (((wdF c len W).1.length : Int) + 1, b) (by dsimp only; omega)
  have h3 := own_all (c := c) (roof := W 3) (rule := W 4) (f0 := W 1 3) (wdF c len W).1 (W 2, W 5) 0
  rw [hm] at h2 h3
  rcases h1 with ⟨a1, a2, a3⟩ | ⟨a1, a2, a3⟩
  · refine ⟨a1, ?_, a3⟩
    rw [← a2]
    unfold whS
    rw [hm]; exact h2
  · exfalso
    have hp : 0 < (c + 1) ^ m := Nat.pow_pos (by omega)
    have := a3 ((c + 1) ^ m - 1) (by omega)
    omega
theorem cm_where {n c k len : Nat} {S : zH} {Rf : zG} {W V : zE} {F i x : Int} (hL : Lay S Rf) (hI : CI c k len F W) (hR : RI c k len W V) (hi : -2147483648 ≤ i ∧ i ≤ 2147483647) (hx : wrP c len i W x) : Ct 6 0 0 mX7_where [zR 37, zI i] n S Rf V (rQ S Rf V x) := by
  have hI0 := hI
  have hR0 := hR
  obtain ⟨hc, h2, h8, hd, hf, hu, hu3, hs, hflk, hF, hfa, hk, hk8, hsg, hsd, hl, h60, hp, hsc⟩ := hI
  obtain ⟨r0, r38, r39, r40, r41, r3, r4, r7, r8, r9, r10, r11, r42, r13, r43⟩ := hR
  have hq := wd_sg (c := c) (W := W) h60
  have hok : okW c (wdF c len W).1 := prs_ok h2 _ _
  refine ct_of (by decide) rfl (Nat.le_of_ble_eq_true rfl) ?_
  have main : ∀ m : Nat, (wdF c len W).1.length = m → m ≤ 4 → pdW c (W 19) (wdF c len W).1 → (∀ t b, whS c len W t b = whS c len W t b → (i = -1 → x = (bsF (fun a => ownF c (W 3) (W 4) (W 1 3) (wdF c len W).1 a (W 2, W 5) 0) ((c + 1) ^ m)).1) ∧ ((0 ≤ i ∧ i < (m : Int)) → x = (if (bsF (fun a => ownF c (W 3) (W 4) (W 1 3) (wdF c len W).1 a (W 2, W 5) 0) ((c + 1) ^ m)).2 / (c + 1) ^ (m - 1 - i.toNat) % (c + 1) = c then -6 else (((bsF (fun a => ownF c (W 3) (W 4) (W 1 3) (wdF c len W).1 a (W 2, W 5) 0) ((c + 1) ^ m)).2 / (c + 1) ^ (m - 1 - i.toNat) % (c + 1) : Nat) : Int))) ∧ ((i < -1 ∨ (m : Int) ≤ i) → x = -6)) → ∀ V0 : zE, rfr V V0 → V0 37 29 = (m : Int) → Wa zXn mX7_where (zrm 6 0 0) (zZm (rQ S Rf V x) (n + 0) 0 0) 0 0 n S 32 [some (zR 37), some (zI i), none, none, none, none, none, none] [] Rf V0 := by
    intro m hm hm4 hpd hans V0 hf0 hm0
    have hans := hans (fun _ => 0) (fun _ => 0) rfl
    have hbst := (wr_ans (c := c) (len := len) (W := W) (t := fun _ => 0) (b := fun _ => 0) hm hm4).1
    have big : ∀ j, j ≤ 4 → (c + 1) ^ j ≤ 6561 := fun j h => Nat.le_trans (Nat.pow_le_pow_left (show c + 1 ≤ 9 by omega) j) (Nat.le_trans (Nat.pow_le_pow_right (by decide) h) (by decide))
    have hN := big m hm4
    have hob := fun a => own_b (c := c) (roof := W 3) (rule := W 4) (f0 := W 1 3) (wdF c len W).1 a (W 2, W 5) 0
    generalize hown : (fun a => ownF c (W 3) (W 4) (W 1 3) (wdF c len W).1 a (W 2, W 5) 0) = own at hans hbst
    have hob' : ∀ a, own a = 10000000 ∨ (0 ≤ own a ∧ own a ≤ m) := fun a => by rw [← hown]; have := hob a; dsimp only; omega
    have hbs : ∀ a, (0 ≤ (bsF own a).1 ∧ (bsF own a).1 ≤ m) ∨ (bsF own a).1 = 10000000 := fun a => by
      rcases pl_bs (own := own) (pt := fun _ _ => 0) (m := (m : Int)) (b := fun _ => 0) (by omega) a (fun a _ => hob' a) with h | h
      · exact Or.inl h.1
      · exact Or.inr h.1
    have loopC : ∀ (q a : Nat) (V1 : zE) (o5 o6 o7 : Option zV), zok o5 = true → zok o6 = true → a + q = (c + 1) ^ m → rfr V V1 → V1 37 29 = (m : Int) → ((bsF own a).1 ≤ m → ∀ j, j < m → V1 49 j = (((bsF own a).2 / (c + 1) ^ (m - 1 - j) % (c + 1) : Nat) : Int)) → Wa zXn mX7_where (zrm 6 0 0) (zZm (rQ S Rf V x) (n + 0) 0 0) 0 0 n S 65 [some (zR 37), some (zI i), some (zI (((c + 1) ^ m : Nat) : Int)), some (zI (bsF own a).1), some (zI (a : Int)), o5, o6, o7] [] Rf V1 := by
      intro q
      induction q with
      | zero =>
        intro a V1 o5 o6 o7 ho5 ho6 ha hf1 hm1 hbe
        obtain rfl : a = (c + 1) ^ m := by omega
        have r01 := (hf1.2 0 (by decide)).trans r0
        have hb := hbe hbst.2
        have hdg : ∀ j, j < m → 0 ≤ V1 49 j ∧ V1 49 j ≤ (c : Int) := fun j hj => by
          rw [hb j hj]
          have := Nat.mod_lt ((bsF own ((c + 1) ^ m)).2 / (c + 1) ^ (m - 1 - j)) (show 0 < c + 1 by omega)
          omega
        refine wa_ild4 dX7_where_65 ?_
        refine wa_ild2 dX7_where_67 ?_
        refine wa_icmp_ge 174 dX7_where_68 (by decide) (by first | omega | (have := hdg i.toNat (by omega); omega)) (by first | omega | (have := hdg i.toNat (by omega); omega)) (fun c68 => ?_) (fun c68 => ?_)
        · refine wa_ild1 dX7_where_174 ?_
          refine wa_iconst dX7_where_175 ?_
          refine wa_icmp_ne 181 dX7_where_176 (by decide) (by first | omega | (have := hdg i.toNat (by omega); omega)) (by first | omega | (have := hdg i.toNat (by omega); omega)) (fun c176 => ?_) (fun c176 => ?_)
          · refine wa_ild1 dX7_where_181 ?_
            refine wa_iconst dX7_where_182 ?_
            refine wa_ald0 dX7_where_183 ?_
            refine gX7_178 dX7_where_184 rfl (by first | assumption | exact hL.1 _ (by decide)) ?_
            refine wa_iconst dX7_where_187 ?_
            refine wa_isub dX7_where_188 ?_
            refine kX7_91 dX7_where_189 rfl (cm_in hi (by decide) (by omega)) (by decide) (Nat.le_of_ble_eq_true rfl) ⟨Nat.le_refl _, Nat.le_refl _⟩ (zdI ?_)
            refine wa_ifeq_B 217 dX7_where_192 (by decide) (fun c192 => ?_) (fun c192 => ?_)
            · refine wa_bipush dX7_where_217 (by decide) ?_
              refine wa_ireturn dX7_where_219 rfl rfl (Nat.le_refl _) ?_
              refine ⟨?_, rfl, rfl, hf1⟩
              first
                | (have hy := hans.2.1 (by omega)
                   have hz := hb i.toNat (by omega)
                   have hw := hdg i.toNat (by omega)
                   first
                     | (rw [hy, if_pos (by omega)]; done)
                     | (rw [hy, if_neg (by omega), hz]; done))
                | (rw [hans.2.2 (by omega)]; done)
            · refine wa_ald0 dX7_where_195 ?_
              refine gX7_59 dX7_where_196 rfl (by first | assumption | exact hL.1 _ (by decide)) (by first | assumption | exact hL.2 _ _ (by decide)) ?_
              refine wa_ild1 dX7_where_199 ?_
              refine wa_iaload dX7_where_200 (by first | assumption | exact hL.1 _ (by decide)) (by first | omega | (have := hdg i.toNat (by omega); omega)) (by first | decide | omega) ?_
              refine wa_ald0 dX7_where_201 ?_
              refine gX7_7 dX7_where_202 rfl (by first | assumption | exact hL.1 _ (by decide)) ?_
              refine wa_icmp_ge 217 dX7_where_205 (by decide) (by first | omega | (have := hdg i.toNat (by omega); omega)) (by first | omega | (have := hdg i.toNat (by omega); omega)) (fun c205 => ?_) (fun c205 => ?_)
              · refine wa_bipush dX7_where_217 (by decide) ?_
                refine wa_ireturn dX7_where_219 rfl rfl (Nat.le_refl _) ?_
                refine ⟨?_, rfl, rfl, hf1⟩
                first
                  | (have hy := hans.2.1 (by omega)
                     have hz := hb i.toNat (by omega)
                     have hw := hdg i.toNat (by omega)
                     first
                       | (rw [hy, if_pos (by omega)]; done)
                       | (rw [hy, if_neg (by omega), hz]; done))
                  | (rw [hans.2.2 (by omega)]; done)
              · refine wa_ald0 dX7_where_208 ?_
                refine gX7_59 dX7_where_209 rfl (by first | assumption | exact hL.1 _ (by decide)) (by first | assumption | exact hL.2 _ _ (by decide)) ?_
                refine wa_ild1 dX7_where_212 ?_
                refine wa_iaload dX7_where_213 (by first | assumption | exact hL.1 _ (by decide)) (by first | omega | (have := hdg i.toNat (by omega); omega)) (by first | decide | omega) ?_
                refine wa_goto 219 dX7_where_214 (by decide) ?_
                refine wa_ireturn dX7_where_219 rfl rfl (Nat.le_refl _) ?_
                refine ⟨?_, rfl, rfl, hf1⟩
                first
                  | (have hy := hans.2.1 (by omega)
                     have hz := hb i.toNat (by omega)
                     have hw := hdg i.toNat (by omega)
                     first
                       | (rw [hy, if_pos (by omega)]; done)
                       | (rw [hy, if_neg (by omega), hz]; done))
                  | (rw [hans.2.2 (by omega)]; done)
          · refine wa_ild3 dX7_where_179 ?_
            refine wa_ireturn dX7_where_180 rfl rfl (Nat.le_refl _) ?_
            refine ⟨?_, rfl, rfl, hf1⟩
            rw [hans.1 c176]
        · exact absurd c68 (by omega)
      | succ q ih =>
        intro a V1 o5 o6 o7 ho5 ho6 ha hf1 hm1 hbe
        have r01 := (hf1.2 0 (by decide)).trans r0
        have hba := hbs a
        have hoa := hob' a
        have haN : a < (c + 1) ^ m := by omega
        have hstep : bsF own (a + 1) = if own a < (bsF own a).1 then (own a, a) else bsF own a := rfl
        have nxt : ∀ (V4 : zE) (l4 : Int) (o5 o6 o7 : Option zV), zok o5 = true → zok o6 = true → l4 = (bsF own (a + 1)).1 → rfr V V4 → V4 37 29 = (m : Int) → ((bsF own (a + 1)).1 ≤ m → ∀ j, j < m → V4 49 j = (((bsF own (a + 1)).2 / (c + 1) ^ (m - 1 - j) % (c + 1) : Nat) : Int)) → Wa zXn mX7_where (zrm 6 0 0) (zZm (rQ S Rf V x) (n + 0) 0 0) 0 0 n S 168 [some (zR 37), some (zI i), some (zI (((c + 1) ^ m : Nat) : Int)), some (zI l4), some (zI (a : Int)), o5, o6, o7] [] Rf V4 := by
          intro V4 l4 o5 o6 o7 ho5 ho6 hl4 hf4 hm4' hb4
          subst hl4
          have e1 := ih (a + 1) V4 o5 o6 o7 ho5 ho6 (by omega) hf4 hm4' hb4
          refine wa_iinc4 dX7_where_168 (by decide) rfl ?_
          refine wa_goto 65 dX7_where_171 (by decide) ?_
          exact e1
        /- the best is kept -/
        have cpy : ∀ (q j : Nat) (V3 : zE) (f : Nat → Int) (l5 : Int), j + q = m → own a < (bsF own a).1 → rfr V V3 → V3 37 29 = (m : Int) → (∀ j, j < m → V3 48 j = ((a / (c + 1) ^ (m - 1 - j) % (c + 1) : Nat) : Int)) → (∀ p, p < j → f p = V3 48 p) → Wa zXn mX7_where (zrm 6 0 0) (zZm (rQ S Rf V x) (n + 0) 0 0) 0 0 n S 139 [some (zR 37), some (zI i), some (zI (((c + 1) ^ m : Nat) : Int)), some (zI (own a)), some (zI (a : Int)), some (zI l5), some (zI (own a)), some (zI (j : Int))] [] Rf (zp V3 49 f) := by
          intro q
          induction q with
          | zero =>
            intro j V3 f l5 hj hlt hf3 hm3 h48 hfp
            obtain rfl : m = j := by omega
            have hm3' : zp V3 49 f 37 29 = (m : Int) := by rw [zp_n _ _ (by decide)]; exact hm3
            refine wa_ild7 dX7_where_139 ?_
            refine wa_ald0 dX7_where_141 ?_
            refine gX7_178 dX7_where_142 rfl (by first | assumption | exact hL.1 _ (by decide)) ?_
            refine wa_icmp_ge 168 dX7_where_145 (by decide) (by omega) (by omega) (fun c145 => ?_) (fun c145 => ?_)
            · refine nxt _ _ _ _ _ rfl rfl (by rw [hstep, if_pos hlt]) (hf3.trans ⟨fun k a b => by rw [zp_n _ _ (by omega)], fun j a => by rw [zp_n _ _ (by decide)]⟩) hm3' (fun _ p hp => ?_)
              rw [zp_s, hfp p hp, h48 p hp, hstep, if_pos hlt]
            · exact absurd c145 (by omega)
          | succ q ihq =>
            intro j V3 f l5 hj hlt hf3 hm3 h48 hfp
            have hm3' : zp V3 49 f 37 29 = (m : Int) := by rw [zp_n _ _ (by decide)]; exact hm3
            have e1 := ihq (j + 1) V3 (za f j (V3 48 j)) l5 (by omega) hlt hf3 hm3 h48 (fun p hp => by
              by_cases h : p = j
              · rw [h, za_s]
              · rw [za_n _ _ h]; exact hfp p (by omega))
            refine wa_ild7 dX7_where_139 ?_
            refine wa_ald0 dX7_where_141 ?_
            refine gX7_178 dX7_where_142 rfl (by first | assumption | exact hL.1 _ (by decide)) ?_
            refine wa_icmp_ge 168 dX7_where_145 (by decide) (by omega) (by omega) (fun c145 => ?_) (fun c145 => ?_)
            · exact absurd c145 (by omega)
            · refine wa_ald0 dX7_where_148 ?_
              refine gX7_59 dX7_where_149 rfl (by first | assumption | exact hL.1 _ (by decide)) (by first | assumption | exact hL.2 _ _ (by decide)) ?_
              refine wa_ild7 dX7_where_152 ?_
              refine wa_ald0 dX7_where_154 ?_
              refine gX7_56 dX7_where_155 rfl (by first | assumption | exact hL.1 _ (by decide)) (by first | assumption | exact hL.2 _ _ (by decide)) ?_
              refine wa_ild7 dX7_where_158 ?_
              refine wa_iaload dX7_where_160 (by first | assumption | exact hL.1 _ (by decide)) (by omega) (by first | decide | omega) ?_
              refine wa_iastore dX7_where_161 (by first | assumption | exact hL.1 _ (by decide)) (by omega) (by first | decide | omega) ?_
              refine wa_iinc7 dX7_where_162 (by decide) rfl ?_
              refine wa_goto 139 dX7_where_165 (by decide) ?_
              rw [zp_zp, zp_s, zp_n _ _ (show (48 : Nat) ≠ 49 by decide), Int.toNat_natCast]
              exact e1
        /- behind the places -/
        have judge : ∀ (V2 : zE) (l5 k6 : Int) (o7 : Option zV), rfr V V2 → V2 37 29 = (m : Int) → V2 49 = V1 49 → (∀ j, j < m → V2 48 j = ((a / (c + 1) ^ (m - 1 - j) % (c + 1) : Nat) : Int)) → Wa zXn mX7_where (zrm 6 0 0) (zZm (rQ S Rf V x) (n + 0) 0 0) 0 0 n S 121 [some (zR 37), some (zI i), some (zI (((c + 1) ^ m : Nat) : Int)), some (zI (bsF own a).1), some (zI (a : Int)), some (zI l5), some (zI k6), o7] [] Rf V2 := by
          intro V2 l5 k6 o7 hf2 hm2 h49 h48
          have hun : unP c (W 3) (W 4) (W 1 3) (V2 48) (wdF c len W).1 0 (W 2, W 5) 0 = own a := by
            rw [← hown]
            exact un_own (wdF c len W).1 0 a (W 2, W 5) 0 (by rw [hm]; exact haN) (fun p hp => by rw [Nat.zero_add, hm]; exact h48 p (by omega))
          have hU := cm_unsaid (n := n) (ws := (wdF c len W).1) hL hI0 (hR0.go hf2) hm2 hm4 hm hpd (fun j hj => by
            rw [h48 j hj]
            have := Nat.mod_lt (a / (c + 1) ^ (m - 1 - j)) (show 0 < c + 1 by omega)
            omega)
          rw [hun] at hU
          refine wa_ald0 dX7_where_121 ?_
          refine kX7_186 dX7_where_122 rfl (by first | assumption | exact hL.1 _ (by decide)) (hU) (by decide) (Nat.le_of_ble_eq_true rfl) ⟨Nat.le_refl _, Nat.le_refl _⟩ (zpI fun y V3 hp3 => ?_)
          obtain ⟨rfl, hu3⟩ := hp3
          have hf3 := hf2.trans hu3.r
          have hm3 := (hu3.1 29 (by decide)).trans hm2
          have g48 := hu3.2 48 (by decide) (by decide)
          have g49 := (hu3.2 49 (by decide) (by decide)).trans h49
          refine wa_ist6 dX7_where_125 (by decide) rfl ?_
          refine wa_ild6 dX7_where_127 ?_
          refine wa_ild3 dX7_where_129 ?_
          refine wa_icmp_ge 168 dX7_where_130 (by decide) (by omega) (by omega) (fun c130 => ?_) (fun c130 => ?_)
          · refine nxt V3 _ _ _ _ rfl rfl (by rw [hstep, if_neg (by omega)]) hf3 hm3 (fun hle p hp => ?_)
            rw [hstep, if_neg (by omega)] at hle ⊢
            rw [g49]; exact hbe hle p hp
          · refine wa_ild6 dX7_where_133 ?_
            refine wa_ist3 dX7_where_135 (by decide) rfl ?_
            refine wa_iconst dX7_where_136 ?_
            refine wa_ist7 dX7_where_137 (by decide) rfl ?_
            refine wa_eqV (zp_self _ 49).symm (cpy m 0 V3 _ _ (by omega) (by omega) hf3 hm3 (fun p hp => by rw [g48]; exact h48 p hp) (fun p hp => absurd hp (by omega)))
        have dig : ∀ (q r : Nat) (f : Nat → Int) (o7 : Option zV), r + q = m → (∀ j, m - r ≤ j → j < m → f j = ((a / (c + 1) ^ (m - 1 - j) % (c + 1) : Nat) : Int)) → Wa zXn mX7_where (zrm 6 0 0) (zZm (rQ S Rf V x) (n + 0) 0 0) 0 0 n S 83 [some (zR 37), some (zI i), some (zI (((c + 1) ^ m : Nat) : Int)), some (zI (bsF own a).1), some (zI (a : Int)), some (zI ((a / (c + 1) ^ r : Nat) : Int)), some (zI ((m : Int) - 1 - (r : Int))), o7] [] Rf (zp V1 48 f) := by
          intro q
          induction q with
          | zero =>
            intro r f o7 hr hfd
            obtain rfl : m = r := by omega
            refine wa_ild6 dX7_where_83 ?_
            refine wa_if_lt 121 dX7_where_85 (by decide) (by omega) (fun c85 => ?_) (fun c85 => ?_)
            · refine judge _ _ _ _ (hf1.trans ⟨fun k a b => by rw [zp_n _ _ (by omega)], fun j a => by rw [zp_n _ _ (by decide)]⟩) (by rw [zp_n _ _ (by decide)]; exact hm1) (by rw [zp_n _ _ (by decide)]) (fun j hj => by rw [zp_s]; exact hfd j (by omega) hj)
            · exact absurd c85 (by omega)
          | succ q ihq =>
            intro r f o7 hr hfd
            have r02 : zp V1 48 f 37 0 = (c : Int) := by rw [zp_n _ _ (by decide)]; exact r01
            have tk : ((m : Int) - 1 - (r : Int)).toNat = m - 1 - r := by omega
            have hal : a / (c + 1) ^ r ≤ a := Nat.div_le_self _ _
            have hmd : ((a / (c + 1) ^ r : Nat) : Int) % ((c : Int) + 1) = ((a / (c + 1) ^ r % (c + 1) : Nat) : Int) := rfl
            have hdv : ((a / (c + 1) ^ r : Nat) : Int) / ((c : Int) + 1) = ((a / (c + 1) ^ (r + 1) : Nat) : Int) := by
              rw [Nat.pow_succ, ← Nat.div_div_eq_div_mul]; rfl
            have e1 := ihq (r + 1) (za f (m - 1 - r) ((a / (c + 1) ^ r % (c + 1) : Nat) : Int)) o7 (by omega) (fun j h1 h2 => by
              by_cases h : j = m - 1 - r
              · rw [h, za_s, show m - 1 - (m - 1 - r) = r by omega]
              · rw [za_n _ _ h]; exact hfd j (by omega) h2)
            rw [show (m : Int) - 1 - ((r + 1 : Nat) : Int) = (m : Int) - 1 - (r : Int) + -1 by omega] at e1
            generalize hlf : a / (c + 1) ^ r = lf at hal hmd hdv e1 ⊢
            refine wa_ild6 dX7_where_83 ?_
            refine wa_if_lt 121 dX7_where_85 (by decide) (by first | omega | (simp only [r02]; omega) | (simp (decide := true) only [zp_n, ne_eq, r01]; omega)) (fun c85 => ?_) (fun c85 => ?_)
            · exact absurd c85 (by omega)
            · refine wa_ald0 dX7_where_88 ?_
              refine gX7_56 dX7_where_89 rfl (by first | assumption | exact hL.1 _ (by decide)) (by first | assumption | exact hL.2 _ _ (by decide)) ?_
              refine wa_ild6 dX7_where_92 ?_
              refine wa_ild5 dX7_where_94 ?_
              refine wa_ald0 dX7_where_96 ?_
              refine gX7_7 dX7_where_97 rfl (by first | assumption | exact hL.1 _ (by decide)) ?_
              refine wa_iconst dX7_where_100 ?_
              refine wa_iadd dX7_where_101 ?_
              refine wa_irem dX7_where_102 (by first | omega | (simp only [r02]; omega) | (simp (decide := true) only [zp_n, ne_eq, r01]; omega)) (by first | omega | (simp only [r02]; omega) | (simp (decide := true) only [zp_n, ne_eq, r01]; omega)) ?_
              refine wa_iastore dX7_where_103 (by first | assumption | exact hL.1 _ (by decide)) (by first | omega | (simp only [r02]; omega) | (simp (decide := true) only [zp_n, ne_eq, r01]; omega)) (by first | decide | omega) ?_
              refine wa_ild5 dX7_where_104 ?_
              refine wa_ald0 dX7_where_106 ?_
              refine gX7_7 dX7_where_107 rfl (by first | assumption | exact hL.1 _ (by decide)) ?_
              refine wa_iconst dX7_where_110 ?_
              refine wa_iadd dX7_where_111 ?_
              refine wa_idiv dX7_where_112 (by first | omega | (simp only [r02]; omega) | (simp (decide := true) only [zp_n, ne_eq, r01]; omega)) (by first | omega | (simp only [r02]; omega) | (simp (decide := true) only [zp_n, ne_eq, r01]; omega)) ?_
              refine wa_ist5 dX7_where_113 (by decide) rfl ?_
              refine wa_iinc6 dX7_where_115 (by decide) rfl ?_
              refine wa_goto 83 dX7_where_118 (by decide) ?_
              simp (decide := true) only [zp_zp, zp_s, zp_n, ne_eq, r01, tk]
              rw [hmd, hdv]
              exact e1
        refine wa_ild4 dX7_where_65 ?_
        refine wa_ild2 dX7_where_67 ?_
        refine wa_icmp_ge 174 dX7_where_68 (by decide) (by omega) (by omega) (fun c68 => ?_) (fun c68 => ?_)
        · exact absurd c68 (by omega)
        · refine wa_ild4 dX7_where_71 ?_
          refine wa_ist5 dX7_where_73 (by decide) rfl ?_
          refine wa_ald0 dX7_where_75 ?_
          refine gX7_178 dX7_where_76 rfl (by first | assumption | exact hL.1 _ (by decide)) ?_
          refine wa_iconst dX7_where_79 ?_
          refine wa_isub dX7_where_80 ?_
          refine wa_ist6 dX7_where_81 (by decide) rfl ?_
          have e1 := dig m 0 (V1 48) o7 (by omega) (fun j h1 h2 => absurd h1 (by omega))
          rw [Nat.pow_zero, Nat.div_one, zp_self] at e1
          simp only [hm1]
          rw [show (m : Int) - 1 - ((0 : Nat) : Int) = (m : Int) - 1 by omega] at e1
          exact e1
    have loopN : ∀ (q j : Nat), j + q = m → Wa zXn mX7_where (zrm 6 0 0) (zZm (rQ S Rf V x) (n + 0) 0 0) 0 0 n S 36 [some (zR 37), some (zI i), some (zI (((c + 1) ^ j : Nat) : Int)), some (zI (j : Int)), none, none, none, none] [] Rf V0 := by
      intro q
      induction q with
      | zero =>
        intro j hj
        obtain rfl : m = j := by omega
        have e1 := loopC ((c + 1) ^ m) 0 V0 none none none rfl rfl (by omega) hf0 hm0 (fun h => by
          have h5 : (bsF own 0).1 = 10000000 := rfl
          omega)
        refine wa_ild3 dX7_where_36 ?_
        refine wa_ald0 dX7_where_37 ?_
        refine gX7_178 dX7_where_38 rfl (by first | assumption | exact hL.1 _ (by decide)) ?_
        refine wa_icmp_ge 59 dX7_where_41 (by decide) (by omega) (by omega) (fun c41 => ?_) (fun c41 => ?_)
        · refine wa_ldc dX7_where_59 coX7_181 10000000 (by decide) ?_
          refine wa_ist3 dX7_where_61 (by decide) rfl ?_
          refine wa_iconst dX7_where_62 ?_
          refine wa_ist4 dX7_where_63 (by decide) rfl ?_
          exact e1
        · exact absurd c41 (by omega)
      | succ q ihq =>
        intro j hj
        have r00 := (hf0.2 0 (by decide)).trans r0
        have hbj := big j (by omega)
        have e1 := ihq (j + 1) (by omega)
        rw [Nat.pow_succ] at e1
        refine wa_ild3 dX7_where_36 ?_
        refine wa_ald0 dX7_where_37 ?_
        refine gX7_178 dX7_where_38 rfl (by first | assumption | exact hL.1 _ (by decide)) ?_
        refine wa_icmp_ge 59 dX7_where_41 (by decide) (by omega) (by omega) (fun c41 => ?_) (fun c41 => ?_)
        · exact absurd c41 (by omega)
        · refine wa_ild2 dX7_where_44 ?_
          refine wa_ald0 dX7_where_45 ?_
          refine gX7_7 dX7_where_46 rfl (by first | assumption | exact hL.1 _ (by decide)) ?_
          refine wa_iconst dX7_where_49 ?_
          refine wa_iadd dX7_where_50 ?_
          refine wa_imul dX7_where_51 ?_
          refine wa_ist2 dX7_where_52 (by decide) rfl ?_
          refine wa_iinc3 dX7_where_53 (by decide) rfl ?_
          refine wa_goto 36 dX7_where_56 (by decide) ?_
          rw [r00]
          exact e1
    have e1 := loopN m 0 (by omega)
    rw [Nat.pow_zero] at e1
    refine wa_iconst dX7_where_32 ?_
    refine wa_ist2 dX7_where_33 (by decide) rfl ?_
    refine wa_iconst dX7_where_34 ?_
    refine wa_ist3 dX7_where_35 (by decide) rfl ?_
    exact e1
  refine wa_ald0 dX7_where_0 ?_
  refine kX7_182 dX7_where_1 rfl (by first | assumption | exact hL.1 _ (by decide)) (cm_isPlain hL hI0 hR0) (by decide) (Nat.le_of_ble_eq_true rfl) ⟨Nat.le_refl _, Nat.le_refl _⟩ (zpI fun y V1 hp1 => ?_)
  obtain ⟨rfl, hy⟩ := hp1
  have hy01 : y = 0 ∨ y = 1 := by rcases hy with h | h; exact Or.inr h.1; exact Or.inl h.1
  refine wa_if_ne 10 dX7_where_4 (by decide) (by omega) (fun c4 => ?_) (fun c4 => ?_)
  · have hn : plY c len W := by rcases hy with h | h; exact h.2; exfalso; have := h.1; omega
    obtain ⟨n1, n2⟩ := pl_len 60 0 (wdF c len W).1 (by omega) (by omega) (by rw [← hn.1]) hn.2
    refine wa_ald0 dX7_where_10 ?_
    refine gX7_99 dX7_where_11 rfl (by first | assumption | exact hL.1 _ (by decide)) ?_
    refine wa_bipush dX7_where_14 (by decide) ?_
    refine wa_icmp_le 22 dX7_where_16 (by decide) (by omega) (by omega) (fun c16 => ?_) (fun c16 => ?_)
    · refine wa_ald0 dX7_where_22 ?_
      refine wa_ald0 dX7_where_23 ?_
      refine gX7_99 dX7_where_24 rfl (by first | assumption | exact hL.1 _ (by decide)) ?_
      refine wa_iconst dX7_where_27 ?_
      refine wa_idiv dX7_where_28 (by omega) (by omega) ?_
      refine pX7_178 dX7_where_29 rfl (by first | assumption | exact hL.1 _ (by decide)) ?_
      refine main (wdF c len W).1.length rfl (by omega) (fun j z hz => ?_) (fun t b _ => ?_) _ ⟨fun k a b => by rw [zp_n _ _ a], fun j a => by rw [zp_s, za_n _ _ (by omega)]⟩ (by rw [zp_s, za_s]; omega)
      · obtain ⟨z1, z2⟩ := n2 j z hz
        have z3 := hok z (List.mem_of_getElem? hz)
        rw [Nat.zero_add] at z1 z2
        exact ⟨by rw [z1], z3.2.2, z2⟩
      · have hb := fun t b => wr_ans (c := c) (len := len) (W := W) (t := t) (b := b) rfl (show (wdF c len W).1.length ≤ 4 by omega)
        rcases hx with ⟨h, _⟩ | ⟨_, h, _⟩ | ⟨_, _, t', b', h⟩
        · exact absurd hn h
        · exfalso; omega
        · have hw := hb t' b'
          rw [hw.2.1] at h
          dsimp only at h
          refine ⟨fun h1 => ?_, fun h1 => ?_, fun h1 => ?_⟩
          · rcases h with ⟨_, h⟩ | ⟨h, _⟩ | ⟨h, _⟩
            · exact h
            · exfalso; omega
            · exfalso; omega
          · rcases h with ⟨h, _⟩ | ⟨_, h⟩ | ⟨h, _⟩
            · exfalso; omega
            · have h9 := put_at (c := c) (wdF c len W).1.length (bsF (fun a => ownF c (W 3) (W 4) (W 1 3) (wdF c len W).1 a (W 2, W 5) 0) ((c + 1) ^ (wdF c len W).1.length)).2 0 t' i.toNat (by omega) hw.2.2
              rw [Nat.zero_add] at h9
              rw [h, h9]
            · exfalso; omega
          · rcases h with ⟨h, _⟩ | ⟨h, _⟩ | ⟨_, h⟩
            · exfalso; omega
            · exfalso; omega
            · exact h
    · refine wa_bipush dX7_where_19 (by decide) ?_
      refine wa_ireturn dX7_where_21 rfl rfl (Nat.le_refl _) ?_
      refine ⟨?_, rfl, rfl, rfr_rf⟩
      rcases hx with ⟨h, _⟩ | ⟨_, _, h⟩ | ⟨_, h, _⟩
      · exact absurd hn h
      · rw [h]
      · exfalso; omega
  · refine wa_bipush dX7_where_7 (by decide) ?_
    refine wa_ireturn dX7_where_9 rfl rfl (Nat.le_refl _) ?_
    have hn : ¬ plY c len W := by rcases hy with h | h; exfalso; have := h.1; omega; exact h.2
    refine ⟨?_, rfl, rfl, rfr_rf⟩
    rcases hx with ⟨_, h⟩ | ⟨h, _⟩ | ⟨h, _⟩
    · rw [h]
    · exact absurd h hn
    · exact absurd h hn
