/-! the reference: laws -/
def lwR (W : zE) (t l a : Int) : Nat → Int := za (za (za (W 4) 0 t) 1 l) 2 a
def lwT (c k len : Nat) (W : zE) (t l a : Int) : Bool := allB (fun i => (runD c (lwR W t l a) (wdF c len W).1 (fun _ => 0, fun _ => 0)).1 (W 7 i).toNat == W 8 i) k
theorem cm_isLaw {n c k len : Nat} {S : zH} {Rf : zG} {W V : zE} {F : Int} {co : Int} (hL : Lay S Rf) (hI : CI c k len F W) (hR : RI c k len W V) (h6 : (wdF c len W).2 = -6) (hco : 0 ≤ co ∧ co ≤ 555) : Cpi 6 mX7_isLaw [zR 37, zI co] n S Rf V (fun x V' => x = (if lwT c k len W (co / 100) (co / 10 % 10) (co % 10) = true then 1 else 0) ∧ rfr V V') := by
  obtain ⟨hc, h2, h8, hd, hf, hu, hu3, hs, hflk, hF, hfa, hk, hk8, hsg, hsd, hl, h60, hp, hsc⟩ := hI
  obtain ⟨a1, a2⟩ := as_vr hR
  obtain ⟨r0, r38, r39, r40, r41, r3, r4, r7, r8, r9, r10, r11, r42, r13, r43⟩ := hR.go as_r
  refine ct_of (by decide) rfl (Nat.le_of_ble_eq_true rfl) ?_
  have hur : ∀ j, 0 ≤ lwR W (co / 100) (co / 10 % 10) (co % 10) j ∧ lwR W (co / 100) (co / 10 % 10) (co % 10) j ≤ 9 := by
    intro j
    unfold lwR
    by_cases e2 : j = 2
    · subst e2; rw [za_s]; omega
    rw [za_n _ _ e2]
    by_cases e1 : j = 1
    · subst e1; rw [za_s]; omega
    rw [za_n _ _ e1]
    by_cases e0 : j = 0
    · subst e0; rw [za_s]; omega
    rw [za_n _ _ e0]; exact hu j
  have loop : ∀ (m i : Nat) (f h : Nat → Int), i + m = 8 → (∀ j, j < i → f j = 0) → (∀ j, j < i → h j = 0) → Wa zXn mX7_isLaw (zrm 6 0 0) (zZm (qPI S Rf (fun x V' => x = (if lwT c k len W (co / 100) (co / 10 % 10) (co % 10) = true then 1 else 0) ∧ rfr V V')) (n + 0) 0 0) 0 0 n S 6 [some (zR 37), some (zI co), some (zI (i : Int))] [] Rf (zp (zp (asV V) 44 f) 46 h) := by
    intro m
    induction m with
    | zero =>
      intro i f h hi hf0 hh0
      refine wa_row (hL.1 46 (by decide)) (fun _ => 0) (fun j hj => by rw [zp_s]; exact hh0 j (by omega)) ?_
      rw [zp_zp]
      refine wa_row (hL.1 44 (by decide)) (fun _ => 0) (fun j hj => by rw [zp_n _ _ (by decide), zp_s]; exact hf0 j (by omega)) ?_
      rw [zp_comm _ _ _ (show (46 : Nat) ≠ 44 by decide), zp_zp]
      refine wa_ild2 dX7_isLaw_6 ?_
      refine wa_bipush dX7_isLaw_7 (by decide) ?_
      refine wa_icmp_ge 32 dX7_isLaw_9 (by decide) (by first | omega | (split <;> omega)) (by first | omega | (split <;> omega)) (fun c9 => ?_) (fun c9 => ?_)
      · refine wa_ald0 dX7_isLaw_32 ?_
        refine wa_ild1 dX7_isLaw_33 ?_
        refine wa_bipush dX7_isLaw_34 (by decide) ?_
        refine wa_idiv dX7_isLaw_36 (by first | omega | (split <;> omega)) (by first | omega | (split <;> omega)) ?_
        refine pX7_112 dX7_isLaw_37 rfl (by first | assumption | exact hL.1 _ (by decide)) ?_
        refine wa_ald0 dX7_isLaw_40 ?_
        refine wa_ild1 dX7_isLaw_41 ?_
        refine wa_bipush dX7_isLaw_42 (by decide) ?_
        refine wa_idiv dX7_isLaw_44 (by first | omega | (split <;> omega)) (by first | omega | (split <;> omega)) ?_
        refine wa_bipush dX7_isLaw_45 (by decide) ?_
        refine wa_irem dX7_isLaw_47 (by first | omega | (split <;> omega)) (by first | omega | (split <;> omega)) ?_
        refine pX7_115 dX7_isLaw_48 rfl (by first | assumption | exact hL.1 _ (by decide)) ?_
        refine wa_ald0 dX7_isLaw_51 ?_
        refine wa_ild1 dX7_isLaw_52 ?_
        refine wa_bipush dX7_isLaw_53 (by decide) ?_
        refine wa_irem dX7_isLaw_55 (by first | omega | (split <;> omega)) (by first | omega | (split <;> omega)) ?_
        refine pX7_118 dX7_isLaw_56 rfl (by first | assumption | exact hL.1 _ (by decide)) ?_
        refine wa_keepV (fun V1 => V1 44 = (fun _ => 0) ∧ V1 46 = (fun _ => 0) ∧ Rl (lwR W (co / 100) (co / 10 % 10) (co % 10)) V1 ∧ rfr V V1 ∧ V1 37 19 = W 1 3) ⟨?_, ?_, ?_, ⟨fun k a b => ?_, fun j a => ?_⟩, ?_⟩ (fun V1 hV => ?_)
        · simp (decide := true) only [zp_s, zp_n, ne_eq]
        · simp (decide := true) only [zp_s, zp_n, ne_eq]
        · unfold Rl lwR
          simp (decide := true) only [zp_s, zp_n, za_s, za_n, ne_eq, r10, true_and]
        · rw [zp_n _ _ a, zp_n _ _ a, zp_n _ _ a, zp_n _ _ (by omega), zp_n _ _ (by omega)]; exact as_r.1 k a b
        · simp (decide := true) only [zp_s, zp_n, ne_eq]; rw [za_n _ _ (by omega), za_n _ _ (by omega), za_n _ _ (by omega)]; exact as_r.2 j a
        · simp (decide := true) only [zp_s, zp_n, za_n, ne_eq]; exact congrArg (fun z : zSt => z.2.2.2.1) a1
        obtain ⟨v44, v46, vrl, vfr, v19⟩ := hV
        obtain ⟨w0, w38, w39, w40, w41, w3, w4, w7, w8, w9, w10, w11, w42, w13, w43⟩ := hR.go vfr
        refine wa_ald0 dX7_isLaw_59 ?_
        refine wa_iconst dX7_isLaw_60 ?_
        refine kX7_171 dX7_isLaw_61 rfl (by first | assumption | exact hL.1 _ (by decide)) (cm_goFree hL w0 h2 h8 w13 h60 (fun j => by rw [w43]; exact hp j) vrl hur (fun j => by rw [v44]) (fun g _ _ => by rw [v46]) (by rw [v19]; exact hfa) (by rw [w43]; exact h6)) (by decide) (Nat.le_of_ble_eq_true rfl) ⟨Nat.le_refl _, Nat.le_refl _⟩ (zpI fun x V2 p2 => ?_)
        unfold gvP at p2
        rw [w43, v44, v46] at p2
        obtain ⟨p21, p22, p23⟩ := p2
        have vfr2 := vfr.trans p23.r
        obtain ⟨y0, y38, y39, y40, y41, y3, y4, y7, y8, y9, y10, y11, y42, y13, y43⟩ := hR.go vfr2
        refine wa_pop dX7_isLaw_64 rfl ?_
        refine wa_ald0 dX7_isLaw_65 ?_
        refine kX7_204 dX7_isLaw_66 rfl (by first | assumption | exact hL.1 _ (by decide)) (cm_holdsNow hL y11 hk8 y42 hsg hsd p22) (by decide) (Nat.le_of_ble_eq_true rfl) ⟨Nat.le_refl _, Nat.le_refl _⟩ (zdI ?_)
        exact wa_breturn dX7_isLaw_69 rfl rfl (Nat.le_refl _) (by split <;> simp) (by exact ⟨_, rfl, rfl, rfl, by rw [p21]; rfl, vfr2⟩)
      · exact absurd c9 (by omega)
    | succ m ih =>
      intro i f h hi hf0 hh0
      refine wa_ild2 dX7_isLaw_6 ?_
      refine wa_bipush dX7_isLaw_7 (by decide) ?_
      refine wa_icmp_ge 32 dX7_isLaw_9 (by decide) (by omega) (by omega) (fun c9 => ?_) (fun c9 => ?_)
      · exact absurd c9 (by omega)
      · refine wa_ald0 dX7_isLaw_12 ?_
        refine gX7_44 dX7_isLaw_13 rfl (by first | assumption | exact hL.1 _ (by decide)) (by first | assumption | exact hL.2 _ _ (by decide)) ?_
        refine wa_ild2 dX7_isLaw_16 ?_
        refine wa_iconst dX7_isLaw_17 ?_
        refine wa_iastore dX7_isLaw_18 (by first | assumption | exact hL.1 _ (by decide)) (by omega) (by first | decide | omega) ?_
        refine wa_ald0 dX7_isLaw_19 ?_
        refine gX7_50 dX7_isLaw_20 rfl (by first | assumption | exact hL.1 _ (by decide)) (by first | assumption | exact hL.2 _ _ (by decide)) ?_
        refine wa_ild2 dX7_isLaw_23 ?_
        refine wa_iconst dX7_isLaw_24 ?_
        refine wa_iastore dX7_isLaw_25 (by first | assumption | exact hL.1 _ (by decide)) (by omega) (by first | decide | omega) ?_
        refine wa_iinc2 dX7_isLaw_26 (by decide) rfl ?_
        refine wa_goto 6 dX7_isLaw_29 (by decide) ?_
        refine wa_eqV ?_ (ih (i + 1) (za f i 0) (za h i 0) (by omega) (fun j hj => by by_cases q : j = i; subst q; rw [za_s]; rw [za_n _ _ q]; exact hf0 j (by omega)) (fun j hj => by by_cases q : j = i; subst q; rw [za_s]; rw [za_n _ _ q]; exact hh0 j (by omega)))
        rw [Int.toNat_natCast, zp_comm _ _ _ (show (46 : Nat) ≠ 44 by decide), zp_zp]
        simp (decide := true) only [zp_zp, zp_s, zp_n, ne_eq]
  refine wa_ald0 dX7_isLaw_0 ?_
  refine kX7_168 dX7_isLaw_1 rfl (by first | assumption | exact hL.1 _ (by decide)) (cm_asNow hL) (by decide) (Nat.le_of_ble_eq_true rfl) ⟨Nat.le_refl _, Nat.le_refl _⟩ (zdN ?_)
  refine wa_iconst dX7_isLaw_4 ?_
  refine wa_ist2 dX7_isLaw_5 (by decide) rfl ?_
  have h5 := loop 8 0 (asV V 44) (asV V 46) (by omega) (fun j hj => absurd hj (by omega)) (fun j hj => absurd hj (by omega))
  rw [zp_self, zp_self] at h5
  exact h5
theorem cm_laws {n c k len : Nat} {S : zH} {Rf : zG} {W V : zE} {F i : Int} (hL : Lay S Rf) (hI : CI c k len F W) (hR : RI c k len W V) (hi : -2147483648 ≤ i ∧ i ≤ 2147483647) : Ct 7 0 0 mX7_laws [zR 37, zI i] n S Rf V (rQ S Rf V (lwX c k len i W)) := by
  have h60 := hI.2.2.2.2.2.2.2.2.2.2.2.2.2.2.2.2.1
  have hq := wd_sg (c := c) (W := W) h60
  refine ct_of (by decide) rfl (Nat.le_of_ble_eq_true rfl) ?_
  unfold lwX
  have hfit : ∀ p : Nat, fitB c k len W p = lwT c k len W ((p / 36 : Nat) : Int) ((p / 6 % 6 : Nat) : Int) ((p % 6 : Nat) : Int) := fun p => rfl
  generalize hG : fitB c k len W = fit at hfit
  generalize hX : lwG fit i 216 0 0 = X
  have loop : ∀ (m co p f : Nat) (V1 : zE), co + m = 556 → (wdF c len W).2 = -6 → p = 36 * (co / 100) + (if co / 10 % 10 < 6 then 6 * (co / 10 % 10) + min 6 (co % 10) else 36) → f ≤ p → X = lwG fit i (216 - p) p f → rfr V V1 → Wa zXn mX7_laws (zrm 7 0 0) (zZm (rQ S Rf V (X)) (n + 0) 0 0) 0 0 n S 14 [some (zR 37), some (zI i), some (zI (f : Int)), some (zI (co : Int))] [] Rf V1 := by
    intro m
    induction m with
    | zero =>
      intro co p f V1 hm h6 hpp hfp he hf1
      obtain rfl : co = 556 := by omega
      obtain rfl : p = 216 := by rw [hpp]; decide
      rw [lwG] at he
      refine wa_ild3 dX7_laws_14 ?_
      refine wa_sipush dX7_laws_15 (by decide) ?_
      refine wa_icmp_ge 75 dX7_laws_18 (by decide) (by omega) (by omega) (fun c18 => ?_) (fun c18 => ?_)
      · refine wa_ild1 dX7_laws_75 ?_
        refine wa_iconst dX7_laws_76 ?_
        refine wa_icmp_ne 84 dX7_laws_77 (by decide) (by omega) (by omega) (fun c77 => ?_) (fun c77 => ?_)
        · refine wa_bipush dX7_laws_84 (by decide) ?_
          refine wa_ireturn dX7_laws_86 rfl rfl (Nat.le_refl _) ?_
          refine ⟨?_, rfl, rfl, hf1⟩
          rw [he]
          first | rw [if_pos c77] | rw [if_neg c77]
        · refine wa_ild2 dX7_laws_80 ?_
          refine wa_goto 86 dX7_laws_81 (by decide) ?_
          refine wa_ireturn dX7_laws_86 rfl rfl (Nat.le_refl _) ?_
          refine ⟨?_, rfl, rfl, hf1⟩
          rw [he]
          first | rw [if_pos c77] | rw [if_neg c77]
      · exact absurd c18 (by omega)
    | succ m ih =>
      intro co p f V1 hm h6 hpp hfp he hf1
      have hp6 : p ≤ 216 := by
        rw [hpp]; split <;> omega
      have skip : ∀ V2, ¬ (co / 10 % 10 < 6 ∧ co % 10 < 6) → rfr V V2 → Wa zXn mX7_laws (zrm 7 0 0) (zZm (rQ S Rf V (X)) (n + 0) 0 0) 0 0 n S 14 [some (zR 37), some (zI i), some (zI (f : Int)), some (zI ((co : Int) + 1))] [] Rf V2 := by
        intro V2 hno hf2
        refine ih (co + 1) p f V2 (by omega) h6 ?_ hfp he hf2
        rw [hpp]
        by_cases q1 : co / 10 % 10 < 6
        · by_cases q2 : (co + 1) / 10 % 10 < 6
          · rw [if_pos q1, if_pos q2]; omega
          · rw [if_pos q1, if_neg q2]; omega
        · by_cases q2 : (co + 1) / 10 % 10 < 6
          · rw [if_neg q1, if_pos q2]; omega
          · rw [if_neg q1, if_neg q2]; omega
      have hok : co / 10 % 10 < 6 ∧ co % 10 < 6 → p < 216 ∧ p / 36 = co / 100 ∧ p / 6 % 6 = co / 10 % 10 ∧ p % 6 = co % 10 ∧ p + 1 = 36 * ((co + 1) / 100) + (if (co + 1) / 10 % 10 < 6 then 6 * ((co + 1) / 10 % 10) + min 6 ((co + 1) % 10) else 36) := by
        intro hy
        rw [if_pos hy.1] at hpp
        refine ⟨by omega, by omega, by omega, by omega, ?_⟩
        rw [if_pos (by omega)]; omega
      have hit : ∀ V2 f', co / 10 % 10 < 6 ∧ co % 10 < 6 → f' ≤ p + 1 → X = lwG fit i (216 - (p + 1)) (p + 1) f' → rfr V V2 → Wa zXn mX7_laws (zrm 7 0 0) (zZm (rQ S Rf V (X)) (n + 0) 0 0) 0 0 n S 14 [some (zR 37), some (zI i), some (zI (f' : Int)), some (zI ((co : Int) + 1))] [] Rf V2 := by
        intro V2 f' hy hf' he' hf2
        exact ih (co + 1) (p + 1) f' V2 (by omega) h6 (hok hy).2.2.2.2 hf' he' hf2
      refine wa_ild3 dX7_laws_14 ?_
      refine wa_sipush dX7_laws_15 (by decide) ?_
      refine wa_icmp_ge 75 dX7_laws_18 (by decide) (by first | omega | (split <;> omega)) (by first | omega | (split <;> omega)) (fun c18 => ?_) (fun c18 => ?_)
      · exact absurd c18 (by omega)
      · refine wa_ild3 dX7_laws_21 ?_
        refine wa_bipush dX7_laws_22 (by decide) ?_
        refine wa_idiv dX7_laws_24 (by first | omega | (split <;> omega)) (by first | omega | (split <;> omega)) ?_
        refine wa_bipush dX7_laws_25 (by decide) ?_
        refine wa_icmp_ge 69 dX7_laws_27 (by decide) (by first | omega | (split <;> omega)) (by first | omega | (split <;> omega)) (fun c27 => ?_) (fun c27 => ?_)
        · refine wa_iinc3 dX7_laws_69 (by decide) rfl ?_
          refine wa_goto 14 dX7_laws_72 (by decide) ?_
          first
            | exact skip V1 (by omega) hf1
            | (by_cases hft : fit p = true
               · first
                   | (rw [if_pos hft] at c56; exact absurd c56 (by decide))
                   | (rw [if_pos hft, if_neg c61] at he
                      exact hit V2 (f + 1) hy (by omega) (by rw [hr2, he]; rfl) (hf1.trans p22))
               · first
                   | (rw [if_neg hft] at c56; exact absurd rfl c56)
                   | (rw [if_neg hft] at he
                      exact hit V2 f hy (by omega) (by rw [hr2, he]) (hf1.trans p22)))
        · refine wa_ild3 dX7_laws_30 ?_
          refine wa_bipush dX7_laws_31 (by decide) ?_
          refine wa_idiv dX7_laws_33 (by first | omega | (split <;> omega)) (by first | omega | (split <;> omega)) ?_
          refine wa_bipush dX7_laws_34 (by decide) ?_
          refine wa_irem dX7_laws_36 (by first | omega | (split <;> omega)) (by first | omega | (split <;> omega)) ?_
          refine wa_bipush dX7_laws_37 (by decide) ?_
          refine wa_icmp_ge 69 dX7_laws_39 (by decide) (by first | omega | (split <;> omega)) (by first | omega | (split <;> omega)) (fun c39 => ?_) (fun c39 => ?_)
          · refine wa_iinc3 dX7_laws_69 (by decide) rfl ?_
            refine wa_goto 14 dX7_laws_72 (by decide) ?_
            first
              | exact skip V1 (by omega) hf1
              | (by_cases hft : fit p = true
                 · first
                     | (rw [if_pos hft] at c56; exact absurd c56 (by decide))
                     | (rw [if_pos hft, if_neg c61] at he
                        exact hit V2 (f + 1) hy (by omega) (by rw [hr2, he]; rfl) (hf1.trans p22))
                 · first
                     | (rw [if_neg hft] at c56; exact absurd rfl c56)
                     | (rw [if_neg hft] at he
                        exact hit V2 f hy (by omega) (by rw [hr2, he]) (hf1.trans p22)))
          · refine wa_ild3 dX7_laws_42 ?_
            refine wa_bipush dX7_laws_43 (by decide) ?_
            refine wa_irem dX7_laws_45 (by first | omega | (split <;> omega)) (by first | omega | (split <;> omega)) ?_
            refine wa_bipush dX7_laws_46 (by decide) ?_
            refine wa_icmp_ge 69 dX7_laws_48 (by decide) (by first | omega | (split <;> omega)) (by first | omega | (split <;> omega)) (fun c48 => ?_) (fun c48 => ?_)
            · refine wa_iinc3 dX7_laws_69 (by decide) rfl ?_
              refine wa_goto 14 dX7_laws_72 (by decide) ?_
              first
                | exact skip V1 (by omega) hf1
                | (by_cases hft : fit p = true
                   · first
                       | (rw [if_pos hft] at c56; exact absurd c56 (by decide))
                       | (rw [if_pos hft, if_neg c61] at he
                          exact hit V2 (f + 1) hy (by omega) (by rw [hr2, he]; rfl) (hf1.trans p22))
                   · first
                       | (rw [if_neg hft] at c56; exact absurd rfl c56)
                       | (rw [if_neg hft] at he
                          exact hit V2 f hy (by omega) (by rw [hr2, he]) (hf1.trans p22)))
            · refine wa_ald0 dX7_laws_51 ?_
              refine wa_ild3 dX7_laws_52 ?_
              refine kX7_213 dX7_laws_53 rfl (by first | assumption | exact hL.1 _ (by decide)) (cm_isLaw hL hI (hR.go hf1) h6 (by omega)) (by decide) (Nat.le_of_ble_eq_true rfl) ⟨Nat.le_refl _, Nat.le_refl _⟩ (zpI fun x V2 p2 => ?_)
              obtain ⟨p21, p22⟩ := p2
              subst p21
              have hy : co / 10 % 10 < 6 ∧ co % 10 < 6 := by omega
              obtain ⟨o1, o2, o3, o4, o5⟩ := hok hy
              have hfp2 := hfit p
              rw [o2, o3, o4] at hfp2
              rw [show ((co / 100 : Nat) : Int) = (co : Int) / 100 from by omega, show ((co / 10 % 10 : Nat) : Int) = (co : Int) / 10 % 10 from by omega, show ((co % 10 : Nat) : Int) = (co : Int) % 10 from by omega] at hfp2
              rw [← hfp2]
              obtain ⟨r, hr⟩ : ∃ r, 216 - p = r + 1 := ⟨216 - p - 1, by omega⟩
              have hr2 : 216 - (p + 1) = r := by omega
              rw [hr, lwG] at he
              refine wa_if_eq 69 dX7_laws_56 (by decide) (by first | omega | (split <;> omega)) (fun c56 => ?_) (fun c56 => ?_)
              · refine wa_iinc3 dX7_laws_69 (by decide) rfl ?_
                refine wa_goto 14 dX7_laws_72 (by decide) ?_
                first
                  | exact skip V1 (by omega) hf1
                  | (by_cases hft : fit p = true
                     · first
                         | (rw [if_pos hft] at c56; exact absurd c56 (by decide))
                         | (rw [if_pos hft, if_neg c61] at he
                            exact hit V2 (f + 1) hy (by omega) (by rw [hr2, he]; rfl) (hf1.trans p22))
                     · first
                         | (rw [if_neg hft] at c56; exact absurd rfl c56)
                         | (rw [if_neg hft] at he
                            exact hit V2 f hy (by omega) (by rw [hr2, he]) (hf1.trans p22)))
              · refine wa_ild2 dX7_laws_59 ?_
                refine wa_ild1 dX7_laws_60 ?_
                refine wa_icmp_ne 66 dX7_laws_61 (by decide) (by first | omega | (split <;> omega)) (by first | omega | (split <;> omega)) (fun c61 => ?_) (fun c61 => ?_)
                · refine wa_iinc2 dX7_laws_66 (by decide) rfl ?_
                  refine wa_iinc3 dX7_laws_69 (by decide) rfl ?_
                  refine wa_goto 14 dX7_laws_72 (by decide) ?_
                  first
                    | exact skip V1 (by omega) hf1
                    | (by_cases hft : fit p = true
                       · first
                           | (rw [if_pos hft] at c56; exact absurd c56 (by decide))
                           | (rw [if_pos hft, if_neg c61] at he
                              exact hit V2 (f + 1) hy (by omega) (by rw [hr2, he]; rfl) (hf1.trans p22))
                       · first
                           | (rw [if_neg hft] at c56; exact absurd rfl c56)
                           | (rw [if_neg hft] at he
                              exact hit V2 f hy (by omega) (by rw [hr2, he]) (hf1.trans p22)))
                · refine wa_ild3 dX7_laws_64 ?_
                  refine wa_ireturn dX7_laws_65 rfl rfl (Nat.le_refl _) ?_
                  have hft : fit p = true := by
                    by_cases q : fit p = true
                    · exact q
                    · rw [if_neg q] at c56; exact absurd rfl c56
                  rw [if_pos hft, if_pos (by omega)] at he
                  refine ⟨?_, rfl, rfl, hf1.trans p22⟩
                  rw [he]; congr 2; omega
  refine wa_ald0 dX7_laws_0 ?_
  refine kX7_102 dX7_laws_1 rfl (by first | assumption | exact hL.1 _ (by decide)) (cm_flt hL hI hR) (by decide) (Nat.le_of_ble_eq_true rfl) ⟨Nat.le_refl _, Nat.le_refl _⟩ (zdI ?_)
  refine wa_if_lt 10 dX7_laws_4 (by decide) (by omega) (fun c4 => ?_) (fun c4 => ?_)
  · refine wa_iconst dX7_laws_10 ?_
    refine wa_ist2 dX7_laws_11 (by decide) rfl ?_
    refine wa_iconst dX7_laws_12 ?_
    refine wa_ist3 dX7_laws_13 (by decide) rfl ?_
    rw [if_neg (by omega)]
    exact loop 556 0 0 0 V (by omega) (by omega) (by decide) (by omega) hX.symm rfr_rf
  · refine wa_bipush dX7_laws_7 (by decide) ?_
    exact wa_ireturn dX7_laws_9 rfl rfl (Nat.le_refl _) (by exact ⟨by rw [if_pos (by omega)], rfl, rfl, rfr_rf⟩)
