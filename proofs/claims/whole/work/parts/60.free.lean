/-! the reference: a talk by other flakes, whatever can be -/
theorem runD_c {c : Nat} {rule : Nat → Int} {x : Int × Int × Int} {us : List (Int × Int × Int)} {q : zDs} : runD c rule (x :: us) q = runD c rule us (spkD c rule x q) := rfl
theorem spkD_o2 {c : Nat} {rule : Nat → Int} {k g w : Int} {q : zSt} : ((spkS c rule k g w q).1, (spkS c rule k g w q).2.1) = spkD c rule (k, g, w) (q.1, q.2.1) := by
  unfold spkD spkS; (repeat' split) <;> rfl
theorem spkS_o {c : Nat} {rule : Nat → Int} {k g w : Int} {q : zSt} (hg : 0 ≤ g ∧ g < c) (h : ∀ a, c ≤ a → a < 8 → q.2.1 a = 0) : ∀ a, c ≤ a → a < 8 → (spkS c rule k g w q).2.1 a = 0 := by
  intro a h1 h2
  unfold spkS
  (repeat' split) <;> dsimp only
  · rw [za_n _ _ (by omega)]; exact h a h1 h2
  · exact h a h1 h2
  · exact h a h1 h2
  · exact h a h1 h2
def gvP (c : Nat) (rule : Nat → Int) (ws : List (Int × Int × Int)) (V : zE) (_ : Int) (V' : zE) : Prop := V' 44 = (runD c rule ws (V 44, V 46)).1 ∧ (∀ j, 0 ≤ V' 44 j ∧ V' 44 j ≤ 100000) ∧ gfr V V'
theorem cm_goFree {n c len : Nat} {S : zH} {Rf : zG} {V : zE} {rule : Nat → Int} (hL : Lay S Rf) (hc : V 37 0 = (c : Int)) (h2 : 2 ≤ c) (h8 : c ≤ 8) (hl : V 37 13 = (len : Int)) (h60 : len ≤ 60) (hp : ∀ j, 0 ≤ V 43 j ∧ V 43 j ≤ 126) (hr : Rl rule V) (hu : ∀ j, 0 ≤ rule j ∧ rule j ≤ 9) (hd0 : ∀ j, V 44 j = 0) (ho : ∀ g, c ≤ g → g < 8 → V 46 g = 0) (hdn : -2147483648 ≤ V 37 19 ∧ V 37 19 ≤ 2147483647) (h6 : (prs c (sgF (V 43) len) len 60 0).2 = -6) : Cpi 5 mX7_goTalk [zR 37, zI 1] n S Rf V (gvP c rule (prs c (sgF (V 43) len) len 60 0).1 V) := by
  have hln := prs_len (c := c) (s := sgF (V 43) len) (len := len) 60 0
  have hpw0 : prs c (sgF (V 43) len) len 60 0 = ((prs c (sgF (V 43) len) len 60 0).1, -6) := by rw [← h6]
  generalize hws : (prs c (sgF (V 43) len) len 60 0).1 = ws at hln hpw0 ⊢
  refine ct_of (by decide) rfl (Nat.le_of_ble_eq_true rfl) ?_
  have loop : ∀ (f a i : Nat) (us : List (Int × Int × Int)) (V1 : zE), len ≤ a + f → a + 3 * f ≤ 180 → prs c (sgF (V 43) len) len f a = (us, -6) → runD c rule ws (V 44, V 46) = runD c rule us (V1 44, V1 46) → ws.length = i + us.length → V1 37 25 = (i : Int) → V1 37 26 = -6 → V1 37 19 = V 37 19 → (∀ j, 0 ≤ V1 44 j ∧ V1 44 j ≤ 18 * (i : Int)) → (∀ g, c ≤ g → g < 8 → V1 46 g = 0) → gfr V V1 → Wa zXn mX7_goTalk (zrm 5 0 0) (zZm (qPI S Rf (gvP c rule ws V)) (n + 0) 0 0) 0 0 n S 13 [some (zR 37), some (zI 1), some (zI (a : Int)), none, none] [] Rf V1 := by
    intro f
    induction f with
    | zero =>
      intro a i us V1 hf' haf hpr hh hl1 h25 h26 h19 hg1 ho1 hfr
      rw [prs] at hpr
      obtain rfl : [] = us := (Prod.mk.inj hpr).1
      have hl1' := (hfr.1 13 (by decide) (by decide) (by decide) (by decide) (by decide)).trans hl
      refine wa_ild2 dX7_goTalk_13 ?_
      refine wa_ald0 dX7_goTalk_14 ?_
      refine gX7_99 dX7_goTalk_15 rfl (by first | assumption | exact hL.1 _ (by decide)) ?_
      refine wa_icmp_ge 269 dX7_goTalk_18 (by decide) (by omega) (by omega) (fun c18 => ?_) (fun c18 => ?_)
      · refine wa_bipush dX7_goTalk_269 (by decide) ?_
        refine wa_ireturn dX7_goTalk_271 rfl rfl (Nat.le_refl _) ?_
        refine ⟨_, rfl, rfl, rfl, by rw [hh]; rfl, fun j => ?_, hfr⟩
        have := hg1 j; omega
      · exact absurd c18 (by omega)
    | succ f ih =>
      intro a i us V1 hf' haf hpr hh hl1 h25 h26 h19 hg1 ho1 hfr
      have hl1' := (hfr.1 13 (by decide) (by decide) (by decide) (by decide) (by decide)).trans hl
      have hc1 := (hfr.1 0 (by decide) (by decide) (by decide) (by decide) (by decide)).trans hc
      have h43 := hfr.2 43 (by decide) (by decide)
      by_cases hal : len ≤ a
      · rw [prs_out hal] at hpr
        obtain rfl : [] = us := (Prod.mk.inj hpr).1
        refine wa_ild2 dX7_goTalk_13 ?_
        refine wa_ald0 dX7_goTalk_14 ?_
        refine gX7_99 dX7_goTalk_15 rfl (by first | assumption | exact hL.1 _ (by decide)) ?_
        refine wa_icmp_ge 269 dX7_goTalk_18 (by decide) (by omega) (by omega) (fun c18 => ?_) (fun c18 => ?_)
        · refine wa_bipush dX7_goTalk_269 (by decide) ?_
          refine wa_ireturn dX7_goTalk_271 rfl rfl (Nat.le_refl _) ?_
          refine ⟨_, rfl, rfl, rfl, by rw [hh]; rfl, fun j => ?_, hfr⟩
          have := hg1 j; omega
        · exact absurd c18 (by omega)
      have hal' : a < len := by omega
      obtain ⟨s1, s2, s3⟩ := prs_step hal' (by rw [hpr])
      rw [hpr] at s2
      dsimp only at s2
      subst s2
      simp only [List.length_cons] at hl1
      have hw1 := pwF_ok h2 s1
      have hp1 := pwF_rg (c := c) (s := sgF (V 43) len) (a := (a : Int)) (by omega)
      have hcs := pw_cases (by omega) s1
      have hsa := sgF_in (p := V 43) hal'
      have hpa := hp a
      rw [runD_c] at hh
      rcases hpw : pwF c (sgF (V 43) len) (a : Int) with ⟨p1, kd, g, w⟩
      rw [hpw] at s1 s3 hw1 hp1 hh hcs hl1
      dsimp only at s1 s3 hw1 hp1 hh hl1
      have hus : prs c (sgF (V 43) len) len f (a + p1.toNat) = ((prs c (sgF (V 43) len) len f (a + p1.toNat)).1, -6) := by rw [← s3]
      generalize (prs c (sgF (V 43) len) len f (a + p1.toNat)).1 = us at hus hh hl1
      have hd1 : ∀ j, 0 ≤ V1 44 j ∧ V1 44 j ≤ 50000 := fun j => by have := hg1 j; omega
      have hd1' : ∀ j, 0 ≤ V1 44 j ∧ V1 44 j ≤ 100000 := fun j => by have := hg1 j; omega
      /- behind a word -/
      have tail : ∀ (V3 : zE) (a' sv : Int), a' = (a : Int) + p1 → V3 44 = (spkS c rule kd g w (vr V1)).1 → V3 46 = (spkS c rule kd g w (vr V1)).2.1 → V3 37 19 = V1 37 19 → V3 37 24 = 0 → V3 37 25 = (i : Int) → V3 37 26 = -6 → gfr V V3 → Wa zXn mX7_goTalk (zrm 5 0 0) (zZm (qPI S Rf (gvP c rule ws V)) (n + 0) 0 0) 0 0 n S 205 [some (zR 37), some (zI 1), some (zI a'), some (zI sv), some (zI (V1 37 19))] [] Rf V3 := by
        intro V3 a' sv ea hv3 hv4 e19 k24 k25 k26 kfr
        have hd3 := spkS_d (c := c) (k := kd) (g := g) (w := w) (q := vr V1) hg1 hu
        have ho3 := spkS_o (c := c) (rule := rule) (k := kd) (g := g) (w := w) (q := vr V1) hw1.2.1 ho1
        have hsp := spkD_o2 (c := c) (rule := rule) (k := kd) (g := g) (w := w) (q := vr V1)
        rw [← hv3] at hsp hd3
        rw [← hv4] at hsp ho3
        dsimp only at hsp
        rw [← hsp] at hh
        have ea' : a' = ((a + p1.toNat : Nat) : Int) := by omega
        subst ea'
        refine wa_ald0 dX7_goTalk_205 ?_
        refine gX7_143 dX7_goTalk_206 rfl (by first | assumption | exact hL.1 _ (by decide)) ?_
        refine wa_if_le 217 dX7_goTalk_209 (by decide) (by first | omega | (rw [k24]; decide)) (fun c209 => ?_) (fun c209 => absurd c209 (by rw [k24]; decide))
        refine wa_ild1 dX7_goTalk_217 ?_
        refine wa_if_ne 225 dX7_goTalk_218 (by decide) (by first | omega | (rw [k24]; decide)) (fun c218 => ?_) (fun c218 => absurd c218 (by decide))
        refine wa_ald0 dX7_goTalk_225 ?_
        refine wa_ald0 dX7_goTalk_226 ?_
        refine gX7_140 dX7_goTalk_227 rfl (by first | assumption | exact hL.1 _ (by decide)) ?_
        refine wa_if_ge 249 dX7_goTalk_230 (by decide) (by first | omega | (rw [k24]; decide)) (fun c230 => absurd c230 (by rw [k26]; decide)) (fun c230 => ?_)
        refine wa_ald0 dX7_goTalk_233 ?_
        refine gX7_106 dX7_goTalk_234 rfl (by first | assumption | exact hL.1 _ (by decide)) ?_
        refine wa_ild4 dX7_goTalk_237 ?_
        refine wa_icmp_eq 249 dX7_goTalk_239 (by decide) (by first | omega | (rw [k24]; decide)) (by first | omega | (rw [k24]; decide)) (fun c239 => ?_) (fun c239 => absurd c239 (by omega))
        refine wa_ald0 dX7_goTalk_249 ?_
        refine gX7_140 dX7_goTalk_250 rfl (by first | assumption | exact hL.1 _ (by decide)) ?_
        refine pX7_140 dX7_goTalk_253 rfl (by first | assumption | exact hL.1 _ (by decide)) ?_
        refine wa_ald0 dX7_goTalk_256 ?_
        refine wa_dup dX7_goTalk_257 rfl ?_
        refine gX7_137 dX7_goTalk_258 rfl (by first | assumption | exact hL.1 _ (by decide)) ?_
        refine wa_iconst dX7_goTalk_261 ?_
        refine wa_iadd dX7_goTalk_262 ?_
        refine pX7_137 dX7_goTalk_263 rfl (by first | assumption | exact hL.1 _ (by decide)) ?_
        refine wa_goto 13 dX7_goTalk_266 (by decide) ?_
        refine wa_drop4 (wa_drop3 ?_)
        refine ih (a + p1.toNat) (i + 1) us _ (by omega) (by omega) hus ?_ (by omega) ?_ ?_ ?_ (fun j => ?_) ?_ ⟨fun j a1 a2 a3 a4 a5 => ?_, fun k a1 a2 => ?_⟩
        · simp (decide := true) only [zp_s, zp_n, ne_eq]; exact hh
        · simp (decide := true) only [zp_s, za_s, za_n, ne_eq]; rw [k25]; omega
        · simp (decide := true) only [zp_s, za_s, za_n, ne_eq]; exact k26
        · simp (decide := true) only [zp_s, za_s, za_n, ne_eq]; exact e19.trans h19
        · simp (decide := true) only [zp_n, ne_eq]; have := hd3 j; omega
        · simp (decide := true) only [zp_n, ne_eq]; exact ho3
        · simp (decide := true) only [zp_zp, zp_s]; rw [za_n _ _ a4, za_n _ _ a5]; exact kfr.1 j a1 a2 a3 a4 a5
        · rw [zp_n _ _ a1, zp_n _ _ a1]; exact kfr.2 k a1 a2
      rw [hsa] at hcs
      rcases hcs with ⟨hb, hq⟩ | ⟨hb, hq⟩ | ⟨hb, hb1, hb2, hb3, hq⟩ | ⟨hb, hb1, hb2, hb3, hb4, hb5, hq⟩
      · obtain ⟨rfl, rfl, rfl, rfl⟩ : p1 = 1 ∧ kd = 4 ∧ g = 0 ∧ w = 0 := by simpa using hq
        refine wa_ild2 dX7_goTalk_13 ?_
        refine wa_ald0 dX7_goTalk_14 ?_
        refine gX7_99 dX7_goTalk_15 rfl (by first | assumption | exact hL.1 _ (by decide)) ?_
        refine wa_icmp_ge 269 dX7_goTalk_18 (by decide) (by first | omega | (simp only [Int.toNat_natCast, h43]; omega)) (by first | omega | (simp only [Int.toNat_natCast, h43]; omega)) (fun c18 => absurd c18 (by omega)) (fun c18 => ?_)
        refine wa_ald0 dX7_goTalk_21 ?_
        refine gX7_41 dX7_goTalk_22 rfl (by first | assumption | exact hL.1 _ (by decide)) (by first | assumption | exact hL.2 _ _ (by decide)) ?_
        refine wa_ild2 dX7_goTalk_25 ?_
        refine wa_iaload dX7_goTalk_26 (by first | assumption | exact hL.1 _ (by decide)) (by first | omega | (simp only [Int.toNat_natCast, h43]; omega)) (by first | decide | omega) ?_
        simp only [Int.toNat_natCast, h43]
        refine wa_ist3 dX7_goTalk_27 (by decide) rfl ?_
        refine wa_ald0 dX7_goTalk_28 ?_
        refine gX7_106 dX7_goTalk_29 rfl (by first | assumption | exact hL.1 _ (by decide)) ?_
        refine wa_ist4 dX7_goTalk_32 (by decide) rfl ?_
        refine wa_ald0 dX7_goTalk_34 ?_
        refine wa_iconst dX7_goTalk_35 ?_
        refine pX7_143 dX7_goTalk_36 rfl (by first | assumption | exact hL.1 _ (by decide)) ?_
        generalize hV2 : zp V1 37 (za (V1 37) 24 0) = V2
        obtain ⟨t24, t25, t26, t19, t20, t44, t46, t47, tfr⟩ := gt_r0 hV2 hfr
        have tc := (tfr.1 0 (by decide) (by decide) (by decide) (by decide) (by decide)).trans hc
        refine wa_ild3 dX7_goTalk_39 ?_
        refine wa_bipush dX7_goTalk_40 (by decide) ?_
        refine wa_icmp_ne 55 dX7_goTalk_42 (by decide) (by first | omega | (simp only [Int.toNat_natCast, h43]; omega)) (by first | omega | (simp only [Int.toNat_natCast, h43]; omega)) (fun c42 => absurd c42 (by omega)) (fun c42 => ?_)
        refine wa_ald0 dX7_goTalk_45 ?_
        refine kX7_146 dX7_goTalk_46 rfl (by first | assumption | exact hL.1 _ (by decide)) (cm_night hL tc h2 h8 (fun j => by rw [t44]; exact hd1' j)) (by decide) (Nat.le_of_ble_eq_true rfl) ⟨Nat.le_refl _, Nat.le_refl _⟩ (zpN fun V3 q3 => ?_)
        refine wa_iinc2 dX7_goTalk_49 (by decide) rfl ?_
        refine wa_goto 205 dX7_goTalk_52 (by decide) ?_
        have q31 : vr V3 = spkS c rule 4 0 0 (vr V1) := by rw [q3.1, t44, t46, t47, t19, t20]; simp [spkS]
        exact tail V3 _ _ (by omega) (congrArg (fun z : zSt => z.1) q31) (congrArg (fun z : zSt => z.2.1) q31) ((congrArg (fun z : zSt => z.2.2.2.1) q31).trans spk_19) ((q3.2.1 24 (by decide) (by decide)).trans t24) ((q3.2.1 25 (by decide) (by decide)).trans (t25.trans h25)) ((q3.2.1 26 (by decide) (by decide)).trans (t26.trans h26)) (tfr.sm q3)
      · obtain ⟨rfl, rfl, rfl, rfl⟩ : p1 = 1 ∧ kd = 5 ∧ g = 0 ∧ w = 0 := by simpa using hq
        refine wa_ild2 dX7_goTalk_13 ?_
        refine wa_ald0 dX7_goTalk_14 ?_
        refine gX7_99 dX7_goTalk_15 rfl (by first | assumption | exact hL.1 _ (by decide)) ?_
        refine wa_icmp_ge 269 dX7_goTalk_18 (by decide) (by first | omega | (simp only [Int.toNat_natCast, h43]; omega)) (by first | omega | (simp only [Int.toNat_natCast, h43]; omega)) (fun c18 => absurd c18 (by omega)) (fun c18 => ?_)
        refine wa_ald0 dX7_goTalk_21 ?_
        refine gX7_41 dX7_goTalk_22 rfl (by first | assumption | exact hL.1 _ (by decide)) (by first | assumption | exact hL.2 _ _ (by decide)) ?_
        refine wa_ild2 dX7_goTalk_25 ?_
        refine wa_iaload dX7_goTalk_26 (by first | assumption | exact hL.1 _ (by decide)) (by first | omega | (simp only [Int.toNat_natCast, h43]; omega)) (by first | decide | omega) ?_
        simp only [Int.toNat_natCast, h43]
        refine wa_ist3 dX7_goTalk_27 (by decide) rfl ?_
        refine wa_ald0 dX7_goTalk_28 ?_
        refine gX7_106 dX7_goTalk_29 rfl (by first | assumption | exact hL.1 _ (by decide)) ?_
        refine wa_ist4 dX7_goTalk_32 (by decide) rfl ?_
        refine wa_ald0 dX7_goTalk_34 ?_
        refine wa_iconst dX7_goTalk_35 ?_
        refine pX7_143 dX7_goTalk_36 rfl (by first | assumption | exact hL.1 _ (by decide)) ?_
        generalize hV2 : zp V1 37 (za (V1 37) 24 0) = V2
        obtain ⟨t24, t25, t26, t19, t20, t44, t46, t47, tfr⟩ := gt_r0 hV2 hfr
        have tc := (tfr.1 0 (by decide) (by decide) (by decide) (by decide) (by decide)).trans hc
        refine wa_ild3 dX7_goTalk_39 ?_
        refine wa_bipush dX7_goTalk_40 (by decide) ?_
        refine wa_icmp_ne 55 dX7_goTalk_42 (by decide) (by first | omega | (simp only [Int.toNat_natCast, h43]; omega)) (by first | omega | (simp only [Int.toNat_natCast, h43]; omega)) (fun c42 => ?_) (fun c42 => absurd c42 (by omega))
        refine wa_ild3 dX7_goTalk_55 ?_
        refine wa_bipush dX7_goTalk_56 (by decide) ?_
        refine wa_icmp_ne 71 dX7_goTalk_58 (by decide) (by first | omega | (simp only [Int.toNat_natCast, h43]; omega)) (by first | omega | (simp only [Int.toNat_natCast, h43]; omega)) (fun c58 => absurd c58 (by omega)) (fun c58 => ?_)
        refine wa_ald0 dX7_goTalk_61 ?_
        refine kX7_149 dX7_goTalk_62 rfl (by first | assumption | exact hL.1 _ (by decide)) (cm_thaw (fun _ => 0) (fun _ _ => rfl) hL tc h8 (fun j => by rw [t44]; exact hd1' j) (fun g a1 a2 => by rw [t46]; exact ho1 g a1 a2)) (by decide) (Nat.le_of_ble_eq_true rfl) ⟨Nat.le_refl _, Nat.le_refl _⟩ (zpN fun V3 q3 => ?_)
        refine wa_iinc2 dX7_goTalk_65 (by decide) rfl ?_
        refine wa_goto 205 dX7_goTalk_68 (by decide) ?_
        have q31 := q3.1
        rw [t44, t19, t20] at q31
        exact tail V3 _ _ (by omega) ((congrArg (fun z : zSt => z.1) q31).trans (by simp [spkS])) ((congrArg (fun z : zSt => z.2.1) q31).trans (by simp [spkS])) (congrArg (fun z : zSt => z.2.2.2.1) q31) ((q3.2.1 24 (by decide) (by decide)).trans t24) ((q3.2.1 25 (by decide) (by decide)).trans (t25.trans h25)) ((q3.2.1 26 (by decide) (by decide)).trans (t26.trans h26)) (tfr.sm q3)
      · obtain ⟨rfl, rfl, rfl, rfl⟩ : p1 = 2 ∧ kd = 3 ∧ g = V 43 a - 97 ∧ w = 0 := by simpa using hq
        obtain ⟨n1, n2, n3⟩ := sgF_nz (p := V 43) (len := len) (i := (a : Int) + 1) (by omega)
        refine wa_ild2 dX7_goTalk_13 ?_
        refine wa_ald0 dX7_goTalk_14 ?_
        refine gX7_99 dX7_goTalk_15 rfl (by first | assumption | exact hL.1 _ (by decide)) ?_
        refine wa_icmp_ge 269 dX7_goTalk_18 (by decide) (by first | omega | (simp only [Int.toNat_natCast, h43]; omega) | (rw [t43]; omega) | (rw [u24]; decide)) (by first | omega | (simp only [Int.toNat_natCast, h43]; omega) | (rw [t43]; omega) | (rw [u24]; decide)) (fun c18 => absurd c18 (by omega)) (fun c18 => ?_)
        refine wa_ald0 dX7_goTalk_21 ?_
        refine gX7_41 dX7_goTalk_22 rfl (by first | assumption | exact hL.1 _ (by decide)) (by first | assumption | exact hL.2 _ _ (by decide)) ?_
        refine wa_ild2 dX7_goTalk_25 ?_
        refine wa_iaload dX7_goTalk_26 (by first | assumption | exact hL.1 _ (by decide)) (by first | omega | (simp only [Int.toNat_natCast, h43]; omega) | (rw [t43]; omega) | (rw [u24]; decide)) (by first | decide | omega) ?_
        simp only [Int.toNat_natCast, h43]
        refine wa_ist3 dX7_goTalk_27 (by decide) rfl ?_
        refine wa_ald0 dX7_goTalk_28 ?_
        refine gX7_106 dX7_goTalk_29 rfl (by first | assumption | exact hL.1 _ (by decide)) ?_
        refine wa_ist4 dX7_goTalk_32 (by decide) rfl ?_
        refine wa_ald0 dX7_goTalk_34 ?_
        refine wa_iconst dX7_goTalk_35 ?_
        refine pX7_143 dX7_goTalk_36 rfl (by first | assumption | exact hL.1 _ (by decide)) ?_
        generalize hV2 : zp V1 37 (za (V1 37) 24 0) = V2
        obtain ⟨t24, t25, t26, t19, t20, t44, t46, t47, tfr⟩ := gt_r0 hV2 hfr
        have tc := (tfr.1 0 (by decide) (by decide) (by decide) (by decide) (by decide)).trans hc
        have t43 := tfr.2 43 (by decide) (by decide)
        refine wa_ild3 dX7_goTalk_39 ?_
        refine wa_bipush dX7_goTalk_40 (by decide) ?_
        refine wa_icmp_ne 55 dX7_goTalk_42 (by decide) (by first | omega | (simp only [Int.toNat_natCast, h43]; omega) | (rw [t43]; omega) | (rw [u24]; decide)) (by first | omega | (simp only [Int.toNat_natCast, h43]; omega) | (rw [t43]; omega) | (rw [u24]; decide)) (fun c42 => ?_) (fun c42 => absurd c42 (by omega))
        refine wa_ild3 dX7_goTalk_55 ?_
        refine wa_bipush dX7_goTalk_56 (by decide) ?_
        refine wa_icmp_ne 71 dX7_goTalk_58 (by decide) (by first | omega | (simp only [Int.toNat_natCast, h43]; omega) | (rw [t43]; omega) | (rw [u24]; decide)) (by first | omega | (simp only [Int.toNat_natCast, h43]; omega) | (rw [t43]; omega) | (rw [u24]; decide)) (fun c58 => ?_) (fun c58 => absurd c58 (by omega))
        refine wa_ald0 dX7_goTalk_71 ?_
        refine gX7_41 dX7_goTalk_72 rfl (by first | assumption | exact hL.1 _ (by decide)) (by first | assumption | exact hL.2 _ _ (by decide)) ?_
        refine wa_ild2 dX7_goTalk_75 ?_
        refine wa_iconst dX7_goTalk_76 ?_
        refine wa_iadd dX7_goTalk_77 ?_
        refine wa_iaload dX7_goTalk_78 (by first | assumption | exact hL.1 _ (by decide)) (by first | omega | (simp only [Int.toNat_natCast, h43]; omega) | (rw [t43]; omega) | (rw [u24]; decide)) (by first | decide | omega) ?_
        refine wa_bipush dX7_goTalk_79 (by decide) ?_
        refine wa_icmp_ne 129 dX7_goTalk_81 (by decide) (by first | omega | (simp only [Int.toNat_natCast, h43]; omega) | (rw [t43]; omega) | (rw [u24]; decide)) (by first | omega | (simp only [Int.toNat_natCast, h43]; omega) | (rw [t43]; omega) | (rw [u24]; decide)) (fun c81 => absurd c81 (by rw [t43]; omega)) (fun c81 => ?_)
        refine wa_ald0 dX7_goTalk_84 ?_
        refine wa_ild1 dX7_goTalk_85 ?_
        refine wa_if_ne 104 dX7_goTalk_86 (by decide) (by first | omega | (simp only [Int.toNat_natCast, h43]; omega) | (rw [t43]; omega) | (rw [u24]; decide)) (fun c86 => ?_) (fun c86 => absurd c86 (by decide))
        refine wa_iconst dX7_goTalk_104 ?_
        refine pX7_143 dX7_goTalk_105 rfl (by first | assumption | exact hL.1 _ (by decide)) ?_
        generalize hV3 : zp V2 37 (za (V2 37) 24 0) = V3
        obtain ⟨u24, u25, u26, u19, u20, u44, u46, u47, ufr⟩ := gt_r0 hV3 tfr
        have uc := (ufr.1 0 (by decide) (by decide) (by decide) (by decide) (by decide)).trans hc
        refine wa_ald0 dX7_goTalk_108 ?_
        refine gX7_143 dX7_goTalk_109 rfl (by first | assumption | exact hL.1 _ (by decide)) ?_
        refine wa_if_ne 123 dX7_goTalk_112 (by decide) (by first | omega | (simp only [Int.toNat_natCast, h43]; omega) | (rw [t43]; omega) | (rw [u24]; decide)) (fun c112 => absurd c112 (fun h => h u24)) (fun c112 => ?_)
        refine wa_ald0 dX7_goTalk_115 ?_
        refine wa_ild3 dX7_goTalk_116 ?_
        refine wa_bipush dX7_goTalk_117 (by decide) ?_
        refine wa_isub dX7_goTalk_119 ?_
        refine kX7_155 dX7_goTalk_120 rfl (by first | assumption | exact hL.1 _ (by decide)) (cm_salt (rule := rule) (w := 0) hL uc h8 hb (fun j => by rw [u44, t44]; exact hd1' j)) (by decide) (Nat.le_of_ble_eq_true rfl) ⟨Nat.le_refl _, Nat.le_refl _⟩ (zpN fun V4 q4 => ?_)
        refine wa_iinc2 dX7_goTalk_123 (by decide) rfl ?_
        refine wa_goto 205 dX7_goTalk_126 (by decide) ?_
        have q41 := q4.1
        rw [show vr V3 = vr V1 from by simp only [vr]; rw [u44, u46, u47, u19, u20, t44, t46, t47, t19, t20]] at q41
        exact tail V4 _ _ (by omega) (congrArg (fun z : zSt => z.1) q41) (congrArg (fun z : zSt => z.2.1) q41) ((congrArg (fun z : zSt => z.2.2.2.1) q41).trans spk_19) ((q4.2.1 24 (by decide) (by decide)).trans u24) ((q4.2.1 25 (by decide) (by decide)).trans (u25.trans (t25.trans h25))) ((q4.2.1 26 (by decide) (by decide)).trans (u26.trans (t26.trans h26))) (ufr.sm q4)
      · obtain ⟨rfl, rfl, rfl, rfl⟩ : p1 = 3 ∧ kd = kdF (sgF (V 43) len (↑a + 2)) ∧ g = V 43 a - 97 ∧ w = sgF (V 43) len (↑a + 1) - 65 := by simpa using hq
        obtain ⟨n1, n2, n3⟩ := sgF_nz (p := V 43) (len := len) (i := (a : Int) + 1) (by omega)
        have hkh := kdF_h hb5
        obtain ⟨n4, n5, n6⟩ := sgF_nz (p := V 43) (len := len) (i := (a : Int) + 2) (by omega)
        rw [n3] at hb3 hb4 hw1 hh tail
        rw [n6] at hb5 hkh hw1 hh tail
        refine wa_ild2 dX7_goTalk_13 ?_
        refine wa_ald0 dX7_goTalk_14 ?_
        refine gX7_99 dX7_goTalk_15 rfl (by first | assumption | exact hL.1 _ (by decide)) ?_
        refine wa_icmp_ge 269 dX7_goTalk_18 (by decide) (by first | omega | (simp only [Int.toNat_natCast, h43]; omega) | (rw [t43]; omega) | (rw [u24]; decide)) (by first | omega | (simp only [Int.toNat_natCast, h43]; omega) | (rw [t43]; omega) | (rw [u24]; decide)) (fun c18 => absurd c18 (by omega)) (fun c18 => ?_)
        refine wa_ald0 dX7_goTalk_21 ?_
        refine gX7_41 dX7_goTalk_22 rfl (by first | assumption | exact hL.1 _ (by decide)) (by first | assumption | exact hL.2 _ _ (by decide)) ?_
        refine wa_ild2 dX7_goTalk_25 ?_
        refine wa_iaload dX7_goTalk_26 (by first | assumption | exact hL.1 _ (by decide)) (by first | omega | (simp only [Int.toNat_natCast, h43]; omega) | (rw [t43]; omega) | (rw [u24]; decide)) (by first | decide | omega) ?_
        simp only [Int.toNat_natCast, h43]
        refine wa_ist3 dX7_goTalk_27 (by decide) rfl ?_
        refine wa_ald0 dX7_goTalk_28 ?_
        refine gX7_106 dX7_goTalk_29 rfl (by first | assumption | exact hL.1 _ (by decide)) ?_
        refine wa_ist4 dX7_goTalk_32 (by decide) rfl ?_
        refine wa_ald0 dX7_goTalk_34 ?_
        refine wa_iconst dX7_goTalk_35 ?_
        refine pX7_143 dX7_goTalk_36 rfl (by first | assumption | exact hL.1 _ (by decide)) ?_
        generalize hV2 : zp V1 37 (za (V1 37) 24 0) = V2
        obtain ⟨t24, t25, t26, t19, t20, t44, t46, t47, tfr⟩ := gt_r0 hV2 hfr
        have t43 := tfr.2 43 (by decide) (by decide)
        refine wa_ild3 dX7_goTalk_39 ?_
        refine wa_bipush dX7_goTalk_40 (by decide) ?_
        refine wa_icmp_ne 55 dX7_goTalk_42 (by decide) (by first | omega | (simp only [Int.toNat_natCast, h43]; omega) | (rw [t43]; omega) | (rw [u24]; decide)) (by first | omega | (simp only [Int.toNat_natCast, h43]; omega) | (rw [t43]; omega) | (rw [u24]; decide)) (fun c42 => ?_) (fun c42 => absurd c42 (by omega))
        refine wa_ild3 dX7_goTalk_55 ?_
        refine wa_bipush dX7_goTalk_56 (by decide) ?_
        refine wa_icmp_ne 71 dX7_goTalk_58 (by decide) (by first | omega | (simp only [Int.toNat_natCast, h43]; omega) | (rw [t43]; omega) | (rw [u24]; decide)) (by first | omega | (simp only [Int.toNat_natCast, h43]; omega) | (rw [t43]; omega) | (rw [u24]; decide)) (fun c58 => ?_) (fun c58 => absurd c58 (by omega))
        refine wa_ald0 dX7_goTalk_71 ?_
        refine gX7_41 dX7_goTalk_72 rfl (by first | assumption | exact hL.1 _ (by decide)) (by first | assumption | exact hL.2 _ _ (by decide)) ?_
        refine wa_ild2 dX7_goTalk_75 ?_
        refine wa_iconst dX7_goTalk_76 ?_
        refine wa_iadd dX7_goTalk_77 ?_
        refine wa_iaload dX7_goTalk_78 (by first | assumption | exact hL.1 _ (by decide)) (by first | omega | (simp only [Int.toNat_natCast, h43]; omega) | (rw [t43]; omega) | (rw [u24]; decide)) (by first | decide | omega) ?_
        refine wa_bipush dX7_goTalk_79 (by decide) ?_
        refine wa_icmp_ne 129 dX7_goTalk_81 (by decide) (by first | omega | (simp only [Int.toNat_natCast, h43]; omega) | (rw [t43]; omega) | (rw [u24]; decide)) (by first | omega | (simp only [Int.toNat_natCast, h43]; omega) | (rw [t43]; omega) | (rw [u24]; decide)) (fun c81 => ?_) (fun c81 => absurd c81 (by rw [t43]; omega))
        refine wa_ald0 dX7_goTalk_129 ?_
        refine wa_ild1 dX7_goTalk_130 ?_
        refine wa_if_eq 138 dX7_goTalk_131 (by decide) (by first | omega | (simp only [Int.toNat_natCast, h43]; omega) | (rw [t43]; omega) | (rw [u24]; decide)) (fun c131 => absurd c131 (by decide)) (fun c131 => ?_)
        refine wa_iconst dX7_goTalk_134 ?_
        refine wa_goto 165 dX7_goTalk_135 (by decide) ?_
        refine pX7_143 dX7_goTalk_165 rfl (by first | assumption | exact hL.1 _ (by decide)) ?_
        generalize hV3 : zp V2 37 (za (V2 37) 24 0) = V3
        obtain ⟨u24, u25, u26, u19, u20, u44, u46, u47, ufr⟩ := gt_r0 hV3 tfr
        have u43 := ufr.2 43 (by decide) (by decide)
        refine wa_ald0 dX7_goTalk_168 ?_
        refine gX7_143 dX7_goTalk_169 rfl (by first | assumption | exact hL.1 _ (by decide)) ?_
        refine wa_if_ne 202 dX7_goTalk_172 (by decide) (by first | omega | (simp only [Int.toNat_natCast, h43]; omega) | (rw [t43]; omega) | (rw [u24]; decide)) (fun c172 => absurd c172 (fun h => h u24)) (fun c172 => ?_)
        refine wa_ald0 dX7_goTalk_175 ?_
        refine wa_ild3 dX7_goTalk_176 ?_
        refine wa_bipush dX7_goTalk_177 (by decide) ?_
        refine wa_isub dX7_goTalk_179 ?_
        refine wa_ald0 dX7_goTalk_180 ?_
        refine gX7_41 dX7_goTalk_181 rfl (by first | assumption | exact hL.1 _ (by decide)) (by first | assumption | exact hL.2 _ _ (by decide)) ?_
        refine wa_ild2 dX7_goTalk_184 ?_
        refine wa_iconst dX7_goTalk_185 ?_
        refine wa_iadd dX7_goTalk_186 ?_
        refine wa_iaload dX7_goTalk_187 (by first | assumption | exact hL.1 _ (by decide)) (by first | omega | (simp only [Int.toNat_natCast, h43]; omega) | (rw [t43]; omega) | (rw [u24]; decide)) (by first | decide | omega) ?_
        refine wa_bipush dX7_goTalk_188 (by decide) ?_
        refine wa_isub dX7_goTalk_190 ?_
        refine wa_ald0 dX7_goTalk_191 ?_
        refine gX7_41 dX7_goTalk_192 rfl (by first | assumption | exact hL.1 _ (by decide)) (by first | assumption | exact hL.2 _ _ (by decide)) ?_
        refine wa_ild2 dX7_goTalk_195 ?_
        refine wa_iconst dX7_goTalk_196 ?_
        refine wa_iadd dX7_goTalk_197 ?_
        refine wa_iaload dX7_goTalk_198 (by first | assumption | exact hL.1 _ (by decide)) (by first | omega | (simp only [Int.toNat_natCast, h43]; omega) | (rw [t43]; omega) | (rw [u24]; decide)) (by first | decide | omega) ?_
        rw [u43]
        refine kX7_162 dX7_goTalk_199 rfl (by first | assumption | exact hL.1 _ (by decide)) (cm_speak (c := c) hL (ufr.rl hr) hu h8 hb hb4 (fun j => by rw [u44, t44]; exact hd1' j) hkh) (by decide) (Nat.le_of_ble_eq_true rfl) ⟨Nat.le_refl _, Nat.le_refl _⟩ (zpN fun V4 q4 => ?_)
        refine wa_iinc2 dX7_goTalk_202 (by decide) rfl ?_
        have q41 := q4.1
        rw [show vr V3 = vr V1 from by simp only [vr]; rw [u44, u46, u47, u19, u20, t44, t46, t47, t19, t20]] at q41
        exact tail V4 _ _ (by omega) (congrArg (fun z : zSt => z.1) q41) (congrArg (fun z : zSt => z.2.1) q41) ((congrArg (fun z : zSt => z.2.2.2.1) q41).trans spk_19) ((q4.2.1 24 (by decide) (by decide)).trans u24) ((q4.2.1 25 (by decide) (by decide)).trans (u25.trans (t25.trans h25))) ((q4.2.1 26 (by decide) (by decide)).trans (u26.trans (t26.trans h26))) (ufr.sm q4)
  refine wa_ald0 dX7_goTalk_0 ?_
  refine wa_iconst dX7_goTalk_1 ?_
  refine pX7_137 dX7_goTalk_2 rfl (by first | assumption | exact hL.1 _ (by decide)) ?_
  refine wa_ald0 dX7_goTalk_5 ?_
  refine wa_bipush dX7_goTalk_6 (by decide) ?_
  refine pX7_140 dX7_goTalk_8 rfl (by first | assumption | exact hL.1 _ (by decide)) ?_
  refine wa_iconst dX7_goTalk_11 ?_
  refine wa_ist2 dX7_goTalk_12 (by decide) rfl ?_
  refine loop 60 0 0 ws _ (by omega) (by omega) hpw0 ?_ (by omega) ?_ ?_ ?_ (fun j => ?_) ?_ ⟨fun j a1 a2 a3 a4 a5 => ?_, fun k a1 a2 => ?_⟩
  · simp (decide := true) only [zp_n, ne_eq]
  · simp (decide := true) only [zp_s, za_n, za_s, ne_eq]
  · simp (decide := true) only [zp_s, za_s]
  · simp (decide := true) only [zp_s, za_n, ne_eq]
  · simp (decide := true) only [zp_n, ne_eq]; rw [hd0 j]; decide
  · simp (decide := true) only [zp_n, ne_eq]; exact ho
  · simp (decide := true) only [zp_s]; rw [za_n _ _ a5, za_n _ _ a4]
  · rw [zp_n _ _ a1, zp_n _ _ a1]
