/-! the reference: a talk from its signs -/
theorem i32_andor (x y : Int32) : y &&& (x ||| y) = y := by
  apply Int32.toBitVec_inj.mp
  rw [Int32.toBitVec_and, Int32.toBitVec_or]
  ext i hi
  simp only [BitVec.getElem_or, BitVec.getElem_and]
  cases x.toBitVec[i] <;> cases y.toBitVec[i] <;> rfl
theorem zor_ne {x w : Int} (hw : 0 ≤ w ∧ w < 8) : zor x (2 ^ w.toNat) ≠ 0 := by
  intro h
  unfold zor at h
  have h1 : Int32.ofInt x ||| Int32.ofInt (2 ^ w.toNat) = 0 := by
    apply Int32.toInt_inj.mp
    rw [h]; decide
  have h2 := i32_andor (Int32.ofInt x) (Int32.ofInt (2 ^ w.toNat))
  rw [h1] at h2
  have h3 : w.toNat = 0 ∨ w.toNat = 1 ∨ w.toNat = 2 ∨ w.toNat = 3 ∨ w.toNat = 4 ∨ w.toNat = 5 ∨ w.toNat = 6 ∨ w.toNat = 7 := by omega
  rcases h3 with h3 | h3 | h3 | h3 | h3 | h3 | h3 | h3 <;> rw [h3] at h2 <;> exact absurd h2 (by decide)
/-- where nothing was said nothing fell; nothing was said beyond the gardens -/
def flI (c : Nat) (q : zSt) : Prop := (∀ g, g < 8 → q.2.1 g = 0 → ∀ w, w < 8 → q.2.2.1 (8 * g + w) = 0) ∧ ∀ g, c ≤ g → g < 8 → q.2.1 g = 0
theorem fgF_0 {c : Nat} {q : zSt} (h : flI c q) : ∀ j, j < 64 → fgF q.2.1 q.2.2.1 j = 0 := by
  intro j hj
  unfold fgF
  by_cases h0 : q.2.1 (j / 8) = 0
  · rw [if_neg (by simp [h0])]
    have := h.1 (j / 8) (by omega) h0 (j % 8) (by omega)
    rw [Nat.div_add_mod] at this; exact this
  · rw [if_pos h0]
theorem spkS_fl {c : Nat} {rule : Nat → Int} {k g w : Int} {q : zSt} (h8 : c ≤ 8) (hg : 0 ≤ g ∧ g < c) (hw : 0 ≤ w ∧ w < c) (h : flI c q) : flI c (spkS c rule k g w q) := by
  unfold spkS
  split
  · refine ⟨fun a ha h0 b hb => ?_, fun a h1 h2 => ?_⟩
    · dsimp only at h0 ⊢
      by_cases hag : a = g.toNat
      · subst hag; rw [za_s] at h0; exact absurd h0 (zor_ne (by omega))
      · rw [za_n _ _ hag] at h0
        rw [za_n _ _ (by omega)]; exact h.1 a ha h0 b hb
    · dsimp only
      rw [za_n _ _ (by omega)]; exact h.2 a h1 h2
  split
  · exact h
  split
  · exact h
  split
  · exact h
  · exact ⟨fun a ha _ b hb => fgF_0 h _ (by omega), fun _ _ _ => rfl⟩
theorem telS_fl {c : Nat} {roof rule : Nat → Int} {k g w : Int} {q : zSt} (h8 : c ≤ 8) (hg : 0 ≤ g ∧ g < c) (hw : 0 ≤ w ∧ w < c) (h : flI c q) : flI c (telS c roof rule k g w q) := by
  unfold telS
  split
  · exact spkS_fl h8 hg hw h
  · exact h
theorem sgF_in {p : Nat → Int} {len a : Nat} (h : a < len) : sgF p len (a : Int) = p a := by
  rw [sgF, if_pos (by omega), Int.toNat_natCast]
theorem sgF_nz {p : Nat → Int} {len : Nat} {i : Int} (h : sgF p len i ≠ 0) : 0 ≤ i ∧ i < len ∧ sgF p len i = p i.toNat := by
  unfold sgF at h ⊢
  split at h
  · next q => rw [if_pos q]; exact ⟨q.1, q.2, rfl⟩
  · exact absurd rfl h
theorem kdF_h {x : Int} (h : kdF x ≠ -6) : (kdF x = 0 ∧ x = 116) ∨ (kdF x = 1 ∧ x = 108) ∨ (kdF x = 2 ∧ x = 43) := by
  unfold kdF at h ⊢
  split
  · omega
  split
  · omega
  split
  · omega
  · next a b d => rw [if_neg a, if_neg b, if_neg d] at h; exact absurd rfl h
/-- the shapes of a word that can stand -/
theorem pw_cases {c : Nat} {s : Int → Int} {a : Int} (ha : 0 ≤ a) (h : ¬ (pwF c s a).1 < 1) :
    (s a = 46 ∧ pwF c s a = (1, 4, 0, 0)) ∨ (s a = 119 ∧ pwF c s a = (1, 5, 0, 0)) ∨ ((0 ≤ s a - 97 ∧ s a - 97 < c) ∧ s a ≠ 46 ∧ s a ≠ 119 ∧ s (a + 1) = 42 ∧ pwF c s a = (2, 3, s a - 97, 0)) ∨
    ((0 ≤ s a - 97 ∧ s a - 97 < c) ∧ s a ≠ 46 ∧ s a ≠ 119 ∧ s (a + 1) ≠ 42 ∧ (0 ≤ s (a + 1) - 65 ∧ s (a + 1) - 65 < c) ∧ kdF (s (a + 2)) ≠ -6 ∧ pwF c s a = (3, kdF (s (a + 2)), s a - 97, s (a + 1) - 65)) := by
  unfold pwF at h ⊢
  by_cases h1 : s a = 46
  · rw [if_pos h1]; exact Or.inl ⟨h1, rfl⟩
  rw [if_neg h1] at h ⊢
  by_cases h2 : s a = 119
  · rw [if_pos h2]; exact Or.inr (Or.inl ⟨h2, rfl⟩)
  rw [if_neg h2] at h ⊢
  by_cases h3 : ¬ (0 ≤ s a - 97 ∧ s a - 97 < c)
  · rw [if_pos h3] at h; dsimp only at h; omega
  rw [if_neg h3] at h ⊢
  by_cases h4 : s (a + 1) = 42
  · rw [if_pos h4]; exact Or.inr (Or.inr (Or.inl ⟨by omega, h1, h2, h4, rfl⟩))
  rw [if_neg h4] at h ⊢
  by_cases h5 : ¬ (0 ≤ s (a + 1) - 65 ∧ s (a + 1) - 65 < c)
  · rw [if_pos h5] at h; dsimp only at h; omega
  rw [if_neg h5] at h ⊢
  by_cases h6 : kdF (s (a + 2)) = -6
  · rw [if_pos h6] at h; dsimp only at h; omega
  rw [if_neg h6]
  exact Or.inr (Or.inr (Or.inr ⟨by omega, h1, h2, h4, by omega, h6, rfl⟩))
/-- no fault: the next word stands -/
theorem prs_step {c : Nat} {s : Int → Int} {len f a : Nat} (ha : a < len) (h : (prs c s len (f + 1) a).2 = -6) : ¬ (pwF c s a).1 < 1 ∧ (prs c s len (f + 1) a).1 = (pwF c s a).2 :: (prs c s len f (a + (pwF c s a).1.toNat)).1 ∧ (prs c s len f (a + (pwF c s a).1.toNat)).2 = -6 := by
  rw [prs, if_pos ha] at h ⊢
  by_cases h1 : (pwF c s a).1 < 1
  · rw [if_pos h1] at h; dsimp only at h; omega
  · rw [if_neg h1] at h ⊢; exact ⟨h1, rfl, h⟩
theorem prs_out {c : Nat} {s : Int → Int} {len f a : Nat} (ha : len ≤ a) : prs c s len f a = ([], -6) := by
  cases f with
  | zero => rfl
  | succ f => rw [prs, if_neg (by omega)]
/-- what a talk of the reference leaves alone -/
def gfr (V V' : zE) : Prop := (∀ j, j ≠ 19 → j ≠ 20 → j ≠ 24 → j ≠ 25 → j ≠ 26 → V' 37 j = V 37 j) ∧ ∀ k, k ≠ 37 → ¬ (44 ≤ k ∧ k ≤ 47) → V' k = V k
theorem gfr.sm {V V1 V2 : zE} {q : zSt} (h : gfr V V1) (g : smP q V1 V2) : gfr V V2 := ⟨fun j a b d e f => (g.2.1 j a b).trans (h.1 j a b d e f), fun k a b => (g.2.2 k a b).trans (h.2 k a b)⟩
def gtP (c : Nat) (rule : Nat → Int) (ws : List (Int × Int × Int)) (V : zE) (x : Int) (V' : zE) : Prop := x = (hldS c (V 39) rule ws 0 (-6) (vr V)).1 ∧ (0 ≤ x → V' 37 24 = (hldS c (V 39) rule ws 0 (-6) (vr V)).2.1) ∧ V' 37 26 = (hldS c (V 39) rule ws 0 (-6) (vr V)).2.2.1 ∧ (x = -6 → V' 37 25 = (ws.length : Int)) ∧ vr V' = (hldS c (V 39) rule ws 0 (-6) (vr V)).2.2.2 ∧ gfr V V'
section
variable {X : zXt} {μ : zM} {R : Room} {Z : zZt} {ce sl n : Nat} {S : zH} {pc : Nat} {L : List (Option zV)} {st : List zV} {Rf : zG} {V : zE}
theorem wa_keepV (P : zE → Prop) (h : P V) (kk : ∀ V', P V' → Wa X μ R Z ce sl n S pc L st Rf V') : Wa X μ R Z ce sl n S pc L st Rf V := kk _ h
end
theorem gt_r0 {V V1 V2 : zE} {x : Int} (hV2 : zp V1 37 (za (V1 37) 24 x) = V2) (hfr : gfr V V1) : V2 37 24 = x ∧ V2 37 25 = V1 37 25 ∧ V2 37 26 = V1 37 26 ∧ V2 37 19 = V1 37 19 ∧ V2 37 20 = V1 37 20 ∧ V2 44 = V1 44 ∧ V2 46 = V1 46 ∧ V2 47 = V1 47 ∧ gfr V V2 := by
  subst hV2
  refine ⟨?_, ?_, ?_, ?_, ?_, ?_, ?_, ?_, fun j a1 a2 a3 a4 a5 => ?_, fun k a1 a2 => ?_⟩
  · rw [zp_s, za_s]
  · rw [zp_s, za_n _ _ (by decide)]
  · rw [zp_s, za_n _ _ (by decide)]
  · rw [zp_s, za_n _ _ (by decide)]
  · rw [zp_s, za_n _ _ (by decide)]
  · rw [zp_n _ _ (by decide)]
  · rw [zp_n _ _ (by decide)]
  · rw [zp_n _ _ (by decide)]
  · rw [zp_s, za_n _ _ a3]; exact hfr.1 j a1 a2 a3 a4 a5
  · rw [zp_n _ _ a1]; exact hfr.2 k a1 a2
theorem gfr.rl {rule : Nat → Int} {V V1 : zE} (hfr : gfr V V1) (hr : Rl rule V) : Rl rule V1 := by
  unfold Rl at hr ⊢
  rw [hfr.1 21 (by decide) (by decide) (by decide) (by decide) (by decide), hfr.1 22 (by decide) (by decide) (by decide) (by decide) (by decide), hfr.1 23 (by decide) (by decide) (by decide) (by decide) (by decide), hfr.1 10 (by decide) (by decide) (by decide) (by decide) (by decide)]; exact hr
theorem cm_goTalk {n c len : Nat} {S : zH} {Rf : zG} {V : zE} {rule : Nat → Int} (hL : Lay S Rf) (hc : V 37 0 = (c : Int)) (h2 : 2 ≤ c) (h8 : c ≤ 8) (hl : V 37 13 = (len : Int)) (h60 : len ≤ 60) (hp : ∀ j, 0 ≤ V 43 j ∧ V 43 j ≤ 126) (hr : Rl rule V) (hu : ∀ j, 0 ≤ rule j ∧ rule j ≤ 9) (hf : ∀ j, 0 ≤ V 39 j ∧ V 39 j ≤ 999) (hg : sGd (vr V)) (hfl : flI c (vr V)) (h6 : (prs c (sgF (V 43) len) len 60 0).2 = -6) : Cpi 5 mX7_goTalk [zR 37, zI 0] n S Rf V (gtP c rule (prs c (sgF (V 43) len) len 60 0).1 V) := by
  have hln := prs_len (c := c) (s := sgF (V 43) len) (len := len) 60 0
  have hpw0 : prs c (sgF (V 43) len) len 60 0 = ((prs c (sgF (V 43) len) len 60 0).1, -6) := by rw [← h6]
  generalize hws : (prs c (sgF (V 43) len) len 60 0).1 = ws at hln hpw0 ⊢
  refine ct_of (by decide) rfl (Nat.le_of_ble_eq_true rfl) ?_
  have loop : ∀ (f a i : Nat) (ff : Int) (us : List (Int × Int × Int)) (V1 : zE), len ≤ a + f → a + 3 * f ≤ 180 → prs c (sgF (V 43) len) len f a = (us, -6) → hldS c (V 39) rule ws 0 (-6) (vr V) = hldS c (V 39) rule us i ff (vr V1) → ws.length = i + us.length → V1 37 25 = (i : Int) → V1 37 26 = ff → (ff = -6 ∨ 0 ≤ ff ∧ ff ≤ 60) → sGd (vr V1) → flI c (vr V1) → gfr V V1 → Wa zXn mX7_goTalk (zrm 5 0 0) (zZm (qPI S Rf (gtP c rule ws V)) (n + 0) 0 0) 0 0 n S 13 [some (zR 37), some (zI 0), some (zI (a : Int)), none, none] [] Rf V1 := by
    intro f
    induction f with
    | zero =>
      intro a i ff us V1 hf' haf hpr hh hl1 h25 h26 hff hg1 hfl1 hfr
      rw [prs] at hpr
      obtain rfl : [] = us := (Prod.mk.inj hpr).1
      have hl1' := (hfr.1 13 (by decide) (by decide) (by decide) (by decide) (by decide)).trans hl
      rw [hldS] at hh
      refine wa_ild2 dX7_goTalk_13 ?_
      refine wa_ald0 dX7_goTalk_14 ?_
      refine gX7_99 dX7_goTalk_15 rfl (by first | assumption | exact hL.1 _ (by decide)) ?_
      refine wa_icmp_ge 269 dX7_goTalk_18 (by decide) (by omega) (by omega) (fun c18 => ?_) (fun c18 => ?_)
      · refine wa_bipush dX7_goTalk_269 (by decide) ?_
        exact wa_ireturn dX7_goTalk_271 rfl rfl (Nat.le_refl _) (by exact ⟨_, rfl, rfl, rfl, by rw [hh], fun h => absurd h (by decide), by rw [hh]; exact h26, fun _ => by rw [h25, hl1]; simp, by rw [hh], hfr⟩)
      · exact absurd c18 (by omega)
    | succ f ih =>
      intro a i ff us V1 hf' haf hpr hh hl1 h25 h26 hff hg1 hfl1 hfr
      have hl1' := (hfr.1 13 (by decide) (by decide) (by decide) (by decide) (by decide)).trans hl
      have hc1 := (hfr.1 0 (by decide) (by decide) (by decide) (by decide) (by decide)).trans hc
      have h43 := hfr.2 43 (by decide) (by decide)
      have h39 := hfr.2 39 (by decide) (by decide)
      by_cases hal : len ≤ a
      · rw [prs_out hal] at hpr
        obtain rfl : [] = us := (Prod.mk.inj hpr).1
        rw [hldS] at hh
        refine wa_ild2 dX7_goTalk_13 ?_
        refine wa_ald0 dX7_goTalk_14 ?_
        refine gX7_99 dX7_goTalk_15 rfl (by first | assumption | exact hL.1 _ (by decide)) ?_
        refine wa_icmp_ge 269 dX7_goTalk_18 (by decide) (by omega) (by omega) (fun c18 => ?_) (fun c18 => ?_)
        · refine wa_bipush dX7_goTalk_269 (by decide) ?_
          exact wa_ireturn dX7_goTalk_271 rfl rfl (Nat.le_refl _) (by exact ⟨_, rfl, rfl, rfl, by rw [hh], fun h => absurd h (by decide), by rw [hh]; exact h26, fun _ => by rw [h25, hl1]; simp, by rw [hh], hfr⟩)
        · exact absurd c18 (by omega)
      have hal' : a < len := by omega
      obtain ⟨s1, s2, s3⟩ := prs_step hal' (by rw [hpr])
      rw [hpr] at s2
      dsimp only at s2
      subst s2
      simp only [List.length_cons] at hl1
      have hw1 := pwF_ok h2 s1
      have hp1 := pwF_rg (c := c) (s := sgF (V 43) len) (a := (a : Int)) (by omega)
      have hcs := pw_cases (by omega) s1
      have hsa := sgF_in (p := V 43) hal'
      have hpa := hp a
      have hdr := hg1.2.2
      rw [hldS] at hh
      rcases hpw : pwF c (sgF (V 43) len) (a : Int) with ⟨p1, kd, g, w⟩
      rw [hpw] at s1 s3 hw1 hp1 hh hcs hl1
      dsimp only at s1 s3 hw1 hp1 hh hl1
      have hus : prs c (sgF (V 43) len) len f (a + p1.toNat) = ((prs c (sgF (V 43) len) len f (a + p1.toNat)).1, -6) := by rw [← s3]
      generalize (prs c (sgF (V 43) len) len f (a + p1.toNat)).1 = us at hus hh hl1
      /- behind a word that can be -/
      have tail : ∀ (V3 : zE) (a' sv : Int), a' = (a : Int) + p1 → hinF c (V1 44) rule (V1 46) kd g w = 0 → vr V3 = spkS c rule kd g w (vr V1) → V3 37 24 = 0 → V3 37 25 = (i : Int) → V3 37 26 = ff → gfr V V3 → Wa zXn mX7_goTalk (zrm 5 0 0) (zZm (qPI S Rf (gtP c rule ws V)) (n + 0) 0 0) 0 0 n S 205 [some (zR 37), some (zI 0), some (zI a'), some (zI sv), some (zI (V1 37 19))] [] Rf V3 := by
        intro V3 a' sv ea h0 hv3 k24 k25 k26 kfr
        have hc3 := (kfr.1 0 (by decide) (by decide) (by decide) (by decide) (by decide)).trans hc
        have h393 := kfr.2 39 (by decide) (by decide)
        have hd3 : ∀ j, 0 ≤ V3 44 j ∧ V3 44 j ≤ 100000 := fun j => by
          have := spkS_d (c := c) (k := kd) (g := g) (w := w) hg1.1 hu j
          rw [← hv3] at this; dsimp only at this; omega
        have e19 : V3 37 19 = V1 37 19 := by
          have h5 : (vr V3).2.2.2.1 = V1 37 19 := by rw [hv3]; unfold spkS; (repeat' split) <;> rfl
          exact h5
        have hts : telS c (V 39) rule kd g w (vr V1) = (V3 44, V3 46, V3 47, zor (V3 37 19) (ovl (V3 44) (V3 39) c), V3 37 20) := by
          rw [telS, if_pos h0, ← hv3, h393, zor_an, e19]
        rw [if_pos h0] at hh
        generalize hif : (if ff = -6 ∧ (telS c (V 39) rule kd g w (vr V1)).2.2.2.1 ≠ V1 37 19 then (i : Int) else ff) = ff2 at hh
        rw [hts] at hif
        dsimp only at hif
        have hg4 := telS_g (c := c) (roof := V 39) (rule := rule) (k := kd) (g := g) (w := w) (q := vr V1) hw1.1 hu hg1
        have hf4 := telS_fl (c := c) (roof := V 39) (rule := rule) (k := kd) (g := g) (w := w) (q := vr V1) h8 hw1.2.1 hw1.2.2 hfl1
        rw [hts] at hh hg4 hf4
        have ea' : a' = ((a + p1.toNat : Nat) : Int) := by omega
        subst ea'
        refine wa_ald0 dX7_goTalk_205 ?_
        refine gX7_143 dX7_goTalk_206 rfl (by first | assumption | exact hL.1 _ (by decide)) ?_
        refine wa_if_le 217 dX7_goTalk_209 (by decide) (by first | omega | (rw [k24]; decide)) (fun c209 => ?_) (fun c209 => absurd c209 (by rw [k24]; decide))
        refine wa_ild1 dX7_goTalk_217 ?_
        refine wa_if_ne 225 dX7_goTalk_218 (by decide) (by first | omega | (rw [k24]; decide)) (fun c218 => absurd c218 (by decide)) (fun c218 => ?_)
        refine wa_ald0 dX7_goTalk_221 ?_
        refine kX7_165 dX7_goTalk_222 rfl (by first | assumption | exact hL.1 _ (by decide)) (cm_collapse hL hc3 h8 hd3 (fun j => by rw [h393]; have := hf j; omega) (by rw [e19]; exact hdr)) (by decide) (Nat.le_of_ble_eq_true rfl) ⟨Nat.le_refl _, Nat.le_refl _⟩ (zpN fun V4 q4 => ?_)
        have m25 := (q4.2.1 25 (by decide) (by decide)).trans k25
        have m26 := (q4.2.1 26 (by decide) (by decide)).trans k26
        have m19 : V4 37 19 = zor (V3 37 19) (ovl (V3 44) (V3 39) c) := congrArg (fun z : zSt => z.2.2.2.1) q4.1
        have z19 := zor_rg (V3 37 19) (ovl (V3 44) (V3 39) c)
        have kfr4 := kfr.sm q4
        rw [← q4.1] at hh hg4 hf4
        refine wa_ald0 dX7_goTalk_225 ?_
        refine wa_ald0 dX7_goTalk_226 ?_
        refine gX7_140 dX7_goTalk_227 rfl (by first | assumption | exact hL.1 _ (by decide)) ?_
        refine wa_if_ge 249 dX7_goTalk_230 (by decide) (by first | omega | (rw [k24]; decide)) (fun c230 => ?_) (fun c230 => ?_)
        · refine wa_ald0 dX7_goTalk_249 ?_
          refine gX7_140 dX7_goTalk_250 rfl (by first | assumption | exact hL.1 _ (by decide)) ?_
          refine pX7_140 dX7_goTalk_253 rfl (by first | assumption | exact hL.1 _ (by decide)) ?_
          refine wa_ald0 dX7_goTalk_256 ?_
          refine wa_dup dX7_goTalk_257 rfl ?_
          refine gX7_137 dX7_goTalk_258 rfl (by first | assumption | exact hL.1 _ (by decide)) ?_
          refine wa_iconst dX7_goTalk_261 ?_
          refine wa_iadd dX7_goTalk_262 ?_
          refine pX7_137 dX7_goTalk_263 rfl (by first | assumption | exact hL.1 _ (by decide)) ?_
          refine wa_goto 13 dX7_goTalk_266 (by decide) ?_
          refine wa_drop4 (wa_drop3 ?_)
          refine ih (a + p1.toNat) (i + 1) _ us _ (by omega) (by omega) hus (hh.trans ?_) (by omega) ?_ rfl ?_ ?_ ?_ ⟨fun j a1 a2 a3 a4 a5 => ?_, fun k a1 a2 => ?_⟩
          · simp (decide := true) only [vr, zp_s, zp_n, za_s, za_n, ne_eq, Int.natCast_add, Int.cast_ofNat_Int]
            congr 1
            rw [← hif]
            first
              | rw [if_pos (by omega), m25]
              | rw [if_neg (by omega), m26]
          · simp (decide := true) only [zp_s, za_s, za_n, ne_eq]; rw [m25]; omega
          · simp (decide := true) only [zp_s, za_s, za_n, ne_eq]; first | (rw [m25]; omega) | (rw [m26]; omega)
          · simp (decide := true) only [vr, zp_s, zp_n, za_n, ne_eq]; exact hg4
          · simp (decide := true) only [vr, zp_s, zp_n, za_n, ne_eq]; exact hf4
          · simp (decide := true) only [zp_zp, zp_s]; rw [za_n _ _ a4, za_n _ _ a5]; exact kfr4.1 j a1 a2 a3 a4 a5
          · rw [zp_n _ _ a1, zp_n _ _ a1]; exact kfr4.2 k a1 a2
        · refine wa_ald0 dX7_goTalk_233 ?_
          refine gX7_106 dX7_goTalk_234 rfl (by first | assumption | exact hL.1 _ (by decide)) ?_
          refine wa_ild4 dX7_goTalk_237 ?_
          refine wa_icmp_eq 249 dX7_goTalk_239 (by decide) (by first | omega | (rw [k24]; decide)) (by first | omega | (rw [k24]; decide)) (fun c239 => ?_) (fun c239 => ?_)
          · refine wa_ald0 dX7_goTalk_249 ?_
            refine gX7_140 dX7_goTalk_250 rfl (by first | assumption | exact hL.1 _ (by decide)) ?_
            refine pX7_140 dX7_goTalk_253 rfl (by first | assumption | exact hL.1 _ (by decide)) ?_
            refine wa_ald0 dX7_goTalk_256 ?_
            refine wa_dup dX7_goTalk_257 rfl ?_
            refine gX7_137 dX7_goTalk_258 rfl (by first | assumption | exact hL.1 _ (by decide)) ?_
            refine wa_iconst dX7_goTalk_261 ?_
            refine wa_iadd dX7_goTalk_262 ?_
            refine pX7_137 dX7_goTalk_263 rfl (by first | assumption | exact hL.1 _ (by decide)) ?_
            refine wa_goto 13 dX7_goTalk_266 (by decide) ?_
            refine wa_drop4 (wa_drop3 ?_)
            refine ih (a + p1.toNat) (i + 1) _ us _ (by omega) (by omega) hus (hh.trans ?_) (by omega) ?_ rfl ?_ ?_ ?_ ⟨fun j a1 a2 a3 a4 a5 => ?_, fun k a1 a2 => ?_⟩
            · simp (decide := true) only [vr, zp_s, zp_n, za_s, za_n, ne_eq, Int.natCast_add, Int.cast_ofNat_Int]
              congr 1
              rw [← hif]
              first
                | rw [if_pos (by omega), m25]
                | rw [if_neg (by omega), m26]
            · simp (decide := true) only [zp_s, za_s, za_n, ne_eq]; rw [m25]; omega
            · simp (decide := true) only [zp_s, za_s, za_n, ne_eq]; first | (rw [m25]; omega) | (rw [m26]; omega)
            · simp (decide := true) only [vr, zp_s, zp_n, za_n, ne_eq]; exact hg4
            · simp (decide := true) only [vr, zp_s, zp_n, za_n, ne_eq]; exact hf4
            · simp (decide := true) only [zp_zp, zp_s]; rw [za_n _ _ a4, za_n _ _ a5]; exact kfr4.1 j a1 a2 a3 a4 a5
            · rw [zp_n _ _ a1, zp_n _ _ a1]; exact kfr4.2 k a1 a2
          · refine wa_ald0 dX7_goTalk_242 ?_
            refine gX7_137 dX7_goTalk_243 rfl (by first | assumption | exact hL.1 _ (by decide)) ?_
            refine wa_goto 253 dX7_goTalk_246 (by decide) ?_
            refine pX7_140 dX7_goTalk_253 rfl (by first | assumption | exact hL.1 _ (by decide)) ?_
            refine wa_ald0 dX7_goTalk_256 ?_
            refine wa_dup dX7_goTalk_257 rfl ?_
            refine gX7_137 dX7_goTalk_258 rfl (by first | assumption | exact hL.1 _ (by decide)) ?_
            refine wa_iconst dX7_goTalk_261 ?_
            refine wa_iadd dX7_goTalk_262 ?_
            refine pX7_137 dX7_goTalk_263 rfl (by first | assumption | exact hL.1 _ (by decide)) ?_
            refine wa_goto 13 dX7_goTalk_266 (by decide) ?_
            refine wa_drop4 (wa_drop3 ?_)
            refine ih (a + p1.toNat) (i + 1) _ us _ (by omega) (by omega) hus (hh.trans ?_) (by omega) ?_ rfl ?_ ?_ ?_ ⟨fun j a1 a2 a3 a4 a5 => ?_, fun k a1 a2 => ?_⟩
            · simp (decide := true) only [vr, zp_s, zp_n, za_s, za_n, ne_eq, Int.natCast_add, Int.cast_ofNat_Int]
              congr 1
              rw [← hif]
              first
                | rw [if_pos (by omega), m25]
                | rw [if_neg (by omega), m26]
            · simp (decide := true) only [zp_s, za_s, za_n, ne_eq]; rw [m25]; omega
            · simp (decide := true) only [zp_s, za_s, za_n, ne_eq]; first | (rw [m25]; omega) | (rw [m26]; omega)
            · simp (decide := true) only [vr, zp_s, zp_n, za_n, ne_eq]; exact hg4
            · simp (decide := true) only [vr, zp_s, zp_n, za_n, ne_eq]; exact hf4
            · simp (decide := true) only [zp_zp, zp_s]; rw [za_n _ _ a4, za_n _ _ a5]; exact kfr4.1 j a1 a2 a3 a4 a5
            · rw [zp_n _ _ a1, zp_n _ _ a1]; exact kfr4.2 k a1 a2
      have fail : ∀ (V3 : zE) (a' sv : Int), 0 < hinF c (V1 44) rule (V1 46) kd g w → vr V3 = vr V1 → V3 37 24 = hinF c (V1 44) rule (V1 46) kd g w → V3 37 25 = (i : Int) → V3 37 26 = ff → gfr V V3 → Wa zXn mX7_goTalk (zrm 5 0 0) (zZm (qPI S Rf (gtP c rule ws V)) (n + 0) 0 0) 0 0 n S 205 [some (zR 37), some (zI 0), some (zI a'), some (zI sv), some (zI (V1 37 19))] [] Rf V3 := by
        intro V3 a' sv h0 hv3 k24 k25 k26 kfr
        rw [if_neg (by omega)] at hh
        have hrg := hinF_rg (c := c) (d := V1 44) (rule := rule) (said := V1 46) (k := kd) (g := g) (w := w)
        refine wa_ald0 dX7_goTalk_205 ?_
        refine gX7_143 dX7_goTalk_206 rfl (by first | assumption | exact hL.1 _ (by decide)) ?_
        refine wa_if_le 217 dX7_goTalk_209 (by decide) (by first | omega | (rw [k24]; omega)) (fun c209 => absurd c209 (by rw [k24]; omega)) (fun c209 => ?_)
        refine wa_ald0 dX7_goTalk_212 ?_
        refine gX7_137 dX7_goTalk_213 rfl (by first | assumption | exact hL.1 _ (by decide)) ?_
        exact wa_ireturn dX7_goTalk_216 rfl rfl (Nat.le_refl _) (by exact ⟨_, rfl, rfl, rfl, by rw [hh]; exact k25, fun _ => by rw [hh]; exact k24, by rw [hh]; exact k26, fun h => by rw [k25] at h; omega, by rw [hh]; exact hv3, kfr⟩)
      rw [hsa] at hcs
      rcases hcs with ⟨hb, hq⟩ | ⟨hb, hq⟩ | ⟨hb, hb1, hb2, hb3, hq⟩ | ⟨hb, hb1, hb2, hb3, hb4, hb5, hq⟩
      · obtain ⟨rfl, rfl, rfl, rfl⟩ : p1 = 1 ∧ kd = 4 ∧ g = 0 ∧ w = 0 := by simpa using hq
        refine wa_ild2 dX7_goTalk_13 ?_
        refine wa_ald0 dX7_goTalk_14 ?_
        refine gX7_99 dX7_goTalk_15 rfl (by first | assumption | exact hL.1 _ (by decide)) ?_
        refine wa_icmp_ge 269 dX7_goTalk_18 (by decide) (by first | omega | (simp only [Int.toNat_natCast, h43]; omega)) (by first | omega | (simp only [Int.toNat_natCast, h43]; omega)) (fun c18 => absurd c18 (by omega)) (fun c18 => ?_)
        refine wa_ald0 dX7_goTalk_21 ?_
        refine gX7_41 dX7_goTalk_22 rfl (by first | assumption | exact hL.1 _ (by decide)) (by first | assumption | exact hL.2 _ _ (by decide)) ?_
        refine wa_ild2 dX7_goTalk_25 ?_
        refine wa_iaload dX7_goTalk_26 (by first | assumption | exact hL.1 _ (by decide)) (by first | omega | (simp only [Int.toNat_natCast, h43]; omega)) (by first | decide | omega) ?_
        simp only [Int.toNat_natCast, h43]
        refine wa_ist3 dX7_goTalk_27 (by decide) rfl ?_
        refine wa_ald0 dX7_goTalk_28 ?_
        refine gX7_106 dX7_goTalk_29 rfl (by first | assumption | exact hL.1 _ (by decide)) ?_
        refine wa_ist4 dX7_goTalk_32 (by decide) rfl ?_
        refine wa_ald0 dX7_goTalk_34 ?_
        refine wa_iconst dX7_goTalk_35 ?_
        refine pX7_143 dX7_goTalk_36 rfl (by first | assumption | exact hL.1 _ (by decide)) ?_
        generalize hV2 : zp V1 37 (za (V1 37) 24 0) = V2
        obtain ⟨t24, t25, t26, t19, t20, t44, t46, t47, tfr⟩ := gt_r0 hV2 hfr
        have tc := (tfr.1 0 (by decide) (by decide) (by decide) (by decide) (by decide)).trans hc
        refine wa_ild3 dX7_goTalk_39 ?_
        refine wa_bipush dX7_goTalk_40 (by decide) ?_
        refine wa_icmp_ne 55 dX7_goTalk_42 (by decide) (by first | omega | (simp only [Int.toNat_natCast, h43]; omega)) (by first | omega | (simp only [Int.toNat_natCast, h43]; omega)) (fun c42 => absurd c42 (by omega)) (fun c42 => ?_)
        refine wa_ald0 dX7_goTalk_45 ?_
        refine kX7_146 dX7_goTalk_46 rfl (by first | assumption | exact hL.1 _ (by decide)) (cm_night hL tc h2 h8 (fun j => by rw [t44]; have := hg1.1 j; dsimp only at this; omega)) (by decide) (Nat.le_of_ble_eq_true rfl) ⟨Nat.le_refl _, Nat.le_refl _⟩ (zpN fun V3 q3 => ?_)
        refine wa_iinc2 dX7_goTalk_49 (by decide) rfl ?_
        refine wa_goto 205 dX7_goTalk_52 (by decide) ?_
        refine tail V3 _ _ (by omega) (by rw [hinF, if_pos (by decide)]) ?_ ((q3.2.1 24 (by decide) (by decide)).trans t24) ((q3.2.1 25 (by decide) (by decide)).trans (t25.trans h25)) ((q3.2.1 26 (by decide) (by decide)).trans (t26.trans h26)) (tfr.sm q3)
        rw [q3.1, t44, t46, t47, t19, t20]; simp [spkS]
      · obtain ⟨rfl, rfl, rfl, rfl⟩ : p1 = 1 ∧ kd = 5 ∧ g = 0 ∧ w = 0 := by simpa using hq
        refine wa_ild2 dX7_goTalk_13 ?_
        refine wa_ald0 dX7_goTalk_14 ?_
        refine gX7_99 dX7_goTalk_15 rfl (by first | assumption | exact hL.1 _ (by decide)) ?_
        refine wa_icmp_ge 269 dX7_goTalk_18 (by decide) (by first | omega | (simp only [Int.toNat_natCast, h43]; omega)) (by first | omega | (simp only [Int.toNat_natCast, h43]; omega)) (fun c18 => absurd c18 (by omega)) (fun c18 => ?_)
        refine wa_ald0 dX7_goTalk_21 ?_
        refine gX7_41 dX7_goTalk_22 rfl (by first | assumption | exact hL.1 _ (by decide)) (by first | assumption | exact hL.2 _ _ (by decide)) ?_
        refine wa_ild2 dX7_goTalk_25 ?_
        refine wa_iaload dX7_goTalk_26 (by first | assumption | exact hL.1 _ (by decide)) (by first | omega | (simp only [Int.toNat_natCast, h43]; omega)) (by first | decide | omega) ?_
        simp only [Int.toNat_natCast, h43]
        refine wa_ist3 dX7_goTalk_27 (by decide) rfl ?_
        refine wa_ald0 dX7_goTalk_28 ?_
        refine gX7_106 dX7_goTalk_29 rfl (by first | assumption | exact hL.1 _ (by decide)) ?_
        refine wa_ist4 dX7_goTalk_32 (by decide) rfl ?_
        refine wa_ald0 dX7_goTalk_34 ?_
        refine wa_iconst dX7_goTalk_35 ?_
        refine pX7_143 dX7_goTalk_36 rfl (by first | assumption | exact hL.1 _ (by decide)) ?_
        generalize hV2 : zp V1 37 (za (V1 37) 24 0) = V2
        obtain ⟨t24, t25, t26, t19, t20, t44, t46, t47, tfr⟩ := gt_r0 hV2 hfr
        have tc := (tfr.1 0 (by decide) (by decide) (by decide) (by decide) (by decide)).trans hc
        refine wa_ild3 dX7_goTalk_39 ?_
        refine wa_bipush dX7_goTalk_40 (by decide) ?_
        refine wa_icmp_ne 55 dX7_goTalk_42 (by decide) (by first | omega | (simp only [Int.toNat_natCast, h43]; omega)) (by first | omega | (simp only [Int.toNat_natCast, h43]; omega)) (fun c42 => ?_) (fun c42 => absurd c42 (by omega))
        refine wa_ild3 dX7_goTalk_55 ?_
        refine wa_bipush dX7_goTalk_56 (by decide) ?_
        refine wa_icmp_ne 71 dX7_goTalk_58 (by decide) (by first | omega | (simp only [Int.toNat_natCast, h43]; omega)) (by first | omega | (simp only [Int.toNat_natCast, h43]; omega)) (fun c58 => absurd c58 (by omega)) (fun c58 => ?_)
        refine wa_ald0 dX7_goTalk_61 ?_
        refine kX7_149 dX7_goTalk_62 rfl (by first | assumption | exact hL.1 _ (by decide)) (cm_thaw (fgF (V1 46) (V1 47)) (fgF_0 hfl1) hL tc h8 (fun j => by rw [t44]; have := hg1.1 j; dsimp only at this; omega) (fun g a1 a2 => by rw [t46]; exact hfl1.2 g a1 a2)) (by decide) (Nat.le_of_ble_eq_true rfl) ⟨Nat.le_refl _, Nat.le_refl _⟩ (zpN fun V3 q3 => ?_)
        refine wa_iinc2 dX7_goTalk_65 (by decide) rfl ?_
        refine wa_goto 205 dX7_goTalk_68 (by decide) ?_
        refine tail V3 _ _ (by omega) (by rw [hinF, if_pos (by decide)]) ?_ ((q3.2.1 24 (by decide) (by decide)).trans t24) ((q3.2.1 25 (by decide) (by decide)).trans (t25.trans h25)) ((q3.2.1 26 (by decide) (by decide)).trans (t26.trans h26)) (tfr.sm q3)
        rw [q3.1, t44, t19, t20]; simp [spkS]
      · obtain ⟨rfl, rfl, rfl, rfl⟩ : p1 = 2 ∧ kd = 3 ∧ g = V 43 a - 97 ∧ w = 0 := by simpa using hq
        obtain ⟨n1, n2, n3⟩ := sgF_nz (p := V 43) (len := len) (i := (a : Int) + 1) (by omega)
        have h02 : hinF c (V1 44) rule (V1 46) 3 (V 43 a - 97) 0 = 0 ∨ hinF c (V1 44) rule (V1 46) 3 (V 43 a - 97) 0 = 2 := by
          rw [hinF, if_neg (by decide), if_pos rfl]; split <;> omega
        refine wa_ild2 dX7_goTalk_13 ?_
        refine wa_ald0 dX7_goTalk_14 ?_
        refine gX7_99 dX7_goTalk_15 rfl (by first | assumption | exact hL.1 _ (by decide)) ?_
        refine wa_icmp_ge 269 dX7_goTalk_18 (by decide) (by first | omega | (simp only [Int.toNat_natCast, h43]; omega) | (rw [t43]; omega) | (simp (decide := true) only [zp_s, za_s]; omega)) (by first | omega | (simp only [Int.toNat_natCast, h43]; omega) | (rw [t43]; omega) | (simp (decide := true) only [zp_s, za_s]; omega)) (fun c18 => absurd c18 (by omega)) (fun c18 => ?_)
        refine wa_ald0 dX7_goTalk_21 ?_
        refine gX7_41 dX7_goTalk_22 rfl (by first | assumption | exact hL.1 _ (by decide)) (by first | assumption | exact hL.2 _ _ (by decide)) ?_
        refine wa_ild2 dX7_goTalk_25 ?_
        refine wa_iaload dX7_goTalk_26 (by first | assumption | exact hL.1 _ (by decide)) (by first | omega | (simp only [Int.toNat_natCast, h43]; omega) | (rw [t43]; omega) | (simp (decide := true) only [zp_s, za_s]; omega)) (by first | decide | omega) ?_
        simp only [Int.toNat_natCast, h43]
        refine wa_ist3 dX7_goTalk_27 (by decide) rfl ?_
        refine wa_ald0 dX7_goTalk_28 ?_
        refine gX7_106 dX7_goTalk_29 rfl (by first | assumption | exact hL.1 _ (by decide)) ?_
        refine wa_ist4 dX7_goTalk_32 (by decide) rfl ?_
        refine wa_ald0 dX7_goTalk_34 ?_
        refine wa_iconst dX7_goTalk_35 ?_
        refine pX7_143 dX7_goTalk_36 rfl (by first | assumption | exact hL.1 _ (by decide)) ?_
        generalize hV2 : zp V1 37 (za (V1 37) 24 0) = V2
        obtain ⟨t24, t25, t26, t19, t20, t44, t46, t47, tfr⟩ := gt_r0 hV2 hfr
        have tc := (tfr.1 0 (by decide) (by decide) (by decide) (by decide) (by decide)).trans hc
        have t43 := tfr.2 43 (by decide) (by decide)
        refine wa_ild3 dX7_goTalk_39 ?_
        refine wa_bipush dX7_goTalk_40 (by decide) ?_
        refine wa_icmp_ne 55 dX7_goTalk_42 (by decide) (by first | omega | (simp only [Int.toNat_natCast, h43]; omega) | (rw [t43]; omega) | (simp (decide := true) only [zp_s, za_s]; omega)) (by first | omega | (simp only [Int.toNat_natCast, h43]; omega) | (rw [t43]; omega) | (simp (decide := true) only [zp_s, za_s]; omega)) (fun c42 => ?_) (fun c42 => absurd c42 (by omega))
        refine wa_ild3 dX7_goTalk_55 ?_
        refine wa_bipush dX7_goTalk_56 (by decide) ?_
        refine wa_icmp_ne 71 dX7_goTalk_58 (by decide) (by first | omega | (simp only [Int.toNat_natCast, h43]; omega) | (rw [t43]; omega) | (simp (decide := true) only [zp_s, za_s]; omega)) (by first | omega | (simp only [Int.toNat_natCast, h43]; omega) | (rw [t43]; omega) | (simp (decide := true) only [zp_s, za_s]; omega)) (fun c58 => ?_) (fun c58 => absurd c58 (by omega))
        refine wa_ald0 dX7_goTalk_71 ?_
        refine gX7_41 dX7_goTalk_72 rfl (by first | assumption | exact hL.1 _ (by decide)) (by first | assumption | exact hL.2 _ _ (by decide)) ?_
        refine wa_ild2 dX7_goTalk_75 ?_
        refine wa_iconst dX7_goTalk_76 ?_
        refine wa_iadd dX7_goTalk_77 ?_
        refine wa_iaload dX7_goTalk_78 (by first | assumption | exact hL.1 _ (by decide)) (by first | omega | (simp only [Int.toNat_natCast, h43]; omega) | (rw [t43]; omega) | (simp (decide := true) only [zp_s, za_s]; omega)) (by first | decide | omega) ?_
        refine wa_bipush dX7_goTalk_79 (by decide) ?_
        refine wa_icmp_ne 129 dX7_goTalk_81 (by decide) (by first | omega | (simp only [Int.toNat_natCast, h43]; omega) | (rw [t43]; omega) | (simp (decide := true) only [zp_s, za_s]; omega)) (by first | omega | (simp only [Int.toNat_natCast, h43]; omega) | (rw [t43]; omega) | (simp (decide := true) only [zp_s, za_s]; omega)) (fun c81 => absurd c81 (by rw [t43]; omega)) (fun c81 => ?_)
        refine wa_ald0 dX7_goTalk_84 ?_
        refine wa_ild1 dX7_goTalk_85 ?_
        refine wa_if_ne 104 dX7_goTalk_86 (by decide) (by first | omega | (simp only [Int.toNat_natCast, h43]; omega) | (rw [t43]; omega) | (simp (decide := true) only [zp_s, za_s]; omega)) (fun c86 => absurd c86 (by decide)) (fun c86 => ?_)
        refine wa_ald0 dX7_goTalk_89 ?_
        refine wa_ild3 dX7_goTalk_90 ?_
        refine wa_bipush dX7_goTalk_91 (by decide) ?_
        refine wa_isub dX7_goTalk_93 ?_
        refine kX7_152 dX7_goTalk_94 rfl (by first | assumption | exact hL.1 _ (by decide)) (cm_isBare (rule := rule) (said := V1 46) (w := 0) hL tc h2 h8 hb (fun j => by rw [t44]; have := hg1.1 j; dsimp only at this; omega)) (by decide) (Nat.le_of_ble_eq_true rfl) ⟨Nat.le_refl _, Nat.le_refl _⟩ (zdI ?_)
        rw [t44]
        refine wa_ifeq_B 104 dX7_goTalk_97 (by decide) (fun c97 => ?_) (fun c97 => ?_)
        · refine wa_iconst dX7_goTalk_104 ?_
          refine pX7_143 dX7_goTalk_105 rfl (by first | assumption | exact hL.1 _ (by decide)) ?_
          refine wa_keepV (fun V3 => zp V2 37 (za (V2 37) 24 (hinF c (V1 44) rule (V1 46) 3 (V 43 a - 97) 0)) = V3) (congrArg (fun z => zp V2 37 (za (V2 37) 24 z)) (by omega)) (fun V3 hV3 => ?_)
          obtain ⟨u24, u25, u26, u19, u20, u44, u46, u47, ufr⟩ := gt_r0 hV3 tfr
          have uc := (ufr.1 0 (by decide) (by decide) (by decide) (by decide) (by decide)).trans hc
          refine wa_ald0 dX7_goTalk_108 ?_
          refine gX7_143 dX7_goTalk_109 rfl (by first | assumption | exact hL.1 _ (by decide)) ?_
          refine wa_if_ne 123 dX7_goTalk_112 (by decide) (by first | omega | (simp only [Int.toNat_natCast, h43]; omega) | (rw [t43]; omega) | (simp (decide := true) only [zp_s, za_s]; omega)) (fun c112 => ?_) (fun c112 => ?_)
          · first
              | (exfalso; omega)
              | (refine wa_iinc2 dX7_goTalk_123 (by decide) rfl ?_
                 refine wa_goto 205 dX7_goTalk_126 (by decide) ?_
                 exact fail V3 _ _ (by omega) (by simp only [vr]; rw [u44, u46, u47, u19, u20, t44, t46, t47, t19, t20]) (by omega) (u25.trans (t25.trans h25)) (u26.trans (t26.trans h26)) ufr)
          · refine wa_ald0 dX7_goTalk_115 ?_
            refine wa_ild3 dX7_goTalk_116 ?_
            refine wa_bipush dX7_goTalk_117 (by decide) ?_
            refine wa_isub dX7_goTalk_119 ?_
            refine kX7_155 dX7_goTalk_120 rfl (by first | assumption | exact hL.1 _ (by decide)) (cm_salt (rule := rule) (w := 0) hL uc h8 hb (fun j => by rw [u44, t44]; have := hg1.1 j; dsimp only at this; omega)) (by decide) (Nat.le_of_ble_eq_true rfl) ⟨Nat.le_refl _, Nat.le_refl _⟩ (zpN fun V4 q4 => ?_)
            have h00 : hinF c (V1 44) rule (V1 46) 3 (V 43 a - 97) 0 = 0 := by omega
            refine wa_iinc2 dX7_goTalk_123 (by decide) rfl ?_
            refine wa_goto 205 dX7_goTalk_126 (by decide) ?_
            refine tail V4 _ _ (by omega) h00 ?_ ((q4.2.1 24 (by decide) (by decide)).trans (u24.trans h00)) ((q4.2.1 25 (by decide) (by decide)).trans (u25.trans (t25.trans h25))) ((q4.2.1 26 (by decide) (by decide)).trans (u26.trans (t26.trans h26))) (ufr.sm q4)
            rw [q4.1]; simp only [vr]; rw [u44, u46, u47, u19, u20, t44, t46, t47, t19, t20]
        · refine wa_iconst dX7_goTalk_100 ?_
          refine wa_goto 105 dX7_goTalk_101 (by decide) ?_
          refine pX7_143 dX7_goTalk_105 rfl (by first | assumption | exact hL.1 _ (by decide)) ?_
          refine wa_keepV (fun V3 => zp V2 37 (za (V2 37) 24 (hinF c (V1 44) rule (V1 46) 3 (V 43 a - 97) 0)) = V3) (congrArg (fun z => zp V2 37 (za (V2 37) 24 z)) (by omega)) (fun V3 hV3 => ?_)
          obtain ⟨u24, u25, u26, u19, u20, u44, u46, u47, ufr⟩ := gt_r0 hV3 tfr
          have uc := (ufr.1 0 (by decide) (by decide) (by decide) (by decide) (by decide)).trans hc
          refine wa_ald0 dX7_goTalk_108 ?_
          refine gX7_143 dX7_goTalk_109 rfl (by first | assumption | exact hL.1 _ (by decide)) ?_
          refine wa_if_ne 123 dX7_goTalk_112 (by decide) (by first | omega | (simp only [Int.toNat_natCast, h43]; omega) | (rw [t43]; omega) | (simp (decide := true) only [zp_s, za_s]; omega)) (fun c112 => ?_) (fun c112 => ?_)
          · first
              | (exfalso; omega)
              | (refine wa_iinc2 dX7_goTalk_123 (by decide) rfl ?_
                 refine wa_goto 205 dX7_goTalk_126 (by decide) ?_
                 exact fail V3 _ _ (by omega) (by simp only [vr]; rw [u44, u46, u47, u19, u20, t44, t46, t47, t19, t20]) (by omega) (u25.trans (t25.trans h25)) (u26.trans (t26.trans h26)) ufr)
          · refine wa_ald0 dX7_goTalk_115 ?_
            refine wa_ild3 dX7_goTalk_116 ?_
            refine wa_bipush dX7_goTalk_117 (by decide) ?_
            refine wa_isub dX7_goTalk_119 ?_
            refine kX7_155 dX7_goTalk_120 rfl (by first | assumption | exact hL.1 _ (by decide)) (cm_salt (rule := rule) (w := 0) hL uc h8 hb (fun j => by rw [u44, t44]; have := hg1.1 j; dsimp only at this; omega)) (by decide) (Nat.le_of_ble_eq_true rfl) ⟨Nat.le_refl _, Nat.le_refl _⟩ (zpN fun V4 q4 => ?_)
            have h00 : hinF c (V1 44) rule (V1 46) 3 (V 43 a - 97) 0 = 0 := by omega
            refine wa_iinc2 dX7_goTalk_123 (by decide) rfl ?_
            refine wa_goto 205 dX7_goTalk_126 (by decide) ?_
            refine tail V4 _ _ (by omega) h00 ?_ ((q4.2.1 24 (by decide) (by decide)).trans (u24.trans h00)) ((q4.2.1 25 (by decide) (by decide)).trans (u25.trans (t25.trans h25))) ((q4.2.1 26 (by decide) (by decide)).trans (u26.trans (t26.trans h26))) (ufr.sm q4)
            rw [q4.1]; simp only [vr]; rw [u44, u46, u47, u19, u20, t44, t46, t47, t19, t20]
      · obtain ⟨rfl, rfl, rfl, rfl⟩ : p1 = 3 ∧ kd = kdF (sgF (V 43) len (↑a + 2)) ∧ g = V 43 a - 97 ∧ w = sgF (V 43) len (↑a + 1) - 65 := by simpa using hq
        obtain ⟨n1, n2, n3⟩ := sgF_nz (p := V 43) (len := len) (i := (a : Int) + 1) (by omega)
        have hkh := kdF_h hb5
        obtain ⟨n4, n5, n6⟩ := sgF_nz (p := V 43) (len := len) (i := (a : Int) + 2) (by omega)
        rw [n3] at hb3 hb4 hw1 hh tail fail
        rw [n6] at hb5 hkh hw1 hh tail fail
        have hrg := hinF_rg (c := c) (d := V1 44) (rule := rule) (said := V1 46) (k := kdF (V 43 ((a : Int) + 2).toNat)) (g := V 43 a - 97) (w := V 43 ((a : Int) + 1).toNat - 65)
        have hr1 := hfr.rl hr
        refine wa_ild2 dX7_goTalk_13 ?_
        refine wa_ald0 dX7_goTalk_14 ?_
        refine gX7_99 dX7_goTalk_15 rfl (by first | assumption | exact hL.1 _ (by decide)) ?_
        refine wa_icmp_ge 269 dX7_goTalk_18 (by decide) (by first | omega | (simp only [Int.toNat_natCast, h43]; omega) | (rw [t43]; omega) | (simp (decide := true) only [zp_s, za_s]; omega)) (by first | omega | (simp only [Int.toNat_natCast, h43]; omega) | (rw [t43]; omega) | (simp (decide := true) only [zp_s, za_s]; omega)) (fun c18 => absurd c18 (by omega)) (fun c18 => ?_)
        refine wa_ald0 dX7_goTalk_21 ?_
        refine gX7_41 dX7_goTalk_22 rfl (by first | assumption | exact hL.1 _ (by decide)) (by first | assumption | exact hL.2 _ _ (by decide)) ?_
        refine wa_ild2 dX7_goTalk_25 ?_
        refine wa_iaload dX7_goTalk_26 (by first | assumption | exact hL.1 _ (by decide)) (by first | omega | (simp only [Int.toNat_natCast, h43]; omega) | (rw [t43]; omega) | (simp (decide := true) only [zp_s, za_s]; omega)) (by first | decide | omega) ?_
        simp only [Int.toNat_natCast, h43]
        refine wa_ist3 dX7_goTalk_27 (by decide) rfl ?_
        refine wa_ald0 dX7_goTalk_28 ?_
        refine gX7_106 dX7_goTalk_29 rfl (by first | assumption | exact hL.1 _ (by decide)) ?_
        refine wa_ist4 dX7_goTalk_32 (by decide) rfl ?_
        refine wa_ald0 dX7_goTalk_34 ?_
        refine wa_iconst dX7_goTalk_35 ?_
        refine pX7_143 dX7_goTalk_36 rfl (by first | assumption | exact hL.1 _ (by decide)) ?_
        generalize hV2 : zp V1 37 (za (V1 37) 24 0) = V2
        obtain ⟨t24, t25, t26, t19, t20, t44, t46, t47, tfr⟩ := gt_r0 hV2 hfr
        have tc := (tfr.1 0 (by decide) (by decide) (by decide) (by decide) (by decide)).trans hc
        have t43 := tfr.2 43 (by decide) (by decide)
        refine wa_ild3 dX7_goTalk_39 ?_
        refine wa_bipush dX7_goTalk_40 (by decide) ?_
        refine wa_icmp_ne 55 dX7_goTalk_42 (by decide) (by first | omega | (simp only [Int.toNat_natCast, h43]; omega) | (rw [t43]; omega) | (simp (decide := true) only [zp_s, za_s]; omega)) (by first | omega | (simp only [Int.toNat_natCast, h43]; omega) | (rw [t43]; omega) | (simp (decide := true) only [zp_s, za_s]; omega)) (fun c42 => ?_) (fun c42 => absurd c42 (by omega))
        refine wa_ild3 dX7_goTalk_55 ?_
        refine wa_bipush dX7_goTalk_56 (by decide) ?_
        refine wa_icmp_ne 71 dX7_goTalk_58 (by decide) (by first | omega | (simp only [Int.toNat_natCast, h43]; omega) | (rw [t43]; omega) | (simp (decide := true) only [zp_s, za_s]; omega)) (by first | omega | (simp only [Int.toNat_natCast, h43]; omega) | (rw [t43]; omega) | (simp (decide := true) only [zp_s, za_s]; omega)) (fun c58 => ?_) (fun c58 => absurd c58 (by omega))
        refine wa_ald0 dX7_goTalk_71 ?_
        refine gX7_41 dX7_goTalk_72 rfl (by first | assumption | exact hL.1 _ (by decide)) (by first | assumption | exact hL.2 _ _ (by decide)) ?_
        refine wa_ild2 dX7_goTalk_75 ?_
        refine wa_iconst dX7_goTalk_76 ?_
        refine wa_iadd dX7_goTalk_77 ?_
        refine wa_iaload dX7_goTalk_78 (by first | assumption | exact hL.1 _ (by decide)) (by first | omega | (simp only [Int.toNat_natCast, h43]; omega) | (rw [t43]; omega) | (simp (decide := true) only [zp_s, za_s]; omega)) (by first | decide | omega) ?_
        refine wa_bipush dX7_goTalk_79 (by decide) ?_
        refine wa_icmp_ne 129 dX7_goTalk_81 (by decide) (by first | omega | (simp only [Int.toNat_natCast, h43]; omega) | (rw [t43]; omega) | (simp (decide := true) only [zp_s, za_s]; omega)) (by first | omega | (simp only [Int.toNat_natCast, h43]; omega) | (rw [t43]; omega) | (simp (decide := true) only [zp_s, za_s]; omega)) (fun c81 => ?_) (fun c81 => absurd c81 (by rw [t43]; omega))
        refine wa_ald0 dX7_goTalk_129 ?_
        refine wa_ild1 dX7_goTalk_130 ?_
        refine wa_if_eq 138 dX7_goTalk_131 (by decide) (by first | omega | (simp only [Int.toNat_natCast, h43]; omega) | (rw [t43]; omega) | (simp (decide := true) only [zp_s, za_s]; omega)) (fun c131 => ?_) (fun c131 => absurd c131 (by decide))
        refine wa_ald0 dX7_goTalk_138 ?_
        refine wa_ild3 dX7_goTalk_139 ?_
        refine wa_bipush dX7_goTalk_140 (by decide) ?_
        refine wa_isub dX7_goTalk_142 ?_
        refine wa_ald0 dX7_goTalk_143 ?_
        refine gX7_41 dX7_goTalk_144 rfl (by first | assumption | exact hL.1 _ (by decide)) (by first | assumption | exact hL.2 _ _ (by decide)) ?_
        refine wa_ild2 dX7_goTalk_147 ?_
        refine wa_iconst dX7_goTalk_148 ?_
        refine wa_iadd dX7_goTalk_149 ?_
        refine wa_iaload dX7_goTalk_150 (by first | assumption | exact hL.1 _ (by decide)) (by first | omega | (simp only [Int.toNat_natCast, h43]; omega) | (rw [t43]; omega) | (simp (decide := true) only [zp_s, za_s]; omega)) (by first | decide | omega) ?_
        refine wa_bipush dX7_goTalk_151 (by decide) ?_
        refine wa_isub dX7_goTalk_153 ?_
        refine wa_ald0 dX7_goTalk_154 ?_
        refine gX7_41 dX7_goTalk_155 rfl (by first | assumption | exact hL.1 _ (by decide)) (by first | assumption | exact hL.2 _ _ (by decide)) ?_
        refine wa_ild2 dX7_goTalk_158 ?_
        refine wa_iconst dX7_goTalk_159 ?_
        refine wa_iadd dX7_goTalk_160 ?_
        refine wa_iaload dX7_goTalk_161 (by first | assumption | exact hL.1 _ (by decide)) (by first | omega | (simp only [Int.toNat_natCast, h43]; omega) | (rw [t43]; omega) | (simp (decide := true) only [zp_s, za_s]; omega)) (by first | decide | omega) ?_
        rw [t43]
        refine kX7_159 dX7_goTalk_162 rfl (by first | assumption | exact hL.1 _ (by decide)) (cm_whyNot hL (tfr.rl hr) hu h8 hb hb4 (fun j => by rw [t44]; have := hg1.1 j; dsimp only at this; omega) hkh) (by decide) (Nat.le_of_ble_eq_true rfl) ⟨Nat.le_refl _, Nat.le_refl _⟩ (zdI ?_)
        rw [t44, t46]
        refine pX7_143 dX7_goTalk_165 rfl (by first | assumption | exact hL.1 _ (by decide)) ?_
        refine wa_keepV (fun V3 => zp V2 37 (za (V2 37) 24 (hinF c (V1 44) rule (V1 46) (kdF (V 43 ((a : Int) + 2).toNat)) (V 43 a - 97) (V 43 ((a : Int) + 1).toNat - 65))) = V3) rfl (fun V3 hV3 => ?_)
        obtain ⟨u24, u25, u26, u19, u20, u44, u46, u47, ufr⟩ := gt_r0 hV3 tfr
        have uc := (ufr.1 0 (by decide) (by decide) (by decide) (by decide) (by decide)).trans hc
        have u43 := ufr.2 43 (by decide) (by decide)
        refine wa_ald0 dX7_goTalk_168 ?_
        refine gX7_143 dX7_goTalk_169 rfl (by first | assumption | exact hL.1 _ (by decide)) ?_
        refine wa_if_ne 202 dX7_goTalk_172 (by decide) (by first | omega | (simp only [Int.toNat_natCast, h43]; omega) | (rw [t43]; omega) | (simp (decide := true) only [zp_s, za_s]; omega)) (fun c172 => ?_) (fun c172 => ?_)
        · refine wa_iinc2 dX7_goTalk_202 (by decide) rfl ?_
          exact fail V3 _ _ (by omega) (by simp only [vr]; rw [u44, u46, u47, u19, u20, t44, t46, t47, t19, t20]) u24 (u25.trans (t25.trans h25)) (u26.trans (t26.trans h26)) ufr
        · refine wa_ald0 dX7_goTalk_175 ?_
          refine wa_ild3 dX7_goTalk_176 ?_
          refine wa_bipush dX7_goTalk_177 (by decide) ?_
          refine wa_isub dX7_goTalk_179 ?_
          refine wa_ald0 dX7_goTalk_180 ?_
          refine gX7_41 dX7_goTalk_181 rfl (by first | assumption | exact hL.1 _ (by decide)) (by first | assumption | exact hL.2 _ _ (by decide)) ?_
          refine wa_ild2 dX7_goTalk_184 ?_
          refine wa_iconst dX7_goTalk_185 ?_
          refine wa_iadd dX7_goTalk_186 ?_
          refine wa_iaload dX7_goTalk_187 (by first | assumption | exact hL.1 _ (by decide)) (by first | omega | (simp only [Int.toNat_natCast, h43]; omega) | (rw [t43]; omega) | (simp (decide := true) only [zp_s, za_s]; omega)) (by first | decide | omega) ?_
          refine wa_bipush dX7_goTalk_188 (by decide) ?_
          refine wa_isub dX7_goTalk_190 ?_
          refine wa_ald0 dX7_goTalk_191 ?_
          refine gX7_41 dX7_goTalk_192 rfl (by first | assumption | exact hL.1 _ (by decide)) (by first | assumption | exact hL.2 _ _ (by decide)) ?_
          refine wa_ild2 dX7_goTalk_195 ?_
          refine wa_iconst dX7_goTalk_196 ?_
          refine wa_iadd dX7_goTalk_197 ?_
          refine wa_iaload dX7_goTalk_198 (by first | assumption | exact hL.1 _ (by decide)) (by first | omega | (simp only [Int.toNat_natCast, h43]; omega) | (rw [t43]; omega) | (simp (decide := true) only [zp_s, za_s]; omega)) (by first | decide | omega) ?_
          rw [u43]
          refine kX7_162 dX7_goTalk_199 rfl (by first | assumption | exact hL.1 _ (by decide)) (cm_speak (c := c) hL (ufr.rl hr) hu h8 hb hb4 (fun j => by rw [u44, t44]; have := hg1.1 j; dsimp only at this; omega) hkh) (by decide) (Nat.le_of_ble_eq_true rfl) ⟨Nat.le_refl _, Nat.le_refl _⟩ (zpN fun V4 q4 => ?_)
          have h00 : hinF c (V1 44) rule (V1 46) (kdF (V 43 ((a : Int) + 2).toNat)) (V 43 a - 97) (V 43 ((a : Int) + 1).toNat - 65) = 0 := by omega
          refine wa_iinc2 dX7_goTalk_202 (by decide) rfl ?_
          refine tail V4 _ _ (by omega) h00 ?_ ((q4.2.1 24 (by decide) (by decide)).trans (u24.trans h00)) ((q4.2.1 25 (by decide) (by decide)).trans (u25.trans (t25.trans h25))) ((q4.2.1 26 (by decide) (by decide)).trans (u26.trans (t26.trans h26))) (ufr.sm q4)
          rw [q4.1]; simp only [vr]; rw [u44, u46, u47, u19, u20, t44, t46, t47, t19, t20]
  refine wa_ald0 dX7_goTalk_0 ?_
  refine wa_iconst dX7_goTalk_1 ?_
  refine pX7_137 dX7_goTalk_2 rfl (by first | assumption | exact hL.1 _ (by decide)) ?_
  refine wa_ald0 dX7_goTalk_5 ?_
  refine wa_bipush dX7_goTalk_6 (by decide) ?_
  refine pX7_140 dX7_goTalk_8 rfl (by first | assumption | exact hL.1 _ (by decide)) ?_
  refine wa_iconst dX7_goTalk_11 ?_
  refine wa_ist2 dX7_goTalk_12 (by decide) rfl ?_
  refine loop 60 0 0 (-6) ws _ (by omega) (by omega) hpw0 ?_ (by omega) ?_ ?_ (by omega) ?_ ?_ ⟨fun j a1 a2 a3 a4 a5 => ?_, fun k a1 a2 => ?_⟩
  · simp (decide := true) only [vr, zp_s, zp_n, za_n, ne_eq]; rfl
  · simp (decide := true) only [zp_s, za_n, za_s, ne_eq]
  · simp (decide := true) only [zp_s, za_s]
  · simp (decide := true) only [vr, zp_s, zp_n, za_n, ne_eq]; exact hg
  · simp (decide := true) only [vr, zp_s, zp_n, za_n, ne_eq]; exact hfl
  · simp (decide := true) only [zp_s]; rw [za_n _ _ a5, za_n _ _ a4]
  · rw [zp_n _ _ a1, zp_n _ _ a1]
