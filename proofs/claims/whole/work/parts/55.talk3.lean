/-! the reference: judge, behind, first, done, state -/
theorem gfr.r {V V' : zE} (h : gfr V V') : rfr V V' := ⟨fun k a b => h.2 k a (by omega), fun j a => h.1 j (by omega) (by omega) (by omega) (by omega) (by omega)⟩
theorem as_r {V : zE} : rfr V (asV V) := by
  unfold asV
  refine ⟨fun k a b => ?_, fun j a => ?_⟩
  · rw [zp_n _ _ (by omega), zp_n _ _ (by omega), zp_n _ _ (by omega), zp_n _ _ a]
  · rw [zp_n _ _ (by decide), zp_n _ _ (by decide), zp_n _ _ (by decide), zp_s, za_n _ _ (by omega), za_n _ _ (by omega), za_n _ _ (by omega), za_n _ _ (by omega), za_n _ _ (by omega)]
theorem as_vr {c k len : Nat} {W V : zE} (h : RI c k len W V) : vr (asV V) = vw 1 W ∧ Rl (W 4) (asV V) := by
  obtain ⟨h0, h38, h39, h40, h41, h3, h4, h7, h8, h9, h10, h11, h42, h13, h43⟩ := h
  refine ⟨?_, ?_, ?_, ?_, ?_⟩ <;> simp (decide := true) only [asV, vr, vw, zp_s, zp_n, za_s, za_n, ne_eq, h38, h40, h41, h3, h4, h7, h8, h9, h10]
def gkP (c len : Nat) (W V : zE) (x : Int) (V' : zE) : Prop := x = (hdF c len W).1 ∧ (0 ≤ x → V' 37 24 = (hdF c len W).2.1) ∧ V' 37 26 = (hdF c len W).2.2.1 ∧ (x = -6 → V' 37 25 = ((wdF c len W).1.length : Int)) ∧ vr V' = (hdF c len W).2.2.2 ∧ rfr V V'
theorem cm_talk {n c k len : Nat} {S : zH} {Rf : zG} {W V : zE} {F : Int} (hL : Lay S Rf) (hI : CI c k len F W) (hfl : flI c (vw 1 W)) (hR : RI c k len W V) (h6 : (wdF c len W).2 = -6) : Cpi 5 mX7_goTalk [zR 37, zI 0] n S Rf (asV V) (gtP c (W 4) (prs c (sgF (asV V 43) len) len 60 0).1 (asV V)) := by
  obtain ⟨hc, h2, h8, hd, hf, hu, hu3, hs, hflk, hF, hfa, hk, hk8, hsg, hsd, hl, h60, hp, hsc⟩ := hI
  have hR' := hR.go as_r
  obtain ⟨a1, a2⟩ := as_vr hR
  obtain ⟨r0, r38, r39, r40, r41, r3, r4, r7, r8, r9, r10, r11, r42, r13, r43⟩ := hR'
  exact cm_goTalk (n := n) (len := len) hL r0 h2 h8 r13 h60 (fun j => by rw [r43]; exact hp j) a2 hu (fun j => by rw [r39]; exact hf j) (by rw [a1]; exact ⟨hd, hs, hfa⟩) (by rw [a1]; exact hfl) (by rw [r43]; exact h6)
theorem gk_of {c k len : Nat} {W V : zE} {x : Int} {V' : zE} (hR : RI c k len W V) (hP : gtP c (W 4) (prs c (sgF (asV V 43) len) len 60 0).1 (asV V) x V') : gkP c len W V x V' := by
  obtain ⟨a1, a2⟩ := as_vr hR
  obtain ⟨r0, r38, r39, r40, r41, r3, r4, r7, r8, r9, r10, r11, r42, r13, r43⟩ := hR.go as_r
  unfold gtP at hP
  rw [r43, r39, a1] at hP
  exact ⟨hP.1, hP.2.1, hP.2.2.1, hP.2.2.2.1, hP.2.2.2.2.1, as_r.trans hP.2.2.2.2.2.r⟩
theorem cm_flt {n c k len : Nat} {S : zH} {Rf : zG} {W V : zE} {F : Int} (hL : Lay S Rf) (hI : CI c k len F W) (hR : RI c k len W V) : Ci 3 mX7_faultOf [zR 37] n S Rf V (wdF c len W).2 V := by
  obtain ⟨hc, h2, h8, hd, hf, hu, hu3, hs, hflk, hF, hfa, hk, hk8, hsg, hsd, hl, h60, hp, hsc⟩ := hI
  obtain ⟨r0, r38, r39, r40, r41, r3, r4, r7, r8, r9, r10, r11, r42, r13, r43⟩ := hR
  have h := cm_faultOf (n := n) hL r0 h2 h8 r13 h60 (fun j => by rw [r43]; exact hp j)
  rw [r43] at h; exact h
theorem cm_fault {n c k len : Nat} {S : zH} {Rf : zG} {W V : zE} {F : Int} (hL : Lay S Rf) (hI : CI c k len F W) (hR : RI c k len W V) : Ct 4 0 0 mX7_fault [zR 37] n S Rf V (rQ S Rf V (wdF c len W).2) := by
  refine ct_of (by decide) rfl (Nat.le_of_ble_eq_true rfl) ?_
  refine wa_ald0 dX7_fault_0 ?_
  refine kX7_102 dX7_fault_1 rfl (by first | assumption | exact hL.1 _ (by decide)) (cm_flt hL hI hR) (by decide) (Nat.le_of_ble_eq_true rfl) ⟨Nat.le_refl _, Nat.le_refl _⟩ (zdI ?_)
  exact wa_ireturn dX7_fault_4 rfl rfl (Nat.le_refl _) (by exact ⟨rfl, rfl, rfl, rfr_rf⟩)
theorem wd_sg {c len : Nat} {W : zE} (hlen : len ≤ 60) : (wdF c len W).2 = -6 ∨ (0 ≤ (wdF c len W).2 ∧ (wdF c len W).2 ≤ (len : Int) + 2) := by
  have h1 : -6 ≤ (wdF c len W).2 ∧ (wdF c len W).2 ≤ (len : Int) + 2 := prs_rg (c := c) (s := sgF (W 19) len) (len := len) 60 0
  have h2 : (wdF c len W).2 = -6 ∨ 0 ≤ (wdF c len W).2 := by
    have : ∀ (f a : Nat), (prs c (sgF (W 19) len) len f a).2 = -6 ∨ 0 ≤ (prs c (sgF (W 19) len) len f a).2 := by
      intro f
      induction f with
      | zero => intro a; exact Or.inl rfl
      | succ f ih =>
        intro a
        rw [prs]
        split
        · split
          · right; dsimp only; omega
          · exact ih _
        · exact Or.inl rfl
    exact this 60 0
  omega
theorem hldS_sg {c : Nat} {roof rule : Nat → Int} : ∀ (ws : List (Int × Int × Int)) (i ff : Int) (q : zSt), 0 ≤ i → ((hldS c roof rule ws i ff q).1 = -6 ∧ (hldS c roof rule ws i ff q).2.1 = -6) ∨ 0 ≤ (hldS c roof rule ws i ff q).1 := by
  intro ws
  induction ws with
  | nil => intro i ff q hi; exact Or.inl ⟨rfl, rfl⟩
  | cons x ws ih =>
    intro i ff q hi
    rw [hldS]
    split
    · exact ih _ _ _ (by omega)
    · right; dsimp only; exact hi
theorem cm_judge {n c k len : Nat} {S : zH} {Rf : zG} {W V : zE} {F w : Int} (hL : Lay S Rf) (hI : CI c k len F W) (hfl : flI c (vw 1 W)) (hR : RI c k len W V) (hw : -2147483648 ≤ w ∧ w ≤ 2147483647) : Ct 6 0 0 mX7_judge [zR 37, zI w] n S Rf V (rQ S Rf V (jdX c len w W)) := by
  have h60 := hI.2.2.2.2.2.2.2.2.2.2.2.2.2.2.2.2.1
  have hq := wd_sg (c := c) (W := W) h60
  have hln : (wdF c len W).1.length ≤ 60 := prs_len (c := c) (s := sgF (W 19) len) (len := len) 60 0
  have hhr : -6 ≤ (hdF c len W).1 ∧ (hdF c len W).1 ≤ 1000 := (hldS_rg (c := c) (roof := W 3) (rule := W 4) (wdF c len W).1 0 (-6) (vw 1 W) (by omega) (by decide)).1
  have hsg : ((hdF c len W).1 = -6 ∧ (hdF c len W).2.1 = -6) ∨ 0 ≤ (hdF c len W).1 := hldS_sg (c := c) (roof := W 3) (rule := W 4) (wdF c len W).1 0 (-6) (vw 1 W) (by decide)
  refine ct_of (by decide) rfl (Nat.le_of_ble_eq_true rfl) ?_
  unfold jdX
  refine wa_ild1 dX7_judge_0 ?_
  refine wa_iconst dX7_judge_1 ?_
  refine wa_iconst dX7_judge_2 ?_
  refine kX7_91 dX7_judge_3 rfl (cm_in hw (by decide) (by decide)) (by decide) (Nat.le_of_ble_eq_true rfl) ⟨Nat.le_refl _, Nat.le_refl _⟩ (zdI ?_)
  refine wa_ifne_B 12 dX7_judge_6 (by decide) (fun c6 => ?_) (fun c6 => ?_)
  · refine wa_ald0 dX7_judge_12 ?_
    refine kX7_102 dX7_judge_13 rfl (by first | assumption | exact hL.1 _ (by decide)) (cm_flt hL hI hR) (by decide) (Nat.le_of_ble_eq_true rfl) ⟨Nat.le_refl _, Nat.le_refl _⟩ (zdI ?_)
    refine wa_if_lt 22 dX7_judge_16 (by decide) (by omega) (fun c16 => ?_) (fun c16 => ?_)
    · refine wa_ald0 dX7_judge_22 ?_
      refine kX7_168 dX7_judge_23 rfl (by first | assumption | exact hL.1 _ (by decide)) (cm_asNow hL) (by decide) (Nat.le_of_ble_eq_true rfl) ⟨Nat.le_refl _, Nat.le_refl _⟩ (zdN ?_)
      refine wa_ald0 dX7_judge_26 ?_
      refine wa_iconst dX7_judge_27 ?_
      refine kX7_171 dX7_judge_28 rfl (by first | assumption | exact hL.1 _ (by decide)) (cm_talk hL hI hfl hR (by omega)) (by decide) (Nat.le_of_ble_eq_true rfl) ⟨Nat.le_refl _, Nat.le_refl _⟩ (zpI fun x V1 hp1 => ?_)
      obtain ⟨p1, p2, p3, p4, p5, p6⟩ := gk_of hR hp1
      subst p1
      refine wa_ist2 dX7_judge_31 (by decide) rfl ?_
      refine wa_ild2 dX7_judge_32 ?_
      refine wa_if_lt 40 dX7_judge_33 (by decide) (by omega) (fun c33 => ?_) (fun c33 => ?_)
      · refine wa_ild2 dX7_judge_40 ?_
        refine wa_goto 48 dX7_judge_41 (by decide) ?_
        refine wa_ireturn dX7_judge_48 rfl rfl (Nat.le_refl _) ?_
        refine ⟨?_, rfl, rfl, p6⟩
        rw [if_neg (by omega), if_neg (by omega)]
        by_cases hw0 : w = 0
        · first | (exfalso; omega) | rw [if_pos hw0]
        · rw [if_neg hw0]
          rcases hsg with ⟨q1, q2⟩ | q1
          · first | (exfalso; omega) | rw [q1, q2]
          · first | (exfalso; omega) | rw [p2 q1]
      · refine wa_ild1 dX7_judge_36 ?_
        refine wa_if_ne 44 dX7_judge_37 (by decide) (by omega) (fun c37 => ?_) (fun c37 => ?_)
        · refine wa_ald0 dX7_judge_44 ?_
          refine gX7_143 dX7_judge_45 rfl (by first | assumption | exact hL.1 _ (by decide)) ?_
          refine wa_ireturn dX7_judge_48 rfl rfl (Nat.le_refl _) ?_
          refine ⟨?_, rfl, rfl, p6⟩
          rw [if_neg (by omega), if_neg (by omega)]
          by_cases hw0 : w = 0
          · first | (exfalso; omega) | rw [if_pos hw0]
          · rw [if_neg hw0]
            rcases hsg with ⟨q1, q2⟩ | q1
            · first | (exfalso; omega) | rw [q1, q2]
            · first | (exfalso; omega) | rw [p2 q1]
        · refine wa_ild2 dX7_judge_40 ?_
          refine wa_goto 48 dX7_judge_41 (by decide) ?_
          refine wa_ireturn dX7_judge_48 rfl rfl (Nat.le_refl _) ?_
          refine ⟨?_, rfl, rfl, p6⟩
          rw [if_neg (by omega), if_neg (by omega)]
          by_cases hw0 : w = 0
          · first | (exfalso; omega) | rw [if_pos hw0]
          · rw [if_neg hw0]
            rcases hsg with ⟨q1, q2⟩ | q1
            · first | (exfalso; omega) | rw [q1, q2]
            · first | (exfalso; omega) | rw [p2 q1]
    · refine wa_bipush dX7_judge_19 (by decide) ?_
      exact wa_ireturn dX7_judge_21 rfl rfl (Nat.le_refl _) (by exact ⟨by rw [if_neg (by omega), if_pos (by omega)], rfl, rfl, rfr_rf⟩)
  · refine wa_bipush dX7_judge_9 (by decide) ?_
    exact wa_ireturn dX7_judge_11 rfl rfl (Nat.le_refl _) (by exact ⟨by rw [if_pos (by omega)], rfl, rfl, rfr_rf⟩)
def brP (c len : Nat) (W V : zE) (x : Int) (V' : zE) : Prop := rfr V V' ∧ (((wdF c len W).2 = -6 ∧ (hdF c len W).1 = -6) ∧ x = 0 ∧ V' 37 26 = (hdF c len W).2.2.1 ∧ V' 37 25 = ((wdF c len W).1.length : Int) ∧ vr V' = (hdF c len W).2.2.2 ∨ ¬ ((wdF c len W).2 = -6 ∧ (hdF c len W).1 = -6) ∧ x = -5)
theorem cm_barOfTalk {n c k len : Nat} {S : zH} {Rf : zG} {W V : zE} {F : Int} (hL : Lay S Rf) (hI : CI c k len F W) (hfl : flI c (vw 1 W)) (hR : RI c k len W V) : Cpi 6 mX7_barOfTalk [zR 37] n S Rf V (brP c len W V) := by
  have h60 := hI.2.2.2.2.2.2.2.2.2.2.2.2.2.2.2.2.1
  have hq := wd_sg (c := c) (W := W) h60
  have hln : (wdF c len W).1.length ≤ 60 := prs_len (c := c) (s := sgF (W 19) len) (len := len) 60 0
  have hhr : -6 ≤ (hdF c len W).1 ∧ (hdF c len W).1 ≤ 1000 := (hldS_rg (c := c) (roof := W 3) (rule := W 4) (wdF c len W).1 0 (-6) (vw 1 W) (by omega) (by decide)).1
  have hsg : ((hdF c len W).1 = -6 ∧ (hdF c len W).2.1 = -6) ∨ 0 ≤ (hdF c len W).1 := hldS_sg (c := c) (roof := W 3) (rule := W 4) (wdF c len W).1 0 (-6) (vw 1 W) (by decide)
  refine ct_of (by decide) rfl (Nat.le_of_ble_eq_true rfl) ?_
  refine wa_ald0 dX7_barOfTalk_0 ?_
  refine kX7_168 dX7_barOfTalk_1 rfl (by first | assumption | exact hL.1 _ (by decide)) (cm_asNow hL) (by decide) (Nat.le_of_ble_eq_true rfl) ⟨Nat.le_refl _, Nat.le_refl _⟩ (zdN ?_)
  refine wa_ald0 dX7_barOfTalk_4 ?_
  refine kX7_102 dX7_barOfTalk_5 rfl (by first | assumption | exact hL.1 _ (by decide)) (cm_flt hL hI (hR.go as_r)) (by decide) (Nat.le_of_ble_eq_true rfl) ⟨Nat.le_refl _, Nat.le_refl _⟩ (zdI ?_)
  refine wa_if_ge 19 dX7_barOfTalk_8 (by decide) (by omega) (fun c8 => ?_) (fun c8 => ?_)
  · refine wa_bipush dX7_barOfTalk_19 (by decide) ?_
    refine wa_goto 25 dX7_barOfTalk_21 (by decide) ?_
    refine wa_ireturn dX7_barOfTalk_25 rfl rfl (Nat.le_refl _) ?_
    first
      | exact ⟨_, rfl, rfl, rfl, as_r, Or.inr ⟨fun h => by omega, rfl⟩⟩
      | exact ⟨_, rfl, rfl, rfl, p6, Or.inr ⟨fun h => by omega, rfl⟩⟩
      | exact ⟨_, rfl, rfl, rfl, p6, Or.inl ⟨⟨by omega, by omega⟩, rfl, p3, p4 (by omega), p5⟩⟩
  · refine wa_ald0 dX7_barOfTalk_11 ?_
    refine wa_iconst dX7_barOfTalk_12 ?_
    refine kX7_171 dX7_barOfTalk_13 rfl (by first | assumption | exact hL.1 _ (by decide)) (cm_talk hL hI hfl hR (by omega)) (by decide) (Nat.le_of_ble_eq_true rfl) ⟨Nat.le_refl _, Nat.le_refl _⟩ (zpI fun x V1 hp1 => ?_)
    obtain ⟨p1, p2, p3, p4, p5, p6⟩ := gk_of hR hp1
    subst p1
    refine wa_if_lt 24 dX7_barOfTalk_16 (by decide) (by omega) (fun c16 => ?_) (fun c16 => ?_)
    · refine wa_iconst dX7_barOfTalk_24 ?_
      refine wa_ireturn dX7_barOfTalk_25 rfl rfl (Nat.le_refl _) ?_
      first
        | exact ⟨_, rfl, rfl, rfl, as_r, Or.inr ⟨fun h => by omega, rfl⟩⟩
        | exact ⟨_, rfl, rfl, rfl, p6, Or.inr ⟨fun h => by omega, rfl⟩⟩
        | exact ⟨_, rfl, rfl, rfl, p6, Or.inl ⟨⟨by omega, by omega⟩, rfl, p3, p4 (by omega), p5⟩⟩
    · refine wa_bipush dX7_barOfTalk_19 (by decide) ?_
      refine wa_goto 25 dX7_barOfTalk_21 (by decide) ?_
      refine wa_ireturn dX7_barOfTalk_25 rfl rfl (Nat.le_refl _) ?_
      first
        | exact ⟨_, rfl, rfl, rfl, as_r, Or.inr ⟨fun h => by omega, rfl⟩⟩
        | exact ⟨_, rfl, rfl, rfl, p6, Or.inr ⟨fun h => by omega, rfl⟩⟩
        | exact ⟨_, rfl, rfl, rfl, p6, Or.inl ⟨⟨by omega, by omega⟩, rfl, p3, p4 (by omega), p5⟩⟩
theorem cm_first {n c k len : Nat} {S : zH} {Rf : zG} {W V : zE} {F : Int} (hL : Lay S Rf) (hI : CI c k len F W) (hfl : flI c (vw 1 W)) (hR : RI c k len W V) : Ct 7 0 0 mX7_first [zR 37] n S Rf V (rQ S Rf V (fiX c len W)) := by
  refine ct_of (by decide) rfl (Nat.le_of_ble_eq_true rfl) ?_
  unfold fiX
  refine wa_ald0 dX7_first_0 ?_
  refine kX7_175 dX7_first_1 rfl (by first | assumption | exact hL.1 _ (by decide)) (cm_barOfTalk hL hI hfl hR) (by decide) (Nat.le_of_ble_eq_true rfl) ⟨Nat.le_refl _, Nat.le_refl _⟩ (zpI fun x V1 hp1 => ?_)
  obtain ⟨p1, p2⟩ := hp1
  have hx : x = 0 ∨ x = -5 := by rcases p2 with h | h; exact Or.inl h.2.1; exact Or.inr h.2
  refine wa_if_ge 12 dX7_first_4 (by decide) (by omega) (fun c4 => ?_) (fun c4 => ?_)
  · refine wa_ald0 dX7_first_12 ?_
    refine gX7_140 dX7_first_13 rfl (by first | assumption | exact hL.1 _ (by decide)) ?_
    refine wa_ireturn dX7_first_16 rfl rfl (Nat.le_refl _) ?_
    refine ⟨?_, rfl, rfl, p1⟩
    rcases p2 with ⟨q1, q2, q3, q4, q5⟩ | ⟨q1, q2⟩
    · first | (exfalso; omega) | rw [if_pos q1, q3]
    · first | (exfalso; omega) | rw [if_neg q1]
  · refine wa_bipush dX7_first_7 (by decide) ?_
    refine wa_goto 16 dX7_first_9 (by decide) ?_
    refine wa_ireturn dX7_first_16 rfl rfl (Nat.le_refl _) ?_
    refine ⟨?_, rfl, rfl, p1⟩
    rcases p2 with ⟨q1, q2, q3, q4, q5⟩ | ⟨q1, q2⟩
    · first | (exfalso; omega) | rw [if_pos q1, q3]
    · first | (exfalso; omega) | rw [if_neg q1]
theorem cm_behind {n c k len : Nat} {S : zH} {Rf : zG} {W V : zE} {F g w : Int} (hL : Lay S Rf) (hI : CI c k len F W) (hfl : flI c (vw 1 W)) (hR : RI c k len W V) (hg : -2147483648 ≤ g ∧ g ≤ 2147483647) (hw : -2147483648 ≤ w ∧ w ≤ 2147483647) : Ct 7 0 0 mX7_behind [zR 37, zI g, zI w] n S Rf V (rQ S Rf V (beX c len g w W)) := by
  have h8 := hI.2.2.1
  refine ct_of (by decide) rfl (Nat.le_of_ble_eq_true rfl) ?_
  unfold beX
  refine wa_ald0 dX7_behind_0 ?_
  refine wa_ild1 dX7_behind_1 ?_
  refine kX7_95 dX7_behind_2 rfl (by first | assumption | exact hL.1 _ (by decide)) (cm_isGarden hL hR.1 h8 hg) (by decide) (Nat.le_of_ble_eq_true rfl) ⟨Nat.le_refl _, Nat.le_refl _⟩ (zdI ?_)
  refine wa_ifne_B 10 dX7_behind_5 (by decide) (fun c5 => ?_) (fun c5 => ?_)
  · refine wa_ild2 dX7_behind_10 ?_
    refine wa_iconst dX7_behind_11 ?_
    refine wa_iconst dX7_behind_12 ?_
    refine kX7_91 dX7_behind_13 rfl (cm_in hw (by decide) (by decide)) (by decide) (Nat.le_of_ble_eq_true rfl) ⟨Nat.le_refl _, Nat.le_refl _⟩ (zdI ?_)
    refine wa_ifne_B 22 dX7_behind_16 (by decide) (fun c16 => ?_) (fun c16 => ?_)
    · refine wa_ald0 dX7_behind_22 ?_
      refine kX7_175 dX7_behind_23 rfl (by first | assumption | exact hL.1 _ (by decide)) (cm_barOfTalk hL hI hfl hR) (by decide) (Nat.le_of_ble_eq_true rfl) ⟨Nat.le_refl _, Nat.le_refl _⟩ (zpI fun x V1 hp1 => ?_)
      obtain ⟨p1, p2⟩ := hp1
      have hx : x = 0 ∨ x = -5 := by rcases p2 with h | h; exact Or.inl h.2.1; exact Or.inr h.2
      refine wa_if_ge 32 dX7_behind_26 (by decide) (by omega) (fun c26 => ?_) (fun c26 => ?_)
      · refine wa_ild2 dX7_behind_32 ?_
        refine wa_if_ne 45 dX7_behind_33 (by decide) (by omega) (fun c33 => ?_) (fun c33 => ?_)
        · refine wa_ald0 dX7_behind_45 ?_
          refine gX7_106 dX7_behind_46 rfl (by first | assumption | exact hL.1 _ (by decide)) ?_
          refine wa_ild1 dX7_behind_49 ?_
          refine wa_ishr dX7_behind_50 ?_
          refine wa_iconst dX7_behind_51 ?_
          refine wa_iand dX7_behind_52 ?_
          refine wa_ireturn dX7_behind_53 rfl rfl (Nat.le_refl _) ?_
          refine ⟨?_, rfl, rfl, p1⟩
          rw [if_neg (fun q => q c5), if_neg (by omega)]
          rcases p2 with ⟨q1, q2, q3, q4, q5⟩ | ⟨q1, q2⟩
          · rw [if_pos q1, lkX, ← q5]
            first | rw [if_pos c33] | rw [if_neg c33]; rfl
          · exfalso; omega
        · refine wa_ald0 dX7_behind_36 ?_
          refine gX7_44 dX7_behind_37 rfl (by first | assumption | exact hL.1 _ (by decide)) (by first | assumption | exact hL.2 _ _ (by decide)) ?_
          refine wa_ild1 dX7_behind_40 ?_
          refine wa_iaload dX7_behind_41 (by first | assumption | exact hL.1 _ (by decide)) (by omega) (by first | decide | omega) ?_
          refine wa_goto 53 dX7_behind_42 (by decide) ?_
          refine wa_ireturn dX7_behind_53 rfl rfl (Nat.le_refl _) ?_
          refine ⟨?_, rfl, rfl, p1⟩
          rw [if_neg (fun q => q c5), if_neg (by omega)]
          rcases p2 with ⟨q1, q2, q3, q4, q5⟩ | ⟨q1, q2⟩
          · rw [if_pos q1, lkX, ← q5]
            first | rw [if_pos c33] | rw [if_neg c33]; rfl
          · exfalso; omega
      · refine wa_bipush dX7_behind_29 (by decide) ?_
        refine wa_ireturn dX7_behind_31 rfl rfl (Nat.le_refl _) ?_
        refine ⟨?_, rfl, rfl, p1⟩
        rw [if_neg (fun q => q c5), if_neg (by omega)]
        rcases p2 with ⟨q1, q2, q3, q4, q5⟩ | ⟨q1, q2⟩
        · first | (exfalso; omega) | rw [if_pos q1]
        · first | (exfalso; omega) | rw [if_neg q1]
    · refine wa_bipush dX7_behind_19 (by decide) ?_
      exact wa_ireturn dX7_behind_21 rfl rfl (Nat.le_refl _) (by exact ⟨by rw [if_neg (fun q => q c5), if_pos (by omega)], rfl, rfl, rfr_rf⟩)
  · refine wa_iconst dX7_behind_8 ?_
    exact wa_ireturn dX7_behind_9 rfl rfl (Nat.le_refl _) (by exact ⟨by rw [if_pos c5], rfl, rfl, rfr_rf⟩)
theorem cm_state {n c k len : Nat} {S : zH} {Rf : zG} {W V : zE} {F g w : Int} (hL : Lay S Rf) (hI : CI c k len F W) (hR : RI c k len W V) (hg : -2147483648 ≤ g ∧ g ≤ 2147483647) (hw : -2147483648 ≤ w ∧ w ≤ 2147483647) : Ct 7 0 0 mX7_state [zR 37, zI g, zI w] n S Rf V (rQ S Rf V (stX c g w W)) := by
  have h8 := hI.2.2.1
  obtain ⟨r0, r38, r39, r40, r41, r3, r4, r7, r8, r9, r10, r11, r42, r13, r43⟩ := hR
  refine ct_of (by decide) rfl (Nat.le_of_ble_eq_true rfl) ?_
  unfold stX
  refine wa_ald0 dX7_state_0 ?_
  refine wa_ild1 dX7_state_1 ?_
  refine kX7_95 dX7_state_2 rfl (by first | assumption | exact hL.1 _ (by decide)) (cm_isGarden hL r0 h8 hg) (by decide) (Nat.le_of_ble_eq_true rfl) ⟨Nat.le_refl _, Nat.le_refl _⟩ (zdI ?_)
  refine wa_ifne_B 10 dX7_state_5 (by decide) (fun c5 => ?_) (fun c5 => ?_)
  · refine wa_ild2 dX7_state_10 ?_
    refine wa_if_ne 23 dX7_state_11 (by decide) (by omega) (fun c11 => ?_) (fun c11 => ?_)
    · refine wa_ild2 dX7_state_23 ?_
      refine wa_iconst dX7_state_24 ?_
      refine wa_icmp_ne 39 dX7_state_25 (by decide) (by omega) (by omega) (fun c25 => ?_) (fun c25 => ?_)
      · refine wa_bipush dX7_state_39 (by decide) ?_
        refine wa_ireturn dX7_state_41 rfl rfl (Nat.le_refl _) ?_
        refine ⟨?_, rfl, rfl, rfr_rf⟩
        rw [if_neg (fun q => q c5)]
        by_cases hw0 : w < 0 ∨ 1 < w
        · first | (exfalso; omega) | rw [if_pos hw0]
        · rw [if_neg hw0, lkX]
          first
            | (exfalso; omega)
            | rw [if_pos c11, r38]
            | (rw [if_neg c11, r3]; rfl)
      · refine wa_ald0 dX7_state_28 ?_
        refine gX7_82 dX7_state_29 rfl (by first | assumption | exact hL.1 _ (by decide)) ?_
        refine wa_ild1 dX7_state_32 ?_
        refine wa_ishr dX7_state_33 ?_
        refine wa_iconst dX7_state_34 ?_
        refine wa_iand dX7_state_35 ?_
        refine wa_goto 41 dX7_state_36 (by decide) ?_
        refine wa_ireturn dX7_state_41 rfl rfl (Nat.le_refl _) ?_
        refine ⟨?_, rfl, rfl, rfr_rf⟩
        rw [if_neg (fun q => q c5)]
        by_cases hw0 : w < 0 ∨ 1 < w
        · first | (exfalso; omega) | rw [if_pos hw0]
        · rw [if_neg hw0, lkX]
          first
            | (exfalso; omega)
            | rw [if_pos c11, r38]
            | (rw [if_neg c11, r3]; rfl)
    · refine wa_ald0 dX7_state_14 ?_
      refine gX7_13 dX7_state_15 rfl (by first | assumption | exact hL.1 _ (by decide)) (by first | assumption | exact hL.2 _ _ (by decide)) ?_
      refine wa_ild1 dX7_state_18 ?_
      refine wa_iaload dX7_state_19 (by first | assumption | exact hL.1 _ (by decide)) (by omega) (by first | decide | omega) ?_
      refine wa_goto 41 dX7_state_20 (by decide) ?_
      refine wa_ireturn dX7_state_41 rfl rfl (Nat.le_refl _) ?_
      refine ⟨?_, rfl, rfl, rfr_rf⟩
      rw [if_neg (fun q => q c5)]
      by_cases hw0 : w < 0 ∨ 1 < w
      · first | (exfalso; omega) | rw [if_pos hw0]
      · rw [if_neg hw0, lkX]
        first
          | (exfalso; omega)
          | rw [if_pos c11, r38]
          | (rw [if_neg c11, r3]; rfl)
  · refine wa_iconst dX7_state_8 ?_
    exact wa_ireturn dX7_state_9 rfl rfl (Nat.le_refl _) (by exact ⟨by rw [if_pos c5], rfl, rfl, rfr_rf⟩)
