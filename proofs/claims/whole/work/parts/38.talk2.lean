/-! SnowTalk: talks -/
abbrev hdF (c len : Nat) (V : zE) : Int × Int × Int × zSt := hldS c (V 3) (V 4) (wdF c len V).1 0 (-6) (vw 1 V)
/-- behind reading and copying -/
theorem cp_in {V V1 : zE} {i : Nat} (hi : i ≤ 7) (ho : ∀ k, k ≠ 18 → k ≠ 20 → k ≠ 21 → k ≠ 22 → V1 k = V k) : cpV 9 1 V1 (9 + i) = V (1 + i) := by
  rw [cpV_i hi]; exact ho _ (by omega) (by omega) (by omega) (by omega)
theorem cp_out {V1 : zE} {k : Nat} (h : k < 9 ∨ 16 < k) : cpV 9 1 V1 k = V1 k := cpV_o (by omega)
theorem hasW_c {V V' : zE} {ws : List (Int × Int × Int)} (h : hasW V ws) (h20 : V' 20 = V 20) (h21 : V' 21 = V 21) (h22 : V' 22 = V 22) : hasW V' ws := by
  intro i q hq; rw [h20, h21, h22]; exact h i q hq
theorem hd_cp {n : Nat} {S : zH} {Rf : zG} {V V1 : zE} {c k len : Nat} {F : Int} (hL : Lay S Rf) (hI : CI c k len F V) (h18 : V1 18 = za (V 18) 2 ((wdF c len V).1.length : Int)) (hh : hasW V1 (wdF c len V).1) (ho : ∀ k, k ≠ 18 → k ≠ 20 → k ≠ 21 → k ≠ 22 → V1 k = V k) :
    Cpi 6 mX5_holdOn [zR 18, zR 9] n S Rf (cpV 9 1 V1) (hdP c (wdF c len V).1 (cpV 9 1 V1)) := by
  obtain ⟨hc, h2, h8, hd, hf, hu, hu3, hs, hfl, hF, hfa, hk, hk8, hsg, hsd, hl, h60, hp, hsc⟩ := hI
  refine ct_holdOn hL ?_ h2 h8 ⟨fun j => ?_, fun j => ?_, ?_⟩ (fun j => ?_) (fun j => ?_) ?_ (prs_len _ _) (hasW_c hh (cp_out (by omega)) (cp_out (by omega)) (cp_out (by omega))) (prs_ok h2 _ _)
  · rw [cp_in (i := 0) (by decide) ho]; exact hc
  · dsimp only; rw [cp_in (i := 1) (by decide) ho]; exact hd j
  · dsimp only; rw [cp_in (i := 4) (by decide) ho]; exact hs j
  · dsimp only; rw [cp_in (i := 0) (by decide) ho]; exact hfa
  · rw [cp_in (i := 2) (by decide) ho]; exact hf j
  · rw [cp_in (i := 3) (by decide) ho]; exact hu j
  · rw [cp_out (by omega), h18, za_s]
theorem hd_eq {V V1 : zE} {c len : Nat} (ho : ∀ k, k ≠ 18 → k ≠ 20 → k ≠ 21 → k ≠ 22 → V1 k = V k) : hldS c (cpV 9 1 V1 11) (cpV 9 1 V1 12) (wdF c len V).1 0 (-6) (vw 9 (cpV 9 1 V1)) = hdF c len V := by
  have e : vw 9 (cpV 9 1 V1) = vw 1 V := by simp only [vw]; rw [cp_in (i := 0) (by decide) ho, cp_in (i := 1) (by decide) ho, cp_in (i := 4) (by decide) ho, cp_in (i := 5) (by decide) ho]
  rw [e, cp_in (i := 2) (by decide) ho, cp_in (i := 3) (by decide) ho]
/-- behind the whole: the trial holds what would be -/
def trP (c len : Nat) (V V' : zE) : Prop := V' 18 2 = ((wdF c len V).1.length : Int) ∧ V' 18 6 = (hdF c len V).2.1 ∧ V' 18 7 = (hdF c len V).2.2.1 ∧ vw 9 V' = (hdF c len V).2.2.2 ∧ V' 9 0 = V 1 0 ∧ V' 9 8 = V 1 8 ∧ V' 11 = V 3 ∧ V' 12 = V 4 ∧ V' 15 = V 7 ∧ V' 16 = V 8 ∧ qry V V'
theorem hd_tr {c len : Nat} {V V1 V2 : zE} {x : Int} (hsc : scrI V) (h18 : V1 18 = za (V 18) 2 ((wdF c len V).1.length : Int)) (ho : ∀ k, k ≠ 18 → k ≠ 20 → k ≠ 21 → k ≠ 22 → V1 k = V k) (hp : hdP c (wdF c len V).1 (cpV 9 1 V1) x V2) : x = (hdF c len V).1 ∧ trP c len V V2 := by
  obtain ⟨p1, p2, p3, p4, p5, p6⟩ := hp
  rw [hd_eq ho] at p1 p2 p3
  refine ⟨p1, ?_, ?_, ?_, p3, ?_, ?_, ?_, ?_, ?_, ?_, fun k hk => ?_, ?_, fun j => ?_, fun j => ?_, fun j => ?_⟩
  · rw [p2, za_n _ _ (by decide), za_n _ _ (by decide), cp_out (by omega), h18, za_s]
  · rw [p2, za_n _ _ (by decide), za_s]
  · rw [p2, za_s]
  · rw [p4, cp_in (i := 0) (by decide) ho]
  · rw [p5, cp_in (i := 0) (by decide) ho]
  · rw [p6 11 (by decide) (by decide) (by decide) (by decide) (by decide), cp_in (i := 2) (by decide) ho]
  · rw [p6 12 (by decide) (by decide) (by decide) (by decide) (by decide), cp_in (i := 3) (by decide) ho]
  · rw [p6 15 (by decide) (by decide) (by decide) (by decide) (by decide), cp_in (i := 6) (by decide) ho]
  · rw [p6 16 (by decide) (by decide) (by decide) (by decide) (by decide), cp_in (i := 7) (by decide) ho]
  · unfold scr at hk
    rw [p6 k (by omega) (by omega) (by omega) (by omega) (by omega), cp_out (by omega)]
    exact ho k (by omega) (by omega) (by omega) (by omega)
  · rw [p2, za_n _ _ (by decide), za_n _ _ (by decide), cp_out (by omega), h18, za_n _ _ (by decide)]
  · rw [p6 27 (by decide) (by decide) (by decide) (by decide) (by decide), cp_out (by omega), ho 27 (by decide) (by decide) (by decide) (by decide)]; exact hsc.1 j
  · rw [p6 28 (by decide) (by decide) (by decide) (by decide) (by decide), cp_out (by omega), ho 28 (by decide) (by decide) (by decide) (by decide)]; exact hsc.2.1 j
  · rw [p6 30 (by decide) (by decide) (by decide) (by decide) (by decide), cp_out (by omega), ho 30 (by decide) (by decide) (by decide) (by decide)]; exact hsc.2.2 j
theorem hldS_rg {c : Nat} {roof rule : Nat → Int} : ∀ (ws : List (Int × Int × Int)) (i ff : Int) (q : zSt), (-6 ≤ i ∧ i + ws.length ≤ 1000) → (-6 ≤ ff ∧ ff ≤ 1000) → (-6 ≤ (hldS c roof rule ws i ff q).1 ∧ (hldS c roof rule ws i ff q).1 ≤ 1000) ∧ (-6 ≤ (hldS c roof rule ws i ff q).2.1 ∧ (hldS c roof rule ws i ff q).2.1 ≤ 3) ∧ (-6 ≤ (hldS c roof rule ws i ff q).2.2.1 ∧ (hldS c roof rule ws i ff q).2.2.1 ≤ 1000) := by
  intro ws
  induction ws with
  | nil => intro i ff q hi hf; simp only [hldS]; omega
  | cons x ws ih =>
    intro i ff q hi hf
    have hh := hinF_rg (c := c) (d := q.1) (rule := rule) (said := q.2.1) (k := x.1) (g := x.2.1) (w := x.2.2)
    simp only [List.length_cons] at hi
    rw [hldS]
    split
    · refine ih _ _ _ (by omega) ?_
      split <;> omega
    · dsimp only; omega
def tcP (c len : Nat) (V : zE) (x : Int) (V' : zE) : Prop := x = (if (wdF c len V).2 = -6 ∧ (hdF c len V).1 = -6 then 1 else 0) ∧ qry V V' ∧ ((wdF c len V).2 = -6 → trP c len V V')
theorem ct_talkCanBe {n : Nat} {S : zH} {Rf : zG} {V : zE} {c k len : Nat} {F : Int} (hL : Lay S Rf) (hI : CI c k len F V) : Cpi 7 mX6_talkCanBe [zR 0] n S Rf V (tcP c len V) := by
  have hI' := hI
  obtain ⟨hc, h2, h8, hd, hf, hu, hu3, hs, hfl, hF, hfa, hk, hk8, hsg, hsd, hl, h60, hp, hsc⟩ := hI
  have hrg : -6 ≤ (wdF c len V).2 ∧ (wdF c len V).2 ≤ (len : Int) + 2 := prs_rg (c := c) (s := sgF (V 19) len) (len := len) 60 0
  have hln : (wdF c len V).1.length ≤ 60 := prs_len (c := c) (s := sgF (V 19) len) (len := len) 60 0
  have hhr : -6 ≤ (hdF c len V).1 ∧ (hdF c len V).1 ≤ 1000 := (hldS_rg (c := c) (roof := V 3) (rule := V 4) (wdF c len V).1 0 (-6) (vw 1 V) (by omega) (by decide)).1
  refine ct_of (by decide) rfl (Nat.le_of_ble_eq_true rfl) ?_
  refine wa_ald0 dX6_talkCanBe_0 ?_
  refine gX6_26 dX6_talkCanBe_1 rfl (by first | assumption | exact hL.1 _ (by decide)) (by first | assumption | exact hL.2 _ _ (by decide)) ?_
  refine wa_ald0 dX6_talkCanBe_4 ?_
  refine gX6_10 dX6_talkCanBe_5 rfl (by first | assumption | exact hL.1 _ (by decide)) (by first | assumption | exact hL.2 _ _ (by decide)) ?_
  refine gX6_58 dX6_talkCanBe_8 rfl (by first | assumption | exact hL.1 _ (by decide)) ?_
  rw [hc]
  refine kX6_93 dX6_talkCanBe_11 rfl (by first | assumption | exact hL.1 _ (by decide)) (ct_read hL hl h60 (fun j => by have := hp j; omega) h2 h8) (by decide) (Nat.le_of_ble_eq_true rfl) ⟨Nat.le_refl _, Nat.le_refl _⟩ (zpI fun x V1 hp1 => ?_)
  obtain ⟨p1, p2, p3, p4⟩ := hp1
  change x = (wdF c len V).2 at p1
  change _ = za (V 18) 2 ((wdF c len V).1.length : Int) at p2
  subst p1
  refine wa_bipush dX6_talkCanBe_14 (by decide) ?_
  refine wa_icmp_eq 21 dX6_talkCanBe_16 (by decide) (by omega) (by omega) (fun c16 => ?_) (fun c16 => ?_)
  · refine wa_ald0 dX6_talkCanBe_21 ?_
    refine gX6_16 dX6_talkCanBe_22 rfl (by first | assumption | exact hL.1 _ (by decide)) (by first | assumption | exact hL.2 _ _ (by decide)) ?_
    refine wa_ald0 dX6_talkCanBe_25 ?_
    refine gX6_10 dX6_talkCanBe_26 rfl (by first | assumption | exact hL.1 _ (by decide)) (by first | assumption | exact hL.2 _ _ (by decide)) ?_
    refine kX6_97 dX6_talkCanBe_29 rfl (by first | assumption | exact hL.1 _ (by decide)) (ct_copy hL.s9 hL.s1 (by decide)) (by decide) (Nat.le_of_ble_eq_true rfl) ⟨Nat.le_refl _, Nat.le_refl _⟩ (zdN ?_)
    refine wa_ald0 dX6_talkCanBe_32 ?_
    refine gX6_26 dX6_talkCanBe_33 rfl (by first | assumption | exact hL.1 _ (by decide)) (by first | assumption | exact hL.2 _ _ (by decide)) ?_
    refine wa_ald0 dX6_talkCanBe_36 ?_
    refine gX6_16 dX6_talkCanBe_37 rfl (by first | assumption | exact hL.1 _ (by decide)) (by first | assumption | exact hL.2 _ _ (by decide)) ?_
    refine kX6_101 dX6_talkCanBe_40 rfl (by first | assumption | exact hL.1 _ (by decide)) (hd_cp hL hI' p2 p3 p4) (by decide) (Nat.le_of_ble_eq_true rfl) ⟨Nat.le_refl _, Nat.le_refl _⟩ (zpI fun y V2 hp2 => ?_)
    obtain ⟨q1, q2⟩ := hd_tr hsc p2 p4 hp2
    subst q1
    refine wa_bipush dX6_talkCanBe_43 (by decide) ?_
    refine wa_icmp_ne 52 dX6_talkCanBe_45 (by decide) (by omega) (by omega) (fun c45 => ?_) (fun c45 => ?_)
    · refine wa_iconst dX6_talkCanBe_52 ?_
      exact wa_breturn dX6_talkCanBe_53 rfl rfl (Nat.le_refl _) (by first | exact Or.inl rfl | exact Or.inr rfl | (split <;> simp)) (by refine ⟨_, rfl, rfl, rfl, ?_, q2.2.2.2.2.2.2.2.2.2.2, fun _ => q2⟩; first | rw [if_pos (by omega)] | rw [if_neg (by omega)])
    · refine wa_iconst dX6_talkCanBe_48 ?_
      refine wa_goto 53 dX6_talkCanBe_49 (by decide) ?_
      exact wa_breturn dX6_talkCanBe_53 rfl rfl (Nat.le_refl _) (by first | exact Or.inl rfl | exact Or.inr rfl | (split <;> simp)) (by refine ⟨_, rfl, rfl, rfl, ?_, q2.2.2.2.2.2.2.2.2.2.2, fun _ => q2⟩; first | rw [if_pos (by omega)] | rw [if_neg (by omega)])
  · refine wa_iconst dX6_talkCanBe_19 ?_
    exact wa_breturn dX6_talkCanBe_20 rfl rfl (Nat.le_refl _) (by first | exact Or.inl rfl | exact Or.inr rfl | (split <;> simp)) (by exact ⟨_, rfl, rfl, rfl, by rw [if_neg (fun h => c16 h.1)], rd_qry hsc p2 p4, fun h => absurd h c16⟩)
def jdX (c len : Nat) (w : Int) (V : zE) : Int := if w < 0 ∨ 1 < w then -2 else if (wdF c len V).2 ≠ -6 then -5 else if w = 0 then (hdF c len V).1 else (hdF c len V).2.1
theorem ct_judge {n : Nat} {S : zH} {Rf : zG} {V : zE} {c k len : Nat} {F w : Int} (hL : Lay S Rf) (hI : CI c k len F V) (hw : -2147483648 ≤ w ∧ w ≤ 2147483647) : Ct 7 0 0 mX6_judge [zR 0, zI w] n S Rf V (qQ S Rf V (jdX c len w V)) := by
  have hI' := hI
  obtain ⟨hc, h2, h8, hd, hf, hu, hu3, hs, hfl, hF, hfa, hk, hk8, hsg, hsd, hl, h60, hp, hsc⟩ := hI
  have hrg : -6 ≤ (wdF c len V).2 ∧ (wdF c len V).2 ≤ (len : Int) + 2 := prs_rg (c := c) (s := sgF (V 19) len) (len := len) 60 0
  refine ct_of (by decide) rfl (Nat.le_of_ble_eq_true rfl) ?_
  unfold jdX
  refine wa_ild1 dX6_judge_0 ?_
  refine wa_iconst dX6_judge_1 ?_
  refine wa_iconst dX6_judge_2 ?_
  refine kX6_70 dX6_judge_3 rfl (ct_isOutside hw (by decide) (by decide)) (by decide) (Nat.le_of_ble_eq_true rfl) ⟨Nat.le_refl _, Nat.le_refl _⟩ (zdI ?_)
  refine wa_ifeq_B 12 dX6_judge_6 (by decide) (fun c6 => ?_) (fun c6 => ?_)
  · refine wa_ald0 dX6_judge_12 ?_
    refine gX6_26 dX6_judge_13 rfl (by first | assumption | exact hL.1 _ (by decide)) (by first | assumption | exact hL.2 _ _ (by decide)) ?_
    refine wa_ald0 dX6_judge_16 ?_
    refine gX6_10 dX6_judge_17 rfl (by first | assumption | exact hL.1 _ (by decide)) (by first | assumption | exact hL.2 _ _ (by decide)) ?_
    refine gX6_58 dX6_judge_20 rfl (by first | assumption | exact hL.1 _ (by decide)) ?_
    rw [hc]
    refine kX6_93 dX6_judge_23 rfl (by first | assumption | exact hL.1 _ (by decide)) (ct_read hL hl h60 (fun j => by have := hp j; omega) h2 h8) (by decide) (Nat.le_of_ble_eq_true rfl) ⟨Nat.le_refl _, Nat.le_refl _⟩ (zpI fun x V1 hp1 => ?_)
    obtain ⟨p1, p2, p3, p4⟩ := hp1
    change x = (wdF c len V).2 at p1
    change _ = za (V 18) 2 ((wdF c len V).1.length : Int) at p2
    subst p1
    refine wa_bipush dX6_judge_26 (by decide) ?_
    refine wa_icmp_eq 34 dX6_judge_28 (by decide) (by omega) (by omega) (fun c28 => ?_) (fun c28 => ?_)
    · refine wa_ald0 dX6_judge_34 ?_
      refine gX6_16 dX6_judge_35 rfl (by first | assumption | exact hL.1 _ (by decide)) (by first | assumption | exact hL.2 _ _ (by decide)) ?_
      refine wa_ald0 dX6_judge_38 ?_
      refine gX6_10 dX6_judge_39 rfl (by first | assumption | exact hL.1 _ (by decide)) (by first | assumption | exact hL.2 _ _ (by decide)) ?_
      refine kX6_97 dX6_judge_42 rfl (by first | assumption | exact hL.1 _ (by decide)) (ct_copy hL.s9 hL.s1 (by decide)) (by decide) (Nat.le_of_ble_eq_true rfl) ⟨Nat.le_refl _, Nat.le_refl _⟩ (zdN ?_)
      refine wa_ald0 dX6_judge_45 ?_
      refine gX6_26 dX6_judge_46 rfl (by first | assumption | exact hL.1 _ (by decide)) (by first | assumption | exact hL.2 _ _ (by decide)) ?_
      refine wa_ald0 dX6_judge_49 ?_
      refine gX6_16 dX6_judge_50 rfl (by first | assumption | exact hL.1 _ (by decide)) (by first | assumption | exact hL.2 _ _ (by decide)) ?_
      refine kX6_101 dX6_judge_53 rfl (by first | assumption | exact hL.1 _ (by decide)) (hd_cp hL hI' p2 p3 p4) (by decide) (Nat.le_of_ble_eq_true rfl) ⟨Nat.le_refl _, Nat.le_refl _⟩ (zpI fun y V2 hp2 => ?_)
      obtain ⟨q1, q2⟩ := hd_tr hsc p2 p4 hp2
      subst q1
      refine wa_ist2 dX6_judge_56 (by decide) rfl ?_
      refine wa_ild1 dX6_judge_57 ?_
      refine wa_if_ne 65 dX6_judge_58 (by decide) (by omega) (fun c58 => ?_) (fun c58 => ?_)
      · refine wa_ald0 dX6_judge_65 ?_
        refine gX6_26 dX6_judge_66 rfl (by first | assumption | exact hL.1 _ (by decide)) (by first | assumption | exact hL.2 _ _ (by decide)) ?_
        refine gX6_105 dX6_judge_69 rfl (by first | assumption | exact hL.1 _ (by decide)) ?_
        exact wa_ireturn dX6_judge_72 rfl rfl (Nat.le_refl _) (by refine ⟨?_, rfl, rfe_rf, q2.2.2.2.2.2.2.2.2.2.2⟩; rw [if_neg c6, if_neg (fun h => h c28)]; first | rw [if_pos c58] | rw [if_neg c58, q2.2.1])
      · refine wa_ild2 dX6_judge_61 ?_
        refine wa_goto 72 dX6_judge_62 (by decide) ?_
        exact wa_ireturn dX6_judge_72 rfl rfl (Nat.le_refl _) (by refine ⟨?_, rfl, rfe_rf, q2.2.2.2.2.2.2.2.2.2.2⟩; rw [if_neg c6, if_neg (fun h => h c28)]; first | rw [if_pos c58] | rw [if_neg c58, q2.2.1])
    · refine wa_bipush dX6_judge_31 (by decide) ?_
      exact wa_ireturn dX6_judge_33 rfl rfl (Nat.le_refl _) (by exact ⟨by rw [if_neg c6, if_pos c28], rfl, rfe_rf, rd_qry hsc p2 p4⟩)
  · refine wa_bipush dX6_judge_9 (by decide) ?_
    exact wa_ireturn dX6_judge_11 rfl rfl (Nat.le_refl _) (by exact ⟨by rw [if_pos c6], rfl, rfe_rf, qry_rf hsc⟩)
def fiX (c len : Nat) (V : zE) : Int := if (wdF c len V).2 = -6 ∧ (hdF c len V).1 = -6 then (hdF c len V).2.2.1 else -5
theorem ct_first {n : Nat} {S : zH} {Rf : zG} {V : zE} {c k len : Nat} {F : Int} (hL : Lay S Rf) (hI : CI c k len F V) : Ct 8 0 0 mX6_first [zR 0] n S Rf V (qQ S Rf V (fiX c len V)) := by
  refine ct_of (by decide) rfl (Nat.le_of_ble_eq_true rfl) ?_
  unfold fiX
  refine wa_ald0 dX6_first_0 ?_
  refine kX6_108 dX6_first_1 rfl (by first | assumption | exact hL.1 _ (by decide)) (ct_talkCanBe hL hI) (by decide) (Nat.le_of_ble_eq_true rfl) ⟨Nat.le_refl _, Nat.le_refl _⟩ (zpI fun x V1 hp1 => ?_)
  obtain ⟨p1, p2, p3⟩ := hp1
  have hx : -2147483648 ≤ x ∧ x ≤ 2147483647 := by rw [p1]; split <;> decide
  refine wa_if_ne 10 dX6_first_4 (by decide) (by omega) (fun c4 => ?_) (fun c4 => ?_)
  · refine wa_ald0 dX6_first_10 ?_
    refine gX6_26 dX6_first_11 rfl (by first | assumption | exact hL.1 _ (by decide)) (by first | assumption | exact hL.2 _ _ (by decide)) ?_
    refine gX6_119 dX6_first_14 rfl (by first | assumption | exact hL.1 _ (by decide)) ?_
    exact wa_ireturn dX6_first_17 rfl rfl (Nat.le_refl _) (by refine ⟨?_, rfl, rfe_rf, p2⟩; (by_cases h : (wdF c len V).2 = -6 ∧ (hdF c len V).1 = -6); rw [if_pos h, (p3 h.1).2.2.1]; rw [if_neg h] at p1; omega)
  · refine wa_bipush dX6_first_7 (by decide) ?_
    exact wa_ireturn dX6_first_9 rfl rfl (Nat.le_refl _) (by refine ⟨?_, rfl, rfe_rf, p2⟩; rw [if_neg (fun h => by rw [if_pos h] at p1; omega)])
def lkX (q : zSt) (g w : Int) : Int := if w = 0 then q.1 g.toNat else zbit q.2.2.2.1 g
def stX (c : Nat) (g w : Int) (V : zE) : Int := if ¬ (0 ≤ g ∧ g < c) then -1 else if w < 0 ∨ 1 < w then -2 else lkX (vw 1 V) g w
theorem ct_state {n : Nat} {S : zH} {Rf : zG} {V : zE} {c k len : Nat} {F g w : Int} (hL : Lay S Rf) (hI : CI c k len F V) (hg : -2147483648 ≤ g ∧ g ≤ 2147483647) (hw : -2147483648 ≤ w ∧ w ≤ 2147483647) : Ct 4 0 0 mX6_state [zR 0, zI g, zI w] n S Rf V (qQ S Rf V (stX c g w V)) := by
  obtain ⟨hc, h2, h8, hd, hf, hu, hu3, hs, hfl, hF, hfa, hk, hk8, hsg, hsd, hl, h60, hp, hsc⟩ := hI
  refine ct_of (by decide) rfl (Nat.le_of_ble_eq_true rfl) ?_
  unfold stX
  refine wa_ald0 dX6_state_0 ?_
  refine gX6_10 dX6_state_1 rfl (by first | assumption | exact hL.1 _ (by decide)) (by first | assumption | exact hL.2 _ _ (by decide)) ?_
  refine wa_ild1 dX6_state_4 ?_
  refine kX6_66 dX6_state_5 rfl (by first | assumption | exact hL.1 _ (by decide)) (ct_has hL.s1 (by omega) hg) (by decide) (Nat.le_of_ble_eq_true rfl) ⟨Nat.le_refl _, Nat.le_refl _⟩ (zdI ?_)
  rw [hc]
  refine wa_ifne_B 13 dX6_state_8 (by decide) (fun c8 => ?_) (fun c8 => ?_)
  · refine wa_ild2 dX6_state_13 ?_
    refine wa_iconst dX6_state_14 ?_
    refine wa_iconst dX6_state_15 ?_
    refine kX6_70 dX6_state_16 rfl (ct_isOutside hw (by decide) (by decide)) (by decide) (Nat.le_of_ble_eq_true rfl) ⟨Nat.le_refl _, Nat.le_refl _⟩ (zdI ?_)
    refine wa_ifeq_B 25 dX6_state_19 (by decide) (fun c19 => ?_) (fun c19 => ?_)
    · refine wa_ald0 dX6_state_25 ?_
      refine gX6_10 dX6_state_26 rfl (by first | assumption | exact hL.1 _ (by decide)) (by first | assumption | exact hL.2 _ _ (by decide)) ?_
      refine wa_ild1 dX6_state_29 ?_
      refine wa_ild2 dX6_state_30 ?_
      refine kX6_115 dX6_state_31 rfl (by first | assumption | exact hL.1 _ (by decide)) (ct_look hL.s1 (by omega) (by omega) (by omega)) (by decide) (Nat.le_of_ble_eq_true rfl) ⟨Nat.le_refl _, Nat.le_refl _⟩ (zdI ?_)
      exact wa_ireturn dX6_state_34 rfl rfl (Nat.le_refl _) (by exact ⟨by rw [if_neg (show ¬ ¬ (0 ≤ g ∧ g < (c : Int)) from fun h => h c8), if_neg c19]; rfl, rfl, rfe_rf, qry_rf hsc⟩)
    · refine wa_bipush dX6_state_22 (by decide) ?_
      exact wa_ireturn dX6_state_24 rfl rfl (Nat.le_refl _) (by exact ⟨by rw [if_neg (fun h => h c8), if_pos c19], rfl, rfe_rf, qry_rf hsc⟩)
  · refine wa_iconst dX6_state_11 ?_
    exact wa_ireturn dX6_state_12 rfl rfl (Nat.le_refl _) (by exact ⟨by rw [if_pos c8], rfl, rfe_rf, qry_rf hsc⟩)
def beX (c len : Nat) (g w : Int) (V : zE) : Int := if ¬ (0 ≤ g ∧ g < c) then -1 else if w < 0 ∨ 1 < w then -2 else if (wdF c len V).2 = -6 ∧ (hdF c len V).1 = -6 then lkX (hdF c len V).2.2.2 g w else -5
theorem ct_behind {n : Nat} {S : zH} {Rf : zG} {V : zE} {c k len : Nat} {F g w : Int} (hL : Lay S Rf) (hI : CI c k len F V) (hg : -2147483648 ≤ g ∧ g ≤ 2147483647) (hw : -2147483648 ≤ w ∧ w ≤ 2147483647) : Ct 8 0 0 mX6_behind [zR 0, zI g, zI w] n S Rf V (qQ S Rf V (beX c len g w V)) := by
  have hI' := hI
  obtain ⟨hc, h2, h8, hd, hf, hu, hu3, hs, hfl, hF, hfa, hk, hk8, hsg, hsd, hl, h60, hp, hsc⟩ := hI
  refine ct_of (by decide) rfl (Nat.le_of_ble_eq_true rfl) ?_
  unfold beX
  refine wa_ald0 dX6_behind_0 ?_
  refine gX6_10 dX6_behind_1 rfl (by first | assumption | exact hL.1 _ (by decide)) (by first | assumption | exact hL.2 _ _ (by decide)) ?_
  refine wa_ild1 dX6_behind_4 ?_
  refine kX6_66 dX6_behind_5 rfl (by first | assumption | exact hL.1 _ (by decide)) (ct_has hL.s1 (by omega) hg) (by decide) (Nat.le_of_ble_eq_true rfl) ⟨Nat.le_refl _, Nat.le_refl _⟩ (zdI ?_)
  rw [hc]
  refine wa_ifne_B 13 dX6_behind_8 (by decide) (fun c8 => ?_) (fun c8 => ?_)
  · refine wa_ild2 dX6_behind_13 ?_
    refine wa_iconst dX6_behind_14 ?_
    refine wa_iconst dX6_behind_15 ?_
    refine kX6_70 dX6_behind_16 rfl (ct_isOutside hw (by decide) (by decide)) (by decide) (Nat.le_of_ble_eq_true rfl) ⟨Nat.le_refl _, Nat.le_refl _⟩ (zdI ?_)
    refine wa_ifeq_B 25 dX6_behind_19 (by decide) (fun c19 => ?_) (fun c19 => ?_)
    · refine wa_ald0 dX6_behind_25 ?_
      refine kX6_108 dX6_behind_26 rfl (by first | assumption | exact hL.1 _ (by decide)) (ct_talkCanBe hL hI') (by decide) (Nat.le_of_ble_eq_true rfl) ⟨Nat.le_refl _, Nat.le_refl _⟩ (zpI fun x V1 hp1 => ?_)
      obtain ⟨p1, p2, p3⟩ := hp1
      have hx : -2147483648 ≤ x ∧ x ≤ 2147483647 := by rw [p1]; split <;> decide
      refine wa_if_ne 35 dX6_behind_29 (by decide) (by omega) (fun c29 => ?_) (fun c29 => ?_)
      · have hyes : (wdF c len V).2 = -6 ∧ (hdF c len V).1 = -6 := by (by_cases h : (wdF c len V).2 = -6 ∧ (hdF c len V).1 = -6); exact h; rw [if_neg h] at p1; omega
        have ht := p3 hyes.1
        have h90 : V1 9 0 = (c : Int) := by rw [ht.2.2.2.2.1]; exact hc
        refine wa_ald0 dX6_behind_35 ?_
        refine gX6_16 dX6_behind_36 rfl (by first | assumption | exact hL.1 _ (by decide)) (by first | assumption | exact hL.2 _ _ (by decide)) ?_
        refine wa_ild1 dX6_behind_39 ?_
        refine wa_ild2 dX6_behind_40 ?_
        refine kX6_115 dX6_behind_41 rfl (by first | assumption | exact hL.1 _ (by decide)) (ct_look hL.s9 (by omega) (by omega) (by omega)) (by decide) (Nat.le_of_ble_eq_true rfl) ⟨Nat.le_refl _, Nat.le_refl _⟩ (zdI ?_)
        exact wa_ireturn dX6_behind_44 rfl rfl (Nat.le_refl _) (by refine ⟨?_, rfl, rfe_rf, p2⟩; rw [if_neg (show ¬ ¬ (0 ≤ g ∧ g < (c : Int)) from fun h => h c8), if_neg c19, if_pos hyes, ← ht.2.2.2.1]; rfl)
      · refine wa_bipush dX6_behind_32 (by decide) ?_
        exact wa_ireturn dX6_behind_34 rfl rfl (Nat.le_refl _) (by refine ⟨?_, rfl, rfe_rf, p2⟩; rw [if_neg (fun h => h c8), if_neg c19, if_neg (fun h => by rw [if_pos h] at p1; omega)])
    · refine wa_bipush dX6_behind_22 (by decide) ?_
      exact wa_ireturn dX6_behind_24 rfl rfl (Nat.le_refl _) (by exact ⟨by rw [if_neg (fun h => h c8), if_pos c19], rfl, rfe_rf, qry_rf hsc⟩)
  · refine wa_iconst dX6_behind_11 ?_
    exact wa_ireturn dX6_behind_12 rfl rfl (Nat.le_refl _) (by exact ⟨by rw [if_pos c8], rfl, rfe_rf, qry_rf hsc⟩)
def dnX (c len : Nat) (V : zE) : Int := if (wdF c len V).2 = -6 ∧ (hdF c len V).1 = -6 then ((wdF c len V).1.length : Int) else -5
/-- behind done: the snow is as the trial had it -/
def dnP (c len : Nat) (V V' : zE) : Prop := ((wdF c len V).2 = -6 ∧ (hdF c len V).1 = -6 → vw 1 V' = (hdF c len V).2.2.2 ∧ V' 1 0 = V 1 0 ∧ V' 1 8 = V 1 8 ∧ V' 3 = V 3 ∧ V' 4 = V 4 ∧ V' 7 = V 7 ∧ V' 8 = V 8 ∧ V' 18 1 = 0 ∧ scrI V' ∧ ∀ k, ¬ scr k → 8 < k → V' k = V k) ∧ (¬ ((wdF c len V).2 = -6 ∧ (hdF c len V).1 = -6) → qry V V')
theorem ct_done {n : Nat} {S : zH} {Rf : zG} {V : zE} {c k len : Nat} {F : Int} (hL : Lay S Rf) (hI : CI c k len F V) : Cpi 8 mX6_done [zR 0] n S Rf V (fun x V' => x = dnX c len V ∧ dnP c len V V' ∧ V' 0 = V 0) := by
  refine ct_of (by decide) rfl (Nat.le_of_ble_eq_true rfl) ?_
  unfold dnX
  refine wa_ald0 dX6_done_0 ?_
  refine kX6_108 dX6_done_1 rfl (by first | assumption | exact hL.1 _ (by decide)) (ct_talkCanBe hL hI) (by decide) (Nat.le_of_ble_eq_true rfl) ⟨Nat.le_refl _, Nat.le_refl _⟩ (zpI fun x V1 hp1 => ?_)
  obtain ⟨p1, p2, p3⟩ := hp1
  have hx : -2147483648 ≤ x ∧ x ≤ 2147483647 := by rw [p1]; split <;> decide
  refine wa_if_ne 10 dX6_done_4 (by decide) (by omega) (fun c4 => ?_) (fun c4 => ?_)
  · have hyes : (wdF c len V).2 = -6 ∧ (hdF c len V).1 = -6 := by (by_cases h : (wdF c len V).2 = -6 ∧ (hdF c len V).1 = -6); exact h; rw [if_neg h] at p1; omega
    obtain ⟨t1, t2, t3, t4, t5, t6, t7, t8, t9, t10, t11⟩ := p3 hyes.1
    refine wa_ald0 dX6_done_10 ?_
    refine gX6_10 dX6_done_11 rfl (by first | assumption | exact hL.1 _ (by decide)) (by first | assumption | exact hL.2 _ _ (by decide)) ?_
    refine wa_ald0 dX6_done_14 ?_
    refine gX6_16 dX6_done_15 rfl (by first | assumption | exact hL.1 _ (by decide)) (by first | assumption | exact hL.2 _ _ (by decide)) ?_
    refine kX6_97 dX6_done_18 rfl (by first | assumption | exact hL.1 _ (by decide)) (ct_copy hL.s1 hL.s9 (by decide)) (by decide) (Nat.le_of_ble_eq_true rfl) ⟨Nat.le_refl _, Nat.le_refl _⟩ (zdN ?_)
    refine wa_ald0 dX6_done_21 ?_
    refine gX6_26 dX6_done_22 rfl (by first | assumption | exact hL.1 _ (by decide)) (by first | assumption | exact hL.2 _ _ (by decide)) ?_
    refine wa_iconst dX6_done_25 ?_
    refine pX6_87 dX6_done_26 rfl (by first | assumption | exact hL.1 _ (by decide)) ?_
    refine wa_ald0 dX6_done_29 ?_
    refine gX6_26 dX6_done_30 rfl (by first | assumption | exact hL.1 _ (by decide)) (by first | assumption | exact hL.2 _ _ (by decide)) ?_
    refine gX6_112 dX6_done_33 rfl (by first | assumption | exact hL.1 _ (by decide)) ?_
    exact wa_ireturn dX6_done_36 rfl rfl (Nat.le_refl _) (by refine ⟨_, rfl, rfl, rfl, ?_, ⟨fun _ => ⟨?_, ?_, ?_, ?_, ?_, ?_, ?_, ?_, ⟨fun j => ?_, fun j => ?_, fun j => ?_⟩, fun k hk h8 => ?_⟩, fun h => absurd hyes h⟩, ?_⟩; rw [if_pos hyes, zp_s, za_n _ _ (by decide), cpV_o (by omega), t1]; rw [← t4]; simp only [vw]; rw [zp_n _ _ (by decide), zp_n _ _ (by decide), zp_n _ _ (by decide), zp_n _ _ (by decide), cpV_i (by decide), cpV_i (by decide), cpV_i (by decide), cpV_0]; rw [zp_n _ _ (by decide), cpV_0, t5]; rw [zp_n _ _ (by decide), cpV_0, t6]; rw [zp_n _ _ (by decide), cpV_i (a := 1) (i := 2) (by decide), ← t7]; rw [zp_n _ _ (by decide), cpV_i (a := 1) (i := 3) (by decide), ← t8]; rw [zp_n _ _ (by decide), cpV_i (a := 1) (i := 6) (by decide), ← t9]; rw [zp_n _ _ (by decide), cpV_i (a := 1) (i := 7) (by decide), ← t10]; rw [zp_s, za_s]; rw [zp_n _ _ (by decide), cpV_o (by omega)]; exact t11.2.2.1 j; rw [zp_n _ _ (by decide), cpV_o (by omega)]; exact t11.2.2.2.1 j; rw [zp_n _ _ (by decide), cpV_o (by omega)]; exact t11.2.2.2.2 j; rw [zp_n _ _ (by unfold scr at hk; omega), cpV_o (by omega)]; exact t11.1 k hk; rw [zp_n _ _ (by decide), cpV_o (by omega)]; exact t11.1 0 (by unfold scr; omega))
  · refine wa_bipush dX6_done_7 (by decide) ?_
    exact wa_ireturn dX6_done_9 rfl rfl (Nat.le_refl _) (by refine ⟨_, rfl, rfl, rfl, ?_, ⟨fun h => ?_, fun _ => p2⟩, p2.1 0 (by unfold scr; omega)⟩; rw [if_neg (fun h => by rw [if_pos h] at p1; omega)]; rw [if_pos h] at p1; omega)
