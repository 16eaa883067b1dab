/-! the law: its loop, its start -/
theorem z31 (x : Int) : 0 ≤ zand x 31 ∧ zand x 31 ≤ 31 := by
  have h : ∀ y : Int32, 0 ≤ (y &&& 31).toInt ∧ (y &&& 31).toInt ≤ 31 := by
    intro y
    have e : (y &&& 31).toInt = (y.toBitVec &&& 31#32).toInt := by
      show (y &&& 31).toBitVec.toInt = _
      rw [Int32.toBitVec_and, show (31 : Int32).toBitVec = 31#32 from by decide]
    have hn : (y.toBitVec &&& 31#32).toNat ≤ 31 := by
      rw [BitVec.toNat_and]
      exact Nat.and_le_right
    rw [e, BitVec.toInt_eq_toNat_of_lt (by omega)]
    omega
  unfold zand
  rw [show Int32.ofInt 31 = 31 from rfl]
  exact h _
set_option maxRecDepth 100000 in
theorem law_loop {LL : Nat} {xs : Nat → Int32} (hL3 : LL ≤ 3072) : ∀ (q t n ce sl : Nat) (S : zH) (Rf : zG) (V : zE), t + q = 513 → LWH n S Rf V (1080 * (t : Int)) → ce ≤ 100 + 8 * t → sl ≤ 40000 + 119 * t → Wa (zXl LL xs) mL_law room_1 zZl ce sl n S 18 [some zX, some (zR 0), some (zR 37), some (zI ((6 * t : Nat) : Int))] [] Rf V := by
  intro q
  induction q with
  | zero =>
    intro t n ce sl S Rf V ht hW hce hsl
    refine wa_ild3 dL_law_18 ?_
    refine wa_aldX dL_law_19 ?_
    refine wa_slen dL_law_20 hL3 ?_
    refine wa_bipush dL_law_21 (by decide) ?_
    refine wa_isub dL_law_23 ?_
    refine wa_icmp_gt 978 dL_law_24 (by decide) (by omega) (by omega) (fun c24 => ?_) (fun c24 => ?_)
    · refine wa_iconst dL_law_978 ?_
      exact wa_lend dL_law_979 (by omega) (by omega)
    · exact absurd c24 (by omega)
  | succ q ih =>
    intro t n ce sl S Rf V ht hW hce hsl
    by_cases hi : 6 * t + 6 ≤ LL
    · have hF6 : 1080 * (t : Int) + 1080 ≤ 1000000 := by omega
      have nxt : ∀ (n' ce' sl' : Nat) (S' : zH) (Rf' : zG) (V' : zE), LWH n' S' Rf' V' (1080 * (t : Int) + 1080) → ce' ≤ ce + 8 → sl' ≤ sl + 119 → Wa (zXl LL xs) mL_law room_1 zZl ce' sl' n' S' 972 [some zX, some (zR 0), some (zR 37), some (zI ((6 * t : Nat) : Int))] [] Rf' V' := by
        intro n' ce' sl' S' Rf' V' h1 h2 h3
        have e1 := ih (t + 1) n' ce' sl' S' Rf' V' (by omega) (by rw [show 1080 * ((t + 1 : Nat) : Int) = 1080 * (t : Int) + 1080 by omega]; exact h1) (by omega) (by omega)
        rw [show ((6 * (t + 1) : Nat) : Int) = ((6 * t : Nat) : Int) + 6 by omega] at e1
        refine wa_iinc3 dL_law_972 (by decide) rfl ?_
        refine wa_goto 18 dL_law_975 (by decide) ?_
        exact e1
      have hsc : scrI V := by obtain ⟨c, k, len, hI, _⟩ := hW.2.2.1; exact hI.2.2.2.2.2.2.2.2.2.2.2.2.2.2.2.2.2.2
      have sw : ∀ z : Int, 0 ≤ z ∧ z ≤ 31 → Wa (zXl LL xs) mL_law room_1 zZl ce sl n S 33 [some zX, some (zR 0), some (zR 37), some (zI ((6 * t : Nat) : Int))] [zI z] Rf V := by
        intro z hz
        by_cases h28 : z ≤ 28
        · obtain rfl | rfl | rfl | rfl | rfl | rfl | rfl | rfl | rfl | rfl | rfl | rfl | rfl | rfl | rfl | rfl | rfl | rfl | rfl | rfl | rfl | rfl | rfl | rfl | rfl | rfl | rfl | rfl | rfl : z = 0 ∨ z = 1 ∨ z = 2 ∨ z = 3 ∨ z = 4 ∨ z = 5 ∨ z = 6 ∨ z = 7 ∨ z = 8 ∨ z = 9 ∨ z = 10 ∨ z = 11 ∨ z = 12 ∨ z = 13 ∨ z = 14 ∨ z = 15 ∨ z = 16 ∨ z = 17 ∨ z = 18 ∨ z = 19 ∨ z = 20 ∨ z = 21 ∨ z = 22 ∨ z = 23 ∨ z = 24 ∨ z = 25 ∨ z = 26 ∨ z = 27 ∨ z = 28 := by omega
          · exact wa_table 164 dL_law_33 (by decide) (by decide) (off := 131) rfl (by decide) (lc_gardens hL3 hi hW hF6 (by omega) (by omega) nxt)
          · exact wa_table 187 dL_law_33 (by decide) (by decide) (off := 154) rfl (by decide) (lc_garden hL3 hi hW hF6 (by omega) (by omega) nxt)
          · exact wa_table 230 dL_law_33 (by decide) (by decide) (off := 197) rfl (by decide) (lc_set hL3 hi hW hF6 (by omega) (by omega) nxt)
          · exact wa_table 263 dL_law_33 (by decide) (by decide) (off := 230) rfl (by decide) (lc_say hL3 hi hW hF6 (by omega) (by omega) nxt)
          · exact wa_table 286 dL_law_33 (by decide) (by decide) (off := 253) rfl (by decide) (lc_wipe hL3 hi hW hF6 (by omega) (by omega) nxt)
          · exact wa_table 299 dL_law_33 (by decide) (by decide) (off := 266) rfl (by decide) (lc_fault hL3 hi hW hF6 (by omega) (by omega) nxt)
          · exact wa_table 312 dL_law_33 (by decide) (by decide) (off := 279) rfl (by decide) (lc_judge hL3 hi hW hF6 (by omega) (by omega) nxt)
          · exact wa_table 335 dL_law_33 (by decide) (by decide) (off := 302) rfl (by decide) (lc_done hL3 hi hW hF6 (by omega) (by omega) nxt)
          · exact wa_table 348 dL_law_33 (by decide) (by decide) (off := 315) rfl (by decide) (lc_state hL3 hi hW hF6 (by omega) (by omega) nxt)
          · exact wa_table 381 dL_law_33 (by decide) (by decide) (off := 348) rfl (by decide) (lc_behind hL3 hi hW hF6 (by omega) (by omega) nxt)
          · exact wa_table 414 dL_law_33 (by decide) (by decide) (off := 381) rfl (by decide) (lc_first hL3 hi hW hF6 (by omega) (by omega) nxt)
          · exact wa_table 427 dL_law_33 (by decide) (by decide) (off := 394) rfl (by decide) (lc_recognised hL3 hi hW hF6 (by omega) (by omega) nxt)
          · exact wa_table 450 dL_law_33 (by decide) (by decide) (off := 417) rfl (by decide) (lc_where hL3 hi hW hF6 (by omega) (by omega) nxt)
          · exact wa_table 473 dL_law_33 (by decide) (by decide) (off := 440) rfl (by decide) (lc_cleared hL3 hi hW hF6 (by omega) (by omega) nxt)
          · exact wa_table 496 dL_law_33 (by decide) (by decide) (off := 463) rfl (by decide) (lc_salted hL3 hi hW hF6 (by omega) (by omega) nxt)
          · exact wa_table 519 dL_law_33 (by decide) (by decide) (off := 486) rfl (by decide) (lc_slide hL3 hi hW hF6 (by omega) (by omega) nxt)
          · exact wa_table 562 dL_law_33 (by decide) (by decide) (off := 529) rfl (by decide) (lc_holds hL3 hi hW hF6 (by omega) (by omega) nxt)
          · exact wa_table 585 dL_law_33 (by decide) (by decide) (off := 552) rfl (by decide) (lc_seen hL3 hi hW hF6 (by omega) (by omega) nxt)
          · exact wa_table 618 dL_law_33 (by decide) (by decide) (off := 585) rfl (by decide) (lc_forget hL3 hi hW hF6 (by omega) (by omega) nxt)
          · exact wa_table 631 dL_law_33 (by decide) (by decide) (off := 598) rfl (by decide) (lc_who hL3 hi hW hF6 (by omega) (by omega) nxt)
          · exact wa_table 664 dL_law_33 (by decide) (by decide) (off := 631) rfl (by decide) (lc_next hL3 hi hW hF6 (by omega) (by omega) nxt)
          · exact wa_table 697 dL_law_33 (by decide) (by decide) (off := 664) rfl (by decide) (lc_laws hL3 hi hW hF6 (by omega) (by omega) nxt)
          · exact wa_table 720 dL_law_33 (by decide) (by decide) (off := 687) rfl (by decide) (lc_guests hL3 hi hW hF6 (by omega) (by omega) nxt)
          · exact wa_table 774 dL_law_33 (by decide) (by decide) (off := 741) rfl (by decide) (lc_build hL3 hi hW hF6 (by omega) (by omega) nxt)
          · exact wa_table 837 dL_law_33 (by decide) (by decide) (off := 804) rfl (by decide) (lc_elsewhere hL3 hi hW hF6 (by omega) (by omega) nxt)
          · exact wa_table 860 dL_law_33 (by decide) (by decide) (off := 827) rfl (by decide) (lc_winter hL3 hi hW hF6 (by omega) (by omega) nxt)
          · exact wa_table 903 dL_law_33 (by decide) (by decide) (off := 870) rfl (by decide) (lc_image hL3 hi hW hF6 (by omega) (by omega) nxt)
          · exact wa_table 926 dL_law_33 (by decide) (by decide) (off := 893) rfl (by decide) (lc_restore hL3 hi hW hF6 (by omega) (by omega) nxt)
          · exact wa_table 949 dL_law_33 (by decide) (by decide) (off := 916) rfl (by decide) (lc_told hL3 hi hW hF6 (by omega) (by omega) nxt)
        · exact wa_tabled 972 dL_law_33 (by omega) (by omega) (by decide) (nxt _ _ _ _ _ _ (hW.q (by omega) hF6 rfe_rf (qry_rf hsc) rfr_rf) (by omega) (by omega))
      refine wa_ild3 dL_law_18 ?_
      refine wa_aldX dL_law_19 ?_
      refine wa_slen dL_law_20 hL3 ?_
      refine wa_bipush dL_law_21 (by decide) ?_
      refine wa_isub dL_law_23 ?_
      refine wa_icmp_gt 978 dL_law_24 (by decide) (by omega) (by omega) (fun c24 => ?_) (fun c24 => ?_)
      · exact absurd c24 (by omega)
      · refine wa_aldX dL_law_27 ?_
        refine wa_ild3 dL_law_28 ?_
        refine wa_sld dL_law_29 (by omega) hL3 ?_
        refine wa_bipush dL_law_30 (by decide) ?_
        refine wa_iand dL_law_32 ?_
        exact sw _ (z31 _)
    · refine wa_ild3 dL_law_18 ?_
      refine wa_aldX dL_law_19 ?_
      refine wa_slen dL_law_20 hL3 ?_
      refine wa_bipush dL_law_21 (by decide) ?_
      refine wa_isub dL_law_23 ?_
      refine wa_icmp_gt 978 dL_law_24 (by decide) (by omega) (by omega) (fun c24 => ?_) (fun c24 => ?_)
      · refine wa_iconst dL_law_978 ?_
        exact wa_lend dL_law_979 (by omega) (by omega)
      · exact absurd c24 (by omega)
/-- what holds when both are made -/
theorem lw_new {S : zH} {Rf : zG} {V : zE} (hL : Lay S Rf) (h17 : Rf 17 0 = none ∧ Rf 17 1 = none) (hn : nwS 1 V) (h18 : V 18 1 = 0) (h19 : V 19 = fun _ => 0) (h27 : V 27 = fun _ => 0) (h28 : V 28 = fun _ => 0) (h30 : V 30 = fun _ => 0) (hr : V 37 0 = 6 ∧ V 37 3 = 0 ∧ V 37 4 = 0 ∧ V 37 7 = 1 ∧ V 37 8 = 3 ∧ V 37 9 = 1 ∧ V 37 10 = 4 ∧ V 37 11 = 0 ∧ V 37 13 = 0 ∧ V 38 = (fun _ => 0) ∧ V 39 = (fun _ => 20) ∧ V 40 = (fun _ => 0) ∧ V 41 = (fun _ => 0) ∧ V 42 = (fun _ => 0) ∧ V 43 = (fun _ => 0) ∧ V 54 = (fun _ => 0)) : LWH 55 S Rf V 0 := by
  unfold nwS at hn
  simp only [Nat.reduceAdd] at hn
  obtain ⟨a1, a2, a3, a4, a5, a6, a7, a8, a9, a10, a11⟩ := hn
  obtain ⟨r0, r3, r4, r7, r8, r9, r10, r11, r13, r38, r39, r40, r41, r42, r43, r54⟩ := hr
  have hu : ∀ j, 0 ≤ V 4 j ∧ V 4 j ≤ 9 := fun j => by
    rw [a7]
    simp only [za]
    (repeat' split) <;> decide
  have hI : CI 6 0 0 0 V ∧ flI 6 (vw 1 V) := by
    refine SI.ci ?_ (by decide) (by rw [h18]; rfl) (by decide) (fun j => by rw [h19]; dsimp only; omega) ⟨fun j => by rw [h27]; dsimp only; omega, fun j => by rw [h28], fun j => by rw [h30]; dsimp only; omega⟩
    simp only [SI, vw, flI, Nat.reduceAdd]
    rw [a1, a2, a4, a5, a6, a8, a9, a10, a11]
    refine ⟨rfl, by decide, by decide, fun _ => ?_, fun _ => ?_, hu, by rw [a7]; decide, fun _ => ?_, fun _ => ?_, by decide, rfl, by decide, fun _ => ?_, fun _ => ?_, fun _ _ _ _ _ => rfl, fun _ _ _ => rfl⟩ <;> (dsimp only; omega)
  refine ⟨hL, Nat.le_refl _, ⟨6, 0, 0, hI.1, hI.2, ?_⟩, Or.inl ⟨h17.1, by rw [r54]⟩, Or.inl ⟨h17.2, by rw [r54]⟩, fun a b ha _ => by rw [h17.1] at ha; cases ha⟩
  unfold RI
  rw [r0, r3, r4, r7, r8, r9, r10, r11, r13, r38, r39, r40, r41, r42, r43, a2, a3, a5, a6, a7, a8, a9, a10, a11, h19]
  exact ⟨rfl, rfl, rfl, rfl, rfl, rfl, rfl, rfl, rfl, rfl, rfl, rfl, fun _ _ => ⟨rfl, rfl⟩, rfl, rfl⟩
theorem law_all {LL : Nat} {xs : Nat → Int32} (hL3 : LL ≤ 3072) : Wa (zXl LL xs) mL_law room_1 zZl 0 0 0 (fun _ => none) 0 [some zX, none, none, none] [] (fun _ _ => none) (fun _ _ => 0) := by
  refine nL_7 dL_law_0 rfl (by decide) ?_
  refine wa_dup dL_law_3 rfl ?_
  refine kL_9 dL_law_4 rfl (ct_init6 (by simp [za]) (fun k hk => by rw [za_n _ _ (by omega)])) ⟨Nat.le_of_ble_eq_true rfl, Nat.le_of_ble_eq_true rfl⟩ (Nat.le_of_ble_eq_true rfl) (by decide) (fun v1 S1 R1 V1 hq1 => ?_)
  obtain ⟨rfl, a1, a2, a3, a4, a5, a6, a7, a8, a9, a10⟩ := hq1
  refine wa_ast1 dL_law_7 (by decide) rfl ?_
  refine nL_10 dL_law_8 rfl (by decide) ?_
  refine wa_dup dL_law_11 rfl ?_
  refine kL_12 dL_law_12 rfl (ct_init7 (by simp [za]) (fun k hk => by rw [za_n _ _ (by omega)]; exact a1 k hk) (fun k hk => by rw [za_n _ _ (by omega)]; exact a2 k (by omega)) (fun k j hk hr => by rw [zp_n _ _ (by omega)]; exact a3 k j hk hr) (zp_s _ _ _)) ⟨Nat.le_of_ble_eq_true rfl, Nat.le_of_ble_eq_true rfl⟩ (Nat.le_of_ble_eq_true rfl) (by decide) (fun v2 S2 R2 V2 hq2 => ?_)
  obtain ⟨rfl, b1, b2, b3, b4⟩ := hq2
  have e : ∀ k, k < 37 → V2 k = V1 k := fun k hk => by rw [(b2 k hk).2.2, zp_n _ _ (by omega)]
  have eR : R2 17 = R1 17 := by rw [(b2 17 (by decide)).2.1, zp_n _ _ (by decide)]
  refine wa_ast2 dL_law_15 (by decide) rfl ?_
  refine wa_iconst dL_law_16 ?_
  refine wa_ist3 dL_law_17 (by decide) rfl ?_
  refine law_loop hL3 513 0 55 _ _ _ _ _ (by decide) (lw_new b1 (by rw [eR]; exact a4) ?_ (by rw [e 18 (by decide)]; exact a6) (by rw [e 19 (by decide)]; exact a7) (by rw [e 27 (by decide)]; exact a8) (by rw [e 28 (by decide)]; exact a9) (by rw [e 30 (by decide)]; exact a10) b4) (by decide) (by decide)
  unfold nwS at a5 ⊢
  simp only [Nat.reduceAdd] at a5 ⊢
  rw [e 1 (by decide), e 2 (by decide), e 3 (by decide), e 4 (by decide), e 5 (by decide), e 6 (by decide), e 7 (by decide), e 8 (by decide)]
  exact a5
