/-! the law: image, restore -/
theorem IM.oth {n n' r i : Nat} {S S' : zH} {Rf Rf' : zG} {V V' : zE} {F F' : Int} (h : IM n S Rf V F i) (hn : n ≤ n') (hF : F ≤ F') (hS : ∀ k, k < n → S' k = S k) (hRf : ∀ k, 55 ≤ k → k < n → Rf' k = Rf k) (h17 : Rf' 17 i = Rf 17 i) (hap : ∀ a, Rf 17 i = some a → a + 8 ≤ r ∨ r + 8 ≤ a) (hV : ∀ k, 55 ≤ k → k < n → (k < r ∨ r + 7 < k) → V' k = V k) (h53 : ∀ j, 130 * i ≤ j → j < 130 * i + 112 → V' 53 j = V 53 j) (h54 : V' 54 i = V 54 i) : IM n' S' Rf' V' F' i := by
  rcases h with ⟨h1, h2⟩ | ⟨a, c, k, h1, h2, h3, h4, h5, h6, h7⟩
  · exact Or.inl ⟨by rw [h17]; exact h1, by rw [h54]; exact h2⟩
  · have hp := hap a h1
    have e : ∀ j, j ≤ 7 → V' (a + j) = V (a + j) := fun j hj => hV _ (by omega) (by omega) (by omega)
    refine Or.inr ⟨a, c, k, by rw [h17]; exact h1, h2, by omega, ?_, by rw [h54]; exact h5, h6.go hF e, h7.go e h53⟩
    unfold isStr at h4 ⊢
    rw [hRf a h2 (by omega), hS a (by omega), hS (a + 1) (by omega), hS (a + 2) (by omega), hS (a + 3) (by omega), hS (a + 4) (by omega), hS (a + 5) (by omega), hS (a + 6) (by omega), hS (a + 7) (by omega)]
    exact h4
theorem lw_image {n n' r m : Nat} {S S' : zH} {Rf Rf' : zG} {V V1 : zE} {F F' : Int} (hW : LWH n S Rf V F) (hm : m ≤ 1) (hF : F ≤ F') (hF6 : F' ≤ 1000000) (hL' : Lay S' Rf') (e1 : ∀ k, k < 55 → V1 k = V k) (h55 : 55 ≤ r) (hr : r + 8 ≤ n') (hn : n ≤ n') (hst : isStr S' Rf' r) (er : ∀ j, j ≤ 7 → V1 (r + j) = V (1 + j)) (hS : ∀ k, k < n → S' k = S k) (hRf : ∀ k, 55 ≤ k → k < n → Rf' k = Rf k) (h17 : Rf' 17 m = some r) (h17o : ∀ i, i ≠ m → Rf' 17 i = Rf 17 i) (hap : ∀ i a, i ≠ m → i ≤ 1 → Rf 17 i = some a → a + 8 ≤ r ∨ r + 8 ≤ a) (hV : ∀ k, 55 ≤ k → k < n → (k < r ∨ r + 7 < k) → V1 k = V k) : LWH n' S' Rf' (zp (zp V1 53 (imG m V1)) 54 (za (V1 54) m 1)) F' := by
  obtain ⟨hLy, h5n, ⟨c, k, len, hI, hfl, hRI⟩, i0, i1, hsp⟩ := hW
  have hsc := hI.2.2.2.2.2.2.2.2.2.2.2.2.2.2.2.2.2.2
  generalize hV2 : zp (zp V1 53 (imG m V1)) 54 (za (V1 54) m 1) = V2
  have g53 : V2 53 = imG m V1 := by rw [← hV2, zp_n _ _ (by decide), zp_s]
  have g54 : V2 54 = za (V1 54) m 1 := by rw [← hV2, zp_s]
  have go : ∀ k, k ≠ 53 → k ≠ 54 → V2 k = V1 k := fun k a b => by rw [← hV2, zp_n _ _ b, zp_n _ _ a]
  have gl : ∀ k, k < 53 → V2 k = V k := fun k hk => by rw [go k (by omega) (by omega), e1 k (by omega)]
  obtain ⟨a1, a2⟩ := hI.go hfl hF hF6 (fun j hj => gl j (by omega)) (by rw [gl 18 (by decide)]) (gl 19 (by decide)) (by unfold scrI; rw [gl 27 (by decide), gl 28 (by decide), gl 30 (by decide)]; exact hsc)
  have hR1 : RI c k len V V1 := hRI.v (fun j h1 h2 => e1 j (by omega))
  have hR2 : RI c k len V2 V2 := (hRI.v (fun j h1 h2 => gl j (by omega))).w (fun j hj => gl j (by omega)) (gl 19 (by decide))
  have own : IM n' S' Rf' V2 F' m := Or.inr ⟨r, c, k, h17, h55, hr, hst, by rw [g54, za_s], (hI.si hfl).go hF (fun j hj => by rw [go _ (by omega) (by omega)]; exact er j hj), imR.of hR1 hI.1 hI.2.2.2.2.2.2.2.2.2.2.2.1 (fun j hj => by rw [go _ (by omega) (by omega)]; exact er j hj) g53⟩
  have oth : ∀ i, i ≠ m → i ≤ 1 → IM n S Rf V F i → IM n' S' Rf' V2 F' i := fun i hi hi1 h => h.oth (r := r) hn hF hS hRf (h17o i hi) (fun a ha => hap i a hi hi1 ha) (fun k h1 h2 h3 => by rw [go k (by omega) (by omega)]; exact hV k h1 h2 h3) (fun j h1 h2 => by rw [g53, im_o (by omega), e1 53 (by decide)]) (by rw [g54, za_n _ _ hi, e1 54 (by decide)])
  refine ⟨hL', by omega, ⟨c, k, len, a1, a2, hR2⟩, ?_, ?_, fun a b ha hb => ?_⟩
  · by_cases h : m = 0
    · rw [h] at own; exact own
    · exact oth 0 (fun q => h q.symm) (by decide) i0
  · by_cases h : m = 1
    · rw [h] at own; exact own
    · exact oth 1 (fun q => h q.symm) (by decide) i1
  · obtain rfl | rfl : m = 0 ∨ m = 1 := by omega
    · rw [h17] at ha
      rw [h17o 1 (by decide)] at hb
      cases ha
      have := hap 1 b (by decide) (by decide) hb
      omega
    · rw [h17] at hb
      rw [h17o 0 (by decide)] at ha
      cases hb
      exact hap 0 a (by decide) (by decide) ha
theorem IM.at {n r i : Nat} {S : zH} {Rf : zG} {V : zE} {F : Int} (h : IM n S Rf V F i) (hr : Rf 17 i = some r) : ∃ c k, 55 ≤ r ∧ r + 8 ≤ n ∧ isStr S Rf r ∧ V 54 i = 1 ∧ SI c k F r V ∧ imR i r V := by
  rcases h with ⟨h1, _⟩ | ⟨a, c, k, h1, h2, h3, h4, h5, h6, h7⟩
  · rw [hr] at h1; cases h1
  · rw [hr] at h1
    cases h1
    exact ⟨c, k, h2, h3, h4, h5, h6, h7⟩
theorem IM.no {n i : Nat} {S : zH} {Rf : zG} {V : zE} {F : Int} (h : IM n S Rf V F i) (hr : Rf 17 i = none) : V 54 i = 0 := by
  rcases h with ⟨_, h1⟩ | ⟨a, c, k, h1, _⟩
  · exact h1
  · rw [hr] at h1; cases h1
theorem LWH.im {n i : Nat} {S : zH} {Rf : zG} {V : zE} {F : Int} (h : LWH n S Rf V F) (hi : i ≤ 1) : IM n S Rf V F i := by
  obtain rfl | rfl : i = 0 ∨ i = 1 := by omega
  · exact h.2.2.2.1
  · exact h.2.2.2.2.1
theorem LWH.sp {n r i i' a : Nat} {S : zH} {Rf : zG} {V : zE} {F : Int} (h : LWH n S Rf V F) (hi : i ≤ 1) (hi' : i' ≤ 1) (hne : i' ≠ i) (hr : Rf 17 i = some r) (ha : Rf 17 i' = some a) : a + 8 ≤ r ∨ r + 8 ≤ a := by
  have hs := h.2.2.2.2.2
  obtain rfl | rfl : i = 0 ∨ i = 1 := by omega
  · obtain rfl : i' = 1 := by omega
    have := hs r a hr ha; omega
  · obtain rfl : i' = 0 := by omega
    exact hs a r ha hr
theorem lc_image {LL i n ce sl : Nat} {xs : Nat → Int32} {S : zH} {Rf : zG} {V : zE} {F : Int} (hL3 : LL ≤ 3072) (hi : i + 6 ≤ LL) (hW : LWH n S Rf V F) (hF6 : F + 1080 ≤ 1000000) (hce : ce + 16 ≤ 600000) (hsl : sl + 200 ≤ 7302250) (kk : ∀ (n' ce' sl' : Nat) (S' : zH) (Rf' : zG) (V' : zE), LWH n' S' Rf' V' (F + 1080) → ce' ≤ ce + 8 → sl' ≤ sl + 119 → Wa (zXl LL xs) mL_law room_1 zZl ce' sl' n' S' 972 [some zX, some (zR 0), some (zR 37), some (zI (i : Int))] [] Rf' V') : Wa (zXl LL xs) mL_law room_1 zZl ce sl n S 903 [some zX, some (zR 0), some (zR 37), some (zI (i : Int))] [] Rf V := by
  have hLy := hW.1
  have h5n := hW.2.1
  have hsc : scrI V := by obtain ⟨c, k, len, hI, _⟩ := hW.2.2.1; exact hI.2.2.2.2.2.2.2.2.2.2.2.2.2.2.2.2.2.2
  obtain ⟨a, ha⟩ : ∃ a, (xs ((i : Int) + 1).toNat).toInt = a := ⟨_, rfl⟩
  have har : -2147483648 ≤ a ∧ a ≤ 2147483647 := by rw [← ha]; exact zi_rg _
  by_cases hout : a < 0 ∨ 1 < a
  · refine wa_ald1 dL_law_903 ?_
    refine wa_aldX dL_law_904 ?_
    refine wa_ild3 dL_law_905 ?_
    refine wa_iconst dL_law_906 ?_
    refine wa_iadd dL_law_907 ?_
    refine wa_sld dL_law_908 (by omega) hL3 ?_
    rw [ha]
    refine kL_123 dL_law_909 rfl (by exact hLy.1 _ (by decide)) (ct_image_out har hout) ⟨Nat.le_of_ble_eq_true rfl, Nat.le_of_ble_eq_true rfl⟩ (Nat.le_of_ble_eq_true rfl) ⟨(by show ce + 0 ≤ 600000; omega), (by show sl + 0 ≤ 7302250; omega)⟩ (zdI ?_)
    refine wa_ald2 dL_law_912 ?_
    refine wa_aldX dL_law_913 ?_
    refine wa_ild3 dL_law_914 ?_
    refine wa_iconst dL_law_915 ?_
    refine wa_iadd dL_law_916 ?_
    refine wa_sld dL_law_917 (by omega) hL3 ?_
    rw [ha]
    refine kL_126 dL_law_918 rfl (by exact hLy.1 _ (by decide)) (cm_image_out har hout) ⟨Nat.le_of_ble_eq_true rfl, Nat.le_of_ble_eq_true rfl⟩ (Nat.le_of_ble_eq_true rfl) ⟨(by show ce + 0 ≤ 600000; omega), (by show sl + 0 ≤ 7302250; omega)⟩ (zdI ?_)
    exact wa_icmp_eq_t 972 dL_law_921 (by decide) rfl (kk _ _ _ _ _ _ (hW.q (by omega) hF6 rfe_rf (qry_rf hsc) rfr_rf) (by omega) (by omega))
  · obtain ⟨m, rfl⟩ : ∃ m : Nat, a = m := ⟨a.toNat, by omega⟩
    have hm : m ≤ 1 := by omega
    rcases hrf : Rf 17 m with _ | r
    · refine wa_ald1 dL_law_903 ?_
      refine wa_aldX dL_law_904 ?_
      refine wa_ild3 dL_law_905 ?_
      refine wa_iconst dL_law_906 ?_
      refine wa_iadd dL_law_907 ?_
      refine wa_sld dL_law_908 (by omega) hL3 ?_
      rw [ha]
      refine kL_123 dL_law_909 rfl (by first | exact hLy.1 _ (by decide) | exact hL1.1 _ (by decide)) (ct_image_new hLy (by omega) (by rw [Int.toNat_natCast]; exact hrf) h5n) ⟨Nat.le_of_ble_eq_true rfl, Nat.le_of_ble_eq_true rfl⟩ (Nat.le_of_ble_eq_true rfl) ⟨(by first | (show ce + 8 ≤ 600000; omega) | (show ce + 8 + 0 ≤ 600000; omega)), (by first | (show sl + 119 ≤ 7302250; omega) | (show sl + 119 + 0 ≤ 7302250; omega))⟩ (fun v1 S1 R1 V1 hq1 => ?_)
      obtain ⟨rfl, q1, q2, q3, q4, q5⟩ := hq1
      rw [Int.toNat_natCast] at q3
      have hL1 : Lay S1 R1 := ⟨fun k hk => by rw [q1 k (by omega)]; exact hLy.1 k hk, fun k j hj => by
        have hk : k ≤ 37 := by
          by_cases h : k ≤ 37
          · exact h
          · exact absurd (rfp_hi (by omega)) hj
        rw [q3 k (by omega)]
        by_cases h17 : k = 17
        · subst h17; exact absurd rfl hj
        · rw [zp_n _ _ h17]; exact hLy.2 k j hj⟩
      refine wa_ald2 dL_law_912 ?_
      refine wa_aldX dL_law_913 ?_
      refine wa_ild3 dL_law_914 ?_
      refine wa_iconst dL_law_915 ?_
      refine wa_iadd dL_law_916 ?_
      refine wa_sld dL_law_917 (by omega) hL3 ?_
      rw [ha]
      refine kL_126 dL_law_918 rfl (by first | exact hLy.1 _ (by decide) | exact hL1.1 _ (by decide)) (cm_image hL1 hm) ⟨Nat.le_of_ble_eq_true rfl, Nat.le_of_ble_eq_true rfl⟩ (Nat.le_of_ble_eq_true rfl) ⟨(by first | (show ce + 8 ≤ 600000; omega) | (show ce + 8 + 0 ≤ 600000; omega)), (by first | (show sl + 119 ≤ 7302250; omega) | (show sl + 119 + 0 ≤ 7302250; omega))⟩ (zdI ?_)
      refine wa_icmp_eq_t 972 dL_law_921 (by decide) rfl (kk _ _ _ _ _ _ (lw_image (r := n) hW hm (by omega) hF6 hL1 (fun k hk => q4 k (by omega)) h5n (Nat.le_refl _) (by omega) q2 q5 (fun k hk => q1 k (by omega)) (fun k h1 h2 => by rw [q3 k h2, zp_n _ _ (by omega)]) (by rw [q3 17 (by omega), zp_s, za_s]) (fun i hi => by rw [q3 17 (by omega), zp_s, za_n _ _ hi]) (fun i a hi hi1 ha => ?_) (fun k h1 h2 _ => q4 k h2)) (by omega) (by omega))
      obtain ⟨_, _, _, h3, _⟩ := (hW.im hi1).at ha
      omega
    · obtain ⟨c, k, p1, p2, p3, p4, p5, p6⟩ := (hW.im hm).at hrf
      refine wa_ald1 dL_law_903 ?_
      refine wa_aldX dL_law_904 ?_
      refine wa_ild3 dL_law_905 ?_
      refine wa_iconst dL_law_906 ?_
      refine wa_iadd dL_law_907 ?_
      refine wa_sld dL_law_908 (by omega) hL3 ?_
      rw [ha]
      refine kL_123 dL_law_909 rfl (by exact hLy.1 _ (by decide)) (ct_image_old hLy (by omega) (by rw [Int.toNat_natCast]; exact hrf) p3 p1) ⟨Nat.le_of_ble_eq_true rfl, Nat.le_of_ble_eq_true rfl⟩ (Nat.le_of_ble_eq_true rfl) ⟨(by show ce + 0 ≤ 600000; omega), (by show sl + 0 ≤ 7302250; omega)⟩ (zdI ?_)
      refine wa_ald2 dL_law_912 ?_
      refine wa_aldX dL_law_913 ?_
      refine wa_ild3 dL_law_914 ?_
      refine wa_iconst dL_law_915 ?_
      refine wa_iadd dL_law_916 ?_
      refine wa_sld dL_law_917 (by omega) hL3 ?_
      rw [ha]
      refine kL_126 dL_law_918 rfl (by exact hLy.1 _ (by decide)) (cm_image hLy hm) ⟨Nat.le_of_ble_eq_true rfl, Nat.le_of_ble_eq_true rfl⟩ (Nat.le_of_ble_eq_true rfl) ⟨(by show ce + 0 ≤ 600000; omega), (by show sl + 0 ≤ 7302250; omega)⟩ (zdI ?_)
      exact wa_icmp_eq_t 972 dL_law_921 (by decide) rfl (kk _ _ _ _ _ _ (lw_image (r := r) hW hm (by omega) hF6 hLy (fun k hk => cpV_o (by omega)) p1 p2 (Nat.le_refl _) p3 (fun j hj => cpV_i hj) (fun _ _ => rfl) (fun _ _ _ => rfl) hrf (fun _ _ => rfl) (fun i a hi hi1 ha => hW.sp hm hi1 hi hrf ha) (fun k _ _ h3 => cpV_o h3)) (by omega) (by omega))
theorem lc_restore {LL i n ce sl : Nat} {xs : Nat → Int32} {S : zH} {Rf : zG} {V : zE} {F : Int} (hL3 : LL ≤ 3072) (hi : i + 6 ≤ LL) (hW : LWH n S Rf V F) (hF6 : F + 1080 ≤ 1000000) (hce : ce + 16 ≤ 600000) (hsl : sl + 200 ≤ 7302250) (kk : ∀ (n' ce' sl' : Nat) (S' : zH) (Rf' : zG) (V' : zE), LWH n' S' Rf' V' (F + 1080) → ce' ≤ ce + 8 → sl' ≤ sl + 119 → Wa (zXl LL xs) mL_law room_1 zZl ce' sl' n' S' 972 [some zX, some (zR 0), some (zR 37), some (zI (i : Int))] [] Rf' V') : Wa (zXl LL xs) mL_law room_1 zZl ce sl n S 926 [some zX, some (zR 0), some (zR 37), some (zI (i : Int))] [] Rf V := by
  have hLy := hW.1
  have h5n := hW.2.1
  obtain ⟨c, k, len, hI, hfl, hRI⟩ := hW.2.2.1
  have hsc := hI.2.2.2.2.2.2.2.2.2.2.2.2.2.2.2.2.2.2
  obtain ⟨a, ha⟩ : ∃ a, (xs ((i : Int) + 1).toNat).toInt = a := ⟨_, rfl⟩
  have har : -2147483648 ≤ a ∧ a ≤ 2147483647 := by rw [← ha]; exact zi_rg _
  by_cases hout : a < 0 ∨ 1 < a
  · refine wa_ald1 dL_law_926 ?_
    refine wa_aldX dL_law_927 ?_
    refine wa_ild3 dL_law_928 ?_
    refine wa_iconst dL_law_929 ?_
    refine wa_iadd dL_law_930 ?_
    refine wa_sld dL_law_931 (by omega) hL3 ?_
    rw [ha]
    refine kL_127 dL_law_932 rfl (by exact hLy.1 _ (by decide)) (ct_restore_out har hout) ⟨Nat.le_of_ble_eq_true rfl, Nat.le_of_ble_eq_true rfl⟩ (Nat.le_of_ble_eq_true rfl) ⟨(by show ce + 0 ≤ 600000; omega), (by show sl + 0 ≤ 7302250; omega)⟩ (zdI ?_)
    refine wa_ald2 dL_law_935 ?_
    refine wa_aldX dL_law_936 ?_
    refine wa_ild3 dL_law_937 ?_
    refine wa_iconst dL_law_938 ?_
    refine wa_iadd dL_law_939 ?_
    refine wa_sld dL_law_940 (by omega) hL3 ?_
    rw [ha]
    refine kL_130 dL_law_941 rfl (by exact hLy.1 _ (by decide)) (cm_restore_out har hout) ⟨Nat.le_of_ble_eq_true rfl, Nat.le_of_ble_eq_true rfl⟩ (Nat.le_of_ble_eq_true rfl) ⟨(by show ce + 0 ≤ 600000; omega), (by show sl + 0 ≤ 7302250; omega)⟩ (zdI ?_)
    exact wa_icmp_eq_t 972 dL_law_944 (by decide) rfl (kk _ _ _ _ _ _ (hW.q (by omega) hF6 rfe_rf (qry_rf hsc) rfr_rf) (by omega) (by omega))
  · obtain ⟨m, rfl⟩ : ∃ m : Nat, a = m := ⟨a.toNat, by omega⟩
    have hm : m ≤ 1 := by omega
    rcases hrf : Rf 17 m with _ | r
    · have h0 := (hW.im hm).no hrf
      refine wa_ald1 dL_law_926 ?_
      refine wa_aldX dL_law_927 ?_
      refine wa_ild3 dL_law_928 ?_
      refine wa_iconst dL_law_929 ?_
      refine wa_iadd dL_law_930 ?_
      refine wa_sld dL_law_931 (by omega) hL3 ?_
      rw [ha]
      refine kL_127 dL_law_932 rfl (by exact hLy.1 _ (by decide)) (ct_restore_none hLy (by omega) (by rw [Int.toNat_natCast]; exact hrf)) ⟨Nat.le_of_ble_eq_true rfl, Nat.le_of_ble_eq_true rfl⟩ (Nat.le_of_ble_eq_true rfl) ⟨(by show ce + 0 ≤ 600000; omega), (by show sl + 0 ≤ 7302250; omega)⟩ (zdI ?_)
      refine wa_ald2 dL_law_935 ?_
      refine wa_aldX dL_law_936 ?_
      refine wa_ild3 dL_law_937 ?_
      refine wa_iconst dL_law_938 ?_
      refine wa_iadd dL_law_939 ?_
      refine wa_sld dL_law_940 (by omega) hL3 ?_
      rw [ha]
      refine kL_130 dL_law_941 rfl (by exact hLy.1 _ (by decide)) (cm_restore_none hLy hm h0) ⟨Nat.le_of_ble_eq_true rfl, Nat.le_of_ble_eq_true rfl⟩ (Nat.le_of_ble_eq_true rfl) ⟨(by show ce + 0 ≤ 600000; omega), (by show sl + 0 ≤ 7302250; omega)⟩ (zdI ?_)
      exact wa_icmp_eq_t 972 dL_law_944 (by decide) rfl (kk _ _ _ _ _ _ (hW.q (by omega) hF6 rfe_rf (qry_rf hsc) rfr_rf) (by omega) (by omega))
    · obtain ⟨c', k', p1, p2, p3, p4, p5, p6⟩ := (hW.im hm).at hrf
      have e1 : ∀ j, j ≤ 7 → cpV 1 r V (1 + j) = V (r + j) := fun j hj => cpV_i hj
      have eo : ∀ j, 8 < j → cpV 1 r V j = V j := fun j hj => cpV_o (by omega)
      obtain ⟨b1, b2⟩ := (p5.go (r' := 1) (F' := F + 1080) (by omega) e1).ci (len := len) hF6 (by rw [eo 18 (by decide)]; exact hI.2.2.2.2.2.2.2.2.2.2.2.2.2.2.2.1) hI.2.2.2.2.2.2.2.2.2.2.2.2.2.2.2.2.1 (by rw [eo 19 (by decide)]; exact hI.2.2.2.2.2.2.2.2.2.2.2.2.2.2.2.2.2.1) (by unfold scrI; rw [eo 27 (by decide), eo 28 (by decide), eo 30 (by decide)]; exact hsc)
      have hR2 := p6.back hRI (V1 := cpV 1 r V) e1 (fun j h1 h2 => eo j (by omega)) (eo 19 (by decide)) p5.1 p5.2.2.2.2.2.2.2.2.2.2.1 rfl
      have c2 : cpV 1 r V 2 = V (r + 1) := e1 1 (by decide)
      have c3 : cpV 1 r V 3 = V (r + 2) := e1 2 (by decide)
      have c5 : cpV 1 r V 5 = V (r + 4) := e1 4 (by decide)
      have c6 : cpV 1 r V 6 = V (r + 5) := e1 5 (by decide)
      have hres := cm_restore (n := n) (V := cpV 1 r V) (D := cpV 1 r V 2) (R := cpV 1 r V 3) (Sa := cpV 1 r V 5) (Fl := cpV 1 r V 6) hLy hm (by rw [eo 54 (by decide)]; exact p4) (fun g hg => by rw [eo 53 (by decide), c2]; exact (p6.1 g hg).1) (fun g hg => by rw [eo 53 (by decide), c3]; exact (p6.1 g hg).2.1) (fun g hg => by rw [eo 53 (by decide), c5]; exact (p6.1 g hg).2.2) (fun g hg => by rw [eo 53 (by decide), c6]; exact p6.2.1 g hg)
      have eR : ∀ j, j < 37 ∨ 43 < j → rsV m (cpV 1 r V 2) (cpV 1 r V 3) (cpV 1 r V 5) (cpV 1 r V 6) (cpV 1 r V) j = cpV 1 r V j := fun j hj => by
        unfold rsV
        repeat rw [zp_n _ _ (by omega)]
      refine wa_ald1 dL_law_926 ?_
      refine wa_aldX dL_law_927 ?_
      refine wa_ild3 dL_law_928 ?_
      refine wa_iconst dL_law_929 ?_
      refine wa_iadd dL_law_930 ?_
      refine wa_sld dL_law_931 (by omega) hL3 ?_
      rw [ha]
      refine kL_127 dL_law_932 rfl (by exact hLy.1 _ (by decide)) (ct_restore_old hLy (by omega) (by rw [Int.toNat_natCast]; exact hrf) p3 p1) ⟨Nat.le_of_ble_eq_true rfl, Nat.le_of_ble_eq_true rfl⟩ (Nat.le_of_ble_eq_true rfl) ⟨(by show ce + 0 ≤ 600000; omega), (by show sl + 0 ≤ 7302250; omega)⟩ (zdI ?_)
      refine wa_ald2 dL_law_935 ?_
      refine wa_aldX dL_law_936 ?_
      refine wa_ild3 dL_law_937 ?_
      refine wa_iconst dL_law_938 ?_
      refine wa_iadd dL_law_939 ?_
      refine wa_sld dL_law_940 (by omega) hL3 ?_
      rw [ha]
      refine kL_130 dL_law_941 rfl (by exact hLy.1 _ (by decide)) (hres) ⟨Nat.le_of_ble_eq_true rfl, Nat.le_of_ble_eq_true rfl⟩ (Nat.le_of_ble_eq_true rfl) ⟨(by show ce + 0 ≤ 600000; omega), (by show sl + 0 ≤ 7302250; omega)⟩ (zdI ?_)
      exact wa_icmp_eq_t 972 dL_law_944 (by decide) rfl (kk _ _ _ _ _ _ (hW.m (by omega) b1 b2 hR2 (fun j hj => eR j (Or.inl hj)) (fun j hj => by rw [eR j (by omega), eo j (by omega)])) (by omega) (by omega))
