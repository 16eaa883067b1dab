/-! the calls of the law, one by one -/
theorem lc_gardens {LL i n ce sl : Nat} {xs : Nat → Int32} {S : zH} {Rf : zG} {V : zE} {F : Int} (hL3 : LL ≤ 3072) (hi : i + 6 ≤ LL) (hW : LWH n S Rf V F) (hF6 : F + 1080 ≤ 1000000) (hce : ce + 16 ≤ 600000) (hsl : sl + 200 ≤ 7302250) (kk : ∀ (n' ce' sl' : Nat) (S' : zH) (Rf' : zG) (V' : zE), LWH n' S' Rf' V' (F + 1080) → ce' ≤ ce + 8 → sl' ≤ sl + 119 → Wa (zXl LL xs) mL_law room_1 zZl ce' sl' n' S' 972 [some zX, some (zR 0), some (zR 37), some (zI (i : Int))] [] Rf' V') : Wa (zXl LL xs) mL_law room_1 zZl ce sl n S 164 [some zX, some (zR 0), some (zR 37), some (zI (i : Int))] [] Rf V := by
  obtain ⟨hLy, hn, ⟨c, k, len, hI, hfl, hRI⟩, i0, i1, hsp⟩ := id hW
  have hsc := hI.2.2.2.2.2.2.2.2.2.2.2.2.2.2.2.2.2.2
  refine wa_ald1 dL_law_164 ?_
  refine wa_aldX dL_law_165 ?_
  refine wa_ild3 dL_law_166 ?_
  refine wa_iconst dL_law_167 ?_
  refine wa_iadd dL_law_168 ?_
  refine wa_sld dL_law_169 (by omega) hL3 ?_
  refine kL_13 dL_law_170 rfl (by exact hLy.1 _ (by decide)) (ct_gardens hLy hI (zi_rg _)) ⟨Nat.le_of_ble_eq_true rfl, Nat.le_of_ble_eq_true rfl⟩ (Nat.le_of_ble_eq_true rfl) ⟨(by show ce + 0 ≤ 600000; omega), (by show sl + 0 ≤ 7302250; omega)⟩ (zdI ?_)
  refine wa_ald2 dL_law_173 ?_
  refine wa_aldX dL_law_174 ?_
  refine wa_ild3 dL_law_175 ?_
  refine wa_iconst dL_law_176 ?_
  refine wa_iadd dL_law_177 ?_
  refine wa_sld dL_law_178 (by omega) hL3 ?_
  refine kL_17 dL_law_179 rfl (by exact hLy.1 _ (by decide)) (cm_gardens hLy hI hfl (hRI.v (fun j h1 h2 => gn_o h1)) (zi_rg _)) ⟨Nat.le_of_ble_eq_true rfl, Nat.le_of_ble_eq_true rfl⟩ (Nat.le_of_ble_eq_true rfl) ⟨(by show ce + 0 ≤ 600000; omega), (by show sl + 0 ≤ 7302250; omega)⟩ (fun v2 S2 R2 V2 hq2 => ?_)
  obtain ⟨rfl, rfl, rfl, q1, q2⟩ := hq2
  obtain ⟨b1, b2⟩ := CI.up (F' := F + 1080) (ci_gardens hI hfl) (by omega) hF6
  exact wa_icmp_eq_t 972 dL_law_182 (by decide) rfl (kk _ _ _ _ _ _ (hW.m (by omega) b1 b2 q2 (fun j hj => q1 j (Or.inl hj)) (fun j hj => (q1 j (Or.inr (by omega))).trans (gn_o (by omega)))) (by omega) (by omega))
theorem lc_garden {LL i n ce sl : Nat} {xs : Nat → Int32} {S : zH} {Rf : zG} {V : zE} {F : Int} (hL3 : LL ≤ 3072) (hi : i + 6 ≤ LL) (hW : LWH n S Rf V F) (hF6 : F + 1080 ≤ 1000000) (hce : ce + 16 ≤ 600000) (hsl : sl + 200 ≤ 7302250) (kk : ∀ (n' ce' sl' : Nat) (S' : zH) (Rf' : zG) (V' : zE), LWH n' S' Rf' V' (F + 1080) → ce' ≤ ce + 8 → sl' ≤ sl + 119 → Wa (zXl LL xs) mL_law room_1 zZl ce' sl' n' S' 972 [some zX, some (zR 0), some (zR 37), some (zI (i : Int))] [] Rf' V') : Wa (zXl LL xs) mL_law room_1 zZl ce sl n S 187 [some zX, some (zR 0), some (zR 37), some (zI (i : Int))] [] Rf V := by
  obtain ⟨hLy, hn, ⟨c, k, len, hI, hfl, hRI⟩, i0, i1, hsp⟩ := id hW
  have hsc := hI.2.2.2.2.2.2.2.2.2.2.2.2.2.2.2.2.2.2
  refine wa_ald1 dL_law_187 ?_
  refine wa_aldX dL_law_188 ?_
  refine wa_ild3 dL_law_189 ?_
  refine wa_iconst dL_law_190 ?_
  refine wa_iadd dL_law_191 ?_
  refine wa_sld dL_law_192 (by omega) hL3 ?_
  refine wa_aldX dL_law_193 ?_
  refine wa_ild3 dL_law_194 ?_
  refine wa_iconst dL_law_195 ?_
  refine wa_iadd dL_law_196 ?_
  refine wa_sld dL_law_197 (by omega) hL3 ?_
  refine wa_aldX dL_law_198 ?_
  refine wa_ild3 dL_law_199 ?_
  refine wa_iconst dL_law_200 ?_
  refine wa_iadd dL_law_201 ?_
  refine wa_sld dL_law_202 (by omega) hL3 ?_
  refine kL_18 dL_law_203 rfl (by exact hLy.1 _ (by decide)) (ct_garden hLy hI (zi_rg _) (zi_rg _) (zi_rg _)) ⟨Nat.le_of_ble_eq_true rfl, Nat.le_of_ble_eq_true rfl⟩ (Nat.le_of_ble_eq_true rfl) ⟨(by show ce + 0 ≤ 600000; omega), (by show sl + 0 ≤ 7302250; omega)⟩ (zdI ?_)
  refine wa_ald2 dL_law_206 ?_
  refine wa_aldX dL_law_207 ?_
  refine wa_ild3 dL_law_208 ?_
  refine wa_iconst dL_law_209 ?_
  refine wa_iadd dL_law_210 ?_
  refine wa_sld dL_law_211 (by omega) hL3 ?_
  refine wa_aldX dL_law_212 ?_
  refine wa_ild3 dL_law_213 ?_
  refine wa_iconst dL_law_214 ?_
  refine wa_iadd dL_law_215 ?_
  refine wa_sld dL_law_216 (by omega) hL3 ?_
  refine wa_aldX dL_law_217 ?_
  refine wa_ild3 dL_law_218 ?_
  refine wa_iconst dL_law_219 ?_
  refine wa_iadd dL_law_220 ?_
  refine wa_sld dL_law_221 (by omega) hL3 ?_
  refine kL_22 dL_law_222 rfl (by exact hLy.1 _ (by decide)) (cm_garden hLy hI (hRI.v (fun j h1 h2 => gd_o h1)) (zi_rg _) (zi_rg _) (zi_rg _)) ⟨Nat.le_of_ble_eq_true rfl, Nat.le_of_ble_eq_true rfl⟩ (Nat.le_of_ble_eq_true rfl) ⟨(by show ce + 0 ≤ 600000; omega), (by show sl + 0 ≤ 7302250; omega)⟩ (fun v2 S2 R2 V2 hq2 => ?_)
  obtain ⟨rfl, rfl, rfl, q1, q2⟩ := hq2
  obtain ⟨b1, b2⟩ := CI.up (F' := F + 1080) (ci_garden hI hfl) (by omega) hF6
  exact wa_icmp_eq_t 972 dL_law_225 (by decide) rfl (kk _ _ _ _ _ _ (hW.m (by omega) b1 b2 q2 (fun j hj => q1 j (Or.inl hj)) (fun j hj => (q1 j (Or.inr (by omega))).trans (gd_o (by omega)))) (by omega) (by omega))
theorem lc_set {LL i n ce sl : Nat} {xs : Nat → Int32} {S : zH} {Rf : zG} {V : zE} {F : Int} (hL3 : LL ≤ 3072) (hi : i + 6 ≤ LL) (hW : LWH n S Rf V F) (hF6 : F + 1080 ≤ 1000000) (hce : ce + 16 ≤ 600000) (hsl : sl + 200 ≤ 7302250) (kk : ∀ (n' ce' sl' : Nat) (S' : zH) (Rf' : zG) (V' : zE), LWH n' S' Rf' V' (F + 1080) → ce' ≤ ce + 8 → sl' ≤ sl + 119 → Wa (zXl LL xs) mL_law room_1 zZl ce' sl' n' S' 972 [some zX, some (zR 0), some (zR 37), some (zI (i : Int))] [] Rf' V') : Wa (zXl LL xs) mL_law room_1 zZl ce sl n S 230 [some zX, some (zR 0), some (zR 37), some (zI (i : Int))] [] Rf V := by
  obtain ⟨hLy, hn, ⟨c, k, len, hI, hfl, hRI⟩, i0, i1, hsp⟩ := id hW
  have hsc := hI.2.2.2.2.2.2.2.2.2.2.2.2.2.2.2.2.2.2
  refine wa_ald1 dL_law_230 ?_
  refine wa_aldX dL_law_231 ?_
  refine wa_ild3 dL_law_232 ?_
  refine wa_iconst dL_law_233 ?_
  refine wa_iadd dL_law_234 ?_
  refine wa_sld dL_law_235 (by omega) hL3 ?_
  refine wa_aldX dL_law_236 ?_
  refine wa_ild3 dL_law_237 ?_
  refine wa_iconst dL_law_238 ?_
  refine wa_iadd dL_law_239 ?_
  refine wa_sld dL_law_240 (by omega) hL3 ?_
  refine kL_23 dL_law_241 rfl (by exact hLy.1 _ (by decide)) (ct_set hLy (zi_rg _) (zi_rg _)) ⟨Nat.le_of_ble_eq_true rfl, Nat.le_of_ble_eq_true rfl⟩ (Nat.le_of_ble_eq_true rfl) ⟨(by show ce + 0 ≤ 600000; omega), (by show sl + 0 ≤ 7302250; omega)⟩ (zdI ?_)
  refine wa_ald2 dL_law_244 ?_
  refine wa_aldX dL_law_245 ?_
  refine wa_ild3 dL_law_246 ?_
  refine wa_iconst dL_law_247 ?_
  refine wa_iadd dL_law_248 ?_
  refine wa_sld dL_law_249 (by omega) hL3 ?_
  refine wa_aldX dL_law_250 ?_
  refine wa_ild3 dL_law_251 ?_
  refine wa_iconst dL_law_252 ?_
  refine wa_iadd dL_law_253 ?_
  refine wa_sld dL_law_254 (by omega) hL3 ?_
  refine kL_27 dL_law_255 rfl (by exact hLy.1 _ (by decide)) (cm_set hLy (hRI.v (fun j h1 h2 => se_o h1)) (zi_rg _) (zi_rg _)) ⟨Nat.le_of_ble_eq_true rfl, Nat.le_of_ble_eq_true rfl⟩ (Nat.le_of_ble_eq_true rfl) ⟨(by show ce + 0 ≤ 600000; omega), (by show sl + 0 ≤ 7302250; omega)⟩ (fun v2 S2 R2 V2 hq2 => ?_)
  obtain ⟨rfl, rfl, rfl, q1, q2⟩ := hq2
  obtain ⟨b1, b2⟩ := CI.up (F' := F + 1080) (ci_set hI hfl) (by omega) hF6
  exact wa_icmp_eq_t 972 dL_law_258 (by decide) rfl (kk _ _ _ _ _ _ (hW.m (by omega) b1 b2 q2 (fun j hj => q1 j (Or.inl hj)) (fun j hj => (q1 j (Or.inr (by omega))).trans (se_o (by omega)))) (by omega) (by omega))
theorem lc_say {LL i n ce sl : Nat} {xs : Nat → Int32} {S : zH} {Rf : zG} {V : zE} {F : Int} (hL3 : LL ≤ 3072) (hi : i + 6 ≤ LL) (hW : LWH n S Rf V F) (hF6 : F + 1080 ≤ 1000000) (hce : ce + 16 ≤ 600000) (hsl : sl + 200 ≤ 7302250) (kk : ∀ (n' ce' sl' : Nat) (S' : zH) (Rf' : zG) (V' : zE), LWH n' S' Rf' V' (F + 1080) → ce' ≤ ce + 8 → sl' ≤ sl + 119 → Wa (zXl LL xs) mL_law room_1 zZl ce' sl' n' S' 972 [some zX, some (zR 0), some (zR 37), some (zI (i : Int))] [] Rf' V') : Wa (zXl LL xs) mL_law room_1 zZl ce sl n S 263 [some zX, some (zR 0), some (zR 37), some (zI (i : Int))] [] Rf V := by
  obtain ⟨hLy, hn, ⟨c, k, len, hI, hfl, hRI⟩, i0, i1, hsp⟩ := id hW
  have hsc := hI.2.2.2.2.2.2.2.2.2.2.2.2.2.2.2.2.2.2
  refine wa_ald1 dL_law_263 ?_
  refine wa_aldX dL_law_264 ?_
  refine wa_ild3 dL_law_265 ?_
  refine wa_iconst dL_law_266 ?_
  refine wa_iadd dL_law_267 ?_
  refine wa_sld dL_law_268 (by omega) hL3 ?_
  refine kL_28 dL_law_269 rfl (by exact hLy.1 _ (by decide)) (ct_say hLy hI (zi_rg _)) ⟨Nat.le_of_ble_eq_true rfl, Nat.le_of_ble_eq_true rfl⟩ (Nat.le_of_ble_eq_true rfl) ⟨(by show ce + 0 ≤ 600000; omega), (by show sl + 0 ≤ 7302250; omega)⟩ (zdI ?_)
  refine wa_ald2 dL_law_272 ?_
  refine wa_aldX dL_law_273 ?_
  refine wa_ild3 dL_law_274 ?_
  refine wa_iconst dL_law_275 ?_
  refine wa_iadd dL_law_276 ?_
  refine wa_sld dL_law_277 (by omega) hL3 ?_
  refine kL_31 dL_law_278 rfl (by exact hLy.1 _ (by decide)) (cm_say hLy hI (hRI.v (fun j h1 h2 => say_o h1)) (zi_rg _)) ⟨Nat.le_of_ble_eq_true rfl, Nat.le_of_ble_eq_true rfl⟩ (Nat.le_of_ble_eq_true rfl) ⟨(by show ce + 0 ≤ 600000; omega), (by show sl + 0 ≤ 7302250; omega)⟩ (fun v2 S2 R2 V2 hq2 => ?_)
  obtain ⟨rfl, rfl, rfl, q1, q2⟩ := hq2
  obtain ⟨b1, b2⟩ := CI.up (F' := F + 1080) (ci_say hI hfl) (by omega) hF6
  exact wa_icmp_eq_t 972 dL_law_281 (by decide) rfl (kk _ _ _ _ _ _ (hW.m (by omega) b1 b2 q2 (fun j hj => q1 j (Or.inl hj)) (fun j hj => (q1 j (Or.inr (by omega))).trans (say_o (by omega)))) (by omega) (by omega))
theorem lc_wipe {LL i n ce sl : Nat} {xs : Nat → Int32} {S : zH} {Rf : zG} {V : zE} {F : Int} (hL3 : LL ≤ 3072) (hi : i + 6 ≤ LL) (hW : LWH n S Rf V F) (hF6 : F + 1080 ≤ 1000000) (hce : ce + 16 ≤ 600000) (hsl : sl + 200 ≤ 7302250) (kk : ∀ (n' ce' sl' : Nat) (S' : zH) (Rf' : zG) (V' : zE), LWH n' S' Rf' V' (F + 1080) → ce' ≤ ce + 8 → sl' ≤ sl + 119 → Wa (zXl LL xs) mL_law room_1 zZl ce' sl' n' S' 972 [some zX, some (zR 0), some (zR 37), some (zI (i : Int))] [] Rf' V') : Wa (zXl LL xs) mL_law room_1 zZl ce sl n S 286 [some zX, some (zR 0), some (zR 37), some (zI (i : Int))] [] Rf V := by
  obtain ⟨hLy, hn, ⟨c, k, len, hI, hfl, hRI⟩, i0, i1, hsp⟩ := id hW
  have hsc := hI.2.2.2.2.2.2.2.2.2.2.2.2.2.2.2.2.2.2
  refine wa_ald1 dL_law_286 ?_
  refine kL_32 dL_law_287 rfl (by exact hLy.1 _ (by decide)) (ct_wipe hLy) ⟨Nat.le_of_ble_eq_true rfl, Nat.le_of_ble_eq_true rfl⟩ (Nat.le_of_ble_eq_true rfl) ⟨(by show ce + 0 ≤ 600000; omega), (by show sl + 0 ≤ 7302250; omega)⟩ (zdI ?_)
  refine wa_ald2 dL_law_290 ?_
  refine kL_36 dL_law_291 rfl (by exact hLy.1 _ (by decide)) (cm_wipe hLy hI (hRI.v (fun j h1 h2 => zp_n _ _ (by omega)))) ⟨Nat.le_of_ble_eq_true rfl, Nat.le_of_ble_eq_true rfl⟩ (Nat.le_of_ble_eq_true rfl) ⟨(by show ce + 0 ≤ 600000; omega), (by show sl + 0 ≤ 7302250; omega)⟩ (fun v2 S2 R2 V2 hq2 => ?_)
  obtain ⟨rfl, rfl, rfl, q1, q2⟩ := hq2
  obtain ⟨b1, b2⟩ := CI.up (F' := F + 1080) (ci_wipe hI hfl) (by omega) hF6
  exact wa_icmp_eq_t 972 dL_law_294 (by decide) rfl (kk _ _ _ _ _ _ (hW.m (by omega) b1 b2 q2 (fun j hj => q1 j (Or.inl hj)) (fun j hj => (q1 j (Or.inr (by omega))).trans (zp_n _ _ (by omega)))) (by omega) (by omega))
theorem lc_fault {LL i n ce sl : Nat} {xs : Nat → Int32} {S : zH} {Rf : zG} {V : zE} {F : Int} (hL3 : LL ≤ 3072) (hi : i + 6 ≤ LL) (hW : LWH n S Rf V F) (hF6 : F + 1080 ≤ 1000000) (hce : ce + 16 ≤ 600000) (hsl : sl + 200 ≤ 7302250) (kk : ∀ (n' ce' sl' : Nat) (S' : zH) (Rf' : zG) (V' : zE), LWH n' S' Rf' V' (F + 1080) → ce' ≤ ce + 8 → sl' ≤ sl + 119 → Wa (zXl LL xs) mL_law room_1 zZl ce' sl' n' S' 972 [some zX, some (zR 0), some (zR 37), some (zI (i : Int))] [] Rf' V') : Wa (zXl LL xs) mL_law room_1 zZl ce sl n S 299 [some zX, some (zR 0), some (zR 37), some (zI (i : Int))] [] Rf V := by
  obtain ⟨hLy, hn, ⟨c, k, len, hI, hfl, hRI⟩, i0, i1, hsp⟩ := id hW
  have hsc := hI.2.2.2.2.2.2.2.2.2.2.2.2.2.2.2.2.2.2
  refine wa_ald1 dL_law_299 ?_
  refine kL_37 dL_law_300 rfl (by exact hLy.1 _ (by decide)) (ct_fault hLy hI) ⟨Nat.le_of_ble_eq_true rfl, Nat.le_of_ble_eq_true rfl⟩ (Nat.le_of_ble_eq_true rfl) ⟨(by show ce + 0 ≤ 600000; omega), (by show sl + 0 ≤ 7302250; omega)⟩ (fun v1 S1 R1 V1 hq1 => ?_)
  obtain ⟨rfl, rfl, hrf, hqr⟩ := hq1
  have hL1 := hLy.e hrf
  have hR1 := hRI.v (V' := V1) (fun j h1 h2 => hqr.1 j (by unfold scr; omega))
  refine wa_ald2 dL_law_303 ?_
  refine kL_40 dL_law_304 rfl (by exact hLy.1 _ (by decide)) (cm_fault hL1 hI hR1) ⟨Nat.le_of_ble_eq_true rfl, Nat.le_of_ble_eq_true rfl⟩ (Nat.le_of_ble_eq_true rfl) ⟨(by show ce + 0 ≤ 600000; omega), (by show sl + 0 ≤ 7302250; omega)⟩ (fun v2 S2 R2 V2 hq2 => ?_)
  obtain ⟨rfl, rfl, rfl, hrr⟩ := hq2
  exact wa_icmp_eq_t 972 dL_law_307 (by decide) rfl (kk _ _ _ _ _ _ (hW.q (by omega) hF6 hrf hqr hrr) (by omega) (by omega))
theorem lc_judge {LL i n ce sl : Nat} {xs : Nat → Int32} {S : zH} {Rf : zG} {V : zE} {F : Int} (hL3 : LL ≤ 3072) (hi : i + 6 ≤ LL) (hW : LWH n S Rf V F) (hF6 : F + 1080 ≤ 1000000) (hce : ce + 16 ≤ 600000) (hsl : sl + 200 ≤ 7302250) (kk : ∀ (n' ce' sl' : Nat) (S' : zH) (Rf' : zG) (V' : zE), LWH n' S' Rf' V' (F + 1080) → ce' ≤ ce + 8 → sl' ≤ sl + 119 → Wa (zXl LL xs) mL_law room_1 zZl ce' sl' n' S' 972 [some zX, some (zR 0), some (zR 37), some (zI (i : Int))] [] Rf' V') : Wa (zXl LL xs) mL_law room_1 zZl ce sl n S 312 [some zX, some (zR 0), some (zR 37), some (zI (i : Int))] [] Rf V := by
  obtain ⟨hLy, hn, ⟨c, k, len, hI, hfl, hRI⟩, i0, i1, hsp⟩ := id hW
  have hsc := hI.2.2.2.2.2.2.2.2.2.2.2.2.2.2.2.2.2.2
  refine wa_ald1 dL_law_312 ?_
  refine wa_aldX dL_law_313 ?_
  refine wa_ild3 dL_law_314 ?_
  refine wa_iconst dL_law_315 ?_
  refine wa_iadd dL_law_316 ?_
  refine wa_sld dL_law_317 (by omega) hL3 ?_
  refine kL_41 dL_law_318 rfl (by exact hLy.1 _ (by decide)) (ct_judge hLy hI (zi_rg _)) ⟨Nat.le_of_ble_eq_true rfl, Nat.le_of_ble_eq_true rfl⟩ (Nat.le_of_ble_eq_true rfl) ⟨(by show ce + 0 ≤ 600000; omega), (by show sl + 0 ≤ 7302250; omega)⟩ (fun v1 S1 R1 V1 hq1 => ?_)
  obtain ⟨rfl, rfl, hrf, hqr⟩ := hq1
  have hL1 := hLy.e hrf
  have hR1 := hRI.v (V' := V1) (fun j h1 h2 => hqr.1 j (by unfold scr; omega))
  refine wa_ald2 dL_law_321 ?_
  refine wa_aldX dL_law_322 ?_
  refine wa_ild3 dL_law_323 ?_
  refine wa_iconst dL_law_324 ?_
  refine wa_iadd dL_law_325 ?_
  refine wa_sld dL_law_326 (by omega) hL3 ?_
  refine kL_44 dL_law_327 rfl (by exact hLy.1 _ (by decide)) (cm_judge hL1 hI hfl hR1 (zi_rg _)) ⟨Nat.le_of_ble_eq_true rfl, Nat.le_of_ble_eq_true rfl⟩ (Nat.le_of_ble_eq_true rfl) ⟨(by show ce + 0 ≤ 600000; omega), (by show sl + 0 ≤ 7302250; omega)⟩ (fun v2 S2 R2 V2 hq2 => ?_)
  obtain ⟨rfl, rfl, rfl, hrr⟩ := hq2
  exact wa_icmp_eq_t 972 dL_law_330 (by decide) rfl (kk _ _ _ _ _ _ (hW.q (by omega) hF6 hrf hqr hrr) (by omega) (by omega))
theorem lc_done {LL i n ce sl : Nat} {xs : Nat → Int32} {S : zH} {Rf : zG} {V : zE} {F : Int} (hL3 : LL ≤ 3072) (hi : i + 6 ≤ LL) (hW : LWH n S Rf V F) (hF6 : F + 1080 ≤ 1000000) (hce : ce + 16 ≤ 600000) (hsl : sl + 200 ≤ 7302250) (kk : ∀ (n' ce' sl' : Nat) (S' : zH) (Rf' : zG) (V' : zE), LWH n' S' Rf' V' (F + 1080) → ce' ≤ ce + 8 → sl' ≤ sl + 119 → Wa (zXl LL xs) mL_law room_1 zZl ce' sl' n' S' 972 [some zX, some (zR 0), some (zR 37), some (zI (i : Int))] [] Rf' V') : Wa (zXl LL xs) mL_law room_1 zZl ce sl n S 335 [some zX, some (zR 0), some (zR 37), some (zI (i : Int))] [] Rf V := by
  obtain ⟨hLy, hn, ⟨c, k, len, hI, hfl, hRI⟩, i0, i1, hsp⟩ := id hW
  have hsc := hI.2.2.2.2.2.2.2.2.2.2.2.2.2.2.2.2.2.2
  refine wa_ald1 dL_law_335 ?_
  refine kL_45 dL_law_336 rfl (by exact hLy.1 _ (by decide)) (ct_done hLy hI) ⟨Nat.le_of_ble_eq_true rfl, Nat.le_of_ble_eq_true rfl⟩ (Nat.le_of_ble_eq_true rfl) ⟨(by show ce + 0 ≤ 600000; omega), (by show sl + 0 ≤ 7302250; omega)⟩ (zpI fun x V1 hp1 => ?_)
  obtain ⟨rfl, hdn, _⟩ := hp1
  have hR1 := hRI.v (V' := V1) (fun j h1 h2 => dn_o hdn h1)
  refine wa_ald2 dL_law_339 ?_
  refine kL_48 dL_law_340 rfl (by exact hLy.1 _ (by decide)) (cm_done hLy hI hfl hR1) ⟨Nat.le_of_ble_eq_true rfl, Nat.le_of_ble_eq_true rfl⟩ (Nat.le_of_ble_eq_true rfl) ⟨(by show ce + 0 ≤ 600000; omega), (by show sl + 0 ≤ 7302250; omega)⟩ (fun v2 S2 R2 V2 hq2 => ?_)
  obtain ⟨rfl, rfl, rfl, q1, _, q2⟩ := hq2
  obtain ⟨b1, b2⟩ := ci_done hI hfl (Int.le_refl _) hF6 hdn
  exact wa_icmp_eq_t 972 dL_law_343 (by decide) rfl (kk _ _ _ _ _ _ (hW.m (by omega) b1 b2 (q2 V1 hdn) (fun j hj => q1 j (Or.inl hj)) (fun j hj => (q1 j (Or.inr (by omega))).trans (dn_o hdn (by omega)))) (by omega) (by omega))
theorem lc_state {LL i n ce sl : Nat} {xs : Nat → Int32} {S : zH} {Rf : zG} {V : zE} {F : Int} (hL3 : LL ≤ 3072) (hi : i + 6 ≤ LL) (hW : LWH n S Rf V F) (hF6 : F + 1080 ≤ 1000000) (hce : ce + 16 ≤ 600000) (hsl : sl + 200 ≤ 7302250) (kk : ∀ (n' ce' sl' : Nat) (S' : zH) (Rf' : zG) (V' : zE), LWH n' S' Rf' V' (F + 1080) → ce' ≤ ce + 8 → sl' ≤ sl + 119 → Wa (zXl LL xs) mL_law room_1 zZl ce' sl' n' S' 972 [some zX, some (zR 0), some (zR 37), some (zI (i : Int))] [] Rf' V') : Wa (zXl LL xs) mL_law room_1 zZl ce sl n S 348 [some zX, some (zR 0), some (zR 37), some (zI (i : Int))] [] Rf V := by
  obtain ⟨hLy, hn, ⟨c, k, len, hI, hfl, hRI⟩, i0, i1, hsp⟩ := id hW
  have hsc := hI.2.2.2.2.2.2.2.2.2.2.2.2.2.2.2.2.2.2
  refine wa_ald1 dL_law_348 ?_
  refine wa_aldX dL_law_349 ?_
  refine wa_ild3 dL_law_350 ?_
  refine wa_iconst dL_law_351 ?_
  refine wa_iadd dL_law_352 ?_
  refine wa_sld dL_law_353 (by omega) hL3 ?_
  refine wa_aldX dL_law_354 ?_
  refine wa_ild3 dL_law_355 ?_
  refine wa_iconst dL_law_356 ?_
  refine wa_iadd dL_law_357 ?_
  refine wa_sld dL_law_358 (by omega) hL3 ?_
  refine kL_49 dL_law_359 rfl (by exact hLy.1 _ (by decide)) (ct_state hLy hI (zi_rg _) (zi_rg _)) ⟨Nat.le_of_ble_eq_true rfl, Nat.le_of_ble_eq_true rfl⟩ (Nat.le_of_ble_eq_true rfl) ⟨(by show ce + 0 ≤ 600000; omega), (by show sl + 0 ≤ 7302250; omega)⟩ (fun v1 S1 R1 V1 hq1 => ?_)
  obtain ⟨rfl, rfl, hrf, hqr⟩ := hq1
  have hL1 := hLy.e hrf
  have hR1 := hRI.v (V' := V1) (fun j h1 h2 => hqr.1 j (by unfold scr; omega))
  refine wa_ald2 dL_law_362 ?_
  refine wa_aldX dL_law_363 ?_
  refine wa_ild3 dL_law_364 ?_
  refine wa_iconst dL_law_365 ?_
  refine wa_iadd dL_law_366 ?_
  refine wa_sld dL_law_367 (by omega) hL3 ?_
  refine wa_aldX dL_law_368 ?_
  refine wa_ild3 dL_law_369 ?_
  refine wa_iconst dL_law_370 ?_
  refine wa_iadd dL_law_371 ?_
  refine wa_sld dL_law_372 (by omega) hL3 ?_
  refine kL_52 dL_law_373 rfl (by exact hLy.1 _ (by decide)) (cm_state hL1 hI hR1 (zi_rg _) (zi_rg _)) ⟨Nat.le_of_ble_eq_true rfl, Nat.le_of_ble_eq_true rfl⟩ (Nat.le_of_ble_eq_true rfl) ⟨(by show ce + 0 ≤ 600000; omega), (by show sl + 0 ≤ 7302250; omega)⟩ (fun v2 S2 R2 V2 hq2 => ?_)
  obtain ⟨rfl, rfl, rfl, hrr⟩ := hq2
  exact wa_icmp_eq_t 972 dL_law_376 (by decide) rfl (kk _ _ _ _ _ _ (hW.q (by omega) hF6 hrf hqr hrr) (by omega) (by omega))
theorem lc_behind {LL i n ce sl : Nat} {xs : Nat → Int32} {S : zH} {Rf : zG} {V : zE} {F : Int} (hL3 : LL ≤ 3072) (hi : i + 6 ≤ LL) (hW : LWH n S Rf V F) (hF6 : F + 1080 ≤ 1000000) (hce : ce + 16 ≤ 600000) (hsl : sl + 200 ≤ 7302250) (kk : ∀ (n' ce' sl' : Nat) (S' : zH) (Rf' : zG) (V' : zE), LWH n' S' Rf' V' (F + 1080) → ce' ≤ ce + 8 → sl' ≤ sl + 119 → Wa (zXl LL xs) mL_law room_1 zZl ce' sl' n' S' 972 [some zX, some (zR 0), some (zR 37), some (zI (i : Int))] [] Rf' V') : Wa (zXl LL xs) mL_law room_1 zZl ce sl n S 381 [some zX, some (zR 0), some (zR 37), some (zI (i : Int))] [] Rf V := by
  obtain ⟨hLy, hn, ⟨c, k, len, hI, hfl, hRI⟩, i0, i1, hsp⟩ := id hW
  have hsc := hI.2.2.2.2.2.2.2.2.2.2.2.2.2.2.2.2.2.2
  refine wa_ald1 dL_law_381 ?_
  refine wa_aldX dL_law_382 ?_
  refine wa_ild3 dL_law_383 ?_
  refine wa_iconst dL_law_384 ?_
  refine wa_iadd dL_law_385 ?_
  refine wa_sld dL_law_386 (by omega) hL3 ?_
  refine wa_aldX dL_law_387 ?_
  refine wa_ild3 dL_law_388 ?_
  refine wa_iconst dL_law_389 ?_
  refine wa_iadd dL_law_390 ?_
  refine wa_sld dL_law_391 (by omega) hL3 ?_
  refine kL_53 dL_law_392 rfl (by exact hLy.1 _ (by decide)) (ct_behind hLy hI (zi_rg _) (zi_rg _)) ⟨Nat.le_of_ble_eq_true rfl, Nat.le_of_ble_eq_true rfl⟩ (Nat.le_of_ble_eq_true rfl) ⟨(by show ce + 0 ≤ 600000; omega), (by show sl + 0 ≤ 7302250; omega)⟩ (fun v1 S1 R1 V1 hq1 => ?_)
  obtain ⟨rfl, rfl, hrf, hqr⟩ := hq1
  have hL1 := hLy.e hrf
  have hR1 := hRI.v (V' := V1) (fun j h1 h2 => hqr.1 j (by unfold scr; omega))
  refine wa_ald2 dL_law_395 ?_
  refine wa_aldX dL_law_396 ?_
  refine wa_ild3 dL_law_397 ?_
  refine wa_iconst dL_law_398 ?_
  refine wa_iadd dL_law_399 ?_
  refine wa_sld dL_law_400 (by omega) hL3 ?_
  refine wa_aldX dL_law_401 ?_
  refine wa_ild3 dL_law_402 ?_
  refine wa_iconst dL_law_403 ?_
  refine wa_iadd dL_law_404 ?_
  refine wa_sld dL_law_405 (by omega) hL3 ?_
  refine kL_56 dL_law_406 rfl (by exact hLy.1 _ (by decide)) (cm_behind hL1 hI hfl hR1 (zi_rg _) (zi_rg _)) ⟨Nat.le_of_ble_eq_true rfl, Nat.le_of_ble_eq_true rfl⟩ (Nat.le_of_ble_eq_true rfl) ⟨(by show ce + 0 ≤ 600000; omega), (by show sl + 0 ≤ 7302250; omega)⟩ (fun v2 S2 R2 V2 hq2 => ?_)
  obtain ⟨rfl, rfl, rfl, hrr⟩ := hq2
  exact wa_icmp_eq_t 972 dL_law_409 (by decide) rfl (kk _ _ _ _ _ _ (hW.q (by omega) hF6 hrf hqr hrr) (by omega) (by omega))
theorem lc_first {LL i n ce sl : Nat} {xs : Nat → Int32} {S : zH} {Rf : zG} {V : zE} {F : Int} (hL3 : LL ≤ 3072) (hi : i + 6 ≤ LL) (hW : LWH n S Rf V F) (hF6 : F + 1080 ≤ 1000000) (hce : ce + 16 ≤ 600000) (hsl : sl + 200 ≤ 7302250) (kk : ∀ (n' ce' sl' : Nat) (S' : zH) (Rf' : zG) (V' : zE), LWH n' S' Rf' V' (F + 1080) → ce' ≤ ce + 8 → sl' ≤ sl + 119 → Wa (zXl LL xs) mL_law room_1 zZl ce' sl' n' S' 972 [some zX, some (zR 0), some (zR 37), some (zI (i : Int))] [] Rf' V') : Wa (zXl LL xs) mL_law room_1 zZl ce sl n S 414 [some zX, some (zR 0), some (zR 37), some (zI (i : Int))] [] Rf V := by
  obtain ⟨hLy, hn, ⟨c, k, len, hI, hfl, hRI⟩, i0, i1, hsp⟩ := id hW
  have hsc := hI.2.2.2.2.2.2.2.2.2.2.2.2.2.2.2.2.2.2
  refine wa_ald1 dL_law_414 ?_
  refine kL_57 dL_law_415 rfl (by exact hLy.1 _ (by decide)) (ct_first hLy hI) ⟨Nat.le_of_ble_eq_true rfl, Nat.le_of_ble_eq_true rfl⟩ (Nat.le_of_ble_eq_true rfl) ⟨(by show ce + 0 ≤ 600000; omega), (by show sl + 0 ≤ 7302250; omega)⟩ (fun v1 S1 R1 V1 hq1 => ?_)
  obtain ⟨rfl, rfl, hrf, hqr⟩ := hq1
  have hL1 := hLy.e hrf
  have hR1 := hRI.v (V' := V1) (fun j h1 h2 => hqr.1 j (by unfold scr; omega))
  refine wa_ald2 dL_law_418 ?_
  refine kL_60 dL_law_419 rfl (by exact hLy.1 _ (by decide)) (cm_first hL1 hI hfl hR1) ⟨Nat.le_of_ble_eq_true rfl, Nat.le_of_ble_eq_true rfl⟩ (Nat.le_of_ble_eq_true rfl) ⟨(by show ce + 0 ≤ 600000; omega), (by show sl + 0 ≤ 7302250; omega)⟩ (fun v2 S2 R2 V2 hq2 => ?_)
  obtain ⟨rfl, rfl, rfl, hrr⟩ := hq2
  exact wa_icmp_eq_t 972 dL_law_422 (by decide) rfl (kk _ _ _ _ _ _ (hW.q (by omega) hF6 hrf hqr hrr) (by omega) (by omega))
theorem lc_recognised {LL i n ce sl : Nat} {xs : Nat → Int32} {S : zH} {Rf : zG} {V : zE} {F : Int} (hL3 : LL ≤ 3072) (hi : i + 6 ≤ LL) (hW : LWH n S Rf V F) (hF6 : F + 1080 ≤ 1000000) (hce : ce + 16 ≤ 600000) (hsl : sl + 200 ≤ 7302250) (kk : ∀ (n' ce' sl' : Nat) (S' : zH) (Rf' : zG) (V' : zE), LWH n' S' Rf' V' (F + 1080) → ce' ≤ ce + 8 → sl' ≤ sl + 119 → Wa (zXl LL xs) mL_law room_1 zZl ce' sl' n' S' 972 [some zX, some (zR 0), some (zR 37), some (zI (i : Int))] [] Rf' V') : Wa (zXl LL xs) mL_law room_1 zZl ce sl n S 427 [some zX, some (zR 0), some (zR 37), some (zI (i : Int))] [] Rf V := by
  obtain ⟨hLy, hn, ⟨c, k, len, hI, hfl, hRI⟩, i0, i1, hsp⟩ := id hW
  have hsc := hI.2.2.2.2.2.2.2.2.2.2.2.2.2.2.2.2.2.2
  refine wa_ald1 dL_law_427 ?_
  refine wa_aldX dL_law_428 ?_
  refine wa_ild3 dL_law_429 ?_
  refine wa_iconst dL_law_430 ?_
  refine wa_iadd dL_law_431 ?_
  refine wa_sld dL_law_432 (by omega) hL3 ?_
  refine kL_61 dL_law_433 rfl (by exact hLy.1 _ (by decide)) (ct_recognised hLy hI (zi_rg _)) ⟨Nat.le_of_ble_eq_true rfl, Nat.le_of_ble_eq_true rfl⟩ (Nat.le_of_ble_eq_true rfl) ⟨(by show ce + 0 ≤ 600000; omega), (by show sl + 0 ≤ 7302250; omega)⟩ (zdI ?_)
  refine wa_ald2 dL_law_436 ?_
  refine wa_aldX dL_law_437 ?_
  refine wa_ild3 dL_law_438 ?_
  refine wa_iconst dL_law_439 ?_
  refine wa_iadd dL_law_440 ?_
  refine wa_sld dL_law_441 (by omega) hL3 ?_
  refine kL_64 dL_law_442 rfl (by exact hLy.1 _ (by decide)) (cm_recognised hLy hI hRI (zi_rg _)) ⟨Nat.le_of_ble_eq_true rfl, Nat.le_of_ble_eq_true rfl⟩ (Nat.le_of_ble_eq_true rfl) ⟨(by show ce + 0 ≤ 600000; omega), (by show sl + 0 ≤ 7302250; omega)⟩ (fun v2 S2 R2 V2 hq2 => ?_)
  obtain ⟨rfl, rfl, rfl, hrr⟩ := hq2
  exact wa_icmp_eq_t 972 dL_law_445 (by decide) rfl (kk _ _ _ _ _ _ (hW.q (by omega) hF6 rfe_rf (qry_rf hsc) hrr) (by omega) (by omega))
theorem lc_where {LL i n ce sl : Nat} {xs : Nat → Int32} {S : zH} {Rf : zG} {V : zE} {F : Int} (hL3 : LL ≤ 3072) (hi : i + 6 ≤ LL) (hW : LWH n S Rf V F) (hF6 : F + 1080 ≤ 1000000) (hce : ce + 16 ≤ 600000) (hsl : sl + 200 ≤ 7302250) (kk : ∀ (n' ce' sl' : Nat) (S' : zH) (Rf' : zG) (V' : zE), LWH n' S' Rf' V' (F + 1080) → ce' ≤ ce + 8 → sl' ≤ sl + 119 → Wa (zXl LL xs) mL_law room_1 zZl ce' sl' n' S' 972 [some zX, some (zR 0), some (zR 37), some (zI (i : Int))] [] Rf' V') : Wa (zXl LL xs) mL_law room_1 zZl ce sl n S 450 [some zX, some (zR 0), some (zR 37), some (zI (i : Int))] [] Rf V := by
  obtain ⟨hLy, hn, ⟨c, k, len, hI, hfl, hRI⟩, i0, i1, hsp⟩ := id hW
  have hsc := hI.2.2.2.2.2.2.2.2.2.2.2.2.2.2.2.2.2.2
  refine wa_ald1 dL_law_450 ?_
  refine wa_aldX dL_law_451 ?_
  refine wa_ild3 dL_law_452 ?_
  refine wa_iconst dL_law_453 ?_
  refine wa_iadd dL_law_454 ?_
  refine wa_sld dL_law_455 (by omega) hL3 ?_
  refine kL_65 dL_law_456 rfl (by exact hLy.1 _ (by decide)) (ct_where hLy hI (zi_rg _)) ⟨Nat.le_of_ble_eq_true rfl, Nat.le_of_ble_eq_true rfl⟩ (Nat.le_of_ble_eq_true rfl) ⟨(by show ce + 0 ≤ 600000; omega), (by show sl + 0 ≤ 7302250; omega)⟩ (fun v1 S1 R1 V1 hq1 => ?_)
  obtain ⟨x, hx, rfl, rfl, hrf, hqr⟩ := hq1
  have hL1 := hLy.e hrf
  have hR1 := hRI.v (V' := V1) (fun j h1 h2 => hqr.1 j (by unfold scr; omega))
  refine wa_ald2 dL_law_459 ?_
  refine wa_aldX dL_law_460 ?_
  refine wa_ild3 dL_law_461 ?_
  refine wa_iconst dL_law_462 ?_
  refine wa_iadd dL_law_463 ?_
  refine wa_sld dL_law_464 (by omega) hL3 ?_
  refine kL_68 dL_law_465 rfl (by exact hLy.1 _ (by decide)) (cm_where hL1 hI hR1 (zi_rg _) hx) ⟨Nat.le_of_ble_eq_true rfl, Nat.le_of_ble_eq_true rfl⟩ (Nat.le_of_ble_eq_true rfl) ⟨(by show ce + 0 ≤ 600000; omega), (by show sl + 0 ≤ 7302250; omega)⟩ (fun v2 S2 R2 V2 hq2 => ?_)
  obtain ⟨rfl, rfl, rfl, hrr⟩ := hq2
  exact wa_icmp_eq_t 972 dL_law_468 (by decide) rfl (kk _ _ _ _ _ _ (hW.q (by omega) hF6 hrf hqr hrr) (by omega) (by omega))
theorem lc_cleared {LL i n ce sl : Nat} {xs : Nat → Int32} {S : zH} {Rf : zG} {V : zE} {F : Int} (hL3 : LL ≤ 3072) (hi : i + 6 ≤ LL) (hW : LWH n S Rf V F) (hF6 : F + 1080 ≤ 1000000) (hce : ce + 16 ≤ 600000) (hsl : sl + 200 ≤ 7302250) (kk : ∀ (n' ce' sl' : Nat) (S' : zH) (Rf' : zG) (V' : zE), LWH n' S' Rf' V' (F + 1080) → ce' ≤ ce + 8 → sl' ≤ sl + 119 → Wa (zXl LL xs) mL_law room_1 zZl ce' sl' n' S' 972 [some zX, some (zR 0), some (zR 37), some (zI (i : Int))] [] Rf' V') : Wa (zXl LL xs) mL_law room_1 zZl ce sl n S 473 [some zX, some (zR 0), some (zR 37), some (zI (i : Int))] [] Rf V := by
  obtain ⟨hLy, hn, ⟨c, k, len, hI, hfl, hRI⟩, i0, i1, hsp⟩ := id hW
  have hsc := hI.2.2.2.2.2.2.2.2.2.2.2.2.2.2.2.2.2.2
  refine wa_ald1 dL_law_473 ?_
  refine wa_aldX dL_law_474 ?_
  refine wa_ild3 dL_law_475 ?_
  refine wa_iconst dL_law_476 ?_
  refine wa_iadd dL_law_477 ?_
  refine wa_sld dL_law_478 (by omega) hL3 ?_
  refine kL_69 dL_law_479 rfl (by exact hLy.1 _ (by decide)) (ct_cleared hLy hI (zi_rg _)) ⟨Nat.le_of_ble_eq_true rfl, Nat.le_of_ble_eq_true rfl⟩ (Nat.le_of_ble_eq_true rfl) ⟨(by show ce + 0 ≤ 600000; omega), (by show sl + 0 ≤ 7302250; omega)⟩ (zdI ?_)
  refine wa_ald2 dL_law_482 ?_
  refine wa_aldX dL_law_483 ?_
  refine wa_ild3 dL_law_484 ?_
  refine wa_iconst dL_law_485 ?_
  refine wa_iadd dL_law_486 ?_
  refine wa_sld dL_law_487 (by omega) hL3 ?_
  refine kL_72 dL_law_488 rfl (by exact hLy.1 _ (by decide)) (cm_cleared hLy hI hRI (zi_rg _)) ⟨Nat.le_of_ble_eq_true rfl, Nat.le_of_ble_eq_true rfl⟩ (Nat.le_of_ble_eq_true rfl) ⟨(by show ce + 0 ≤ 600000; omega), (by show sl + 0 ≤ 7302250; omega)⟩ (fun v2 S2 R2 V2 hq2 => ?_)
  obtain ⟨rfl, rfl, rfl, hrr⟩ := hq2
  exact wa_icmp_eq_t 972 dL_law_491 (by decide) rfl (kk _ _ _ _ _ _ (hW.q (by omega) hF6 rfe_rf (qry_rf hsc) hrr) (by omega) (by omega))
theorem lc_salted {LL i n ce sl : Nat} {xs : Nat → Int32} {S : zH} {Rf : zG} {V : zE} {F : Int} (hL3 : LL ≤ 3072) (hi : i + 6 ≤ LL) (hW : LWH n S Rf V F) (hF6 : F + 1080 ≤ 1000000) (hce : ce + 16 ≤ 600000) (hsl : sl + 200 ≤ 7302250) (kk : ∀ (n' ce' sl' : Nat) (S' : zH) (Rf' : zG) (V' : zE), LWH n' S' Rf' V' (F + 1080) → ce' ≤ ce + 8 → sl' ≤ sl + 119 → Wa (zXl LL xs) mL_law room_1 zZl ce' sl' n' S' 972 [some zX, some (zR 0), some (zR 37), some (zI (i : Int))] [] Rf' V') : Wa (zXl LL xs) mL_law room_1 zZl ce sl n S 496 [some zX, some (zR 0), some (zR 37), some (zI (i : Int))] [] Rf V := by
  obtain ⟨hLy, hn, ⟨c, k, len, hI, hfl, hRI⟩, i0, i1, hsp⟩ := id hW
  have hsc := hI.2.2.2.2.2.2.2.2.2.2.2.2.2.2.2.2.2.2
  refine wa_ald1 dL_law_496 ?_
  refine wa_aldX dL_law_497 ?_
  refine wa_ild3 dL_law_498 ?_
  refine wa_iconst dL_law_499 ?_
  refine wa_iadd dL_law_500 ?_
  refine wa_sld dL_law_501 (by omega) hL3 ?_
  refine kL_73 dL_law_502 rfl (by exact hLy.1 _ (by decide)) (ct_salted hLy hI (zi_rg _)) ⟨Nat.le_of_ble_eq_true rfl, Nat.le_of_ble_eq_true rfl⟩ (Nat.le_of_ble_eq_true rfl) ⟨(by show ce + 0 ≤ 600000; omega), (by show sl + 0 ≤ 7302250; omega)⟩ (fun v1 S1 R1 V1 hq1 => ?_)
  obtain ⟨x, rfl, rfl, hrf, hqr, hx⟩ := hq1
  have hL1 := hLy.e hrf
  have hR1 := hRI.v (V' := V1) (fun j h1 h2 => hqr.1 j (by unfold scr; omega))
  refine wa_ald2 dL_law_505 ?_
  refine wa_aldX dL_law_506 ?_
  refine wa_ild3 dL_law_507 ?_
  refine wa_iconst dL_law_508 ?_
  refine wa_iadd dL_law_509 ?_
  refine wa_sld dL_law_510 (by omega) hL3 ?_
  refine kL_76 dL_law_511 rfl (by exact hLy.1 _ (by decide)) (cm_salted hL1 hI hR1 (zi_rg _) hx) ⟨Nat.le_of_ble_eq_true rfl, Nat.le_of_ble_eq_true rfl⟩ (Nat.le_of_ble_eq_true rfl) ⟨(by show ce + 0 ≤ 600000; omega), (by show sl + 0 ≤ 7302250; omega)⟩ (fun v2 S2 R2 V2 hq2 => ?_)
  obtain ⟨rfl, rfl, rfl, hrr⟩ := hq2
  exact wa_icmp_eq_t 972 dL_law_514 (by decide) rfl (kk _ _ _ _ _ _ (hW.q (by omega) hF6 hrf hqr hrr) (by omega) (by omega))
theorem lc_slide {LL i n ce sl : Nat} {xs : Nat → Int32} {S : zH} {Rf : zG} {V : zE} {F : Int} (hL3 : LL ≤ 3072) (hi : i + 6 ≤ LL) (hW : LWH n S Rf V F) (hF6 : F + 1080 ≤ 1000000) (hce : ce + 16 ≤ 600000) (hsl : sl + 200 ≤ 7302250) (kk : ∀ (n' ce' sl' : Nat) (S' : zH) (Rf' : zG) (V' : zE), LWH n' S' Rf' V' (F + 1080) → ce' ≤ ce + 8 → sl' ≤ sl + 119 → Wa (zXl LL xs) mL_law room_1 zZl ce' sl' n' S' 972 [some zX, some (zR 0), some (zR 37), some (zI (i : Int))] [] Rf' V') : Wa (zXl LL xs) mL_law room_1 zZl ce sl n S 519 [some zX, some (zR 0), some (zR 37), some (zI (i : Int))] [] Rf V := by
  obtain ⟨hLy, hn, ⟨c, k, len, hI, hfl, hRI⟩, i0, i1, hsp⟩ := id hW
  have hsc := hI.2.2.2.2.2.2.2.2.2.2.2.2.2.2.2.2.2.2
  refine wa_ald1 dL_law_519 ?_
  refine wa_aldX dL_law_520 ?_
  refine wa_ild3 dL_law_521 ?_
  refine wa_iconst dL_law_522 ?_
  refine wa_iadd dL_law_523 ?_
  refine wa_sld dL_law_524 (by omega) hL3 ?_
  refine wa_aldX dL_law_525 ?_
  refine wa_ild3 dL_law_526 ?_
  refine wa_iconst dL_law_527 ?_
  refine wa_iadd dL_law_528 ?_
  refine wa_sld dL_law_529 (by omega) hL3 ?_
  refine wa_aldX dL_law_530 ?_
  refine wa_ild3 dL_law_531 ?_
  refine wa_iconst dL_law_532 ?_
  refine wa_iadd dL_law_533 ?_
  refine wa_sld dL_law_534 (by omega) hL3 ?_
  refine kL_77 dL_law_535 rfl (by exact hLy.1 _ (by decide)) (ct_slide hLy hI (zi_rg _) (zi_rg _) (zi_rg _)) ⟨Nat.le_of_ble_eq_true rfl, Nat.le_of_ble_eq_true rfl⟩ (Nat.le_of_ble_eq_true rfl) ⟨(by show ce + 0 ≤ 600000; omega), (by show sl + 0 ≤ 7302250; omega)⟩ (zdI ?_)
  refine wa_ald2 dL_law_538 ?_
  refine wa_aldX dL_law_539 ?_
  refine wa_ild3 dL_law_540 ?_
  refine wa_iconst dL_law_541 ?_
  refine wa_iadd dL_law_542 ?_
  refine wa_sld dL_law_543 (by omega) hL3 ?_
  refine wa_aldX dL_law_544 ?_
  refine wa_ild3 dL_law_545 ?_
  refine wa_iconst dL_law_546 ?_
  refine wa_iadd dL_law_547 ?_
  refine wa_sld dL_law_548 (by omega) hL3 ?_
  refine wa_aldX dL_law_549 ?_
  refine wa_ild3 dL_law_550 ?_
  refine wa_iconst dL_law_551 ?_
  refine wa_iadd dL_law_552 ?_
  refine wa_sld dL_law_553 (by omega) hL3 ?_
  refine kL_80 dL_law_554 rfl (by exact hLy.1 _ (by decide)) (cm_slide hLy hI hRI (zi_rg _) (zi_rg _) (zi_rg _)) ⟨Nat.le_of_ble_eq_true rfl, Nat.le_of_ble_eq_true rfl⟩ (Nat.le_of_ble_eq_true rfl) ⟨(by show ce + 0 ≤ 600000; omega), (by show sl + 0 ≤ 7302250; omega)⟩ (fun v2 S2 R2 V2 hq2 => ?_)
  obtain ⟨rfl, rfl, rfl, hrr⟩ := hq2
  exact wa_icmp_eq_t 972 dL_law_557 (by decide) rfl (kk _ _ _ _ _ _ (hW.q (by omega) hF6 rfe_rf (qry_rf hsc) hrr) (by omega) (by omega))
theorem lc_holds {LL i n ce sl : Nat} {xs : Nat → Int32} {S : zH} {Rf : zG} {V : zE} {F : Int} (hL3 : LL ≤ 3072) (hi : i + 6 ≤ LL) (hW : LWH n S Rf V F) (hF6 : F + 1080 ≤ 1000000) (hce : ce + 16 ≤ 600000) (hsl : sl + 200 ≤ 7302250) (kk : ∀ (n' ce' sl' : Nat) (S' : zH) (Rf' : zG) (V' : zE), LWH n' S' Rf' V' (F + 1080) → ce' ≤ ce + 8 → sl' ≤ sl + 119 → Wa (zXl LL xs) mL_law room_1 zZl ce' sl' n' S' 972 [some zX, some (zR 0), some (zR 37), some (zI (i : Int))] [] Rf' V') : Wa (zXl LL xs) mL_law room_1 zZl ce sl n S 562 [some zX, some (zR 0), some (zR 37), some (zI (i : Int))] [] Rf V := by
  obtain ⟨hLy, hn, ⟨c, k, len, hI, hfl, hRI⟩, i0, i1, hsp⟩ := id hW
  have hsc := hI.2.2.2.2.2.2.2.2.2.2.2.2.2.2.2.2.2.2
  refine wa_ald1 dL_law_562 ?_
  refine wa_aldX dL_law_563 ?_
  refine wa_ild3 dL_law_564 ?_
  refine wa_iconst dL_law_565 ?_
  refine wa_iadd dL_law_566 ?_
  refine wa_sld dL_law_567 (by omega) hL3 ?_
  refine kL_81 dL_law_568 rfl (by exact hLy.1 _ (by decide)) (ct_holds hLy hI (zi_rg _)) ⟨Nat.le_of_ble_eq_true rfl, Nat.le_of_ble_eq_true rfl⟩ (Nat.le_of_ble_eq_true rfl) ⟨(by show ce + 0 ≤ 600000; omega), (by show sl + 0 ≤ 7302250; omega)⟩ (zdI ?_)
  refine wa_ald2 dL_law_571 ?_
  refine wa_aldX dL_law_572 ?_
  refine wa_ild3 dL_law_573 ?_
  refine wa_iconst dL_law_574 ?_
  refine wa_iadd dL_law_575 ?_
  refine wa_sld dL_law_576 (by omega) hL3 ?_
  refine kL_84 dL_law_577 rfl (by exact hLy.1 _ (by decide)) (cm_holds hLy hI hRI (zi_rg _)) ⟨Nat.le_of_ble_eq_true rfl, Nat.le_of_ble_eq_true rfl⟩ (Nat.le_of_ble_eq_true rfl) ⟨(by show ce + 0 ≤ 600000; omega), (by show sl + 0 ≤ 7302250; omega)⟩ (fun v2 S2 R2 V2 hq2 => ?_)
  obtain ⟨rfl, rfl, rfl, hrr⟩ := hq2
  exact wa_icmp_eq_t 972 dL_law_580 (by decide) rfl (kk _ _ _ _ _ _ (hW.q (by omega) hF6 rfe_rf (qry_rf hsc) hrr) (by omega) (by omega))
theorem lc_seen {LL i n ce sl : Nat} {xs : Nat → Int32} {S : zH} {Rf : zG} {V : zE} {F : Int} (hL3 : LL ≤ 3072) (hi : i + 6 ≤ LL) (hW : LWH n S Rf V F) (hF6 : F + 1080 ≤ 1000000) (hce : ce + 16 ≤ 600000) (hsl : sl + 200 ≤ 7302250) (kk : ∀ (n' ce' sl' : Nat) (S' : zH) (Rf' : zG) (V' : zE), LWH n' S' Rf' V' (F + 1080) → ce' ≤ ce + 8 → sl' ≤ sl + 119 → Wa (zXl LL xs) mL_law room_1 zZl ce' sl' n' S' 972 [some zX, some (zR 0), some (zR 37), some (zI (i : Int))] [] Rf' V') : Wa (zXl LL xs) mL_law room_1 zZl ce sl n S 585 [some zX, some (zR 0), some (zR 37), some (zI (i : Int))] [] Rf V := by
  obtain ⟨hLy, hn, ⟨c, k, len, hI, hfl, hRI⟩, i0, i1, hsp⟩ := id hW
  have hsc := hI.2.2.2.2.2.2.2.2.2.2.2.2.2.2.2.2.2.2
  refine wa_ald1 dL_law_585 ?_
  refine wa_aldX dL_law_586 ?_
  refine wa_ild3 dL_law_587 ?_
  refine wa_iconst dL_law_588 ?_
  refine wa_iadd dL_law_589 ?_
  refine wa_sld dL_law_590 (by omega) hL3 ?_
  refine wa_aldX dL_law_591 ?_
  refine wa_ild3 dL_law_592 ?_
  refine wa_iconst dL_law_593 ?_
  refine wa_iadd dL_law_594 ?_
  refine wa_sld dL_law_595 (by omega) hL3 ?_
  refine kL_85 dL_law_596 rfl (by exact hLy.1 _ (by decide)) (ct_seen hLy hI (zi_rg _) (zi_rg _)) ⟨Nat.le_of_ble_eq_true rfl, Nat.le_of_ble_eq_true rfl⟩ (Nat.le_of_ble_eq_true rfl) ⟨(by show ce + 0 ≤ 600000; omega), (by show sl + 0 ≤ 7302250; omega)⟩ (zdI ?_)
  refine wa_ald2 dL_law_599 ?_
  refine wa_aldX dL_law_600 ?_
  refine wa_ild3 dL_law_601 ?_
  refine wa_iconst dL_law_602 ?_
  refine wa_iadd dL_law_603 ?_
  refine wa_sld dL_law_604 (by omega) hL3 ?_
  refine wa_aldX dL_law_605 ?_
  refine wa_ild3 dL_law_606 ?_
  refine wa_iconst dL_law_607 ?_
  refine wa_iadd dL_law_608 ?_
  refine wa_sld dL_law_609 (by omega) hL3 ?_
  refine kL_88 dL_law_610 rfl (by exact hLy.1 _ (by decide)) (cm_seen hLy hI (hRI.v (fun j h1 h2 => sn_o h1)) (zi_rg _) (zi_rg _)) ⟨Nat.le_of_ble_eq_true rfl, Nat.le_of_ble_eq_true rfl⟩ (Nat.le_of_ble_eq_true rfl) ⟨(by show ce + 0 ≤ 600000; omega), (by show sl + 0 ≤ 7302250; omega)⟩ (fun v2 S2 R2 V2 hq2 => ?_)
  obtain ⟨rfl, rfl, rfl, q1, q2⟩ := hq2
  obtain ⟨b1, b2⟩ := CI.up (F' := F + 1080) (ci_seen hI hfl) (by omega) hF6
  exact wa_icmp_eq_t 972 dL_law_613 (by decide) rfl (kk _ _ _ _ _ _ (hW.m (by omega) b1 b2 q2 (fun j hj => q1 j (Or.inl hj)) (fun j hj => (q1 j (Or.inr (by omega))).trans (sn_o (by omega)))) (by omega) (by omega))
theorem lc_forget {LL i n ce sl : Nat} {xs : Nat → Int32} {S : zH} {Rf : zG} {V : zE} {F : Int} (hL3 : LL ≤ 3072) (hi : i + 6 ≤ LL) (hW : LWH n S Rf V F) (hF6 : F + 1080 ≤ 1000000) (hce : ce + 16 ≤ 600000) (hsl : sl + 200 ≤ 7302250) (kk : ∀ (n' ce' sl' : Nat) (S' : zH) (Rf' : zG) (V' : zE), LWH n' S' Rf' V' (F + 1080) → ce' ≤ ce + 8 → sl' ≤ sl + 119 → Wa (zXl LL xs) mL_law room_1 zZl ce' sl' n' S' 972 [some zX, some (zR 0), some (zR 37), some (zI (i : Int))] [] Rf' V') : Wa (zXl LL xs) mL_law room_1 zZl ce sl n S 618 [some zX, some (zR 0), some (zR 37), some (zI (i : Int))] [] Rf V := by
  obtain ⟨hLy, hn, ⟨c, k, len, hI, hfl, hRI⟩, i0, i1, hsp⟩ := id hW
  have hsc := hI.2.2.2.2.2.2.2.2.2.2.2.2.2.2.2.2.2.2
  refine wa_ald1 dL_law_618 ?_
  refine kL_89 dL_law_619 rfl (by exact hLy.1 _ (by decide)) (ct_forget hLy) ⟨Nat.le_of_ble_eq_true rfl, Nat.le_of_ble_eq_true rfl⟩ (Nat.le_of_ble_eq_true rfl) ⟨(by show ce + 0 ≤ 600000; omega), (by show sl + 0 ≤ 7302250; omega)⟩ (zdI ?_)
  refine wa_ald2 dL_law_622 ?_
  refine kL_92 dL_law_623 rfl (by exact hLy.1 _ (by decide)) (cm_forget hLy hI (hRI.v (fun j h1 h2 => zp_n _ _ (by omega)))) ⟨Nat.le_of_ble_eq_true rfl, Nat.le_of_ble_eq_true rfl⟩ (Nat.le_of_ble_eq_true rfl) ⟨(by show ce + 0 ≤ 600000; omega), (by show sl + 0 ≤ 7302250; omega)⟩ (fun v2 S2 R2 V2 hq2 => ?_)
  obtain ⟨rfl, rfl, rfl, q1, q2⟩ := hq2
  obtain ⟨b1, b2⟩ := CI.up (F' := F + 1080) (ci_forget hI hfl) (by omega) hF6
  exact wa_icmp_eq_t 972 dL_law_626 (by decide) rfl (kk _ _ _ _ _ _ (hW.m (by omega) b1 b2 q2 (fun j hj => q1 j (Or.inl hj)) (fun j hj => (q1 j (Or.inr (by omega))).trans (zp_n _ _ (by omega)))) (by omega) (by omega))
theorem lc_who {LL i n ce sl : Nat} {xs : Nat → Int32} {S : zH} {Rf : zG} {V : zE} {F : Int} (hL3 : LL ≤ 3072) (hi : i + 6 ≤ LL) (hW : LWH n S Rf V F) (hF6 : F + 1080 ≤ 1000000) (hce : ce + 16 ≤ 600000) (hsl : sl + 200 ≤ 7302250) (kk : ∀ (n' ce' sl' : Nat) (S' : zH) (Rf' : zG) (V' : zE), LWH n' S' Rf' V' (F + 1080) → ce' ≤ ce + 8 → sl' ≤ sl + 119 → Wa (zXl LL xs) mL_law room_1 zZl ce' sl' n' S' 972 [some zX, some (zR 0), some (zR 37), some (zI (i : Int))] [] Rf' V') : Wa (zXl LL xs) mL_law room_1 zZl ce sl n S 631 [some zX, some (zR 0), some (zR 37), some (zI (i : Int))] [] Rf V := by
  obtain ⟨hLy, hn, ⟨c, k, len, hI, hfl, hRI⟩, i0, i1, hsp⟩ := id hW
  have hsc := hI.2.2.2.2.2.2.2.2.2.2.2.2.2.2.2.2.2.2
  refine wa_ald1 dL_law_631 ?_
  refine wa_aldX dL_law_632 ?_
  refine wa_ild3 dL_law_633 ?_
  refine wa_iconst dL_law_634 ?_
  refine wa_iadd dL_law_635 ?_
  refine wa_sld dL_law_636 (by omega) hL3 ?_
  refine wa_aldX dL_law_637 ?_
  refine wa_ild3 dL_law_638 ?_
  refine wa_iconst dL_law_639 ?_
  refine wa_iadd dL_law_640 ?_
  refine wa_sld dL_law_641 (by omega) hL3 ?_
  refine kL_93 dL_law_642 rfl (by exact hLy.1 _ (by decide)) (ct_who hLy hI (zi_rg _) (zi_rg _)) ⟨Nat.le_of_ble_eq_true rfl, Nat.le_of_ble_eq_true rfl⟩ (Nat.le_of_ble_eq_true rfl) ⟨(by show ce + 0 ≤ 600000; omega), (by show sl + 0 ≤ 7302250; omega)⟩ (fun v1 S1 R1 V1 hq1 => ?_)
  obtain ⟨rfl, rfl, hrf, hqr⟩ := hq1
  have hL1 := hLy.e hrf
  have hR1 := hRI.v (V' := V1) (fun j h1 h2 => hqr.1 j (by unfold scr; omega))
  refine wa_ald2 dL_law_645 ?_
  refine wa_aldX dL_law_646 ?_
  refine wa_ild3 dL_law_647 ?_
  refine wa_iconst dL_law_648 ?_
  refine wa_iadd dL_law_649 ?_
  refine wa_sld dL_law_650 (by omega) hL3 ?_
  refine wa_aldX dL_law_651 ?_
  refine wa_ild3 dL_law_652 ?_
  refine wa_iconst dL_law_653 ?_
  refine wa_iadd dL_law_654 ?_
  refine wa_sld dL_law_655 (by omega) hL3 ?_
  refine kL_96 dL_law_656 rfl (by exact hLy.1 _ (by decide)) (cm_who hL1 hI hR1 (zi_rg _) (zi_rg _)) ⟨Nat.le_of_ble_eq_true rfl, Nat.le_of_ble_eq_true rfl⟩ (Nat.le_of_ble_eq_true rfl) ⟨(by show ce + 0 ≤ 600000; omega), (by show sl + 0 ≤ 7302250; omega)⟩ (fun v2 S2 R2 V2 hq2 => ?_)
  obtain ⟨rfl, rfl, rfl, hrr⟩ := hq2
  exact wa_icmp_eq_t 972 dL_law_659 (by decide) rfl (kk _ _ _ _ _ _ (hW.q (by omega) hF6 hrf hqr hrr) (by omega) (by omega))
theorem lc_next {LL i n ce sl : Nat} {xs : Nat → Int32} {S : zH} {Rf : zG} {V : zE} {F : Int} (hL3 : LL ≤ 3072) (hi : i + 6 ≤ LL) (hW : LWH n S Rf V F) (hF6 : F + 1080 ≤ 1000000) (hce : ce + 16 ≤ 600000) (hsl : sl + 200 ≤ 7302250) (kk : ∀ (n' ce' sl' : Nat) (S' : zH) (Rf' : zG) (V' : zE), LWH n' S' Rf' V' (F + 1080) → ce' ≤ ce + 8 → sl' ≤ sl + 119 → Wa (zXl LL xs) mL_law room_1 zZl ce' sl' n' S' 972 [some zX, some (zR 0), some (zR 37), some (zI (i : Int))] [] Rf' V') : Wa (zXl LL xs) mL_law room_1 zZl ce sl n S 664 [some zX, some (zR 0), some (zR 37), some (zI (i : Int))] [] Rf V := by
  obtain ⟨hLy, hn, ⟨c, k, len, hI, hfl, hRI⟩, i0, i1, hsp⟩ := id hW
  have hsc := hI.2.2.2.2.2.2.2.2.2.2.2.2.2.2.2.2.2.2
  refine wa_ald1 dL_law_664 ?_
  refine wa_aldX dL_law_665 ?_
  refine wa_ild3 dL_law_666 ?_
  refine wa_iconst dL_law_667 ?_
  refine wa_iadd dL_law_668 ?_
  refine wa_sld dL_law_669 (by omega) hL3 ?_
  refine wa_aldX dL_law_670 ?_
  refine wa_ild3 dL_law_671 ?_
  refine wa_iconst dL_law_672 ?_
  refine wa_iadd dL_law_673 ?_
  refine wa_sld dL_law_674 (by omega) hL3 ?_
  refine kL_97 dL_law_675 rfl (by exact hLy.1 _ (by decide)) (ct_next hLy hI (zi_rg _) (zi_rg _)) ⟨Nat.le_of_ble_eq_true rfl, Nat.le_of_ble_eq_true rfl⟩ (Nat.le_of_ble_eq_true rfl) ⟨(by show ce + 0 ≤ 600000; omega), (by show sl + 0 ≤ 7302250; omega)⟩ (fun v1 S1 R1 V1 hq1 => ?_)
  obtain ⟨rfl, rfl, hrf, hqr⟩ := hq1
  have hL1 := hLy.e hrf
  have hR1 := hRI.v (V' := V1) (fun j h1 h2 => hqr.1 j (by unfold scr; omega))
  refine wa_ald2 dL_law_678 ?_
  refine wa_aldX dL_law_679 ?_
  refine wa_ild3 dL_law_680 ?_
  refine wa_iconst dL_law_681 ?_
  refine wa_iadd dL_law_682 ?_
  refine wa_sld dL_law_683 (by omega) hL3 ?_
  refine wa_aldX dL_law_684 ?_
  refine wa_ild3 dL_law_685 ?_
  refine wa_iconst dL_law_686 ?_
  refine wa_iadd dL_law_687 ?_
  refine wa_sld dL_law_688 (by omega) hL3 ?_
  refine kL_100 dL_law_689 rfl (by exact hLy.1 _ (by decide)) (cm_next hL1 hI hR1 (zi_rg _) (zi_rg _)) ⟨Nat.le_of_ble_eq_true rfl, Nat.le_of_ble_eq_true rfl⟩ (Nat.le_of_ble_eq_true rfl) ⟨(by show ce + 0 ≤ 600000; omega), (by show sl + 0 ≤ 7302250; omega)⟩ (fun v2 S2 R2 V2 hq2 => ?_)
  obtain ⟨rfl, rfl, rfl, hrr⟩ := hq2
  exact wa_icmp_eq_t 972 dL_law_692 (by decide) rfl (kk _ _ _ _ _ _ (hW.q (by omega) hF6 hrf hqr hrr) (by omega) (by omega))
theorem lc_laws {LL i n ce sl : Nat} {xs : Nat → Int32} {S : zH} {Rf : zG} {V : zE} {F : Int} (hL3 : LL ≤ 3072) (hi : i + 6 ≤ LL) (hW : LWH n S Rf V F) (hF6 : F + 1080 ≤ 1000000) (hce : ce + 16 ≤ 600000) (hsl : sl + 200 ≤ 7302250) (kk : ∀ (n' ce' sl' : Nat) (S' : zH) (Rf' : zG) (V' : zE), LWH n' S' Rf' V' (F + 1080) → ce' ≤ ce + 8 → sl' ≤ sl + 119 → Wa (zXl LL xs) mL_law room_1 zZl ce' sl' n' S' 972 [some zX, some (zR 0), some (zR 37), some (zI (i : Int))] [] Rf' V') : Wa (zXl LL xs) mL_law room_1 zZl ce sl n S 697 [some zX, some (zR 0), some (zR 37), some (zI (i : Int))] [] Rf V := by
  obtain ⟨hLy, hn, ⟨c, k, len, hI, hfl, hRI⟩, i0, i1, hsp⟩ := id hW
  have hsc := hI.2.2.2.2.2.2.2.2.2.2.2.2.2.2.2.2.2.2
  refine wa_ald1 dL_law_697 ?_
  refine wa_aldX dL_law_698 ?_
  refine wa_ild3 dL_law_699 ?_
  refine wa_iconst dL_law_700 ?_
  refine wa_iadd dL_law_701 ?_
  refine wa_sld dL_law_702 (by omega) hL3 ?_
  refine kL_101 dL_law_703 rfl (by exact hLy.1 _ (by decide)) (ct_laws hLy hI (zi_rg _)) ⟨Nat.le_of_ble_eq_true rfl, Nat.le_of_ble_eq_true rfl⟩ (Nat.le_of_ble_eq_true rfl) ⟨(by show ce + 0 ≤ 600000; omega), (by show sl + 0 ≤ 7302250; omega)⟩ (fun v1 S1 R1 V1 hq1 => ?_)
  obtain ⟨rfl, rfl, hrf, hqr⟩ := hq1
  have hL1 := hLy.e hrf
  have hR1 := hRI.v (V' := V1) (fun j h1 h2 => hqr.1 j (by unfold scr; omega))
  refine wa_ald2 dL_law_706 ?_
  refine wa_aldX dL_law_707 ?_
  refine wa_ild3 dL_law_708 ?_
  refine wa_iconst dL_law_709 ?_
  refine wa_iadd dL_law_710 ?_
  refine wa_sld dL_law_711 (by omega) hL3 ?_
  refine kL_104 dL_law_712 rfl (by exact hLy.1 _ (by decide)) (cm_laws hL1 hI hR1 (zi_rg _)) ⟨Nat.le_of_ble_eq_true rfl, Nat.le_of_ble_eq_true rfl⟩ (Nat.le_of_ble_eq_true rfl) ⟨(by show ce + 0 ≤ 600000; omega), (by show sl + 0 ≤ 7302250; omega)⟩ (fun v2 S2 R2 V2 hq2 => ?_)
  obtain ⟨rfl, rfl, rfl, hrr⟩ := hq2
  exact wa_icmp_eq_t 972 dL_law_715 (by decide) rfl (kk _ _ _ _ _ _ (hW.q (by omega) hF6 hrf hqr hrr) (by omega) (by omega))
theorem lc_guests {LL i n ce sl : Nat} {xs : Nat → Int32} {S : zH} {Rf : zG} {V : zE} {F : Int} (hL3 : LL ≤ 3072) (hi : i + 6 ≤ LL) (hW : LWH n S Rf V F) (hF6 : F + 1080 ≤ 1000000) (hce : ce + 16 ≤ 600000) (hsl : sl + 200 ≤ 7302250) (kk : ∀ (n' ce' sl' : Nat) (S' : zH) (Rf' : zG) (V' : zE), LWH n' S' Rf' V' (F + 1080) → ce' ≤ ce + 8 → sl' ≤ sl + 119 → Wa (zXl LL xs) mL_law room_1 zZl ce' sl' n' S' 972 [some zX, some (zR 0), some (zR 37), some (zI (i : Int))] [] Rf' V') : Wa (zXl LL xs) mL_law room_1 zZl ce sl n S 720 [some zX, some (zR 0), some (zR 37), some (zI (i : Int))] [] Rf V := by
  obtain ⟨hLy, hn, ⟨c, k, len, hI, hfl, hRI⟩, i0, i1, hsp⟩ := id hW
  have hsc := hI.2.2.2.2.2.2.2.2.2.2.2.2.2.2.2.2.2.2
  refine wa_ald1 dL_law_720 ?_
  refine wa_aldX dL_law_721 ?_
  refine wa_ild3 dL_law_722 ?_
  refine wa_iconst dL_law_723 ?_
  refine wa_iadd dL_law_724 ?_
  refine wa_sld dL_law_725 (by omega) hL3 ?_
  refine wa_aldX dL_law_726 ?_
  refine wa_ild3 dL_law_727 ?_
  refine wa_iconst dL_law_728 ?_
  refine wa_iadd dL_law_729 ?_
  refine wa_sld dL_law_730 (by omega) hL3 ?_
  refine wa_aldX dL_law_731 ?_
  refine wa_ild3 dL_law_732 ?_
  refine wa_iconst dL_law_733 ?_
  refine wa_iadd dL_law_734 ?_
  refine wa_sld dL_law_735 (by omega) hL3 ?_
  refine wa_aldX dL_law_736 ?_
  refine wa_ild3 dL_law_737 ?_
  refine wa_iconst dL_law_738 ?_
  refine wa_iadd dL_law_739 ?_
  refine wa_sld dL_law_740 (by omega) hL3 ?_
  refine kL_105 dL_law_741 rfl (by exact hLy.1 _ (by decide)) (ct_guests hLy hI (zi_rg _) (zi_rg _) (zi_rg _) (zi_rg _)) ⟨Nat.le_of_ble_eq_true rfl, Nat.le_of_ble_eq_true rfl⟩ (Nat.le_of_ble_eq_true rfl) ⟨(by show ce + 0 ≤ 600000; omega), (by show sl + 0 ≤ 7302250; omega)⟩ (zdL ?_)
  refine wa_ald2 dL_law_744 ?_
  refine wa_aldX dL_law_745 ?_
  refine wa_ild3 dL_law_746 ?_
  refine wa_iconst dL_law_747 ?_
  refine wa_iadd dL_law_748 ?_
  refine wa_sld dL_law_749 (by omega) hL3 ?_
  refine wa_aldX dL_law_750 ?_
  refine wa_ild3 dL_law_751 ?_
  refine wa_iconst dL_law_752 ?_
  refine wa_iadd dL_law_753 ?_
  refine wa_sld dL_law_754 (by omega) hL3 ?_
  refine wa_aldX dL_law_755 ?_
  refine wa_ild3 dL_law_756 ?_
  refine wa_iconst dL_law_757 ?_
  refine wa_iadd dL_law_758 ?_
  refine wa_sld dL_law_759 (by omega) hL3 ?_
  refine wa_aldX dL_law_760 ?_
  refine wa_ild3 dL_law_761 ?_
  refine wa_iconst dL_law_762 ?_
  refine wa_iadd dL_law_763 ?_
  refine wa_sld dL_law_764 (by omega) hL3 ?_
  refine kL_109 dL_law_765 rfl (by exact hLy.1 _ (by decide)) (cm_guests hLy hI hRI (zi_rg _) (zi_rg _) (zi_rg _) (zi_rg _)) ⟨Nat.le_of_ble_eq_true rfl, Nat.le_of_ble_eq_true rfl⟩ (Nat.le_of_ble_eq_true rfl) ⟨(by show ce + 0 ≤ 600000; omega), (by show sl + 0 ≤ 7302250; omega)⟩ (zdL ?_)
  refine wa_lcmp_s dL_law_768 ?_
  exact wa_if_eq 972 dL_law_769 (by decide) (by decide) (fun _ => kk _ _ _ _ _ _ (hW.q (by omega) hF6 rfe_rf (qry_rf hsc) rfr_rf) (by omega) (by omega)) (fun h => absurd rfl h)
theorem lc_build {LL i n ce sl : Nat} {xs : Nat → Int32} {S : zH} {Rf : zG} {V : zE} {F : Int} (hL3 : LL ≤ 3072) (hi : i + 6 ≤ LL) (hW : LWH n S Rf V F) (hF6 : F + 1080 ≤ 1000000) (hce : ce + 16 ≤ 600000) (hsl : sl + 200 ≤ 7302250) (kk : ∀ (n' ce' sl' : Nat) (S' : zH) (Rf' : zG) (V' : zE), LWH n' S' Rf' V' (F + 1080) → ce' ≤ ce + 8 → sl' ≤ sl + 119 → Wa (zXl LL xs) mL_law room_1 zZl ce' sl' n' S' 972 [some zX, some (zR 0), some (zR 37), some (zI (i : Int))] [] Rf' V') : Wa (zXl LL xs) mL_law room_1 zZl ce sl n S 774 [some zX, some (zR 0), some (zR 37), some (zI (i : Int))] [] Rf V := by
  obtain ⟨hLy, hn, ⟨c, k, len, hI, hfl, hRI⟩, i0, i1, hsp⟩ := id hW
  have hsc := hI.2.2.2.2.2.2.2.2.2.2.2.2.2.2.2.2.2.2
  refine wa_ald1 dL_law_774 ?_
  refine wa_aldX dL_law_775 ?_
  refine wa_ild3 dL_law_776 ?_
  refine wa_iconst dL_law_777 ?_
  refine wa_iadd dL_law_778 ?_
  refine wa_sld dL_law_779 (by omega) hL3 ?_
  refine wa_aldX dL_law_780 ?_
  refine wa_ild3 dL_law_781 ?_
  refine wa_iconst dL_law_782 ?_
  refine wa_iadd dL_law_783 ?_
  refine wa_sld dL_law_784 (by omega) hL3 ?_
  refine wa_aldX dL_law_785 ?_
  refine wa_ild3 dL_law_786 ?_
  refine wa_iconst dL_law_787 ?_
  refine wa_iadd dL_law_788 ?_
  refine wa_sld dL_law_789 (by omega) hL3 ?_
  refine wa_aldX dL_law_790 ?_
  refine wa_ild3 dL_law_791 ?_
  refine wa_iconst dL_law_792 ?_
  refine wa_iadd dL_law_793 ?_
  refine wa_sld dL_law_794 (by omega) hL3 ?_
  refine wa_aldX dL_law_795 ?_
  refine wa_ild3 dL_law_796 ?_
  refine wa_iconst dL_law_797 ?_
  refine wa_iadd dL_law_798 ?_
  refine wa_sld dL_law_799 (by omega) hL3 ?_
  refine kL_110 dL_law_800 rfl (by exact hLy.1 _ (by decide)) (ct_build hLy hI (zi_rg _) (zi_rg _) (zi_rg _) (zi_rg _) (zi_rg _)) ⟨Nat.le_of_ble_eq_true rfl, Nat.le_of_ble_eq_true rfl⟩ (Nat.le_of_ble_eq_true rfl) ⟨(by show ce + 0 ≤ 600000; omega), (by show sl + 0 ≤ 7302250; omega)⟩ (zdI ?_)
  refine wa_ald2 dL_law_803 ?_
  refine wa_aldX dL_law_804 ?_
  refine wa_ild3 dL_law_805 ?_
  refine wa_iconst dL_law_806 ?_
  refine wa_iadd dL_law_807 ?_
  refine wa_sld dL_law_808 (by omega) hL3 ?_
  refine wa_aldX dL_law_809 ?_
  refine wa_ild3 dL_law_810 ?_
  refine wa_iconst dL_law_811 ?_
  refine wa_iadd dL_law_812 ?_
  refine wa_sld dL_law_813 (by omega) hL3 ?_
  refine wa_aldX dL_law_814 ?_
  refine wa_ild3 dL_law_815 ?_
  refine wa_iconst dL_law_816 ?_
  refine wa_iadd dL_law_817 ?_
  refine wa_sld dL_law_818 (by omega) hL3 ?_
  refine wa_aldX dL_law_819 ?_
  refine wa_ild3 dL_law_820 ?_
  refine wa_iconst dL_law_821 ?_
  refine wa_iadd dL_law_822 ?_
  refine wa_sld dL_law_823 (by omega) hL3 ?_
  refine wa_aldX dL_law_824 ?_
  refine wa_ild3 dL_law_825 ?_
  refine wa_iconst dL_law_826 ?_
  refine wa_iadd dL_law_827 ?_
  refine wa_sld dL_law_828 (by omega) hL3 ?_
  refine kL_114 dL_law_829 rfl (by exact hLy.1 _ (by decide)) (cm_build hLy hI hRI (zi_rg _) (zi_rg _) (zi_rg _) (zi_rg _) (zi_rg _)) ⟨Nat.le_of_ble_eq_true rfl, Nat.le_of_ble_eq_true rfl⟩ (Nat.le_of_ble_eq_true rfl) ⟨(by show ce + 0 ≤ 600000; omega), (by show sl + 0 ≤ 7302250; omega)⟩ (zdI ?_)
  exact wa_icmp_eq_t 972 dL_law_832 (by decide) rfl (kk _ _ _ _ _ _ (hW.q (by omega) hF6 rfe_rf (qry_rf hsc) rfr_rf) (by omega) (by omega))
theorem lc_elsewhere {LL i n ce sl : Nat} {xs : Nat → Int32} {S : zH} {Rf : zG} {V : zE} {F : Int} (hL3 : LL ≤ 3072) (hi : i + 6 ≤ LL) (hW : LWH n S Rf V F) (hF6 : F + 1080 ≤ 1000000) (hce : ce + 16 ≤ 600000) (hsl : sl + 200 ≤ 7302250) (kk : ∀ (n' ce' sl' : Nat) (S' : zH) (Rf' : zG) (V' : zE), LWH n' S' Rf' V' (F + 1080) → ce' ≤ ce + 8 → sl' ≤ sl + 119 → Wa (zXl LL xs) mL_law room_1 zZl ce' sl' n' S' 972 [some zX, some (zR 0), some (zR 37), some (zI (i : Int))] [] Rf' V') : Wa (zXl LL xs) mL_law room_1 zZl ce sl n S 837 [some zX, some (zR 0), some (zR 37), some (zI (i : Int))] [] Rf V := by
  obtain ⟨hLy, hn, ⟨c, k, len, hI, hfl, hRI⟩, i0, i1, hsp⟩ := id hW
  have hsc := hI.2.2.2.2.2.2.2.2.2.2.2.2.2.2.2.2.2.2
  refine wa_ald1 dL_law_837 ?_
  refine wa_aldX dL_law_838 ?_
  refine wa_ild3 dL_law_839 ?_
  refine wa_iconst dL_law_840 ?_
  refine wa_iadd dL_law_841 ?_
  refine wa_sld dL_law_842 (by omega) hL3 ?_
  refine kL_115 dL_law_843 rfl (by exact hLy.1 _ (by decide)) (ct_elsewhere hLy hI (zi_rg _)) ⟨Nat.le_of_ble_eq_true rfl, Nat.le_of_ble_eq_true rfl⟩ (Nat.le_of_ble_eq_true rfl) ⟨(by show ce + 0 ≤ 600000; omega), (by show sl + 0 ≤ 7302250; omega)⟩ (fun v1 S1 R1 V1 hq1 => ?_)
  obtain ⟨sx, hx, rfl, rfl, hrf, hqr⟩ := hq1
  have hL1 := hLy.e hrf
  have hR1 := hRI.v (V' := V1) (fun j h1 h2 => hqr.1 j (by unfold scr; omega))
  refine wa_ald2 dL_law_846 ?_
  refine wa_aldX dL_law_847 ?_
  refine wa_ild3 dL_law_848 ?_
  refine wa_iconst dL_law_849 ?_
  refine wa_iadd dL_law_850 ?_
  refine wa_sld dL_law_851 (by omega) hL3 ?_
  refine kL_118 dL_law_852 rfl (by exact hLy.1 _ (by decide)) (cm_elsewhere hL1 hI hR1 (zi_rg _) hx) ⟨Nat.le_of_ble_eq_true rfl, Nat.le_of_ble_eq_true rfl⟩ (Nat.le_of_ble_eq_true rfl) ⟨(by show ce + 0 ≤ 600000; omega), (by show sl + 0 ≤ 7302250; omega)⟩ (fun v2 S2 R2 V2 hq2 => ?_)
  obtain ⟨rfl, rfl, rfl, hrr⟩ := hq2
  exact wa_icmp_eq_t 972 dL_law_855 (by decide) rfl (kk _ _ _ _ _ _ (hW.q (by omega) hF6 hrf hqr hrr) (by omega) (by omega))
theorem lc_winter {LL i n ce sl : Nat} {xs : Nat → Int32} {S : zH} {Rf : zG} {V : zE} {F : Int} (hL3 : LL ≤ 3072) (hi : i + 6 ≤ LL) (hW : LWH n S Rf V F) (hF6 : F + 1080 ≤ 1000000) (hce : ce + 16 ≤ 600000) (hsl : sl + 200 ≤ 7302250) (kk : ∀ (n' ce' sl' : Nat) (S' : zH) (Rf' : zG) (V' : zE), LWH n' S' Rf' V' (F + 1080) → ce' ≤ ce + 8 → sl' ≤ sl + 119 → Wa (zXl LL xs) mL_law room_1 zZl ce' sl' n' S' 972 [some zX, some (zR 0), some (zR 37), some (zI (i : Int))] [] Rf' V') : Wa (zXl LL xs) mL_law room_1 zZl ce sl n S 860 [some zX, some (zR 0), some (zR 37), some (zI (i : Int))] [] Rf V := by
  obtain ⟨hLy, hn, ⟨c, k, len, hI, hfl, hRI⟩, i0, i1, hsp⟩ := id hW
  have hsc := hI.2.2.2.2.2.2.2.2.2.2.2.2.2.2.2.2.2.2
  refine wa_ald1 dL_law_860 ?_
  refine wa_aldX dL_law_861 ?_
  refine wa_ild3 dL_law_862 ?_
  refine wa_iconst dL_law_863 ?_
  refine wa_iadd dL_law_864 ?_
  refine wa_sld dL_law_865 (by omega) hL3 ?_
  refine wa_aldX dL_law_866 ?_
  refine wa_ild3 dL_law_867 ?_
  refine wa_iconst dL_law_868 ?_
  refine wa_iadd dL_law_869 ?_
  refine wa_sld dL_law_870 (by omega) hL3 ?_
  refine wa_aldX dL_law_871 ?_
  refine wa_ild3 dL_law_872 ?_
  refine wa_iconst dL_law_873 ?_
  refine wa_iadd dL_law_874 ?_
  refine wa_sld dL_law_875 (by omega) hL3 ?_
  refine kL_119 dL_law_876 rfl (by exact hLy.1 _ (by decide)) (ct_winter hLy hI (zi_rg _) (zi_rg _) (zi_rg _)) ⟨Nat.le_of_ble_eq_true rfl, Nat.le_of_ble_eq_true rfl⟩ (Nat.le_of_ble_eq_true rfl) ⟨(by show ce + 0 ≤ 600000; omega), (by show sl + 0 ≤ 7302250; omega)⟩ (fun v1 S1 R1 V1 hq1 => ?_)
  obtain ⟨rfl, rfl, hrf, hqr⟩ := hq1
  have hL1 := hLy.e hrf
  have hR1 := hRI.v (V' := V1) (fun j h1 h2 => hqr.1 j (by unfold scr; omega))
  refine wa_ald2 dL_law_879 ?_
  refine wa_aldX dL_law_880 ?_
  refine wa_ild3 dL_law_881 ?_
  refine wa_iconst dL_law_882 ?_
  refine wa_iadd dL_law_883 ?_
  refine wa_sld dL_law_884 (by omega) hL3 ?_
  refine wa_aldX dL_law_885 ?_
  refine wa_ild3 dL_law_886 ?_
  refine wa_iconst dL_law_887 ?_
  refine wa_iadd dL_law_888 ?_
  refine wa_sld dL_law_889 (by omega) hL3 ?_
  refine wa_aldX dL_law_890 ?_
  refine wa_ild3 dL_law_891 ?_
  refine wa_iconst dL_law_892 ?_
  refine wa_iadd dL_law_893 ?_
  refine wa_sld dL_law_894 (by omega) hL3 ?_
  refine kL_122 dL_law_895 rfl (by exact hLy.1 _ (by decide)) (cm_winter hL1 hI hfl hR1 (zi_rg _) (zi_rg _) (zi_rg _)) ⟨Nat.le_of_ble_eq_true rfl, Nat.le_of_ble_eq_true rfl⟩ (Nat.le_of_ble_eq_true rfl) ⟨(by show ce + 0 ≤ 600000; omega), (by show sl + 0 ≤ 7302250; omega)⟩ (fun v2 S2 R2 V2 hq2 => ?_)
  obtain ⟨rfl, rfl, rfl, hrr⟩ := hq2
  exact wa_icmp_eq_t 972 dL_law_898 (by decide) rfl (kk _ _ _ _ _ _ (hW.q (by omega) hF6 hrf hqr hrr) (by omega) (by omega))
theorem lc_told {LL i n ce sl : Nat} {xs : Nat → Int32} {S : zH} {Rf : zG} {V : zE} {F : Int} (hL3 : LL ≤ 3072) (hi : i + 6 ≤ LL) (hW : LWH n S Rf V F) (hF6 : F + 1080 ≤ 1000000) (hce : ce + 16 ≤ 600000) (hsl : sl + 200 ≤ 7302250) (kk : ∀ (n' ce' sl' : Nat) (S' : zH) (Rf' : zG) (V' : zE), LWH n' S' Rf' V' (F + 1080) → ce' ≤ ce + 8 → sl' ≤ sl + 119 → Wa (zXl LL xs) mL_law room_1 zZl ce' sl' n' S' 972 [some zX, some (zR 0), some (zR 37), some (zI (i : Int))] [] Rf' V') : Wa (zXl LL xs) mL_law room_1 zZl ce sl n S 949 [some zX, some (zR 0), some (zR 37), some (zI (i : Int))] [] Rf V := by
  obtain ⟨hLy, hn, ⟨c, k, len, hI, hfl, hRI⟩, i0, i1, hsp⟩ := id hW
  have hsc := hI.2.2.2.2.2.2.2.2.2.2.2.2.2.2.2.2.2.2
  refine wa_ald1 dL_law_949 ?_
  refine wa_aldX dL_law_950 ?_
  refine wa_ild3 dL_law_951 ?_
  refine wa_iconst dL_law_952 ?_
  refine wa_iadd dL_law_953 ?_
  refine wa_sld dL_law_954 (by omega) hL3 ?_
  refine kL_131 dL_law_955 rfl (by exact hLy.1 _ (by decide)) (ct_told hLy hI (zi_rg _)) ⟨Nat.le_of_ble_eq_true rfl, Nat.le_of_ble_eq_true rfl⟩ (Nat.le_of_ble_eq_true rfl) ⟨(by show ce + 0 ≤ 600000; omega), (by show sl + 0 ≤ 7302250; omega)⟩ (zdI ?_)
  refine wa_ald2 dL_law_958 ?_
  refine wa_aldX dL_law_959 ?_
  refine wa_ild3 dL_law_960 ?_
  refine wa_iconst dL_law_961 ?_
  refine wa_iadd dL_law_962 ?_
  refine wa_sld dL_law_963 (by omega) hL3 ?_
  refine kL_134 dL_law_964 rfl (by exact hLy.1 _ (by decide)) (cm_told hLy hI hRI (zi_rg _)) ⟨Nat.le_of_ble_eq_true rfl, Nat.le_of_ble_eq_true rfl⟩ (Nat.le_of_ble_eq_true rfl) ⟨(by show ce + 0 ≤ 600000; omega), (by show sl + 0 ≤ 7302250; omega)⟩ (fun v2 S2 R2 V2 hq2 => ?_)
  obtain ⟨rfl, rfl, rfl, hrr⟩ := hq2
  exact wa_icmp_eq_t 972 dL_law_967 (by decide) rfl (kk _ _ _ _ _ _ (hW.q (by omega) hF6 rfe_rf (qry_rf hsc) hrr) (by omega) (by omega))
