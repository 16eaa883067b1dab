/-! the reference: image, restore -/
def imG (i : Nat) (V : zE) (j : Nat) : Int := if j < 130 * i then V 53 j else if j < 130 * i + 8 then V 38 (j - 130 * i) else if j < 130 * i + 16 then V 39 (j - (130 * i + 8)) else if j < 130 * i + 24 then V 40 (j - (130 * i + 16)) else if j < 130 * i + 88 then V 41 (j - (130 * i + 24)) else if j < 130 * i + 104 then V 42 (j - (130 * i + 88)) else if j = 130 * i + 104 then V 37 0 else if j = 130 * i + 105 then V 37 3 else if j = 130 * i + 106 then V 37 4 else if j = 130 * i + 107 then V 37 7 else if j = 130 * i + 108 then V 37 8 else if j = 130 * i + 109 then V 37 9 else if j = 130 * i + 110 then V 37 10 else if j = 130 * i + 111 then V 37 11 else V 53 j
section
variable {i : Nat} {V : zE}
theorem im_o {j : Nat} (h : j < 130 * i ∨ 130 * i + 112 ≤ j) : imG i V j = V 53 j := by
  unfold imG
  by_cases h1 : j < 130 * i
  · rw [if_pos h1]
  · rw [if_neg h1, if_neg (by omega), if_neg (by omega), if_neg (by omega), if_neg (by omega), if_neg (by omega), if_neg (by omega), if_neg (by omega), if_neg (by omega), if_neg (by omega), if_neg (by omega), if_neg (by omega), if_neg (by omega), if_neg (by omega)]
theorem im_1 {g : Nat} (h : g < 8) : imG i V (130 * i + g) = V 38 g := by
  unfold imG
  rw [if_neg (by omega), if_pos (by omega), show 130 * i + g - 130 * i = g by omega]
theorem im_2 {g : Nat} (h : g < 8) : imG i V (130 * i + 8 + g) = V 39 g := by
  unfold imG
  rw [if_neg (by omega), if_neg (by omega), if_pos (by omega), show 130 * i + 8 + g - (130 * i + 8) = g by omega]
theorem im_3 {g : Nat} (h : g < 8) : imG i V (130 * i + 16 + g) = V 40 g := by
  unfold imG
  rw [if_neg (by omega), if_neg (by omega), if_neg (by omega), if_pos (by omega), show 130 * i + 16 + g - (130 * i + 16) = g by omega]
theorem im_4 {g : Nat} (h : g < 64) : imG i V (130 * i + 24 + g) = V 41 g := by
  unfold imG
  rw [if_neg (by omega), if_neg (by omega), if_neg (by omega), if_neg (by omega), if_pos (by omega), show 130 * i + 24 + g - (130 * i + 24) = g by omega]
theorem im_5 {g : Nat} (h : g < 16) : imG i V (130 * i + 88 + g) = V 42 g := by
  unfold imG
  rw [if_neg (by omega), if_neg (by omega), if_neg (by omega), if_neg (by omega), if_neg (by omega), if_pos (by omega), show 130 * i + 88 + g - (130 * i + 88) = g by omega]
theorem im_6 : imG i V (130 * i + 104) = V 37 0 ∧ imG i V (130 * i + 105) = V 37 3 ∧ imG i V (130 * i + 106) = V 37 4 ∧ imG i V (130 * i + 107) = V 37 7 ∧ imG i V (130 * i + 108) = V 37 8 ∧ imG i V (130 * i + 109) = V 37 9 ∧ imG i V (130 * i + 110) = V 37 10 ∧ imG i V (130 * i + 111) = V 37 11 := by
  unfold imG
  refine ⟨?_, ?_, ?_, ?_, ?_, ?_, ?_, ?_⟩ <;> rw [if_neg (by omega), if_neg (by omega), if_neg (by omega), if_neg (by omega), if_neg (by omega), if_neg (by omega)]
  · rw [if_pos rfl]
  · rw [if_neg (by omega), if_pos rfl]
  · rw [if_neg (by omega), if_neg (by omega), if_pos rfl]
  · rw [if_neg (by omega), if_neg (by omega), if_neg (by omega), if_pos rfl]
  · rw [if_neg (by omega), if_neg (by omega), if_neg (by omega), if_neg (by omega), if_pos rfl]
  · rw [if_neg (by omega), if_neg (by omega), if_neg (by omega), if_neg (by omega), if_neg (by omega), if_pos rfl]
  · rw [if_neg (by omega), if_neg (by omega), if_neg (by omega), if_neg (by omega), if_neg (by omega), if_neg (by omega), if_pos rfl]
  · rw [if_neg (by omega), if_neg (by omega), if_neg (by omega), if_neg (by omega), if_neg (by omega), if_neg (by omega), if_neg (by omega), if_pos rfl]
end
theorem cm_image_out {n : Nat} {S : zH} {Rf : zG} {V : zE} {i : Int} (hv : -2147483648 ≤ i ∧ i ≤ 2147483647) (hi : i < 0 ∨ 1 < i) : Ci 2 mX7_image [zR 37, zI i] n S Rf V (-2) V := by
  refine ct_of (by decide) rfl (Nat.le_of_ble_eq_true rfl) ?_
  refine wa_ild1 dX7_image_0 ?_
  refine wa_iconst dX7_image_1 ?_
  refine wa_iconst dX7_image_2 ?_
  refine kX7_91 dX7_image_3 rfl (cm_in hv (by decide) (by decide)) (by decide) (Nat.le_of_ble_eq_true rfl) ⟨Nat.le_refl _, Nat.le_refl _⟩ (zdI ?_)
  refine wa_ifne_B 12 dX7_image_6 (by decide) (fun c6 => ?_) (fun c6 => ?_)
  · exact absurd c6 (by omega)
  · refine wa_bipush dX7_image_9 (by decide) ?_
    exact wa_ireturn dX7_image_11 rfl rfl (Nat.le_refl _) (by exact ⟨rfl, rfl, rfl, rfl⟩)
theorem cm_image {n i : Nat} {S : zH} {Rf : zG} {V : zE} (hL : Lay S Rf) (hi : i ≤ 1) : Ci 2 mX7_image [zR 37, zI (i : Int)] n S Rf V 1 (zp (zp V 53 (imG i V)) 54 (za (V 54) i 1)) := by
  refine ct_of (by decide) rfl (Nat.le_of_ble_eq_true rfl) ?_
  have e104 : (130 * (i : Int) + 104).toNat = 130 * i + 104 := by omega
  have e105 : (130 * (i : Int) + 105).toNat = 130 * i + 105 := by omega
  have e106 : (130 * (i : Int) + 106).toNat = 130 * i + 106 := by omega
  have e107 : (130 * (i : Int) + 107).toNat = 130 * i + 107 := by omega
  have e108 : (130 * (i : Int) + 108).toNat = 130 * i + 108 := by omega
  have e109 : (130 * (i : Int) + 109).toNat = 130 * i + 109 := by omega
  have e110 : (130 * (i : Int) + 110).toNat = 130 * i + 110 := by omega
  have e111 : (130 * (i : Int) + 111).toNat = 130 * i + 111 := by omega
  have endG : ∀ (f : Nat → Int), (∀ j, f j = if 130 * i ≤ j ∧ j < 130 * i + 104 then imG i V j else V 53 j) → ∀ j, za (za (za (za (za (za (za (za f (130 * i + 104) (V 37 0)) (130 * i + 105) (V 37 3)) (130 * i + 106) (V 37 4)) (130 * i + 107) (V 37 7)) (130 * i + 108) (V 37 8)) (130 * i + 109) (V 37 9)) (130 * i + 110) (V 37 10)) (130 * i + 111) (V 37 11) j = imG i V j := by
    intro f hf j
    obtain ⟨g1, g2, g3, g4, g5, g6, g7, g8⟩ := im_6 (i := i) (V := V)
    by_cases h8 : j = 130 * i + 111
    · rw [h8, za_s, g8]
    rw [za_n _ _ h8]
    by_cases h7 : j = 130 * i + 110
    · rw [h7, za_s, g7]
    rw [za_n _ _ h7]
    by_cases h6 : j = 130 * i + 109
    · rw [h6, za_s, g6]
    rw [za_n _ _ h6]
    by_cases h5 : j = 130 * i + 108
    · rw [h5, za_s, g5]
    rw [za_n _ _ h5]
    by_cases h4 : j = 130 * i + 107
    · rw [h4, za_s, g4]
    rw [za_n _ _ h4]
    by_cases h3 : j = 130 * i + 106
    · rw [h3, za_s, g3]
    rw [za_n _ _ h3]
    by_cases h2 : j = 130 * i + 105
    · rw [h2, za_s, g2]
    rw [za_n _ _ h2]
    by_cases h1 : j = 130 * i + 104
    · rw [h1, za_s, g1]
    rw [za_n _ _ h1, hf j]
    by_cases h0 : 130 * i ≤ j ∧ j < 130 * i + 104
    · rw [if_pos h0]
    · rw [if_neg h0, im_o (by omega)]
  have loop3 : ∀ (q p : Nat) (f : Nat → Int), p + q = 16 → (∀ j, f j = if 130 * i ≤ j ∧ j < 130 * i + 88 + p then imG i V j else V 53 j) → Wa zXn mX7_image (zrm 2 0 0) (zZm (qI 1 S Rf (zp (zp V 53 (imG i V)) 54 (za (V 54) i 1))) (n + 0) 0 0) 0 0 n S 113 [some (zR 37), some (zI (i : Int)), some (zI (130 * (i : Int))), some (zI (p : Int))] [] Rf (zp V 53 f) := by
    intro q
    induction q with
    | zero =>
      intro p f hp hf
      obtain rfl : p = 16 := by omega
      have hE := endG f hf
      refine wa_ild3 dX7_image_113 ?_
      refine wa_bipush dX7_image_114 (by decide) ?_
      refine wa_icmp_ge 142 dX7_image_116 (by decide) (by omega) (by omega) (fun c116 => ?_) (fun c116 => ?_)
      · refine wa_ald0 dX7_image_142 ?_
        refine gX7_72 dX7_image_143 rfl (by first | assumption | exact hL.1 _ (by decide)) (by first | assumption | exact hL.2 _ _ (by decide)) ?_
        refine wa_ild2 dX7_image_146 ?_
        refine wa_bipush dX7_image_147 (by decide) ?_
        refine wa_iadd dX7_image_149 ?_
        refine wa_ald0 dX7_image_150 ?_
        refine gX7_7 dX7_image_151 rfl (by first | assumption | exact hL.1 _ (by decide)) ?_
        refine wa_iastore dX7_image_154 (by first | assumption | exact hL.1 _ (by decide)) (by omega) (by first | decide | omega) ?_
        refine wa_ald0 dX7_image_155 ?_
        refine gX7_72 dX7_image_156 rfl (by first | assumption | exact hL.1 _ (by decide)) (by first | assumption | exact hL.2 _ _ (by decide)) ?_
        refine wa_ild2 dX7_image_159 ?_
        refine wa_bipush dX7_image_160 (by decide) ?_
        refine wa_iadd dX7_image_162 ?_
        refine wa_ald0 dX7_image_163 ?_
        refine gX7_82 dX7_image_164 rfl (by first | assumption | exact hL.1 _ (by decide)) ?_
        refine wa_iastore dX7_image_167 (by first | assumption | exact hL.1 _ (by decide)) (by omega) (by first | decide | omega) ?_
        refine wa_ald0 dX7_image_168 ?_
        refine gX7_72 dX7_image_169 rfl (by first | assumption | exact hL.1 _ (by decide)) (by first | assumption | exact hL.2 _ _ (by decide)) ?_
        refine wa_ild2 dX7_image_172 ?_
        refine wa_bipush dX7_image_173 (by decide) ?_
        refine wa_iadd dX7_image_175 ?_
        refine wa_ald0 dX7_image_176 ?_
        refine gX7_85 dX7_image_177 rfl (by first | assumption | exact hL.1 _ (by decide)) ?_
        refine wa_iastore dX7_image_180 (by first | assumption | exact hL.1 _ (by decide)) (by omega) (by first | decide | omega) ?_
        refine wa_ald0 dX7_image_181 ?_
        refine gX7_72 dX7_image_182 rfl (by first | assumption | exact hL.1 _ (by decide)) (by first | assumption | exact hL.2 _ _ (by decide)) ?_
        refine wa_ild2 dX7_image_185 ?_
        refine wa_bipush dX7_image_186 (by decide) ?_
        refine wa_iadd dX7_image_188 ?_
        refine wa_ald0 dX7_image_189 ?_
        refine gX7_26 dX7_image_190 rfl (by first | assumption | exact hL.1 _ (by decide)) ?_
        refine wa_iastore dX7_image_193 (by first | assumption | exact hL.1 _ (by decide)) (by omega) (by first | decide | omega) ?_
        refine wa_ald0 dX7_image_194 ?_
        refine gX7_72 dX7_image_195 rfl (by first | assumption | exact hL.1 _ (by decide)) (by first | assumption | exact hL.2 _ _ (by decide)) ?_
        refine wa_ild2 dX7_image_198 ?_
        refine wa_bipush dX7_image_199 (by decide) ?_
        refine wa_iadd dX7_image_201 ?_
        refine wa_ald0 dX7_image_202 ?_
        refine gX7_29 dX7_image_203 rfl (by first | assumption | exact hL.1 _ (by decide)) ?_
        refine wa_iastore dX7_image_206 (by first | assumption | exact hL.1 _ (by decide)) (by omega) (by first | decide | omega) ?_
        refine wa_ald0 dX7_image_207 ?_
        refine gX7_72 dX7_image_208 rfl (by first | assumption | exact hL.1 _ (by decide)) (by first | assumption | exact hL.2 _ _ (by decide)) ?_
        refine wa_ild2 dX7_image_211 ?_
        refine wa_bipush dX7_image_212 (by decide) ?_
        refine wa_iadd dX7_image_214 ?_
        refine wa_ald0 dX7_image_215 ?_
        refine gX7_32 dX7_image_216 rfl (by first | assumption | exact hL.1 _ (by decide)) ?_
        refine wa_iastore dX7_image_219 (by first | assumption | exact hL.1 _ (by decide)) (by omega) (by first | decide | omega) ?_
        refine wa_ald0 dX7_image_220 ?_
        refine gX7_72 dX7_image_221 rfl (by first | assumption | exact hL.1 _ (by decide)) (by first | assumption | exact hL.2 _ _ (by decide)) ?_
        refine wa_ild2 dX7_image_224 ?_
        refine wa_bipush dX7_image_225 (by decide) ?_
        refine wa_iadd dX7_image_227 ?_
        refine wa_ald0 dX7_image_228 ?_
        refine gX7_35 dX7_image_229 rfl (by first | assumption | exact hL.1 _ (by decide)) ?_
        refine wa_iastore dX7_image_232 (by first | assumption | exact hL.1 _ (by decide)) (by omega) (by first | decide | omega) ?_
        refine wa_ald0 dX7_image_233 ?_
        refine gX7_72 dX7_image_234 rfl (by first | assumption | exact hL.1 _ (by decide)) (by first | assumption | exact hL.2 _ _ (by decide)) ?_
        refine wa_ild2 dX7_image_237 ?_
        refine wa_bipush dX7_image_238 (by decide) ?_
        refine wa_iadd dX7_image_240 ?_
        refine wa_ald0 dX7_image_241 ?_
        refine gX7_88 dX7_image_242 rfl (by first | assumption | exact hL.1 _ (by decide)) ?_
        refine wa_iastore dX7_image_245 (by first | assumption | exact hL.1 _ (by decide)) (by omega) (by first | decide | omega) ?_
        refine wa_ald0 dX7_image_246 ?_
        refine gX7_75 dX7_image_247 rfl (by first | assumption | exact hL.1 _ (by decide)) (by first | assumption | exact hL.2 _ _ (by decide)) ?_
        refine wa_ild1 dX7_image_250 ?_
        refine wa_iconst dX7_image_251 ?_
        refine wa_bastore dX7_image_252 (by first | assumption | exact hL.1 _ (by decide)) (by omega) (by decide) (by first | exact Or.inl rfl | exact Or.inr rfl) ?_
        refine wa_iconst dX7_image_253 ?_
        refine wa_ireturn dX7_image_254 rfl rfl (Nat.le_refl _) ?_
        refine ⟨rfl, rfl, rfl, ?_⟩
        simp (decide := true) only [zp_zp, zp_s, zp_n, ne_eq, e104, e105, e106, e107, e108, e109, e110, e111, Int.toNat_natCast]
        rw [funext hE]
      · exact absurd c116 (by omega)
    | succ q ih =>
      intro p f hp hf
      have t1 : (130 * (i : Int) + 88 + (p : Int)).toNat = 130 * i + 88 + p := by omega
      have e1 := ih (p + 1) (za f (130 * i + 88 + p) (V 42 p)) (by omega) (fun j => by
        by_cases h : j = 130 * i + 88 + p
        · rw [h, za_s, if_pos (by omega), im_5 (by omega)]
        · rw [za_n _ _ h, hf j]
          by_cases h2 : 130 * i ≤ j ∧ j < 130 * i + 88 + p
          · rw [if_pos h2, if_pos (by omega)]
          · rw [if_neg h2, if_neg (by omega)])
      refine wa_ild3 dX7_image_113 ?_
      refine wa_bipush dX7_image_114 (by decide) ?_
      refine wa_icmp_ge 142 dX7_image_116 (by decide) (by omega) (by omega) (fun c116 => ?_) (fun c116 => ?_)
      · exact absurd c116 (by omega)
      · refine wa_ald0 dX7_image_119 ?_
        refine gX7_72 dX7_image_120 rfl (by first | assumption | exact hL.1 _ (by decide)) (by first | assumption | exact hL.2 _ _ (by decide)) ?_
        refine wa_ild2 dX7_image_123 ?_
        refine wa_bipush dX7_image_124 (by decide) ?_
        refine wa_iadd dX7_image_126 ?_
        refine wa_ild3 dX7_image_127 ?_
        refine wa_iadd dX7_image_128 ?_
        refine wa_ald0 dX7_image_129 ?_
        refine gX7_38 dX7_image_130 rfl (by first | assumption | exact hL.1 _ (by decide)) (by first | assumption | exact hL.2 _ _ (by decide)) ?_
        refine wa_ild3 dX7_image_133 ?_
        refine wa_iaload dX7_image_134 (by first | assumption | exact hL.1 _ (by decide)) (by omega) (by first | decide | omega) ?_
        refine wa_iastore dX7_image_135 (by first | assumption | exact hL.1 _ (by decide)) (by omega) (by first | decide | omega) ?_
        refine wa_iinc3 dX7_image_136 (by decide) rfl ?_
        refine wa_goto 113 dX7_image_139 (by decide) ?_
        simp (decide := true) only [zp_zp, zp_s, zp_n, ne_eq, t1, Int.toNat_natCast]
        exact e1
  have loop2 : ∀ (q p : Nat) (f : Nat → Int), p + q = 64 → (∀ j, f j = if 130 * i ≤ j ∧ j < 130 * i + 24 + p then imG i V j else V 53 j) → Wa zXn mX7_image (zrm 2 0 0) (zZm (qI 1 S Rf (zp (zp V 53 (imG i V)) 54 (za (V 54) i 1))) (n + 0) 0 0) 0 0 n S 82 [some (zR 37), some (zI (i : Int)), some (zI (130 * (i : Int))), some (zI (p : Int))] [] Rf (zp V 53 f) := by
    intro q
    induction q with
    | zero =>
      intro p f hp hf
      obtain rfl : p = 64 := by omega
      refine wa_ild3 dX7_image_82 ?_
      refine wa_bipush dX7_image_83 (by decide) ?_
      refine wa_icmp_ge 111 dX7_image_85 (by decide) (by omega) (by omega) (fun c85 => ?_) (fun c85 => ?_)
      · refine wa_iconst dX7_image_111 ?_
        refine wa_ist3 dX7_image_112 (by decide) rfl ?_
        exact loop3 16 0 f (by omega) hf
      · exact absurd c85 (by omega)
    | succ q ih =>
      intro p f hp hf
      have t1 : (130 * (i : Int) + 24 + (p : Int)).toNat = 130 * i + 24 + p := by omega
      have e1 := ih (p + 1) (za f (130 * i + 24 + p) (V 41 p)) (by omega) (fun j => by
        by_cases h : j = 130 * i + 24 + p
        · rw [h, za_s, if_pos (by omega), im_4 (by omega)]
        · rw [za_n _ _ h, hf j]
          by_cases h2 : 130 * i ≤ j ∧ j < 130 * i + 24 + p
          · rw [if_pos h2, if_pos (by omega)]
          · rw [if_neg h2, if_neg (by omega)])
      refine wa_ild3 dX7_image_82 ?_
      refine wa_bipush dX7_image_83 (by decide) ?_
      refine wa_icmp_ge 111 dX7_image_85 (by decide) (by omega) (by omega) (fun c85 => ?_) (fun c85 => ?_)
      · exact absurd c85 (by omega)
      · refine wa_ald0 dX7_image_88 ?_
        refine gX7_72 dX7_image_89 rfl (by first | assumption | exact hL.1 _ (by decide)) (by first | assumption | exact hL.2 _ _ (by decide)) ?_
        refine wa_ild2 dX7_image_92 ?_
        refine wa_bipush dX7_image_93 (by decide) ?_
        refine wa_iadd dX7_image_95 ?_
        refine wa_ild3 dX7_image_96 ?_
        refine wa_iadd dX7_image_97 ?_
        refine wa_ald0 dX7_image_98 ?_
        refine gX7_23 dX7_image_99 rfl (by first | assumption | exact hL.1 _ (by decide)) (by first | assumption | exact hL.2 _ _ (by decide)) ?_
        refine wa_ild3 dX7_image_102 ?_
        refine wa_iaload dX7_image_103 (by first | assumption | exact hL.1 _ (by decide)) (by omega) (by first | decide | omega) ?_
        refine wa_iastore dX7_image_104 (by first | assumption | exact hL.1 _ (by decide)) (by omega) (by first | decide | omega) ?_
        refine wa_iinc3 dX7_image_105 (by decide) rfl ?_
        refine wa_goto 82 dX7_image_108 (by decide) ?_
        simp (decide := true) only [zp_zp, zp_s, zp_n, ne_eq, t1, Int.toNat_natCast]
        exact e1
  have loop1 : ∀ (q p : Nat) (f : Nat → Int), p + q = 8 → (∀ j, f j = if (130 * i ≤ j ∧ j < 130 * i + p) ∨ (130 * i + 8 ≤ j ∧ j < 130 * i + 8 + p) ∨ (130 * i + 16 ≤ j ∧ j < 130 * i + 16 + p) then imG i V j else V 53 j) → Wa zXn mX7_image (zrm 2 0 0) (zZm (qI 1 S Rf (zp (zp V 53 (imG i V)) 54 (za (V 54) i 1))) (n + 0) 0 0) 0 0 n S 20 [some (zR 37), some (zI (i : Int)), some (zI (130 * (i : Int))), some (zI (p : Int))] [] Rf (zp V 53 f) := by
    intro q
    induction q with
    | zero =>
      intro p f hp hf
      obtain rfl : p = 8 := by omega
      refine wa_ild3 dX7_image_20 ?_
      refine wa_bipush dX7_image_21 (by decide) ?_
      refine wa_icmp_ge 80 dX7_image_23 (by decide) (by omega) (by omega) (fun c23 => ?_) (fun c23 => ?_)
      · refine wa_iconst dX7_image_80 ?_
        refine wa_ist3 dX7_image_81 (by decide) rfl ?_
        refine loop2 64 0 f (by omega) (fun j => ?_)
        rw [hf j]
        by_cases h2 : 130 * i ≤ j ∧ j < 130 * i + 24
        · rw [if_pos (by omega), if_pos (by omega)]
        · rw [if_neg (by omega), if_neg (by omega)]
      · exact absurd c23 (by omega)
    | succ q ih =>
      intro p f hp hf
      have t1 : (130 * (i : Int) + (p : Int)).toNat = 130 * i + p := by omega
      have t2 : (130 * (i : Int) + 8 + (p : Int)).toNat = 130 * i + 8 + p := by omega
      have t3 : (130 * (i : Int) + 16 + (p : Int)).toNat = 130 * i + 16 + p := by omega
      have e1 := ih (p + 1) (za (za (za f (130 * i + p) (V 38 p)) (130 * i + 8 + p) (V 39 p)) (130 * i + 16 + p) (V 40 p)) (by omega) (fun j => by
        by_cases h3 : j = 130 * i + 16 + p
        · rw [h3, za_s, if_pos (by omega), im_3 (by omega)]
        rw [za_n _ _ h3]
        by_cases h2 : j = 130 * i + 8 + p
        · rw [h2, za_s, if_pos (by omega), im_2 (by omega)]
        rw [za_n _ _ h2]
        by_cases h1 : j = 130 * i + p
        · rw [h1, za_s, if_pos (by omega), im_1 (by omega)]
        rw [za_n _ _ h1, hf j]
        by_cases h0 : (130 * i ≤ j ∧ j < 130 * i + p) ∨ (130 * i + 8 ≤ j ∧ j < 130 * i + 8 + p) ∨ (130 * i + 16 ≤ j ∧ j < 130 * i + 16 + p)
        · rw [if_pos h0, if_pos (by omega)]
        · rw [if_neg h0, if_neg (by omega)])
      refine wa_ild3 dX7_image_20 ?_
      refine wa_bipush dX7_image_21 (by decide) ?_
      refine wa_icmp_ge 80 dX7_image_23 (by decide) (by omega) (by omega) (fun c23 => ?_) (fun c23 => ?_)
      · exact absurd c23 (by omega)
      · refine wa_ald0 dX7_image_26 ?_
        refine gX7_72 dX7_image_27 rfl (by first | assumption | exact hL.1 _ (by decide)) (by first | assumption | exact hL.2 _ _ (by decide)) ?_
        refine wa_ild2 dX7_image_30 ?_
        refine wa_ild3 dX7_image_31 ?_
        refine wa_iadd dX7_image_32 ?_
        refine wa_ald0 dX7_image_33 ?_
        refine gX7_13 dX7_image_34 rfl (by first | assumption | exact hL.1 _ (by decide)) (by first | assumption | exact hL.2 _ _ (by decide)) ?_
        refine wa_ild3 dX7_image_37 ?_
        refine wa_iaload dX7_image_38 (by first | assumption | exact hL.1 _ (by decide)) (by omega) (by first | decide | omega) ?_
        refine wa_iastore dX7_image_39 (by first | assumption | exact hL.1 _ (by decide)) (by omega) (by first | decide | omega) ?_
        refine wa_ald0 dX7_image_40 ?_
        refine gX7_72 dX7_image_41 rfl (by first | assumption | exact hL.1 _ (by decide)) (by first | assumption | exact hL.2 _ _ (by decide)) ?_
        refine wa_ild2 dX7_image_44 ?_
        refine wa_bipush dX7_image_45 (by decide) ?_
        refine wa_iadd dX7_image_47 ?_
        refine wa_ild3 dX7_image_48 ?_
        refine wa_iadd dX7_image_49 ?_
        refine wa_ald0 dX7_image_50 ?_
        refine gX7_17 dX7_image_51 rfl (by first | assumption | exact hL.1 _ (by decide)) (by first | assumption | exact hL.2 _ _ (by decide)) ?_
        refine wa_ild3 dX7_image_54 ?_
        refine wa_iaload dX7_image_55 (by first | assumption | exact hL.1 _ (by decide)) (by omega) (by first | decide | omega) ?_
        refine wa_iastore dX7_image_56 (by first | assumption | exact hL.1 _ (by decide)) (by omega) (by first | decide | omega) ?_
        refine wa_ald0 dX7_image_57 ?_
        refine gX7_72 dX7_image_58 rfl (by first | assumption | exact hL.1 _ (by decide)) (by first | assumption | exact hL.2 _ _ (by decide)) ?_
        refine wa_ild2 dX7_image_61 ?_
        refine wa_bipush dX7_image_62 (by decide) ?_
        refine wa_iadd dX7_image_64 ?_
        refine wa_ild3 dX7_image_65 ?_
        refine wa_iadd dX7_image_66 ?_
        refine wa_ald0 dX7_image_67 ?_
        refine gX7_20 dX7_image_68 rfl (by first | assumption | exact hL.1 _ (by decide)) (by first | assumption | exact hL.2 _ _ (by decide)) ?_
        refine wa_ild3 dX7_image_71 ?_
        refine wa_iaload dX7_image_72 (by first | assumption | exact hL.1 _ (by decide)) (by omega) (by first | decide | omega) ?_
        refine wa_iastore dX7_image_73 (by first | assumption | exact hL.1 _ (by decide)) (by omega) (by first | decide | omega) ?_
        refine wa_iinc3 dX7_image_74 (by decide) rfl ?_
        refine wa_goto 20 dX7_image_77 (by decide) ?_
        simp (decide := true) only [zp_zp, zp_s, zp_n, ne_eq, t1, t2, t3, Int.toNat_natCast]
        exact e1
  refine wa_ild1 dX7_image_0 ?_
  refine wa_iconst dX7_image_1 ?_
  refine wa_iconst dX7_image_2 ?_
  refine kX7_91 dX7_image_3 rfl (cm_in (by omega) (by decide) (by decide)) (by decide) (Nat.le_of_ble_eq_true rfl) ⟨Nat.le_refl _, Nat.le_refl _⟩ (zdI ?_)
  refine wa_ifne_B 12 dX7_image_6 (by decide) (fun c6 => ?_) (fun c6 => ?_)
  · refine wa_sipush dX7_image_12 (by decide) ?_
    refine wa_ild1 dX7_image_15 ?_
    refine wa_imul dX7_image_16 ?_
    refine wa_ist2 dX7_image_17 (by decide) rfl ?_
    refine wa_iconst dX7_image_18 ?_
    refine wa_ist3 dX7_image_19 (by decide) rfl ?_
    refine wa_eqV (zp_self V 53).symm (loop1 8 0 _ (by omega) (fun j => by rw [if_neg (by omega)]))
  · exact absurd c6 (by omega)
theorem cm_restore_out {n : Nat} {S : zH} {Rf : zG} {V : zE} {i : Int} (hv : -2147483648 ≤ i ∧ i ≤ 2147483647) (hi : i < 0 ∨ 1 < i) : Ci 2 mX7_restore [zR 37, zI i] n S Rf V (-2) V := by
  refine ct_of (by decide) rfl (Nat.le_of_ble_eq_true rfl) ?_
  refine wa_ild1 dX7_restore_0 ?_
  refine wa_iconst dX7_restore_1 ?_
  refine wa_iconst dX7_restore_2 ?_
  refine kX7_91 dX7_restore_3 rfl (cm_in hv (by decide) (by decide)) (by decide) (Nat.le_of_ble_eq_true rfl) ⟨Nat.le_refl _, Nat.le_refl _⟩ (zdI ?_)
  refine wa_ifne_B 12 dX7_restore_6 (by decide) (fun c6 => ?_) (fun c6 => ?_)
  · exact absurd c6 (by omega)
  · refine wa_bipush dX7_restore_9 (by decide) ?_
    exact wa_ireturn dX7_restore_11 rfl rfl (Nat.le_refl _) (by exact ⟨rfl, rfl, rfl, rfl⟩)
theorem cm_restore_none {n i : Nat} {S : zH} {Rf : zG} {V : zE} (hL : Lay S Rf) (hi : i ≤ 1) (hk : V 54 i = 0) : Ci 2 mX7_restore [zR 37, zI (i : Int)] n S Rf V (-3) V := by
  refine ct_of (by decide) rfl (Nat.le_of_ble_eq_true rfl) ?_
  refine wa_ild1 dX7_restore_0 ?_
  refine wa_iconst dX7_restore_1 ?_
  refine wa_iconst dX7_restore_2 ?_
  refine kX7_91 dX7_restore_3 rfl (cm_in (by omega) (by decide) (by decide)) (by decide) (Nat.le_of_ble_eq_true rfl) ⟨Nat.le_refl _, Nat.le_refl _⟩ (zdI ?_)
  refine wa_ifne_B 12 dX7_restore_6 (by decide) (fun c6 => ?_) (fun c6 => ?_)
  · refine wa_ald0 dX7_restore_12 ?_
    refine gX7_75 dX7_restore_13 rfl (by first | assumption | exact hL.1 _ (by decide)) (by first | assumption | exact hL.2 _ _ (by decide)) ?_
    refine wa_ild1 dX7_restore_16 ?_
    refine wa_baload dX7_restore_17 (by first | assumption | exact hL.1 _ (by decide)) (by first | omega | (simp only [Int.toNat_natCast]; omega)) (by first | decide | omega) ?_
    refine wa_if_ne 24 dX7_restore_18 (by decide) (by first | omega | (simp only [Int.toNat_natCast]; omega)) (fun c18 => absurd c18 (by simp only [Int.toNat_natCast]; omega)) (fun c18 => ?_)
    refine wa_bipush dX7_restore_21 (by decide) ?_
    exact wa_ireturn dX7_restore_23 rfl rfl (Nat.le_refl _) (by exact ⟨rfl, rfl, rfl, rfl⟩)
  · exact absurd c6 (by omega)
def rsV (i : Nat) (D R Sa Fl : Nat → Int) (V : zE) : zE := zp (zp (zp (zp (zp (zp V 38 D) 39 R) 40 Sa) 41 Fl) 42 (fun j => V 53 (130 * i + 88 + j))) 37 (za (za (za (za (za (za (za (za (V 37) 0 (V 53 (130 * i + 104))) 3 (V 53 (130 * i + 105))) 4 (V 53 (130 * i + 106))) 7 (V 53 (130 * i + 107))) 8 (V 53 (130 * i + 108))) 9 (V 53 (130 * i + 109))) 10 (V 53 (130 * i + 110))) 11 (V 53 (130 * i + 111)))
theorem cm_restore {n i : Nat} {S : zH} {Rf : zG} {V : zE} {D R Sa Fl : Nat → Int} (hL : Lay S Rf) (hi : i ≤ 1) (hk : V 54 i = 1) (hD : ∀ g, g < 8 → V 53 (130 * i + g) = D g) (hRo : ∀ g, g < 8 → V 53 (130 * i + 8 + g) = R g) (hSa : ∀ g, g < 8 → V 53 (130 * i + 16 + g) = Sa g) (hFl : ∀ g, g < 64 → V 53 (130 * i + 24 + g) = Fl g) : Ci 2 mX7_restore [zR 37, zI (i : Int)] n S Rf V 1 (rsV i D R Sa Fl V) := by
  refine ct_of (by decide) rfl (Nat.le_of_ble_eq_true rfl) ?_
  have e104 : (130 * (i : Int) + 104).toNat = 130 * i + 104 := by omega
  have e105 : (130 * (i : Int) + 105).toNat = 130 * i + 105 := by omega
  have e106 : (130 * (i : Int) + 106).toNat = 130 * i + 106 := by omega
  have e107 : (130 * (i : Int) + 107).toNat = 130 * i + 107 := by omega
  have e108 : (130 * (i : Int) + 108).toNat = 130 * i + 108 := by omega
  have e109 : (130 * (i : Int) + 109).toNat = 130 * i + 109 := by omega
  have e110 : (130 * (i : Int) + 110).toNat = 130 * i + 110 := by omega
  have e111 : (130 * (i : Int) + 111).toNat = 130 * i + 111 := by omega
  have loop3 : ∀ (q p : Nat) (f : Nat → Int), p + q = 16 → (∀ j, j < p → f j = V 53 (130 * i + 88 + j)) → Wa zXn mX7_restore (zrm 2 0 0) (zZm (qI 1 S Rf (rsV i D R Sa Fl V)) (n + 0) 0 0) 0 0 n S 125 [some (zR 37), some (zI (i : Int)), some (zI (130 * (i : Int))), some (zI (p : Int))] [] Rf (zp (zp (zp (zp (zp V 38 D) 39 R) 40 Sa) 41 Fl) 42 f) := by
    intro q
    induction q with
    | zero =>
      intro p f hp hf
      obtain rfl : p = 16 := by omega
      refine wa_row (hL.1 42 (by decide)) (fun j => V 53 (130 * i + 88 + j)) (fun j hj => by rw [zp_s]; exact hf j hj) ?_
      rw [zp_zp]
      refine wa_ild3 dX7_restore_125 ?_
      refine wa_bipush dX7_restore_126 (by decide) ?_
      refine wa_icmp_ge 154 dX7_restore_128 (by decide) (by omega) (by omega) (fun c128 => ?_) (fun c128 => ?_)
      · refine wa_ald0 dX7_restore_154 ?_
        refine wa_ald0 dX7_restore_155 ?_
        refine gX7_72 dX7_restore_156 rfl (by first | assumption | exact hL.1 _ (by decide)) (by first | assumption | exact hL.2 _ _ (by decide)) ?_
        refine wa_ild2 dX7_restore_159 ?_
        refine wa_bipush dX7_restore_160 (by decide) ?_
        refine wa_iadd dX7_restore_162 ?_
        refine wa_iaload dX7_restore_163 (by first | assumption | exact hL.1 _ (by decide)) (by omega) (by first | decide | omega) ?_
        refine pX7_7 dX7_restore_164 rfl (by first | assumption | exact hL.1 _ (by decide)) ?_
        refine wa_ald0 dX7_restore_167 ?_
        refine wa_ald0 dX7_restore_168 ?_
        refine gX7_72 dX7_restore_169 rfl (by first | assumption | exact hL.1 _ (by decide)) (by first | assumption | exact hL.2 _ _ (by decide)) ?_
        refine wa_ild2 dX7_restore_172 ?_
        refine wa_bipush dX7_restore_173 (by decide) ?_
        refine wa_iadd dX7_restore_175 ?_
        refine wa_iaload dX7_restore_176 (by first | assumption | exact hL.1 _ (by decide)) (by omega) (by first | decide | omega) ?_
        refine pX7_82 dX7_restore_177 rfl (by first | assumption | exact hL.1 _ (by decide)) ?_
        refine wa_ald0 dX7_restore_180 ?_
        refine wa_ald0 dX7_restore_181 ?_
        refine gX7_72 dX7_restore_182 rfl (by first | assumption | exact hL.1 _ (by decide)) (by first | assumption | exact hL.2 _ _ (by decide)) ?_
        refine wa_ild2 dX7_restore_185 ?_
        refine wa_bipush dX7_restore_186 (by decide) ?_
        refine wa_iadd dX7_restore_188 ?_
        refine wa_iaload dX7_restore_189 (by first | assumption | exact hL.1 _ (by decide)) (by omega) (by first | decide | omega) ?_
        refine pX7_85 dX7_restore_190 rfl (by first | assumption | exact hL.1 _ (by decide)) ?_
        refine wa_ald0 dX7_restore_193 ?_
        refine wa_ald0 dX7_restore_194 ?_
        refine gX7_72 dX7_restore_195 rfl (by first | assumption | exact hL.1 _ (by decide)) (by first | assumption | exact hL.2 _ _ (by decide)) ?_
        refine wa_ild2 dX7_restore_198 ?_
        refine wa_bipush dX7_restore_199 (by decide) ?_
        refine wa_iadd dX7_restore_201 ?_
        refine wa_iaload dX7_restore_202 (by first | assumption | exact hL.1 _ (by decide)) (by omega) (by first | decide | omega) ?_
        refine pX7_26 dX7_restore_203 rfl (by first | assumption | exact hL.1 _ (by decide)) ?_
        refine wa_ald0 dX7_restore_206 ?_
        refine wa_ald0 dX7_restore_207 ?_
        refine gX7_72 dX7_restore_208 rfl (by first | assumption | exact hL.1 _ (by decide)) (by first | assumption | exact hL.2 _ _ (by decide)) ?_
        refine wa_ild2 dX7_restore_211 ?_
        refine wa_bipush dX7_restore_212 (by decide) ?_
        refine wa_iadd dX7_restore_214 ?_
        refine wa_iaload dX7_restore_215 (by first | assumption | exact hL.1 _ (by decide)) (by omega) (by first | decide | omega) ?_
        refine pX7_29 dX7_restore_216 rfl (by first | assumption | exact hL.1 _ (by decide)) ?_
        refine wa_ald0 dX7_restore_219 ?_
        refine wa_ald0 dX7_restore_220 ?_
        refine gX7_72 dX7_restore_221 rfl (by first | assumption | exact hL.1 _ (by decide)) (by first | assumption | exact hL.2 _ _ (by decide)) ?_
        refine wa_ild2 dX7_restore_224 ?_
        refine wa_bipush dX7_restore_225 (by decide) ?_
        refine wa_iadd dX7_restore_227 ?_
        refine wa_iaload dX7_restore_228 (by first | assumption | exact hL.1 _ (by decide)) (by omega) (by first | decide | omega) ?_
        refine pX7_32 dX7_restore_229 rfl (by first | assumption | exact hL.1 _ (by decide)) ?_
        refine wa_ald0 dX7_restore_232 ?_
        refine wa_ald0 dX7_restore_233 ?_
        refine gX7_72 dX7_restore_234 rfl (by first | assumption | exact hL.1 _ (by decide)) (by first | assumption | exact hL.2 _ _ (by decide)) ?_
        refine wa_ild2 dX7_restore_237 ?_
        refine wa_bipush dX7_restore_238 (by decide) ?_
        refine wa_iadd dX7_restore_240 ?_
        refine wa_iaload dX7_restore_241 (by first | assumption | exact hL.1 _ (by decide)) (by omega) (by first | decide | omega) ?_
        refine pX7_35 dX7_restore_242 rfl (by first | assumption | exact hL.1 _ (by decide)) ?_
        refine wa_ald0 dX7_restore_245 ?_
        refine wa_ald0 dX7_restore_246 ?_
        refine gX7_72 dX7_restore_247 rfl (by first | assumption | exact hL.1 _ (by decide)) (by first | assumption | exact hL.2 _ _ (by decide)) ?_
        refine wa_ild2 dX7_restore_250 ?_
        refine wa_bipush dX7_restore_251 (by decide) ?_
        refine wa_iadd dX7_restore_253 ?_
        refine wa_iaload dX7_restore_254 (by first | assumption | exact hL.1 _ (by decide)) (by omega) (by first | decide | omega) ?_
        refine pX7_88 dX7_restore_255 rfl (by first | assumption | exact hL.1 _ (by decide)) ?_
        refine wa_iconst dX7_restore_258 ?_
        refine wa_ireturn dX7_restore_259 rfl rfl (Nat.le_refl _) ?_
        refine ⟨rfl, rfl, rfl, ?_⟩
        unfold rsV
        simp (decide := true) only [zp_zp, zp_s, zp_n, ne_eq, e104, e105, e106, e107, e108, e109, e110, e111]
      · exact absurd c128 (by omega)
    | succ q ih =>
      intro p f hp hf
      have t1 : (130 * (i : Int) + 88 + (p : Int)).toNat = 130 * i + 88 + p := by omega
      have e1 := ih (p + 1) (za f p (V 53 (130 * i + 88 + p))) (by omega) (fun j hj => by
        by_cases h : j = p
        · rw [h, za_s]
        · rw [za_n _ _ h]; exact hf j (by omega))
      refine wa_ild3 dX7_restore_125 ?_
      refine wa_bipush dX7_restore_126 (by decide) ?_
      refine wa_icmp_ge 154 dX7_restore_128 (by decide) (by omega) (by omega) (fun c128 => ?_) (fun c128 => ?_)
      · exact absurd c128 (by omega)
      · refine wa_ald0 dX7_restore_131 ?_
        refine gX7_38 dX7_restore_132 rfl (by first | assumption | exact hL.1 _ (by decide)) (by first | assumption | exact hL.2 _ _ (by decide)) ?_
        refine wa_ild3 dX7_restore_135 ?_
        refine wa_ald0 dX7_restore_136 ?_
        refine gX7_72 dX7_restore_137 rfl (by first | assumption | exact hL.1 _ (by decide)) (by first | assumption | exact hL.2 _ _ (by decide)) ?_
        refine wa_ild2 dX7_restore_140 ?_
        refine wa_bipush dX7_restore_141 (by decide) ?_
        refine wa_iadd dX7_restore_143 ?_
        refine wa_ild3 dX7_restore_144 ?_
        refine wa_iadd dX7_restore_145 ?_
        refine wa_iaload dX7_restore_146 (by first | assumption | exact hL.1 _ (by decide)) (by omega) (by first | decide | omega) ?_
        refine wa_iastore dX7_restore_147 (by first | assumption | exact hL.1 _ (by decide)) (by omega) (by first | decide | omega) ?_
        refine wa_iinc3 dX7_restore_148 (by decide) rfl ?_
        refine wa_goto 125 dX7_restore_151 (by decide) ?_
        simp (decide := true) only [zp_zp, zp_s, zp_n, ne_eq, t1, Int.toNat_natCast]
        exact e1
  have loop2 : ∀ (q p : Nat) (f : Nat → Int), p + q = 64 → (∀ j, j < p → f j = V 53 (130 * i + 24 + j)) → Wa zXn mX7_restore (zrm 2 0 0) (zZm (qI 1 S Rf (rsV i D R Sa Fl V)) (n + 0) 0 0) 0 0 n S 94 [some (zR 37), some (zI (i : Int)), some (zI (130 * (i : Int))), some (zI (p : Int))] [] Rf (zp (zp (zp (zp V 38 D) 39 R) 40 Sa) 41 f) := by
    intro q
    induction q with
    | zero =>
      intro p f hp hf
      obtain rfl : p = 64 := by omega
      refine wa_row (hL.1 41 (by decide)) Fl (fun j hj => by rw [zp_s, hf j hj]; exact hFl j hj) ?_
      rw [zp_zp]
      refine wa_ild3 dX7_restore_94 ?_
      refine wa_bipush dX7_restore_95 (by decide) ?_
      refine wa_icmp_ge 123 dX7_restore_97 (by decide) (by omega) (by omega) (fun c97 => ?_) (fun c97 => ?_)
      · refine wa_iconst dX7_restore_123 ?_
        refine wa_ist3 dX7_restore_124 (by decide) rfl ?_
        refine wa_eqV (zp_self _ 42).symm (loop3 16 0 _ (by omega) (fun j hj => absurd hj (by omega)))
      · exact absurd c97 (by omega)
    | succ q ih =>
      intro p f hp hf
      have t1 : (130 * (i : Int) + 24 + (p : Int)).toNat = 130 * i + 24 + p := by omega
      have e1 := ih (p + 1) (za f p (V 53 (130 * i + 24 + p))) (by omega) (fun j hj => by
        by_cases h : j = p
        · rw [h, za_s]
        · rw [za_n _ _ h]; exact hf j (by omega))
      refine wa_ild3 dX7_restore_94 ?_
      refine wa_bipush dX7_restore_95 (by decide) ?_
      refine wa_icmp_ge 123 dX7_restore_97 (by decide) (by omega) (by omega) (fun c97 => ?_) (fun c97 => ?_)
      · exact absurd c97 (by omega)
      · refine wa_ald0 dX7_restore_100 ?_
        refine gX7_23 dX7_restore_101 rfl (by first | assumption | exact hL.1 _ (by decide)) (by first | assumption | exact hL.2 _ _ (by decide)) ?_
        refine wa_ild3 dX7_restore_104 ?_
        refine wa_ald0 dX7_restore_105 ?_
        refine gX7_72 dX7_restore_106 rfl (by first | assumption | exact hL.1 _ (by decide)) (by first | assumption | exact hL.2 _ _ (by decide)) ?_
        refine wa_ild2 dX7_restore_109 ?_
        refine wa_bipush dX7_restore_110 (by decide) ?_
        refine wa_iadd dX7_restore_112 ?_
        refine wa_ild3 dX7_restore_113 ?_
        refine wa_iadd dX7_restore_114 ?_
        refine wa_iaload dX7_restore_115 (by first | assumption | exact hL.1 _ (by decide)) (by omega) (by first | decide | omega) ?_
        refine wa_iastore dX7_restore_116 (by first | assumption | exact hL.1 _ (by decide)) (by omega) (by first | decide | omega) ?_
        refine wa_iinc3 dX7_restore_117 (by decide) rfl ?_
        refine wa_goto 94 dX7_restore_120 (by decide) ?_
        simp (decide := true) only [zp_zp, zp_s, zp_n, ne_eq, t1, Int.toNat_natCast]
        exact e1
  have loop1 : ∀ (q p : Nat) (f g h : Nat → Int), p + q = 8 → (∀ j, j < p → f j = V 53 (130 * i + j)) → (∀ j, j < p → g j = V 53 (130 * i + 8 + j)) → (∀ j, j < p → h j = V 53 (130 * i + 16 + j)) → Wa zXn mX7_restore (zrm 2 0 0) (zZm (qI 1 S Rf (rsV i D R Sa Fl V)) (n + 0) 0 0) 0 0 n S 32 [some (zR 37), some (zI (i : Int)), some (zI (130 * (i : Int))), some (zI (p : Int))] [] Rf (zp (zp (zp V 38 f) 39 g) 40 h) := by
    intro q
    induction q with
    | zero =>
      intro p f g h hp hf hg hh
      obtain rfl : p = 8 := by omega
      refine wa_row (hL.1 40 (by decide)) Sa (fun j hj => by rw [zp_s, hh j hj]; exact hSa j hj) ?_
      refine wa_row (hL.1 39 (by decide)) R (fun j hj => by rw [zp_n _ _ (by decide), zp_n _ _ (by decide), zp_s, hg j hj]; exact hRo j hj) ?_
      refine wa_row (hL.1 38 (by decide)) D (fun j hj => by rw [zp_n _ _ (by decide), zp_n _ _ (by decide), zp_n _ _ (by decide), zp_n _ _ (by decide), zp_s, hf j hj]; exact hD j hj) ?_
      refine wa_eqV (V' := zp (zp (zp V 38 D) 39 R) 40 Sa) ?_ ?_
      · refine zp_of3 (by decide) (by decide) (by decide) (fun k a1 a2 a3 => ?_) ?_ ?_ ?_
        · simp only [zp_n _ _ a1, zp_n _ _ a2, zp_n _ _ a3]
        · simp (decide := true) only [zp_s, zp_n, ne_eq]
        · simp (decide := true) only [zp_s, zp_n, ne_eq]
        · simp (decide := true) only [zp_s, zp_n, ne_eq]
      refine wa_ild3 dX7_restore_32 ?_
      refine wa_bipush dX7_restore_33 (by decide) ?_
      refine wa_icmp_ge 92 dX7_restore_35 (by decide) (by omega) (by omega) (fun c35 => ?_) (fun c35 => ?_)
      · refine wa_iconst dX7_restore_92 ?_
        refine wa_ist3 dX7_restore_93 (by decide) rfl ?_
        refine wa_eqV (zp_self _ 41).symm (loop2 64 0 _ (by omega) (fun j hj => absurd hj (by omega)))
      · exact absurd c35 (by omega)
    | succ q ih =>
      intro p f g h hp hf hg hh
      have t1 : (130 * (i : Int) + (p : Int)).toNat = 130 * i + p := by omega
      have t2 : (130 * (i : Int) + 8 + (p : Int)).toNat = 130 * i + 8 + p := by omega
      have t3 : (130 * (i : Int) + 16 + (p : Int)).toNat = 130 * i + 16 + p := by omega
      have e1 := ih (p + 1) (za f p (V 53 (130 * i + p))) (za g p (V 53 (130 * i + 8 + p))) (za h p (V 53 (130 * i + 16 + p))) (by omega) (fun j hj => by by_cases q : j = p; rw [q, za_s]; rw [za_n _ _ q]; exact hf j (by omega)) (fun j hj => by by_cases q : j = p; rw [q, za_s]; rw [za_n _ _ q]; exact hg j (by omega)) (fun j hj => by by_cases q : j = p; rw [q, za_s]; rw [za_n _ _ q]; exact hh j (by omega))
      refine wa_ild3 dX7_restore_32 ?_
      refine wa_bipush dX7_restore_33 (by decide) ?_
      refine wa_icmp_ge 92 dX7_restore_35 (by decide) (by omega) (by omega) (fun c35 => ?_) (fun c35 => ?_)
      · exact absurd c35 (by omega)
      · refine wa_ald0 dX7_restore_38 ?_
        refine gX7_13 dX7_restore_39 rfl (by first | assumption | exact hL.1 _ (by decide)) (by first | assumption | exact hL.2 _ _ (by decide)) ?_
        refine wa_ild3 dX7_restore_42 ?_
        refine wa_ald0 dX7_restore_43 ?_
        refine gX7_72 dX7_restore_44 rfl (by first | assumption | exact hL.1 _ (by decide)) (by first | assumption | exact hL.2 _ _ (by decide)) ?_
        refine wa_ild2 dX7_restore_47 ?_
        refine wa_ild3 dX7_restore_48 ?_
        refine wa_iadd dX7_restore_49 ?_
        refine wa_iaload dX7_restore_50 (by first | assumption | exact hL.1 _ (by decide)) (by omega) (by first | decide | omega) ?_
        refine wa_iastore dX7_restore_51 (by first | assumption | exact hL.1 _ (by decide)) (by omega) (by first | decide | omega) ?_
        refine wa_ald0 dX7_restore_52 ?_
        refine gX7_17 dX7_restore_53 rfl (by first | assumption | exact hL.1 _ (by decide)) (by first | assumption | exact hL.2 _ _ (by decide)) ?_
        refine wa_ild3 dX7_restore_56 ?_
        refine wa_ald0 dX7_restore_57 ?_
        refine gX7_72 dX7_restore_58 rfl (by first | assumption | exact hL.1 _ (by decide)) (by first | assumption | exact hL.2 _ _ (by decide)) ?_
        refine wa_ild2 dX7_restore_61 ?_
        refine wa_bipush dX7_restore_62 (by decide) ?_
        refine wa_iadd dX7_restore_64 ?_
        refine wa_ild3 dX7_restore_65 ?_
        refine wa_iadd dX7_restore_66 ?_
        refine wa_iaload dX7_restore_67 (by first | assumption | exact hL.1 _ (by decide)) (by omega) (by first | decide | omega) ?_
        refine wa_iastore dX7_restore_68 (by first | assumption | exact hL.1 _ (by decide)) (by omega) (by first | decide | omega) ?_
        refine wa_ald0 dX7_restore_69 ?_
        refine gX7_20 dX7_restore_70 rfl (by first | assumption | exact hL.1 _ (by decide)) (by first | assumption | exact hL.2 _ _ (by decide)) ?_
        refine wa_ild3 dX7_restore_73 ?_
        refine wa_ald0 dX7_restore_74 ?_
        refine gX7_72 dX7_restore_75 rfl (by first | assumption | exact hL.1 _ (by decide)) (by first | assumption | exact hL.2 _ _ (by decide)) ?_
        refine wa_ild2 dX7_restore_78 ?_
        refine wa_bipush dX7_restore_79 (by decide) ?_
        refine wa_iadd dX7_restore_81 ?_
        refine wa_ild3 dX7_restore_82 ?_
        refine wa_iadd dX7_restore_83 ?_
        refine wa_iaload dX7_restore_84 (by first | assumption | exact hL.1 _ (by decide)) (by omega) (by first | decide | omega) ?_
        refine wa_iastore dX7_restore_85 (by first | assumption | exact hL.1 _ (by decide)) (by omega) (by first | decide | omega) ?_
        refine wa_iinc3 dX7_restore_86 (by decide) rfl ?_
        refine wa_goto 32 dX7_restore_89 (by decide) ?_
        refine wa_eqV ?_ e1
        refine zp_of3 (by decide) (by decide) (by decide) (fun k a1 a2 a3 => ?_) ?_ ?_ ?_
        · simp only [zp_n _ _ a1, zp_n _ _ a2, zp_n _ _ a3]
        · simp (decide := true) only [zp_s, zp_n, ne_eq, t1, t2, t3, Int.toNat_natCast]
        · simp (decide := true) only [zp_s, zp_n, ne_eq, t1, t2, t3, Int.toNat_natCast]
        · simp (decide := true) only [zp_s, zp_n, ne_eq, t1, t2, t3, Int.toNat_natCast]
  have go0 := loop1 8 0 (V 38) (V 39) (V 40) (by omega) (fun j hj => absurd hj (by omega)) (fun j hj => absurd hj (by omega)) (fun j hj => absurd hj (by omega))
  rw [zp_self, zp_self, zp_self] at go0
  refine wa_ild1 dX7_restore_0 ?_
  refine wa_iconst dX7_restore_1 ?_
  refine wa_iconst dX7_restore_2 ?_
  refine kX7_91 dX7_restore_3 rfl (cm_in (by omega) (by decide) (by decide)) (by decide) (Nat.le_of_ble_eq_true rfl) ⟨Nat.le_refl _, Nat.le_refl _⟩ (zdI ?_)
  refine wa_ifne_B 12 dX7_restore_6 (by decide) (fun c6 => ?_) (fun c6 => ?_)
  · refine wa_ald0 dX7_restore_12 ?_
    refine gX7_75 dX7_restore_13 rfl (by first | assumption | exact hL.1 _ (by decide)) (by first | assumption | exact hL.2 _ _ (by decide)) ?_
    refine wa_ild1 dX7_restore_16 ?_
    refine wa_baload dX7_restore_17 (by first | assumption | exact hL.1 _ (by decide)) (by first | omega | (simp only [Int.toNat_natCast]; omega)) (by first | decide | omega) ?_
    refine wa_if_ne 24 dX7_restore_18 (by decide) (by first | omega | (simp only [Int.toNat_natCast]; omega)) (fun c18 => ?_) (fun c18 => absurd c18 (by simp only [Int.toNat_natCast]; omega))
    refine wa_sipush dX7_restore_24 (by decide) ?_
    refine wa_ild1 dX7_restore_27 ?_
    refine wa_imul dX7_restore_28 ?_
    refine wa_ist2 dX7_restore_29 (by decide) rfl ?_
    refine wa_iconst dX7_restore_30 ?_
    refine wa_ist3 dX7_restore_31 (by decide) rfl ?_
    exact go0
  · exact absurd c6 (by omega)
