/-! what holds between two calls of the law -/
def SI (c k : Nat) (F : Int) (r : Nat) (V : zE) : Prop := V r 0 = (c : Int) ∧ 2 ≤ c ∧ c ≤ 8 ∧ (∀ j, 0 ≤ V (r + 1) j ∧ V (r + 1) j ≤ 999) ∧ (∀ j, 0 ≤ V (r + 2) j ∧ V (r + 2) j ≤ 999) ∧ (∀ j, 0 ≤ V (r + 3) j ∧ V (r + 3) j ≤ 9) ∧ 1 ≤ V (r + 3) 3 ∧ (∀ j, -2147483648 ≤ V (r + 4) j ∧ V (r + 4) j ≤ 2147483647) ∧ (∀ j, 0 ≤ V (r + 5) j ∧ V (r + 5) j ≤ F) ∧ (-2147483648 ≤ V r 3 ∧ V r 3 ≤ 2147483647) ∧ V r 8 = (k : Int) ∧ k ≤ 8 ∧ (∀ j, 0 ≤ V (r + 6) j ∧ V (r + 6) j < 8) ∧ (∀ j, 0 ≤ V (r + 7) j ∧ V (r + 7) j ≤ 999) ∧ flI c (vw r V)
theorem SI.go {c k r r' : Nat} {F F' : Int} {V V' : zE} (h : SI c k F r V) (hF : F ≤ F') (e : ∀ j, j ≤ 7 → V' (r' + j) = V (r + j)) : SI c k F' r' V' := by
  have e0 : V' r' = V r := e 0 (by decide)
  simp only [SI, vw] at h ⊢
  rw [e0, e 1 (by decide), e 2 (by decide), e 3 (by decide), e 4 (by decide), e 5 (by decide), e 6 (by decide), e 7 (by decide)]
  obtain ⟨h1, h2, h3, h4, h5, h6, h7, h8, h9, h10, h11, h12, h13, h14, h15⟩ := h
  exact ⟨h1, h2, h3, h4, h5, h6, h7, h8, fun j => ⟨(h9 j).1, Int.le_trans (h9 j).2 hF⟩, h10, h11, h12, h13, h14, h15⟩
theorem CI.si {c k len : Nat} {F : Int} {V : zE} (h : CI c k len F V) (hfl : flI c (vw 1 V)) : SI c k F 1 V := by
  obtain ⟨hc, h2, h8, hd, hf, hu, hu3, hs, hflk, hF, hfa, hk, hk8, hsg, hsd, hl, h60, hp, hsc⟩ := h
  exact ⟨hc, h2, h8, hd, hf, hu, hu3, hs, hflk, hfa, hk, hk8, hsg, hsd, hfl⟩
theorem SI.ci {c k len : Nat} {F : Int} {V : zE} (h : SI c k F 1 V) (hF : F ≤ 1000000) (hl : V 18 1 = (len : Int)) (h60 : len ≤ 60) (hp : ∀ j, 0 ≤ V 19 j ∧ V 19 j ≤ 126) (hsc : scrI V) : CI c k len F V ∧ flI c (vw 1 V) := by
  obtain ⟨hc, h2, h8, hd, hf, hu, hu3, hs, hflk, hfa, hk, hk8, hsg, hsd, hfl⟩ := h
  exact ⟨⟨hc, h2, h8, hd, hf, hu, hu3, hs, hflk, hF, hfa, hk, hk8, hsg, hsd, hl, h60, hp, hsc⟩, hfl⟩
theorem CI.go {c k len : Nat} {F F' : Int} {V V' : zE} (h : CI c k len F V) (hfl : flI c (vw 1 V)) (hF : F ≤ F') (hF6 : F' ≤ 1000000) (e : ∀ j, j ≤ 8 → V' j = V j) (h18 : V' 18 1 = V 18 1) (h19 : V' 19 = V 19) (hsc : scrI V') : CI c k len F' V' ∧ flI c (vw 1 V') := by
  have h0 := h
  obtain ⟨hc, h2, h8, hd, hf, hu, hu3, hs, hflk, hFF, hfa, hk, hk8, hsg, hsd, hl, h60, hp, _⟩ := h0
  exact ((h.si hfl).go (r' := 1) hF (fun j hj => by rw [Nat.add_comm]; exact e (j + 1) (by omega))).ci hF6 (by rw [h18]; exact hl) h60 (by rw [h19]; exact hp) hsc
theorem RI.w {c k len : Nat} {W W' V : zE} (h : RI c k len W V) (e : ∀ j, j ≤ 8 → W' j = W j) (h19 : W' 19 = W 19) : RI c k len W' V := by
  unfold RI at h ⊢
  rw [e 1 (by decide), e 2 (by decide), e 3 (by decide), e 4 (by decide), e 5 (by decide), e 6 (by decide), e 7 (by decide), e 8 (by decide), h19]; exact h
theorem RI.v {c k len : Nat} {W V V' : zE} (h : RI c k len W V) (e : ∀ j, 37 ≤ j → j ≤ 43 → V' j = V j) : RI c k len W V' := by
  unfold RI at h ⊢
  rw [e 37 (by decide) (by decide), e 38 (by decide) (by decide), e 39 (by decide) (by decide), e 40 (by decide) (by decide), e 41 (by decide) (by decide), e 42 (by decide) (by decide), e 43 (by decide) (by decide)]; exact h
def imR (i r : Nat) (V : zE) : Prop := (∀ g, g < 8 → V 53 (130 * i + g) = V (r + 1) g ∧ V 53 (130 * i + 8 + g) = V (r + 2) g ∧ V 53 (130 * i + 16 + g) = V (r + 4) g) ∧ (∀ j, j < 64 → V 53 (130 * i + 24 + j) = V (r + 5) j) ∧ (∀ j, j < 8 → V 53 (130 * i + 88 + 2 * j) = V (r + 6) j ∧ V 53 (130 * i + 88 + (2 * j + 1)) = V (r + 7) j) ∧ V 53 (130 * i + 104) = V r 0 ∧ V 53 (130 * i + 105) = V r 3 ∧ V 53 (130 * i + 106) = V r 4 ∧ V 53 (130 * i + 107) = V (r + 3) 0 ∧ V 53 (130 * i + 108) = V (r + 3) 1 ∧ V 53 (130 * i + 109) = V (r + 3) 2 ∧ V 53 (130 * i + 110) = V (r + 3) 3 ∧ V 53 (130 * i + 111) = V r 8
theorem imR.go {i r : Nat} {V V' : zE} (h : imR i r V) (e : ∀ j, j ≤ 7 → V' (r + j) = V (r + j)) (e53 : ∀ j, 130 * i ≤ j → j < 130 * i + 112 → V' 53 j = V 53 j) : imR i r V' := by
  have e0 : V' r = V r := e 0 (by decide)
  obtain ⟨h1, h2, h3, h4, h5, h6, h7, h8, h9, h10, h11⟩ := h
  unfold imR
  rw [e0, e 1 (by decide), e 2 (by decide), e 3 (by decide), e 4 (by decide), e 5 (by decide), e 6 (by decide), e 7 (by decide)]
  refine ⟨fun g hg => ?_, fun j hj => ?_, fun j hj => ?_, ?_, ?_, ?_, ?_, ?_, ?_, ?_, ?_⟩
  · rw [e53 _ (by omega) (by omega), e53 _ (by omega) (by omega), e53 _ (by omega) (by omega)]; exact h1 g hg
  · rw [e53 _ (by omega) (by omega)]; exact h2 j hj
  · rw [e53 _ (by omega) (by omega), e53 _ (by omega) (by omega)]; exact h3 j hj
  · rw [e53 _ (by omega) (by omega)]; exact h4
  · rw [e53 _ (by omega) (by omega)]; exact h5
  · rw [e53 _ (by omega) (by omega)]; exact h6
  · rw [e53 _ (by omega) (by omega)]; exact h7
  · rw [e53 _ (by omega) (by omega)]; exact h8
  · rw [e53 _ (by omega) (by omega)]; exact h9
  · rw [e53 _ (by omega) (by omega)]; exact h10
  · rw [e53 _ (by omega) (by omega)]; exact h11
/-- an image just kept -/
theorem imR.of {c k len i r : Nat} {W V V' : zE} (h : RI c k len W V) (hc : W 1 0 = (c : Int)) (hk : W 1 8 = (k : Int)) (e : ∀ j, j ≤ 7 → V' (r + j) = W (1 + j)) (e53 : V' 53 = imG i V) : imR i r V' := by
  obtain ⟨r0, r38, r39, r40, r41, r3, r4, r7, r8, r9, r10, r11, r42, r13, r43⟩ := h
  have e0 : V' r = W 1 := e 0 (by decide)
  have e1 : V' (r + 1) = W 2 := e 1 (by decide)
  have e2 : V' (r + 2) = W 3 := e 2 (by decide)
  have e3 : V' (r + 3) = W 4 := e 3 (by decide)
  have e4 : V' (r + 4) = W 5 := e 4 (by decide)
  have e5 : V' (r + 5) = W 6 := e 5 (by decide)
  have e6 : V' (r + 6) = W 7 := e 6 (by decide)
  have e7 : V' (r + 7) = W 8 := e 7 (by decide)
  obtain ⟨g1, g2, g3, g4, g5, g6, g7, g8⟩ := im_6 (i := i) (V := V)
  unfold imR
  rw [e53, e0, e1, e2, e3, e4, e5, e6, e7, g1, g2, g3, g4, g5, g6, g7, g8]
  refine ⟨fun g hg => ?_, fun j hj => ?_, fun j hj => ?_, by rw [r0, hc], r3, r4, r7, r8, r9, r10, by rw [r11, hk]⟩
  · rw [im_1 hg, im_2 hg, im_3 hg, r38, r39, r40]; exact ⟨rfl, rfl, rfl⟩
  · rw [im_4 hj, r41]
  · rw [im_5 (by omega), im_5 (by omega)]; exact r42 j hj
/-- an image taken back -/
theorem imR.back {c k len c' k' i r : Nat} {W V V1 V2 : zE} (h : imR i r V) (hR : RI c k len W V) (e : ∀ j, j ≤ 7 → V1 (1 + j) = V (r + j)) (ho : ∀ j, 37 ≤ j → j ≤ 54 → V1 j = V j) (h19 : V1 19 = W 19) (hc : V r 0 = (c' : Int)) (hk : V r 8 = (k' : Int)) (h2 : V2 = rsV i (V1 2) (V1 3) (V1 5) (V1 6) V1) : RI c' k' len V1 V2 := by
  obtain ⟨r0, r38, r39, r40, r41, r3, r4, r7, r8, r9, r10, r11, r42, r13, r43⟩ := hR
  obtain ⟨h1, h2', h3, h4, h5, h6, h7, h8, h9, h10, h11⟩ := h
  have e0 : V1 1 = V r := e 0 (by decide)
  have e3 : V1 4 = V (r + 3) := e 3 (by decide)
  have e6 : V1 7 = V (r + 6) := e 6 (by decide)
  have e7 : V1 8 = V (r + 7) := e 7 (by decide)
  have o37 := ho 37 (by decide) (by decide)
  have o43 := ho 43 (by decide) (by decide)
  have o53 := ho 53 (by decide) (by decide)
  subst h2
  unfold RI rsV
  simp (decide := true) only [zp_s, zp_n, za_s, za_n, ne_eq, true_and]
  rw [o53, h4, h5, h6, h7, h8, h9, h10, h11, e0, e3, e6, e7, o37, o43, h19]
  exact ⟨hc, rfl, rfl, rfl, rfl, rfl, rfl, hk, fun j hj => h3 j hj, r13, r43⟩
def IM (n : Nat) (S : zH) (Rf : zG) (V : zE) (F : Int) (i : Nat) : Prop := (Rf 17 i = none ∧ V 54 i = 0) ∨ ∃ r c k, Rf 17 i = some r ∧ 55 ≤ r ∧ r + 8 ≤ n ∧ isStr S Rf r ∧ V 54 i = 1 ∧ SI c k F r V ∧ imR i r V
theorem IM.go {n n' : Nat} {S : zH} {Rf Rf' : zG} {V V' : zE} {F F' : Int} {i : Nat} (h : IM n S Rf V F i) (hn : n ≤ n') (hF : F ≤ F') (hV : ∀ k, 53 ≤ k → V' k = V k) (hR : rfe Rf Rf') : IM n' S Rf' V' F' i := by
  have h17 : Rf' 17 i = Rf 17 i := by rw [show Rf' = Rf from hR]
  rcases h with ⟨h1, h2⟩ | ⟨r, c, k, h1, h2, h3, h4, h5, h6, h7⟩
  · exact Or.inl ⟨by rw [h17]; exact h1, by rw [hV 54 (by decide)]; exact h2⟩
  · refine Or.inr ⟨r, c, k, by rw [h17]; exact h1, h2, by omega, ?_, by rw [hV 54 (by decide)]; exact h5, h6.go hF (fun j _ => hV _ (by omega)), h7.go (fun j _ => hV _ (by omega)) (fun j _ _ => by rw [hV 53 (by decide)])⟩
    unfold isStr at h4 ⊢
    have hr : ∀ j, Rf' r j = Rf r j := fun j => by rw [show Rf' = Rf from hR]
    rw [hr, hr, hr, hr, hr, hr, hr]; exact h4
def sepI (Rf : zG) : Prop := ∀ a b, Rf 17 0 = some a → Rf 17 1 = some b → a + 8 ≤ b ∨ b + 8 ≤ a
def LWH (n : Nat) (S : zH) (Rf : zG) (V : zE) (F : Int) : Prop := Lay S Rf ∧ 55 ≤ n ∧ (∃ c k len, CI c k len F V ∧ flI c (vw 1 V) ∧ RI c k len V V) ∧ IM n S Rf V F 0 ∧ IM n S Rf V F 1 ∧ sepI Rf
theorem Lay.e {S : zH} {Rf Rf' : zG} (h : Lay S Rf) (hR : rfe Rf Rf') : Lay S Rf' := by
  rw [show Rf' = Rf from hR]; exact h
/-- a call that asked both -/
theorem LWH.q {n : Nat} {S : zH} {Rf Rf' : zG} {V V1 V2 : zE} {F F' : Int} (h : LWH n S Rf V F) (hF : F ≤ F') (hF6 : F' ≤ 1000000) (hR : rfe Rf Rf') (hq : qry V V1) (hr : rfr V1 V2) : LWH n S Rf' V2 F' := by
  obtain ⟨hL, hn, ⟨c, k, len, hI, hfl, hRI⟩, i0, i1, hs⟩ := h
  have e : ∀ j, j ≤ 8 → V2 j = V j := fun j hj => by rw [hr.1 j (by omega) (by omega), hq.1 j (by unfold scr; omega)]
  have e18 : V2 18 1 = V 18 1 := by rw [hr.1 18 (by omega) (by omega)]; exact hq.2.1
  have e19 : V2 19 = V 19 := by rw [hr.1 19 (by omega) (by omega), hq.1 19 (by unfold scr; omega)]
  have hsc : scrI V2 := by
    unfold scrI
    rw [hr.1 27 (by omega) (by omega), hr.1 28 (by omega) (by omega), hr.1 30 (by omega) (by omega)]; exact hq.2.2
  obtain ⟨a1, a2⟩ := hI.go hfl hF hF6 e e18 e19 hsc
  have hV : ∀ k, 53 ≤ k → V2 k = V k := fun k hk => by rw [hr.1 k (by omega) (by omega), hq.1 k (by unfold scr; omega)]
  refine ⟨hL.e hR, hn, ⟨c, k, len, a1, a2, ?_⟩, i0.go (Nat.le_refl _) hF hV hR, i1.go (Nat.le_refl _) hF hV hR, fun a b ha hb => hs a b (by rw [← show Rf' = Rf from hR]; exact ha) (by rw [← show Rf' = Rf from hR]; exact hb)⟩
  exact ((hRI.v (V' := V1) (fun j h1 h2 => hq.1 j (by unfold scr; omega))).go hr).w e e19
/-- a call that changed both -/
theorem LWH.m {n c k len : Nat} {S : zH} {Rf : zG} {V V1 V2 : zE} {F F' : Int} (h : LWH n S Rf V F) (hF : F ≤ F') (hI : CI c k len F' V1) (hfl : flI c (vw 1 V1)) (hR : RI c k len V1 V2) (e : ∀ j, j < 37 → V2 j = V1 j) (hV : ∀ k, 53 ≤ k → V2 k = V k) : LWH n S Rf V2 F' := by
  obtain ⟨hL, hn, _, i0, i1, hs⟩ := h
  have hsc : scrI V2 := by
    unfold scrI
    rw [e 27 (by omega), e 28 (by omega), e 30 (by omega)]
    exact hI.2.2.2.2.2.2.2.2.2.2.2.2.2.2.2.2.2.2
  obtain ⟨a1, a2⟩ := hI.go hfl (Int.le_refl _) hI.2.2.2.2.2.2.2.2.2.1 (fun j hj => e j (by omega)) (by rw [e 18 (by omega)]) (e 19 (by omega)) hsc
  exact ⟨hL, hn, ⟨c, k, len, a1, a2, hR.w (fun j hj => e j (by omega)) (e 19 (by omega))⟩, i0.go (Nat.le_refl _) hF hV rfe_rf, i1.go (Nat.le_refl _) hF hV rfe_rf, hs⟩
/-! the calls that change, one by one -/
section
variable {c k len : Nat} {F : Int} {V : zE}
theorem ci_gardens {m : Int} (hI : CI c k len F V) (hfl : flI c (vw 1 V)) : CI (if m < 2 ∨ 8 < m then c else m.toNat) (if m < 2 ∨ 8 < m then k else 0) len F (gnV m V) ∧ flI (if m < 2 ∨ 8 < m then c else m.toNat) (vw 1 (gnV m V)) := by
  unfold gnV
  by_cases h : m < 2 ∨ 8 < m
  · simp only [if_pos h]; exact ⟨hI, hfl⟩
  · simp only [if_neg h]
    obtain ⟨hc, h2, h8, hd, hf, hu, hu3, hs, hflk, hF, hfa, hk, hk8, hsg, hsd, hl, h60, hp, hsc⟩ := hI
    have hF0 : 0 ≤ F := Int.le_trans (hflk 0).1 (hflk 0).2
    have hfg : ∀ j, 0 ≤ fgF (V 5) (V 6) j ∧ fgF (V 5) (V 6) j ≤ F := fun j => by
      unfold fgF
      split
      · exact ⟨Int.le_refl _, hF0⟩
      · exact hflk j
    have h0 := fgF_0 hfl
    refine SI.ci (len := len) ?_ hF ?_ h60 ?_ ?_
    · unfold SI begV forgV flI
      simp (decide := true) only [vw, zp_s, zp_n, za_s, za_n, ne_eq, Nat.reduceAdd]
      exact ⟨by omega, by omega, by omega, fun _ => by decide, fun _ => by decide, hu, hu3, fun _ => by decide, hfg, by decide, (by first | trivial | rfl), by decide, hsg, hsd, fun g hg _ w hw => h0 _ (by omega), fun _ _ _ => (by first | trivial | rfl)⟩
    · unfold begV forgV
      simp (decide := true) only [zp_n, ne_eq, Nat.reduceAdd]
      exact hl
    · unfold begV forgV
      simp (decide := true) only [zp_n, ne_eq, Nat.reduceAdd]
      exact hp
    · unfold scrI begV forgV
      simp (decide := true) only [zp_n, ne_eq, Nat.reduceAdd]
      exact hsc
theorem ci_garden {g w v : Int} (hI : CI c k len F V) (hfl : flI c (vw 1 V)) : CI c k len F (gdV c g w v V) ∧ flI c (vw 1 (gdV c g w v V)) := by
  have hI0 := hI
  obtain ⟨hc, h2, h8, hd, hf, hu, hu3, hs, hflk, hF, hfa, hk, hk8, hsg, hsd, hl, h60, hp, hsc⟩ := hI
  unfold gdV
  split
  · exact ⟨hI0, hfl⟩
  split
  · exact ⟨hI0, hfl⟩
  split
  · refine SI.ci (len := len) ?_ hF (by simp (decide := true) only [zp_n, ne_eq]; exact hl) h60 (by simp (decide := true) only [zp_n, ne_eq]; exact hp) (by unfold scrI; simp (decide := true) only [zp_n, ne_eq]; exact hsc)
    unfold SI
    simp (decide := true) only [vw, zp_s, zp_n, ne_eq, Nat.reduceAdd]
    refine ⟨hc, h2, h8, fun j => ?_, hf, hu, hu3, hs, hflk, hfa, hk, hk8, hsg, hsd, hfl⟩
    have := hd j
    simp only [za]; split <;> omega
  · refine SI.ci (len := len) ?_ hF (by simp (decide := true) only [zp_n, ne_eq]; exact hl) h60 (by simp (decide := true) only [zp_n, ne_eq]; exact hp) (by unfold scrI; simp (decide := true) only [zp_n, ne_eq]; exact hsc)
    unfold SI
    simp (decide := true) only [vw, zp_s, zp_n, za_s, za_n, ne_eq, Nat.reduceAdd]
    refine ⟨hc, h2, h8, hd, fun j => ?_, hu, hu3, hs, hflk, zand_rg _ _, hk, hk8, hsg, hsd, hfl⟩
    have := hf j
    simp only [za]; split <;> omega
theorem ci_set {w v : Int} (hI : CI c k len F V) (hfl : flI c (vw 1 V)) : CI c k len F (seV w v V) ∧ flI c (vw 1 (seV w v V)) := by
  have hI0 := hI
  obtain ⟨hc, h2, h8, hd, hf, hu, hu3, hs, hflk, hF, hfa, hk, hk8, hsg, hsd, hl, h60, hp, hsc⟩ := hI
  unfold seV
  by_cases hno : (w < 0 ∨ 3 < w) ∨ (v < (if w = 3 then 1 else 0) ∨ 9 < v)
  · simp only [if_pos hno]; exact ⟨hI0, hfl⟩
  · simp only [if_neg hno]
    refine SI.ci (len := len) ?_ hF (by simp (decide := true) only [zp_n, ne_eq]; exact hl) h60 (by simp (decide := true) only [zp_n, ne_eq]; exact hp) (by unfold scrI; simp (decide := true) only [zp_n, ne_eq]; exact hsc)
    unfold SI
    simp (decide := true) only [vw, zp_s, zp_n, ne_eq, Nat.reduceAdd]
    have hv : 0 ≤ v ∧ v ≤ 9 ∧ (w = 3 → 1 ≤ v) := by
      by_cases h3 : w = 3
      · rw [if_pos h3] at hno; omega
      · rw [if_neg h3] at hno; omega
    refine ⟨hc, h2, h8, hd, hf, fun j => ?_, ?_, hs, hflk, hfa, hk, hk8, hsg, hsd, hfl⟩
    · have := hu j
      simp only [za]; split <;> omega
    · simp only [za]
      split
      · next h => exact hv.2.2 (by omega)
      · exact hu3
theorem ci_say {s : Int} (hI : CI c k len F V) (hfl : flI c (vw 1 V)) : CI c k (if s < 33 ∨ 126 < s then len else if 60 ≤ len then len else len + 1) F (sayV s V) ∧ flI c (vw 1 (sayV s V)) := by
  have hI0 := hI
  obtain ⟨hc, h2, h8, hd, hf, hu, hu3, hs, hflk, hF, hfa, hk, hk8, hsg, hsd, hl, h60, hp, hsc⟩ := hI
  unfold sayV
  rw [hl]
  by_cases h1 : s < 33 ∨ 126 < s
  · simp only [if_pos h1]; exact ⟨hI0, hfl⟩
  · simp only [if_neg h1]
    by_cases h6 : 60 ≤ len
    · have h6' : (60 : Int) ≤ (len : Int) := by omega
      simp only [if_pos h6, if_pos h6']; exact ⟨hI0, hfl⟩
    · have h6' : ¬ (60 : Int) ≤ (len : Int) := by omega
      simp only [if_neg h6, if_neg h6']
      refine SI.ci ?_ hF (by simp (decide := true) only [zp_s, zp_n, za_s, ne_eq]; omega) (by omega) (fun j => by simp (decide := true) only [zp_s, zp_n, ne_eq]; have := hp j; simp only [za]; split <;> omega) (by unfold scrI; simp (decide := true) only [zp_n, ne_eq]; exact hsc)
      unfold SI
      simp (decide := true) only [vw, zp_n, ne_eq, Nat.reduceAdd]
      exact ⟨hc, h2, h8, hd, hf, hu, hu3, hs, hflk, hfa, hk, hk8, hsg, hsd, hfl⟩
theorem ci_wipe (hI : CI c k len F V) (hfl : flI c (vw 1 V)) : CI c k 0 F (zp V 18 (za (V 18) 1 0)) ∧ flI c (vw 1 (zp V 18 (za (V 18) 1 0))) := by
  obtain ⟨hc, h2, h8, hd, hf, hu, hu3, hs, hflk, hF, hfa, hk, hk8, hsg, hsd, hl, h60, hp, hsc⟩ := hI
  refine SI.ci ?_ hF (by rw [zp_s, za_s]; rfl) (by decide) (by simp (decide := true) only [zp_n, ne_eq]; exact hp) (by unfold scrI; simp (decide := true) only [zp_n, ne_eq]; exact hsc)
  unfold SI
  simp (decide := true) only [vw, zp_n, ne_eq, Nat.reduceAdd]
  exact ⟨hc, h2, h8, hd, hf, hu, hu3, hs, hflk, hfa, hk, hk8, hsg, hsd, hfl⟩
theorem ci_forget (hI : CI c k len F V) (hfl : flI c (vw 1 V)) : CI c 0 len F (zp V 1 (za (V 1) 8 0)) ∧ flI c (vw 1 (zp V 1 (za (V 1) 8 0))) := by
  obtain ⟨hc, h2, h8, hd, hf, hu, hu3, hs, hflk, hF, hfa, hk, hk8, hsg, hsd, hl, h60, hp, hsc⟩ := hI
  refine SI.ci (len := len) ?_ hF (by simp (decide := true) only [zp_n, ne_eq]; exact hl) h60 (by simp (decide := true) only [zp_n, ne_eq]; exact hp) (by unfold scrI; simp (decide := true) only [zp_n, ne_eq]; exact hsc)
  unfold SI
  simp (decide := true) only [vw, zp_s, zp_n, za_s, za_n, ne_eq, Nat.reduceAdd]
  exact ⟨hc, h2, h8, hd, hf, hu, hu3, hs, hflk, hfa, (by first | trivial | rfl), by decide, hsg, hsd, hfl⟩
theorem ci_seen {g v : Int} (hI : CI c k len F V) (hfl : flI c (vw 1 V)) : CI c (if ¬ (0 ≤ g ∧ g < c) then k else if v < 0 ∨ 999 < v then k else if 8 ≤ k then k else k + 1) len F (snV c g v V) ∧ flI c (vw 1 (snV c g v V)) := by
  have hI0 := hI
  obtain ⟨hc, h2, h8, hd, hf, hu, hu3, hs, hflk, hF, hfa, hk, hk8, hsg, hsd, hl, h60, hp, hsc⟩ := hI
  unfold snV
  rw [hk]
  by_cases h1 : ¬ (0 ≤ g ∧ g < (c : Int))
  · simp only [if_pos h1]; exact ⟨hI0, hfl⟩
  · simp only [if_neg h1]
    by_cases hv : v < 0 ∨ 999 < v
    · simp only [if_pos hv]; exact ⟨hI0, hfl⟩
    · simp only [if_neg hv]
      by_cases h6 : 8 ≤ k
      · have h6' : (8 : Int) ≤ (k : Int) := by omega
        simp only [if_pos h6, if_pos h6']; exact ⟨hI0, hfl⟩
      · have h6' : ¬ (8 : Int) ≤ (k : Int) := by omega
        simp only [if_neg h6, if_neg h6']
        refine SI.ci (len := len) ?_ hF (by simp (decide := true) only [zp_n, ne_eq]; exact hl) h60 (by simp (decide := true) only [zp_n, ne_eq]; exact hp) (by unfold scrI; simp (decide := true) only [zp_n, ne_eq]; exact hsc)
        unfold SI
        simp (decide := true) only [vw, zp_s, zp_n, za_s, za_n, ne_eq, Nat.reduceAdd]
        refine ⟨hc, h2, h8, hd, hf, hu, hu3, hs, hflk, hfa, by omega, by omega, fun j => ?_, fun j => ?_, hfl⟩
        · have := hsg j
          simp only [za]; split <;> omega
        · have := hsd j
          simp only [za]; split <;> omega
end
/-- what a talk leaves -/
theorem spk_f {c : Nat} {rule : Nat → Int} {k g w : Int} {q : zSt} {B : Int} (hu : ∀ j, 0 ≤ rule j ∧ rule j ≤ 9) (hB : ∀ j, 0 ≤ q.2.2.1 j ∧ q.2.2.1 j ≤ B) : ∀ j, 0 ≤ (spkS c rule k g w q).2.2.1 j ∧ (spkS c rule k g w q).2.2.1 j ≤ B + 18 := by
  intro j
  have hj := hB j
  have hw := wtF_b (rule := rule) (said := q.2.1) (k := k) (g := g) (w := w) hu
  unfold spkS
  split
  · dsimp only
    have hx := hB (g * 8 + w).toNat
    simp only [za]; split <;> omega
  split
  · dsimp only; omega
  split
  · dsimp only; omega
  split
  · dsimp only; omega
  · dsimp only
    unfold fgF
    split <;> omega
theorem hld_all {c : Nat} {roof rule : Nat → Int} (h8 : c ≤ 8) (hu : ∀ j, 0 ≤ rule j ∧ rule j ≤ 9) : ∀ (ws : List (Int × Int × Int)) (i ff : Int) (q : zSt) (B : Int), okW c ws → sGd q → flI c q → (∀ j, 0 ≤ q.2.2.1 j ∧ q.2.2.1 j ≤ B) → sGd (hldS c roof rule ws i ff q).2.2.2 ∧ flI c (hldS c roof rule ws i ff q).2.2.2 ∧ ∀ j, 0 ≤ (hldS c roof rule ws i ff q).2.2.2.2.2.1 j ∧ (hldS c roof rule ws i ff q).2.2.2.2.2.1 j ≤ B + 18 * ws.length := by
  intro ws
  induction ws with
  | nil => intro i ff q B _ h1 h2 h3; exact ⟨h1, h2, fun j => by have := h3 j; rw [hldS]; simp; omega⟩
  | cons x ws ih =>
    intro i ff q B hok h1 h2 h3
    have hx := hok x List.mem_cons_self
    rw [hldS]
    by_cases h0 : hinF c q.1 rule q.2.1 x.1 x.2.1 x.2.2 = 0
    · rw [if_pos h0]
      have e : (telS c roof rule x.1 x.2.1 x.2.2 q).2.2.1 = (spkS c rule x.1 x.2.1 x.2.2 q).2.2.1 := by unfold telS; rw [if_pos h0]
      have h5 := spk_f (c := c) (k := x.1) (g := x.2.1) (w := x.2.2) hu h3
      obtain ⟨i1, i2, i3⟩ := ih (i + 1) (if ff = -6 ∧ (telS c roof rule x.1 x.2.1 x.2.2 q).2.2.2.1 ≠ q.2.2.2.1 then i else ff) (telS c roof rule x.1 x.2.1 x.2.2 q) (B + 18) (fun y hy => hok y (List.mem_cons_of_mem _ hy)) (telS_g hx.1 hu h1) (telS_fl h8 hx.2.1 hx.2.2 h2) (by rw [e]; exact h5)
      refine ⟨i1, i2, fun j => ?_⟩
      have := i3 j
      rw [List.length_cons]
      omega
    · rw [if_neg h0]
      exact ⟨h1, h2, fun j => by have := h3 j; dsimp only; omega⟩
theorem ci_done {c k len : Nat} {F F' : Int} {V V' : zE} (hI : CI c k len F V) (hfl : flI c (vw 1 V)) (hF : F + 1080 ≤ F') (hF6 : F' ≤ 1000000) (h : dnP c len V V') : CI c k (if (wdF c len V).2 = -6 ∧ (hdF c len V).1 = -6 then 0 else len) F' V' ∧ flI c (vw 1 V') := by
  have hI0 := hI
  obtain ⟨hc, h2, h8, hd, hf, hu, hu3, hs, hflk, hF1, hfa, hk, hk8, hsg, hsd, hl, h60, hp, hsc⟩ := hI
  by_cases hy : (wdF c len V).2 = -6 ∧ (hdF c len V).1 = -6
  · obtain ⟨d1, d2, d3, d4, d5, d6, d7, d8, d9, d10⟩ := h.1 hy
    have hln : (wdF c len V).1.length ≤ 60 := prs_len (c := c) (s := sgF (V 19) len) (len := len) 60 0
    have hok : okW c (wdF c len V).1 := prs_ok h2 _ _
    obtain ⟨a1, a2, a3⟩ := hld_all (c := c) (roof := V 3) (rule := V 4) h8 hu (wdF c len V).1 0 (-6) (vw 1 V) F hok ⟨hd, hs, hfa⟩ hfl hflk
    change sGd (hdF c len V).2.2.2 at a1
    change flI c (hdF c len V).2.2.2 at a2
    change ∀ j, 0 ≤ (hdF c len V).2.2.2.2.2.1 j ∧ (hdF c len V).2.2.2.2.2.1 j ≤ F + 18 * ((wdF c len V).1.length : Int) at a3
    rw [← d1] at a1 a2 a3
    rw [if_pos hy]
    refine SI.ci ?_ hF6 (by rw [d8]; rfl) (by decide) (by rw [d10 19 (by unfold scr; omega) (by decide)]; exact hp) d9
    unfold SI
    rw [d2, d3]
    simp only [Nat.reduceAdd]
    rw [d4, d5, d6, d7]
    exact ⟨hc, h2, h8, a1.1, hf, hu, hu3, a1.2.1, fun j => by have h9 := a3 j; simp only [Nat.reduceAdd] at h9; omega, a1.2.2, hk, hk8, hsg, hsd, a2⟩
  · have hq := h.2 hy
    rw [if_neg hy]
    exact hI0.go hfl (by omega) hF6 (fun j hj => hq.1 j (by unfold scr; omega)) hq.2.1 (hq.1 19 (by unfold scr; omega)) hq.2.2
