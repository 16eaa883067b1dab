/-! a street's snow as a value: deep, said, flakes, fallen, brook; words done on it -/
abbrev zSt : Type := (Nat → Int) × (Nat → Int) × (Nat → Int) × Int × Int
abbrev vw (r : Nat) (V : zE) : zSt := (V (r + 1), V (r + 4), V (r + 5), V r 3, V r 4)
def lwF (c : Nat) (g x : Int) (d : Nat → Int) : Nat → Int := if 0 ≤ g ∧ g < c then za d g.toNat (max 0 (d g.toNat - x)) else d
def spkS (c : Nat) (rule : Nat → Int) (k g w : Int) (q : zSt) : zSt :=
  if k ≤ 1 then (za q.1 g.toNat (q.1 g.toNat + wtF rule q.2.1 k g w), za q.2.1 g.toNat (zor (q.2.1 g.toNat) (2 ^ w.toNat)), za q.2.2.1 (g * 8 + w).toNat (q.2.2.1 (g * 8 + w).toNat + wtF rule q.2.1 k g w), q.2.2.2.1, q.2.2.2.2)
  else if k = 2 then (lwF c g (rule 3) q.1, q.2.1, q.2.2.1, q.2.2.2.1, q.2.2.2.2)
  else if k = 3 then (lwF c (g + 1) 1 (lwF c (g - 1) 1 (lwF c g 2 q.1)), q.2.1, q.2.2.1, q.2.2.2.1, q.2.2.2.2)
  else if k = 4 then (ngF c q.1, q.2.1, q.2.2.1, q.2.2.2.1, q.2.2.2.2)
  else (thD c q.1, fun _ => 0, fgF q.2.1 q.2.2.1, q.2.2.2.1, q.2.2.2.2 + thB q.1 c)
def telS (c : Nat) (roof rule : Nat → Int) (k g w : Int) (q : zSt) : zSt :=
  if hinF c q.1 rule q.2.1 k g w = 0 then ((spkS c rule k g w q).1, (spkS c rule k g w q).2.1, (spkS c rule k g w q).2.2.1, zor q.2.2.2.1 (zand (ovl (spkS c rule k g w q).1 roof c) (zxor q.2.2.2.1 (-1))), (spkS c rule k g w q).2.2.2.2) else q
theorem lowV_1 {r c : Nat} {g x : Int} {V : zE} : lowV r c g x V (r + 1) = lwF c g x (V (r + 1)) := by
  unfold lowV lwF; split
  · rw [zp_s]
  · rfl
theorem vw_spk {r c : Nat} {k g w : Int} {V : zE} : vw r (spkV r c k g w V) = spkS c (V (r + 3)) k g w (vw r V) := by
  unfold spkV spkS
  split
  · simp [vw, fallV, zp_n, zp_s]
  split
  · simp only [vw, lowV_1, lowV_o (show r + 4 ≠ r + 1 by omega), lowV_o (show r + 5 ≠ r + 1 by omega), lowV_o (show r ≠ r + 1 by omega)]
  split
  · simp only [vw, lowV_1, lowV_o (show r + 4 ≠ r + 1 by omega), lowV_o (show r + 5 ≠ r + 1 by omega), lowV_o (show r ≠ r + 1 by omega)]
  split
  · simp [vw, nightV, zp_n, zp_s]
  · simp [vw, forgV, thawV, zp_n, zp_s, za_s, za_n]
theorem telV_o {r c : Nat} {k g w : Int} {V : zE} {a : Nat} (h0 : a ≠ r) (h1 : a ≠ r + 1) (h4 : a ≠ r + 4) (h5 : a ≠ r + 5) : telV r c k g w V a = V a := by
  unfold telV; split
  · rw [zp_n _ _ h0, spkV_o h0 h1 h4 h5]
  · rfl
theorem telV_r {r c : Nat} {k g w : Int} {V : zE} {j : Nat} (h3 : j ≠ 3) (h4 : j ≠ 4) : telV r c k g w V r j = V r j := by
  unfold telV; split
  · rw [zp_s, za_n _ _ h3, spkV_r h4]
  · rfl
theorem vw_tel {r c : Nat} {k g w : Int} {V : zE} : vw r (telV r c k g w V) = telS c (V (r + 2)) (V (r + 3)) k g w (vw r V) := by
  have h := vw_spk (r := r) (c := c) (k := k) (g := g) (w := w) (V := V)
  unfold telV telS
  split
  · rw [← h]
    simp [vw, zp_n, zp_s, za_s, za_n]
  · rfl
/-- what holds of a street's snow between calls -/
def sGd (q : zSt) : Prop := (∀ j, 0 ≤ q.1 j ∧ q.1 j ≤ 999) ∧ (∀ j, -2147483648 ≤ q.2.1 j ∧ q.2.1 j ≤ 2147483647) ∧ (-2147483648 ≤ q.2.2.2.1 ∧ q.2.2.2.1 ≤ 2147483647)
theorem lwF_b {c : Nat} {g x : Int} {d : Nat → Int} {B : Int} (hx : 0 ≤ x) (hd : ∀ j, 0 ≤ d j ∧ d j ≤ B) : ∀ j, 0 ≤ lwF c g x d j ∧ lwF c g x d j ≤ B := by
  intro j
  have h1 := hd j
  have h2 := hd g.toNat
  unfold lwF; split
  · by_cases hj : j = g.toNat
    · subst hj; rw [za_s]; omega
    · rw [za_n _ _ hj]; exact h1
  · exact h1
theorem spkS_s {c : Nat} {rule : Nat → Int} {k g w : Int} {q : zSt} (h : ∀ j, -2147483648 ≤ q.2.1 j ∧ q.2.1 j ≤ 2147483647) : ∀ j, -2147483648 ≤ (spkS c rule k g w q).2.1 j ∧ (spkS c rule k g w q).2.1 j ≤ 2147483647 := by
  intro j
  unfold spkS
  (repeat' split) <;> dsimp only
  · by_cases hj : j = g.toNat
    · subst hj; rw [za_s]; exact zor_rg _ _
    · rw [za_n _ _ hj]; exact h j
  · exact h j
  · exact h j
  · exact h j
  · decide
theorem spkS_d {c : Nat} {rule : Nat → Int} {k g w : Int} {q : zSt} {B : Int} (hd : ∀ j, 0 ≤ q.1 j ∧ q.1 j ≤ B) (hu : ∀ j, 0 ≤ rule j ∧ rule j ≤ 9) : ∀ j, 0 ≤ (spkS c rule k g w q).1 j ∧ (spkS c rule k g w q).1 j ≤ B + 18 := by
  intro j
  have h3 := hu 3
  have hj := hd j
  unfold spkS
  (repeat' split) <;> dsimp only
  · have hw := wtF_b (rule := rule) (said := q.2.1) (k := k) (g := g) (w := w) hu
    have hg := hd g.toNat
    by_cases h : j = g.toNat
    · subst h; rw [za_s]; omega
    · rw [za_n _ _ h]; omega
  · have := lwF_b (c := c) (g := g) h3.1 hd j; omega
  · have := lwF_b (c := c) (g := g + 1) (x := 1) (by decide) (lwF_b (c := c) (g := g - 1) (x := 1) (by decide) (lwF_b (c := c) (g := g) (x := 2) (by decide) hd)) j; omega
  · have := ngF_b (c := c) hd j; omega
  · have := thD_b (c := c) hd j; omega
theorem telS_g {c : Nat} {roof rule : Nat → Int} {k g w : Int} {q : zSt} (hk : 0 ≤ k ∧ k ≤ 5) (hu : ∀ j, 0 ≤ rule j ∧ rule j ≤ 9) (h : sGd q) : sGd (telS c roof rule k g w q) := by
  unfold telS
  split
  · next h0 =>
    refine ⟨fun j => ?_, fun j => spkS_s h.2.1 j, zor_rg _ _⟩
    have h3 := hu 3
    have hj := h.1 j
    have hg := h.1 g.toNat
    dsimp only
    unfold spkS
    unfold hinF at h0
    (repeat' split) <;> dsimp only
    · have hw := wtF_b (rule := rule) (said := q.2.1) (k := k) (g := g) (w := w) hu
      rw [if_neg (by omega), if_neg (by omega)] at h0
      by_cases hgw : g = w
      · rw [if_pos hgw] at h0; omega
      · rw [if_neg hgw, if_neg (by omega)] at h0
        by_cases h9 : 999 < q.1 g.toNat + wtF rule q.2.1 k g w
        · rw [if_pos h9] at h0; omega
        · by_cases hh : j = g.toNat
          · subst hh; rw [za_s]; omega
          · rw [za_n _ _ hh]; omega
    · exact lwF_b h3.1 h.1 j
    · exact lwF_b (by decide) (lwF_b (by decide) (lwF_b (by decide) h.1)) j
    · exact ngF_b h.1 j
    · exact thD_b h.1 j
  · exact h
/-- words done one behind another: the first that can not be, why, the first behind which a roof fell, the snow -/
def hldS (c : Nat) (roof rule : Nat → Int) : List (Int × Int × Int) → Int → Int → zSt → Int × Int × Int × zSt
  | [], _, ff, q => (-6, -6, ff, q)
  | x :: ws, i, ff, q => if hinF c q.1 rule q.2.1 x.1 x.2.1 x.2.2 = 0 then hldS c roof rule ws (i + 1) (if ff = -6 ∧ (telS c roof rule x.1 x.2.1 x.2.2 q).2.2.2.1 ≠ q.2.2.2.1 then i else ff) (telS c roof rule x.1 x.2.1 x.2.2 q) else (i, hinF c q.1 rule q.2.1 x.1 x.2.1 x.2.2, ff, q)
def okW (c : Nat) (ws : List (Int × Int × Int)) : Prop := ∀ q ∈ ws, (0 ≤ q.1 ∧ q.1 ≤ 5) ∧ (0 ≤ q.2.1 ∧ q.2.1 < (c : Int)) ∧ (0 ≤ q.2.2 ∧ q.2.2 < (c : Int))
/-- rows of the trial's street that a talk may change, and the talk's own -/
def hdP (c : Nat) (ws : List (Int × Int × Int)) (V : zE) (x : Int) (V' : zE) : Prop :=
  x = (hldS c (V 11) (V 12) ws 0 (-6) (vw 9 V)).1 ∧ V' 18 = za (za (V 18) 6 (hldS c (V 11) (V 12) ws 0 (-6) (vw 9 V)).2.1) 7 (hldS c (V 11) (V 12) ws 0 (-6) (vw 9 V)).2.2.1 ∧ vw 9 V' = (hldS c (V 11) (V 12) ws 0 (-6) (vw 9 V)).2.2.2 ∧ V' 9 0 = V 9 0 ∧ V' 9 8 = V 9 8 ∧ ∀ k, k ≠ 18 → k ≠ 9 → k ≠ 10 → k ≠ 13 → k ≠ 14 → V' k = V k
theorem hold_end {c : Nat} {ws us : List (Int × Int × Int)} {u : Int × Int × Int} {i : Nat} {ff : Int} {V V' V1 : zE} {S : zH} {Rf : zG} (hpr : hldS c (V 11) (V 12) ws 0 (-6) (vw 9 V) = hldS c (V 11) (V 12) (u :: us) i ff (vw 9 V')) (h0 : ¬ hinF c (V' 10) (V 12) (V' 13) u.1 u.2.1 u.2.2 = 0)
    (h18 : V1 18 = za (za (V 18) 6 (hinF c (V' 10) (V 12) (V' 13) u.1 u.2.1 u.2.2)) 7 ff) (ho1 : ∀ k, k ≠ 18 → V1 k = V' k) (h90 : V' 9 0 = V 9 0) (h98 : V' 9 8 = V 9 8) (ho : ∀ k, k ≠ 18 → k ≠ 9 → k ≠ 10 → k ≠ 13 → k ≠ 14 → V' k = V k) : qPI S Rf (hdP c ws V) (some (zI (i : Int))) S Rf V1 := by
  rw [hldS, if_neg h0] at hpr
  refine ⟨_, rfl, rfl, rfl, by rw [hpr], by rw [hpr]; exact h18, ?_, by rw [ho1 9 (by decide)]; exact h90, by rw [ho1 9 (by decide)]; exact h98, fun k a1 a2 a3 a4 a5 => by rw [ho1 k a1]; exact ho k a1 a2 a3 a4 a5⟩
  rw [hpr]
  simp only [vw]; rw [ho1 9 (by decide), ho1 (9 + 1) (by decide), ho1 (9 + 4) (by decide), ho1 (9 + 5) (by decide)]
theorem ct_holdOn {n : Nat} {S : zH} {Rf : zG} {V : zE} {c : Nat} {ws : List (Int × Int × Int)} (hL : Lay S Rf) (hc : V 9 0 = (c : Int)) (h2 : 2 ≤ c) (h8 : c ≤ 8) (hq : sGd (vw 9 V)) (hf : ∀ j, 0 ≤ V 11 j ∧ V 11 j ≤ 999) (hu : ∀ j, 0 ≤ V 12 j ∧ V 12 j ≤ 9) (hw : V 18 2 = (ws.length : Int)) (hw60 : ws.length ≤ 60) (hh : hasW V ws) (hok : okW c ws) :
    Cpi 6 mX5_holdOn [zR 18, zR 9] n S Rf V (hdP c ws V) := by
  refine ct_of (by decide) rfl (Nat.le_of_ble_eq_true rfl) ?_
  have loop : ∀ (us : List (Int × Int × Int)) (i : Nat) (ff : Int) (V' : zE), (∀ j, us[j]? = ws[i + j]?) → i + us.length = ws.length → hldS c (V 11) (V 12) ws 0 (-6) (vw 9 V) = hldS c (V 11) (V 12) us i ff (vw 9 V') → sGd (vw 9 V') → (-6 ≤ ff ∧ ff ≤ 100) → V' 18 = za (za (V 18) 6 (-6)) 7 ff → V' 9 0 = V 9 0 → V' 9 8 = V 9 8 → (∀ k, k ≠ 18 → k ≠ 9 → k ≠ 10 → k ≠ 13 → k ≠ 14 → V' k = V k) → Wa zXn mX5_holdOn (zrm 6 0 0) (zZm (qPI S Rf (hdP c ws V)) (n + 0) 0 0) 0 0 n S 14 [some (zR 18), some (zR 9), some (zI (i : Int)), none, none] [] Rf V' := by
    intro us
    induction us with
    | nil =>
      intro i ff V' hus hi hpr hg hff h18 h90 h98 ho
      have e2 : V' 18 2 = (ws.length : Int) := by rw [h18, za_n _ _ (by decide), za_n _ _ (by decide)]; exact hw
      have hi' : i = ws.length := by simpa using hi
      refine wa_ild2 dX5_holdOn_14 ?_
      refine wa_ald0 dX5_holdOn_15 ?_
      refine gX5_28 dX5_holdOn_16 rfl (by first | assumption | exact hL.1 _ (by decide)) ?_
      refine wa_icmp_ge 98 dX5_holdOn_19 (by decide) (by omega) (by omega) (fun c19 => ?_) (fun c19 => ?_)
      · refine wa_bipush dX5_holdOn_98 (by decide) ?_
        exact wa_ireturn dX5_holdOn_100 rfl rfl (Nat.le_refl _) (by exact ⟨_, rfl, rfl, rfl, by rw [hpr]; rfl, by rw [hpr, h18]; rfl, by rw [hpr]; rfl, h90, h98, ho⟩)
      · exact absurd c19 (by omega)
    | cons u us ih =>
      intro i ff V' hus hi hpr hg hff h18 h90 h98 ho
      have e2 : V' 18 2 = (ws.length : Int) := by rw [h18, za_n _ _ (by decide), za_n _ _ (by decide)]; exact hw
      have e7 : V' 18 7 = ff := by rw [h18, za_s]
      have hil : i < ws.length := by simp at hi; omega
      have hu0 : ws[i]? = some u := by rw [← Nat.add_zero i, ← hus 0]; rfl
      have e20 := ho 20 (by decide) (by decide) (by decide) (by decide) (by decide)
      have e21 := ho 21 (by decide) (by decide) (by decide) (by decide) (by decide)
      have e22 := ho 22 (by decide) (by decide) (by decide) (by decide) (by decide)
      have e11 := ho 11 (by decide) (by decide) (by decide) (by decide) (by decide)
      have e12 := ho 12 (by decide) (by decide) (by decide) (by decide) (by decide)
      obtain ⟨w1, w2, w3⟩ := hh i u hu0
      obtain ⟨k1, k2, k3⟩ := hok u (List.mem_of_getElem? hu0)
      have hT := ct_tell (n := n) (S := S) (Rf := Rf) (V := V') (r := 9) (c := c) (k := u.1) (g := u.2.1) (w := u.2.2) hL.s9 (h90.trans hc) h2 h8 k1 k2 k3 (fun j => by have := hg.1 j; dsimp only at this; omega) (fun j => by rw [e11]; have := hf j; omega) (fun j => by rw [e12]; exact hu j) (fun j => hg.2.1 j)
      have hin := hinF_rg (c := c) (d := V' 10) (rule := V' 12) (said := V' 13) (k := u.1) (g := u.2.1) (w := u.2.2)
      have hvt := vw_tel (r := 9) (c := c) (k := u.1) (g := u.2.1) (w := u.2.2) (V := V')
      have hgt := telS_g (c := c) (roof := V' 11) (rule := V' 12) (k := u.1) (g := u.2.1) (w := u.2.2) (q := vw 9 V') k1 (fun j => by rw [e12]; exact hu j) hg
      rw [← hvt] at hgt
      have ht3 := hgt.2.2
      have hv3 := hg.2.2
      dsimp only at ht3 hv3
      have e18t := telV_o (r := 9) (c := c) (k := u.1) (g := u.2.1) (w := u.2.2) (V := V') (a := 18) (by decide) (by decide) (by decide) (by decide)
      have ef : (telS c (V 11) (V 12) u.1 u.2.1 u.2.2 (vw 9 V')).2.2.2.1 = telV 9 c u.1 u.2.1 u.2.2 V' 9 3 := by rw [← e11, ← e12, ← hvt]
      have hst : ∀ (V1 : zE), hinF c (V' 10) (V' 12) (V' 13) u.1 u.2.1 u.2.2 = 0 → (∀ k, k ≠ 18 → V1 k = telV 9 c u.1 u.2.1 u.2.2 V' k) → V1 18 = za (za (V 18) 6 (-6)) 7 (V1 18 7) → V1 18 7 = (if ff = -6 ∧ telV 9 c u.1 u.2.1 u.2.2 V' 9 3 ≠ V' 9 3 then (i : Int) else ff) → Wa zXn mX5_holdOn (zrm 6 0 0) (zZm (qPI S Rf (hdP c ws V)) (n + 0) 0 0) 0 0 n S 14 [some (zR 18), some (zR 9), some (zI ((i : Int) + 1)), none, none] [] Rf V1 := by
        intro V1 h0 ho1 h181 hff'
        generalize V1 18 7 = ff' at h181 hff'
        have hvw : vw 9 V1 = vw 9 (telV 9 c u.1 u.2.1 u.2.2 V') := by simp only [vw]; rw [ho1 9 (by decide), ho1 (9 + 1) (by decide), ho1 (9 + 4) (by decide), ho1 (9 + 5) (by decide)]
        rw [show (i : Int) + 1 = ((i + 1 : Nat) : Int) by omega]
        refine ih (i + 1) ff' V1 (fun j => ?_) (by simp at hi; omega) ?_ (by rw [hvw]; exact hgt) (by rw [hff']; split <;> omega) h181 ?_ ?_ (fun k a1 a2 a3 a4 a5 => ?_)
        · have := hus (j + 1); rw [List.getElem?_cons_succ] at this; rw [this]; congr 1; omega
        · rw [hpr, hldS, if_pos (by rw [← e12]; exact h0), hvw, hvt, e11, e12, hff', ← ef]
          rfl
        · rw [ho1 9 (by decide), telV_r (by decide) (by decide)]; exact h90
        · rw [ho1 9 (by decide), telV_r (by decide) (by decide)]; exact h98
        · rw [ho1 k a1, telV_o a2 a3 a4 a5]; exact ho k a1 a2 a3 a4 a5
      refine wa_ild2 dX5_holdOn_14 ?_
      refine wa_ald0 dX5_holdOn_15 ?_
      refine gX5_28 dX5_holdOn_16 rfl (by first | assumption | exact hL.1 _ (by decide)) ?_
      refine wa_icmp_ge 98 dX5_holdOn_19 (by decide) (by first | omega | (rw [e18t]; omega)) (by first | omega | (rw [e18t]; omega)) (fun c19 => ?_) (fun c19 => ?_)
      · exact absurd c19 (by omega)
      · refine wa_ild2 dX5_holdOn_22 ?_
        refine wa_bipush dX5_holdOn_23 (by decide) ?_
        refine wa_icmp_ge 98 dX5_holdOn_25 (by decide) (by first | omega | (rw [e18t]; omega)) (by first | omega | (rw [e18t]; omega)) (fun c25 => ?_) (fun c25 => ?_)
        · exact absurd c25 (by omega)
        · refine wa_ald1 dX5_holdOn_28 ?_
          refine gX5_52 dX5_holdOn_29 rfl (by first | assumption | exact hL.1 _ (by decide)) ?_
          refine wa_ist3 dX5_holdOn_32 (by decide) rfl ?_
          refine wa_ald1 dX5_holdOn_33 ?_
          refine wa_ald0 dX5_holdOn_34 ?_
          refine gX5_15 dX5_holdOn_35 rfl (by first | assumption | exact hL.1 _ (by decide)) (by first | assumption | exact hL.2 _ _ (by decide)) ?_
          refine wa_ild2 dX5_holdOn_38 ?_
          refine wa_iaload dX5_holdOn_39 (by first | assumption | exact hL.1 _ (by decide)) (by first | omega | (rw [e18t]; omega)) (by first | decide | omega) ?_
          refine wa_ald0 dX5_holdOn_40 ?_
          refine gX5_18 dX5_holdOn_41 rfl (by first | assumption | exact hL.1 _ (by decide)) (by first | assumption | exact hL.2 _ _ (by decide)) ?_
          refine wa_ild2 dX5_holdOn_44 ?_
          refine wa_iaload dX5_holdOn_45 (by first | assumption | exact hL.1 _ (by decide)) (by first | omega | (rw [e18t]; omega)) (by first | decide | omega) ?_
          refine wa_ald0 dX5_holdOn_46 ?_
          refine gX5_21 dX5_holdOn_47 rfl (by first | assumption | exact hL.1 _ (by decide)) (by first | assumption | exact hL.2 _ _ (by decide)) ?_
          refine wa_ild2 dX5_holdOn_50 ?_
          refine wa_iaload dX5_holdOn_51 (by first | assumption | exact hL.1 _ (by decide)) (by first | omega | (rw [e18t]; omega)) (by first | decide | omega) ?_
          simp only [Int.toNat_natCast, e20, e21, e22, w1, w2, w3]
          refine kX5_57 dX5_holdOn_52 rfl (by first | assumption | exact hL.1 _ (by decide)) (hT) (by decide) (Nat.le_of_ble_eq_true rfl) ⟨Nat.le_refl _, Nat.le_refl _⟩ (zdI ?_)
          simp only [Nat.reduceAdd]
          refine wa_ist4 dX5_holdOn_55 (by decide) rfl ?_
          refine wa_ild4 dX5_holdOn_57 ?_
          refine wa_if_eq 70 dX5_holdOn_59 (by decide) (by first | omega | (rw [e18t]; omega)) (fun c59 => ?_) (fun c59 => ?_)
          · refine wa_ald0 dX5_holdOn_70 ?_
            refine gX5_34 dX5_holdOn_71 rfl (by first | assumption | exact hL.1 _ (by decide)) ?_
            refine wa_bipush dX5_holdOn_74 (by decide) ?_
            refine wa_icmp_ne 92 dX5_holdOn_76 (by decide) (by first | omega | (rw [e18t]; omega)) (by first | omega | (rw [e18t]; omega)) (fun c76 => ?_) (fun c76 => ?_)
            · try rw [e18t, e7] at c76
              refine wa_iinc2 dX5_holdOn_92 (by decide) rfl ?_
              refine wa_goto 14 dX5_holdOn_95 (by decide) ?_
              refine wa_drop3 (wa_drop4 ?_)
              refine hst _ c59 (fun k hk => ?_) ?_ ?_
              · first | rfl | rw [zp_n _ _ hk]
              · first | (rw [zp_s, e18t, h18, za_za, za_s]) | (rw [e18t, h18, za_s])
              · first | (rw [zp_s, za_s, if_pos (by omega)]) | (rw [e18t, e7, if_neg (by omega)])
            · refine wa_ald1 dX5_holdOn_79 ?_
              refine gX5_52 dX5_holdOn_80 rfl (by first | assumption | exact hL.1 _ (by decide)) ?_
              refine wa_ild3 dX5_holdOn_83 ?_
              refine wa_icmp_eq 92 dX5_holdOn_84 (by decide) (by first | omega | (rw [e18t]; omega)) (by first | omega | (rw [e18t]; omega)) (fun c84 => ?_) (fun c84 => ?_)
              · try rw [e18t, e7] at c76
                refine wa_iinc2 dX5_holdOn_92 (by decide) rfl ?_
                refine wa_goto 14 dX5_holdOn_95 (by decide) ?_
                refine wa_drop3 (wa_drop4 ?_)
                refine hst _ c59 (fun k hk => ?_) ?_ ?_
                · first | rfl | rw [zp_n _ _ hk]
                · first | (rw [zp_s, e18t, h18, za_za, za_s]) | (rw [e18t, h18, za_s])
                · first | (rw [zp_s, za_s, if_pos (by omega)]) | (rw [e18t, e7, if_neg (by omega)])
              · refine wa_ald0 dX5_holdOn_87 ?_
                refine wa_ild2 dX5_holdOn_88 ?_
                refine pX5_34 dX5_holdOn_89 rfl (by first | assumption | exact hL.1 _ (by decide)) ?_
                try rw [e18t, e7] at c76
                refine wa_iinc2 dX5_holdOn_92 (by decide) rfl ?_
                refine wa_goto 14 dX5_holdOn_95 (by decide) ?_
                refine wa_drop3 (wa_drop4 ?_)
                refine hst _ c59 (fun k hk => ?_) ?_ ?_
                · first | rfl | rw [zp_n _ _ hk]
                · first | (rw [zp_s, e18t, h18, za_za, za_s]) | (rw [e18t, h18, za_s])
                · first | (rw [zp_s, za_s, if_pos (by omega)]) | (rw [e18t, e7, if_neg (by omega)])
          · refine wa_ald0 dX5_holdOn_62 ?_
            refine wa_ild4 dX5_holdOn_63 ?_
            refine pX5_31 dX5_holdOn_65 rfl (by first | assumption | exact hL.1 _ (by decide)) ?_
            refine wa_ild2 dX5_holdOn_68 ?_
            exact wa_ireturn dX5_holdOn_69 rfl rfl (Nat.le_refl _) (by exact hold_end hpr (by rw [← e12]; exact c59) (by rw [zp_s, show telV 9 c u.1 u.2.1 u.2.2 V' = V' by unfold telV; rw [if_neg c59], h18, e12]; funext j; simp only [za]; (repeat' split) <;> first | rfl | (exfalso; omega)) (fun k hk => by rw [zp_n _ _ hk]; unfold telV; rw [if_neg c59]) h90 h98 ho)
  refine wa_ald0 dX5_holdOn_0 ?_
  refine wa_bipush dX5_holdOn_1 (by decide) ?_
  refine pX5_31 dX5_holdOn_3 rfl (by first | assumption | exact hL.1 _ (by decide)) ?_
  refine wa_ald0 dX5_holdOn_6 ?_
  refine wa_bipush dX5_holdOn_7 (by decide) ?_
  refine pX5_34 dX5_holdOn_9 rfl (by first | assumption | exact hL.1 _ (by decide)) ?_
  refine wa_iconst dX5_holdOn_12 ?_
  refine wa_ist2 dX5_holdOn_13 (by decide) rfl ?_
  refine loop ws 0 (-6) _ (fun j => by rw [Nat.zero_add]) (by omega) ?_ ?_ (by decide) ?_ rfl rfl (fun k a1 _ _ _ _ => ?_)
  · rfl
  · exact hq
  · simp [zp_s, zp_zp]
  · rw [zp_n _ _ a1, zp_n _ _ a1]
