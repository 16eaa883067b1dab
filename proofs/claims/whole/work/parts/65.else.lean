/-! the reference: elsewhere -/
def otF (s : Nat → Int) (k : Nat) (g : Int) : Nat → Int
  | 0 => 0
  | m + 1 => otF s k g m + (if m ≠ k ∧ s m = g then 1 else 0)
def anF (s : Nat → Int) (g : Int) : Nat → Int
  | 0 => 0
  | m + 1 => anF s g m + (if s m = g then 1 else 0)
theorem otF_b {s : Nat → Int} {k : Nat} {g : Int} : ∀ m : Nat, 0 ≤ otF s k g m ∧ otF s k g m ≤ m := by
  intro m
  induction m with
  | zero => exact ⟨Int.le_refl _, Int.le_refl _⟩
  | succ m ih => rw [otF]; split <;> omega
theorem anF_b {s : Nat → Int} {g : Int} : ∀ m : Nat, 0 ≤ anF s g m ∧ anF s g m ≤ m := by
  intro m
  induction m with
  | zero => exact ⟨Int.le_refl _, Int.le_refl _⟩
  | succ m ih => rw [anF]; split <;> omega
theorem otF_c {s s' : Nat → Int} {k : Nat} {g : Int} : ∀ m : Nat, (∀ j, j < m → j ≠ k → s j = s' j) → otF s k g m = otF s' k g m := by
  intro m
  induction m with
  | zero => intro _; rfl
  | succ m ih =>
    intro h
    rw [otF, otF, ih (fun j a b => h j (by omega) b)]
    by_cases hk : m = k
    · rw [if_neg (fun q => q.1 hk), if_neg (fun q => q.1 hk)]
    · rw [h m (by omega) hk]
theorem anF_c {s s' : Nat → Int} {g : Int} : ∀ m : Nat, (∀ j, j < m → s j = s' j) → anF s g m = anF s' g m := by
  intro m
  induction m with
  | zero => intro _; rfl
  | succ m ih =>
    intro h
    rw [anF, anF, ih (fun j a => h j (by omega)), h m (by omega)]
theorem an_ot0 {s : Nat → Int} {k : Nat} {g : Int} : ∀ m : Nat, m ≤ k → anF s g m = otF s k g m := by
  intro m
  induction m with
  | zero => intro _; rfl
  | succ m ih =>
    intro h
    rw [anF, otF, ih (by omega)]
    by_cases hs : s m = g
    · rw [if_pos hs, if_pos ⟨by omega, hs⟩]
    · rw [if_neg hs, if_neg (fun q => hs q.2)]
theorem an_ot {s : Nat → Int} {k : Nat} {g : Int} : ∀ m : Nat, k < m → anF s g m = otF s k g m + (if s k = g then 1 else 0) := by
  intro m
  induction m with
  | zero => intro h; omega
  | succ m ih =>
    intro h
    rw [anF, otF]
    by_cases hk : m = k
    · subst hk
      rw [an_ot0 m (Nat.le_refl _), if_neg (fun q : m ≠ m ∧ s m = g => q.1 rfl)]; omega
    · rw [ih (by omega)]
      by_cases hs : s m = g
      · rw [if_pos hs, if_pos (show m ≠ k ∧ s m = g from ⟨hk, hs⟩)]; omega
      · rw [if_neg hs, if_neg (fun q : m ≠ k ∧ s m = g => hs q.2)]; omega
/-- the reference looks for a better garden -/
def scF (x : Nat → Int) (own : Nat) (fr : Int) : Nat → Int
  | 0 => fr
  | m + 1 => if m ≠ own ∧ x m < x (scF x own fr m).toNat then (m : Int) else scF x own fr m
theorem scF_b {x : Nat → Int} {own c : Nat} {fr : Int} (hf : 0 ≤ fr ∧ fr < c) : ∀ m : Nat, m ≤ c → 0 ≤ scF x own fr m ∧ scF x own fr m < c := by
  intro m
  induction m with
  | zero => intro _; exact hf
  | succ m ih => intro h; rw [scF]; split; omega; exact ih (by omega)
theorem sc_em0 {x : Nat → Int} {own : Nat} {fr : Int} : ∀ m : Nat, (scF x own fr m = fr ∧ ∀ q, q < m → q ≠ own → x fr.toNat ≤ x q) ∨ (scF x own fr m = (emF x own m : Nat) ∧ x (emF x own m) < x fr.toNat ∧ emF x own m < m) := by
  intro m
  induction m with
  | zero => exact Or.inl ⟨rfl, fun q h => absurd h (by omega)⟩
  | succ m ih =>
    rw [scF, emF]
    by_cases ho : m = own
    · rw [if_neg (fun q => q.1 ho), if_neg (fun q => q.1 ho)]
      rcases ih with ⟨h1, h2⟩ | ⟨h1, h2, h3⟩
      · exact Or.inl ⟨h1, fun q a b => h2 q (by omega) b⟩
      · exact Or.inr ⟨h1, h2, by omega⟩
    · rcases ih with ⟨h1, h2⟩ | ⟨h1, h2, h3⟩
      · rw [h1]
        by_cases hx : x m < x fr.toNat
        · rw [if_pos ⟨ho, hx⟩]
          right
          by_cases he : emF x own m < m ∧ emF x own m ≠ own
          · have := h2 _ he.1 he.2
            rw [if_pos ⟨ho, by omega⟩]
            exact ⟨rfl, hx, by omega⟩
          · have hem : emF x own m = m := by
              have hw : ∀ q, q ≤ m → (emF x own q < q ∧ emF x own q ≠ own) ∨ emF x own q = (if own = 0 then 1 else 0) := by
                intro q
                induction q with
                | zero => intro _; right; rfl
                | succ q ihq =>
                  intro hq
                  rw [emF]
                  split
                  · next h => left; exact ⟨by omega, h.1⟩
                  · rcases ihq (by omega) with h | h
                    · left; exact ⟨by omega, h.2⟩
                    · right; exact h
              rcases hw m (Nat.le_refl _) with h | h
              · exact absurd h he
              · rw [h] at he ⊢
                by_cases h0 : own = 0
                · rw [if_pos h0] at he ⊢; omega
                · rw [if_neg h0] at he ⊢; omega
            rw [hem, if_neg (fun q : m ≠ own ∧ x m < x m => absurd q.2 (Int.lt_irrefl _))]
            exact ⟨rfl, hx, by omega⟩
        · rw [if_neg (fun q => hx q.2)]
          left
          refine ⟨rfl, fun q a b => ?_⟩
          by_cases hq : q = m
          · subst hq; omega
          · exact h2 q (by omega) b
      · rw [h1, Int.toNat_natCast]
        by_cases hx : x m < x (emF x own m)
        · rw [if_pos ⟨ho, hx⟩, if_pos ⟨ho, hx⟩]
          exact Or.inr ⟨rfl, by omega, by omega⟩
        · rw [if_neg (fun q => hx q.2), if_neg (fun q => hx q.2)]
          exact Or.inr ⟨rfl, h2, by omega⟩
theorem em_ne {x : Nat → Int} {own : Nat} : ∀ m : Nat, emF x own m ≠ own := by
  intro m
  induction m with
  | zero => rw [emF]; split <;> omega
  | succ m ih =>
    rw [emF]
    split
    · next h => exact h.1
    · exact ih
theorem sc_em {x : Nat → Int} {own c : Nat} {fr : Int} (h2 : 2 ≤ c) : scF x own fr c = if x fr.toNat ≤ x (emF x own c) then fr else ((emF x own c : Nat) : Int) := by
  rcases sc_em0 (x := x) (own := own) (fr := fr) c with ⟨a, b⟩ | ⟨a, b, d⟩
  · rw [if_pos (b _ (emF_lt h2 (Nat.le_refl _)) (em_ne c))]; exact a
  · rw [if_neg (by omega)]; exact a
abbrev zLq : Type := (Nat → Int) × (Nat → Int) × Bool
def elI (c : Nat) (q : zLq) : Prop := (∀ j, j < c → 0 ≤ q.1 j ∧ q.1 j < c) ∧ ∀ j : Nat, q.2.1 j = anF q.1 (j : Int) c
theorem gs_x {c i : Nat} {q : zLq} (hq : elI c q) (hi : i < c) : za q.2.1 (q.1 i).toNat (q.2.1 (q.1 i).toNat - 1) = fun j : Nat => otF q.1 i (j : Int) c := by
  funext j
  have h1 := an_ot (s := q.1) (k := i) (g := (j : Int)) c hi
  have h2 := hq.1 i hi
  by_cases hj : j = (q.1 i).toNat
  · rw [hj, za_s, hq.2, ← hj, h1, if_pos (by omega)]; omega
  · rw [za_n _ _ hj, hq.2, h1, if_neg (by omega)]; omega
theorem gs_s {c i : Nat} {q : zLq} (h2 : 2 ≤ c) (hq : elI c q) (hi : i < c) : (gsS c i q).1 = za q.1 i (scF (fun j : Nat => otF q.1 i (j : Int) c) i (q.1 i) c) ∧ (gsS c i q).2.2 = (q.2.2 || decide (scF (fun j : Nat => otF q.1 i (j : Int) c) i (q.1 i) c ≠ q.1 i)) ∧ elI c (gsS c i q) := by
  have hx := gs_x hq hi
  have hb := scF_b (x := fun j : Nat => otF q.1 i (j : Int) c) (own := i) (hq.1 i hi) c (Nat.le_refl _)
  have he := sc_em (x := fun j : Nat => otF q.1 i (j : Int) c) (own := i) (fr := q.1 i) h2
  generalize hto : scF (fun j : Nat => otF q.1 i (j : Int) c) i (q.1 i) c = to at hb he
  have hg : gsS c i q = (za q.1 i to, za (fun j : Nat => otF q.1 i (j : Int) c) to.toNat (otF q.1 i ((to.toNat : Nat) : Int) c + 1), q.2.2 || decide (to ≠ q.1 i)) := by
    unfold gsS
    dsimp only
    rw [hx, ← he]
  rw [hg]
  refine ⟨rfl, rfl, fun j hj => ?_, fun j => ?_⟩
  · dsimp only
    by_cases h : j = i
    · rw [h, za_s]; exact hb
    · rw [za_n _ _ h]; exact hq.1 j hj
  · dsimp only
    have h1 := an_ot (s := za q.1 i to) (k := i) (g := (j : Int)) c hi
    rw [za_s, otF_c (s' := q.1) c (fun k _ hk => za_n _ _ hk)] at h1
    rw [h1]
    by_cases hj : j = to.toNat
    · rw [hj, za_s, if_pos (by omega)]
    · rw [za_n _ _ hj, if_neg (by omega)]; omega
theorem el_rg {c : Nat} {q : zLq} (h2 : 2 ≤ c) (hq : elI c q) : ∀ m, m ≤ c → elI c (rgF (gsS c) m q) := by
  intro m
  induction m with
  | zero => intro _; exact hq
  | succ m ih => intro h; rw [rgF]; exact (gs_s h2 (ih (by omega)) (by omega)).2.2
theorem cn0_an {c : Nat} (h2 : 2 ≤ c) : ∀ m, m ≤ c → ∀ j : Nat, cn0 c m j = anF (st0 c) (j : Int) m := by
  intro m
  induction m with
  | zero => intro _ j; rfl
  | succ m ih =>
    intro hm j
    have hs : 0 ≤ st0 c m := by unfold st0; split <;> omega
    rw [cn0, anF]
    by_cases hj : j = (st0 c m).toNat
    · rw [hj, za_s, ih (by omega), ← hj, if_pos (by omega)]
    · rw [za_n _ _ hj, ih (by omega), if_neg (by omega)]; omega
theorem cm_others {n c k : Nat} {S : zH} {Rf : zG} {V : zE} {g : Int} (hL : Lay S Rf) (hc : V 37 0 = (c : Int)) (h8 : c ≤ 8) (hk : k < c) (hg : 0 ≤ g ∧ g < c) (hs : ∀ j, j < c → 0 ≤ V 52 j ∧ V 52 j < c) : Ci 1 mX7_others [zR 37, zI (k : Int), zI g] n S Rf V (otF (V 52) k g c) V := by
  refine ct_of (by decide) rfl (Nat.le_of_ble_eq_true rfl) ?_
  have loop : ∀ (m i : Nat), i + m = c → Wa zXn mX7_others (zrm 1 0 0) (zZm (qI (otF (V 52) k g c) S Rf V) (n + 0) 0 0) 0 0 n S 5 [some (zR 37), some (zI (k : Int)), some (zI g), some (zI (otF (V 52) k g i)), some (zI (i : Int))] [] Rf V := by
    intro m
    induction m with
    | zero =>
      intro i hi
      obtain rfl : c = i := by omega
      refine wa_ild4 dX7_others_5 ?_
      refine wa_ald0 dX7_others_7 ?_
      refine gX7_7 dX7_others_8 rfl (by first | assumption | exact hL.1 _ (by decide)) ?_
      refine wa_icmp_ge 45 dX7_others_11 (by decide) (by omega) (by omega) (fun c11 => ?_) (fun c11 => ?_)
      · refine wa_ild3 dX7_others_45 ?_
        exact wa_ireturn dX7_others_46 rfl rfl (Nat.le_refl _) (by exact ⟨rfl, rfl, rfl, rfl⟩)
      · exact absurd c11 (by omega)
    | succ m ih =>
      intro i hi
      have e1 := ih (i + 1) (by omega)
      have hsi := hs i (by omega)
      rw [otF] at e1
      refine wa_ild4 dX7_others_5 ?_
      refine wa_ald0 dX7_others_7 ?_
      refine gX7_7 dX7_others_8 rfl (by first | assumption | exact hL.1 _ (by decide)) ?_
      refine wa_icmp_ge 45 dX7_others_11 (by decide) (by first | omega | (simp only [Int.toNat_natCast]; omega)) (by first | omega | (simp only [Int.toNat_natCast]; omega)) (fun c11 => ?_) (fun c11 => ?_)
      · exact absurd c11 (by omega)
      · refine wa_ild3 dX7_others_14 ?_
        refine wa_ild4 dX7_others_15 ?_
        refine wa_ild1 dX7_others_17 ?_
        refine wa_icmp_eq 36 dX7_others_18 (by decide) (by first | omega | (simp only [Int.toNat_natCast]; omega)) (by first | omega | (simp only [Int.toNat_natCast]; omega)) (fun c18 => ?_) (fun c18 => ?_)
        · refine wa_iconst dX7_others_36 ?_
          refine wa_iadd dX7_others_37 ?_
          refine wa_ist3 dX7_others_38 (by decide) rfl ?_
          refine wa_iinc4 dX7_others_39 (by decide) rfl ?_
          refine wa_goto 5 dX7_others_42 (by decide) ?_
          try simp only [Int.toNat_natCast] at c29
          first | rw [if_pos (by omega)] at e1 | rw [if_neg (by omega)] at e1
          exact e1
        · refine wa_ald0 dX7_others_21 ?_
          refine gX7_69 dX7_others_22 rfl (by first | assumption | exact hL.1 _ (by decide)) (by first | assumption | exact hL.2 _ _ (by decide)) ?_
          refine wa_ild4 dX7_others_25 ?_
          refine wa_iaload dX7_others_27 (by first | assumption | exact hL.1 _ (by decide)) (by first | omega | (simp only [Int.toNat_natCast]; omega)) (by first | decide | omega) ?_
          refine wa_ild2 dX7_others_28 ?_
          refine wa_icmp_ne 36 dX7_others_29 (by decide) (by first | omega | (simp only [Int.toNat_natCast]; omega)) (by first | omega | (simp only [Int.toNat_natCast]; omega)) (fun c29 => ?_) (fun c29 => ?_)
          · refine wa_iconst dX7_others_36 ?_
            refine wa_iadd dX7_others_37 ?_
            refine wa_ist3 dX7_others_38 (by decide) rfl ?_
            refine wa_iinc4 dX7_others_39 (by decide) rfl ?_
            refine wa_goto 5 dX7_others_42 (by decide) ?_
            try simp only [Int.toNat_natCast] at c29
            first | rw [if_pos (by omega)] at e1 | rw [if_neg (by omega)] at e1
            exact e1
          · refine wa_iconst dX7_others_32 ?_
            refine wa_goto 37 dX7_others_33 (by decide) ?_
            refine wa_iadd dX7_others_37 ?_
            refine wa_ist3 dX7_others_38 (by decide) rfl ?_
            refine wa_iinc4 dX7_others_39 (by decide) rfl ?_
            refine wa_goto 5 dX7_others_42 (by decide) ?_
            try simp only [Int.toNat_natCast] at c29
            first | rw [if_pos (by omega)] at e1 | rw [if_neg (by omega)] at e1
            exact e1
  refine wa_iconst dX7_others_0 ?_
  refine wa_ist3 dX7_others_1 (by decide) rfl ?_
  refine wa_iconst dX7_others_2 ?_
  refine wa_ist4 dX7_others_3 (by decide) rfl ?_
  exact loop c 0 (by omega)
theorem cm_elsewhere {n c k len : Nat} {S : zH} {Rf : zG} {W V : zE} {F g : Int} {s : Nat → Int} (hL : Lay S Rf) (hI : CI c k len F W) (hR : RI c k len W V) (hg : -2147483648 ≤ g ∧ g ≤ 2147483647) (hs : ∀ j, j < c → s j = st0 c j) : Ct 3 0 0 mX7_elsewhere [zR 37, zI g] n S Rf V (rQ S Rf V (elX c s g)) := by
  obtain ⟨hc, h2, h8, -⟩ := hI
  have r0 := hR.1
  refine ct_of (by decide) rfl (Nat.le_of_ble_eq_true rfl) ?_
  generalize hX : elX c s g = X
  obtain ⟨D, hD⟩ : ∃ D, rdsF c 50 1 (s, cn0 c c) = D := ⟨_, rfl⟩
  have fin : ∀ (m i : Nat) (V1 : zE) (r mo : Int) (t : Nat → Int), i + m = c → (mo = 0 ∨ mo = 1) → (g = -1 ∨ 0 ≤ g ∧ g < c) → (∀ j, j < c → V1 52 j = t j) → (∀ j, j < c → 0 ≤ t j ∧ t j < c) → rfr V V1 → X = (if g < 0 then (if mo = 0 then r else -6) else anF t g c) → Wa zXn mX7_elsewhere (zrm 3 0 0) (zZm (rQ S Rf V X) (n + 0) 0 0) 0 0 n S 202 [some (zR 37), some (zI g), some (zI r), some (zI mo), some (zI (anF t g i)), some (zI (i : Int)), none, none, none] [] Rf V1 := by
    intro m
    induction m with
    | zero =>
      intro i V1 r mo t hi hmo hgc ht htb hf1 hx
      obtain rfl : c = i := by omega
      have hc1 := (hf1.2 0 (by decide)).trans r0
      refine wa_ild5 dX7_elsewhere_202 ?_
      refine wa_ald0 dX7_elsewhere_204 ?_
      refine gX7_7 dX7_elsewhere_205 rfl (by first | assumption | exact hL.1 _ (by decide)) ?_
      refine wa_icmp_ge 238 dX7_elsewhere_208 (by decide) (by omega) (by omega) (fun c208 => ?_) (fun c208 => ?_)
      · refine wa_ild1 dX7_elsewhere_238 ?_
        refine wa_if_lt 247 dX7_elsewhere_239 (by decide) (by omega) (fun c239 => ?_) (fun c239 => ?_)
        · refine wa_ild3 dX7_elsewhere_247 ?_
          refine wa_if_eq 256 dX7_elsewhere_248 (by decide) (by omega) (fun c248 => ?_) (fun c248 => ?_)
          · refine wa_ild2 dX7_elsewhere_256 ?_
            refine wa_ireturn dX7_elsewhere_257 rfl rfl (Nat.le_refl _) ?_
            refine ⟨?_, rfl, rfl, hf1⟩
            rw [hx]
            first
              | rw [if_neg (show ¬ g < 0 by omega)]
              | rw [if_pos (show g < 0 by omega), if_pos (show mo = 0 by omega)]
              | rw [if_pos (show g < 0 by omega), if_neg (show ¬ mo = 0 by omega)]
          · refine wa_bipush dX7_elsewhere_251 (by decide) ?_
            refine wa_goto 257 dX7_elsewhere_253 (by decide) ?_
            refine wa_ireturn dX7_elsewhere_257 rfl rfl (Nat.le_refl _) ?_
            refine ⟨?_, rfl, rfl, hf1⟩
            rw [hx]
            first
              | rw [if_neg (show ¬ g < 0 by omega)]
              | rw [if_pos (show g < 0 by omega), if_pos (show mo = 0 by omega)]
              | rw [if_pos (show g < 0 by omega), if_neg (show ¬ mo = 0 by omega)]
        · refine wa_ild4 dX7_elsewhere_242 ?_
          refine wa_goto 257 dX7_elsewhere_244 (by decide) ?_
          refine wa_ireturn dX7_elsewhere_257 rfl rfl (Nat.le_refl _) ?_
          refine ⟨?_, rfl, rfl, hf1⟩
          rw [hx]
          first
            | rw [if_neg (show ¬ g < 0 by omega)]
            | rw [if_pos (show g < 0 by omega), if_pos (show mo = 0 by omega)]
            | rw [if_pos (show g < 0 by omega), if_neg (show ¬ mo = 0 by omega)]
      · exact absurd c208 (by omega)
    | succ m ih =>
      intro i V1 r mo t hi hmo hgc ht htb hf1 hx
      have hc1 := (hf1.2 0 (by decide)).trans r0
      have e1 := ih (i + 1) V1 r mo t (by omega) hmo hgc ht htb hf1 hx
      have hti := ht i (by omega)
      have htb1 := htb i (by omega)
      rw [anF] at e1
      refine wa_ild5 dX7_elsewhere_202 ?_
      refine wa_ald0 dX7_elsewhere_204 ?_
      refine gX7_7 dX7_elsewhere_205 rfl (by first | assumption | exact hL.1 _ (by decide)) ?_
      refine wa_icmp_ge 238 dX7_elsewhere_208 (by decide) (by first | omega | (simp only [Int.toNat_natCast]; omega)) (by first | omega | (simp only [Int.toNat_natCast]; omega)) (fun c208 => ?_) (fun c208 => ?_)
      · exact absurd c208 (by omega)
      · refine wa_ild4 dX7_elsewhere_211 ?_
        refine wa_ald0 dX7_elsewhere_213 ?_
        refine gX7_69 dX7_elsewhere_214 rfl (by first | assumption | exact hL.1 _ (by decide)) (by first | assumption | exact hL.2 _ _ (by decide)) ?_
        refine wa_ild5 dX7_elsewhere_217 ?_
        refine wa_iaload dX7_elsewhere_219 (by first | assumption | exact hL.1 _ (by decide)) (by first | omega | (simp only [Int.toNat_natCast]; omega)) (by first | decide | omega) ?_
        refine wa_ild1 dX7_elsewhere_220 ?_
        refine wa_icmp_ne 228 dX7_elsewhere_221 (by decide) (by first | omega | (simp only [Int.toNat_natCast]; omega)) (by first | omega | (simp only [Int.toNat_natCast]; omega)) (fun c221 => ?_) (fun c221 => ?_)
        · refine wa_iconst dX7_elsewhere_228 ?_
          refine wa_iadd dX7_elsewhere_229 ?_
          refine wa_ist4 dX7_elsewhere_230 (by decide) rfl ?_
          refine wa_iinc5 dX7_elsewhere_232 (by decide) rfl ?_
          refine wa_goto 202 dX7_elsewhere_235 (by decide) ?_
          simp only [Int.toNat_natCast] at c221
          first | rw [if_pos (by omega)] at e1 | rw [if_neg (by omega)] at e1
          exact e1
        · refine wa_iconst dX7_elsewhere_224 ?_
          refine wa_goto 229 dX7_elsewhere_225 (by decide) ?_
          refine wa_iadd dX7_elsewhere_229 ?_
          refine wa_ist4 dX7_elsewhere_230 (by decide) rfl ?_
          refine wa_iinc5 dX7_elsewhere_232 (by decide) rfl ?_
          refine wa_goto 202 dX7_elsewhere_235 (by decide) ?_
          simp only [Int.toNat_natCast] at c221
          first | rw [if_pos (by omega)] at e1 | rw [if_neg (by omega)] at e1
          exact e1
  have fin0 : ∀ (V1 : zE) (r mo : Int) (o4 o5 o6 o7 o8 : Option zV) (t : Nat → Int), zok o4 = true → zok o5 = true → (mo = 0 ∨ mo = 1) → (g = -1 ∨ 0 ≤ g ∧ g < c) → (∀ j, j < c → V1 52 j = t j) → (∀ j, j < c → 0 ≤ t j ∧ t j < c) → rfr V V1 → X = (if g < 0 then (if mo = 0 then r else -6) else anF t g c) → Wa zXn mX7_elsewhere (zrm 3 0 0) (zZm (rQ S Rf V X) (n + 0) 0 0) 0 0 n S 196 [some (zR 37), some (zI g), some (zI r), some (zI mo), o4, o5, o6, o7, o8] [] Rf V1 := by
    intro V1 r mo o4 o5 o6 o7 o8 t ho4 ho5 hmo hgc ht htb hf1 hx
    refine wa_drop8 (wa_drop7 (wa_drop6 (wa_drop5 (wa_drop4 ?_))))
    refine wa_iconst dX7_elsewhere_196 ?_
    refine wa_ist4 dX7_elsewhere_197 (by decide) rfl ?_
    refine wa_iconst dX7_elsewhere_199 ?_
    refine wa_ist5 dX7_elsewhere_200 (by decide) rfl ?_
    exact fin c 0 V1 r mo t (by omega) hmo hgc ht htb hf1 hx
  have loopR : ∀ (f r : Nat) (V1 : zE) (q0 : (Nat → Int) × (Nat → Int)), r + f = 50 → (g = -1 ∨ 0 ≤ g ∧ g < c) → elI c (q0.1, q0.2, false) → (∀ j, j < c → V1 52 j = q0.1 j) → D = rdsF c f ((r : Int) + 1) q0 → rfr V V1 → Wa zXn mX7_elsewhere (zrm 3 0 0) (zZm (rQ S Rf V X) (n + 0) 0 0) 0 0 n S 60 [some (zR 37), some (zI g), some (zI (r : Int)), some (zI 1), none, none, none, none, none] [] Rf V1 := by
    intro f
    induction f with
    | zero =>
      intro r V1 q0 hr hgc hE ht hd hf1
      refine wa_ild3 dX7_elsewhere_60 ?_
      refine wa_if_eq 196 dX7_elsewhere_61 (by decide) (by omega) (fun c61 => absurd c61 (by decide)) (fun c61 => ?_)
      refine wa_ild2 dX7_elsewhere_64 ?_
      refine wa_bipush dX7_elsewhere_65 (by decide) ?_
      refine wa_icmp_ge 196 dX7_elsewhere_67 (by decide) (by omega) (by omega) (fun c67 => ?_) (fun c67 => ?_)
      · refine fin0 V1 _ 1 _ _ _ _ _ q0.1 rfl rfl (Or.inr rfl) hgc ht hE.1 hf1 ?_
        rw [← hX, elX, hD, hd, rdsF]
        by_cases h1 : g = -1
        · rw [if_pos h1, if_pos (by omega), if_neg (by decide)]
        · rw [if_neg h1, if_pos (by omega), if_neg (by omega)]
          have h5 := hE.2 g.toNat
          rw [show ((g.toNat : Nat) : Int) = g by omega] at h5
          exact h5
      · exact absurd c67 (by omega)
    | succ f ihR =>
      intro r V1 q0 hr hgc hE ht hd hf1
      have kl : ∀ (m i : Nat) (V2 : zE) (q : zLq), i + m = c → q = rgF (gsS c) i (q0.1, q0.2, false) → elI c q → (∀ j, j < c → V2 52 j = q.1 j) → rfr V V2 → Wa zXn mX7_elsewhere (zrm 3 0 0) (zZm (rQ S Rf V X) (n + 0) 0 0) 0 0 n S 75 [some (zR 37), some (zI g), some (zI (r : Int)), some (zI (if q.2.2 = true then 1 else 0)), some (zI (i : Int)), none, none, none, none] [] Rf V2 := by
        intro m
        induction m with
        | zero =>
          intro i V2 q hi hq hE2 ht2 hf2
          obtain rfl : c = i := by omega
          have hc2 := (hf2.2 0 (by decide)).trans r0
          rw [rdsF, ← hq] at hd
          by_cases hfl : q.2.2 = true
          · rw [if_pos hfl] at hd ⊢
            refine wa_ild4 dX7_elsewhere_75 ?_
            refine wa_ald0 dX7_elsewhere_77 ?_
            refine gX7_7 dX7_elsewhere_78 rfl (by first | assumption | exact hL.1 _ (by decide)) ?_
            refine wa_icmp_ge 190 dX7_elsewhere_81 (by decide) (by omega) (by omega) (fun c81 => ?_) (fun c81 => ?_)
            · refine wa_iinc2 dX7_elsewhere_190 (by decide) rfl ?_
              refine wa_goto 60 dX7_elsewhere_193 (by decide) ?_
              refine wa_drop4 ?_
              have h5 := ihR (r + 1) V2 (q.1, q.2.1) (by omega) hgc ⟨hE2.1, hE2.2⟩ ht2 (by rw [hd]; rfl) hf2
              exact h5
            · exact absurd c81 (by omega)
          · rw [if_neg hfl] at hd ⊢
            have hx : X = (if g < 0 then (if (0 : Int) = 0 then (r : Int) + 1 else -6) else anF q.1 g c) := by
              rw [← hX, elX, hD, hd]
              by_cases h1 : g = -1
              · rw [if_pos h1, if_pos (by omega), if_pos rfl]
              · rw [if_neg h1, if_pos (by omega), if_neg (by omega)]
                have h5 := hE2.2 g.toNat
                rw [show ((g.toNat : Nat) : Int) = g by omega] at h5
                exact h5
            refine wa_ild4 dX7_elsewhere_75 ?_
            refine wa_ald0 dX7_elsewhere_77 ?_
            refine gX7_7 dX7_elsewhere_78 rfl (by first | assumption | exact hL.1 _ (by decide)) ?_
            refine wa_icmp_ge 190 dX7_elsewhere_81 (by decide) (by omega) (by omega) (fun c81 => ?_) (fun c81 => ?_)
            · refine wa_iinc2 dX7_elsewhere_190 (by decide) rfl ?_
              refine wa_goto 60 dX7_elsewhere_193 (by decide) ?_
              refine wa_ild3 dX7_elsewhere_60 ?_
              refine wa_if_eq 196 dX7_elsewhere_61 (by decide) (by omega) (fun c61 => ?_) (fun c61 => absurd c61 (by decide))
              exact fin0 V2 _ 0 _ _ _ _ _ q.1 rfl rfl (Or.inl rfl) hgc ht2 hE2.1 hf2 hx
            · exact absurd c81 (by omega)
        | succ m ihm =>
          intro i V2 q hi hq hE2 ht2 hf2
          have hi' : i < c := by omega
          have hc2 := (hf2.2 0 (by decide)).trans r0
          obtain ⟨g1, g2, g3⟩ := gs_s h2 hE2 hi'
          have hti := ht2 i hi'
          have hbi := hE2.1 i hi'
          have hb52 : ∀ j, j < c → 0 ≤ V2 52 j ∧ V2 52 j < c := fun j hj => by rw [ht2 j hj]; exact hE2.1 j hj
          generalize hx : (fun j : Nat => otF q.1 i (j : Int) c) = x at g1 g2
          have hxb : ∀ j : Nat, 0 ≤ x j ∧ x j ≤ 8 := fun j => by rw [← hx]; have := otF_b (s := q.1) (k := i) (g := (j : Int)) c; dsimp only; omega
          have hO : ∀ y : Int, 0 ≤ y ∧ y < c → Ci 1 mX7_others [zR 37, zI (i : Int), zI y] n S Rf V2 (x y.toNat) V2 := by
            intro y hy
            have h5 := cm_others (n := n) (k := i) hL hc2 h8 hi' hy hb52
            rw [otF_c (s' := q.1) c (fun j hj _ => ht2 j hj)] at h5
            rw [← hx]
            dsimp only
            rw [show ((y.toNat : Nat) : Int) = y by omega]
            exact h5
          have hsb := fun m => scF_b (x := x) (own := i) hbi m
          have scan : ∀ (m j : Nat) (o8 : Option zV), j + m = c → Wa zXn mX7_elsewhere (zrm 3 0 0) (zZm (rQ S Rf V X) (n + 0) 0 0) 0 0 n S 106 [some (zR 37), some (zI g), some (zI (r : Int)), some (zI (if q.2.2 = true then 1 else 0)), some (zI (i : Int)), some (zI (scF x i (q.1 i) j)), some (zI (x (scF x i (q.1 i) j).toNat)), some (zI (j : Int)), o8] [] Rf V2 := by
            intro m
            induction m with
            | zero =>
              intro j o8 hj
              obtain rfl : c = j := by omega
              have hbc := hsb c (Nat.le_refl _)
              have e2 := ihm (i + 1) (zp V2 52 (za (V2 52) i (scF x i (q.1 i) c))) (gsS c i q) (by omega) (by rw [hq]; rfl) g3 (fun j hj => by rw [zp_s, g1]; by_cases h : j = i; rw [h, za_s, za_s]; rw [za_n _ _ h, za_n _ _ h]; exact ht2 j hj) (hf2.trans ⟨fun k a b => by rw [zp_n _ _ (by omega)], fun j a => by rw [zp_n _ _ (by decide)]⟩)
              rw [g2] at e2
              generalize hsc : scF x i (q.1 i) c = sc at hbc e2 ⊢
              generalize hfl : q.2.2 = fl at e2 ⊢
              refine wa_drop8 ?_
              cases fl
              · simp only [Bool.false_or, decide_eq_true_eq] at e2
                refine wa_ild7 dX7_elsewhere_106 ?_
                refine wa_ald0 dX7_elsewhere_108 ?_
                refine gX7_7 dX7_elsewhere_109 rfl (by first | assumption | exact hL.1 _ (by decide)) ?_
                refine wa_icmp_ge 153 dX7_elsewhere_112 (by decide) (by first | omega | decide | (simp only [Int.toNat_natCast]; omega)) (by first | omega | decide | (simp only [Int.toNat_natCast]; omega)) (fun c112 => ?_) (fun c112 => ?_)
                · refine wa_ild3 dX7_elsewhere_153 ?_
                  refine wa_if_ne 169 dX7_elsewhere_154 (by decide) (by first | omega | decide | (simp only [Int.toNat_natCast]; omega)) (fun c154 => absurd c154 (by decide)) (fun c154 => ?_)
                  refine wa_ild5 dX7_elsewhere_157 ?_
                  refine wa_ald0 dX7_elsewhere_159 ?_
                  refine gX7_69 dX7_elsewhere_160 rfl (by first | assumption | exact hL.1 _ (by decide)) (by first | assumption | exact hL.2 _ _ (by decide)) ?_
                  refine wa_ild4 dX7_elsewhere_163 ?_
                  refine wa_iaload dX7_elsewhere_165 (by first | assumption | exact hL.1 _ (by decide)) (by first | omega | decide | (simp only [Int.toNat_natCast]; omega)) (by first | decide | omega) ?_
                  refine wa_icmp_eq 173 dX7_elsewhere_166 (by decide) (by first | omega | decide | (simp only [Int.toNat_natCast]; omega)) (by first | omega | decide | (simp only [Int.toNat_natCast]; omega)) (fun c166 => ?_) (fun c166 => ?_)
                  · refine wa_iconst dX7_elsewhere_173 ?_
                    refine wa_ist3 dX7_elsewhere_174 (by decide) rfl ?_
                    refine wa_ald0 dX7_elsewhere_175 ?_
                    refine gX7_69 dX7_elsewhere_176 rfl (by first | assumption | exact hL.1 _ (by decide)) (by first | assumption | exact hL.2 _ _ (by decide)) ?_
                    refine wa_ild4 dX7_elsewhere_179 ?_
                    refine wa_ild5 dX7_elsewhere_181 ?_
                    refine wa_iastore dX7_elsewhere_183 (by first | assumption | exact hL.1 _ (by decide)) (by first | omega | decide | (simp only [Int.toNat_natCast]; omega)) (by first | decide | omega) ?_
                    refine wa_iinc4 dX7_elsewhere_184 (by decide) rfl ?_
                    refine wa_goto 75 dX7_elsewhere_187 (by decide) ?_
                    refine wa_drop7 (wa_drop6 (wa_drop5 ?_))
                    simp only [Int.toNat_natCast] at c166 ⊢
                    first | rw [if_pos (by omega)] at e2 | rw [if_neg (by omega)] at e2
                    exact e2
                  · refine wa_iconst dX7_elsewhere_169 ?_
                    refine wa_goto 174 dX7_elsewhere_170 (by decide) ?_
                    refine wa_ist3 dX7_elsewhere_174 (by decide) rfl ?_
                    refine wa_ald0 dX7_elsewhere_175 ?_
                    refine gX7_69 dX7_elsewhere_176 rfl (by first | assumption | exact hL.1 _ (by decide)) (by first | assumption | exact hL.2 _ _ (by decide)) ?_
                    refine wa_ild4 dX7_elsewhere_179 ?_
                    refine wa_ild5 dX7_elsewhere_181 ?_
                    refine wa_iastore dX7_elsewhere_183 (by first | assumption | exact hL.1 _ (by decide)) (by first | omega | decide | (simp only [Int.toNat_natCast]; omega)) (by first | decide | omega) ?_
                    refine wa_iinc4 dX7_elsewhere_184 (by decide) rfl ?_
                    refine wa_goto 75 dX7_elsewhere_187 (by decide) ?_
                    refine wa_drop7 (wa_drop6 (wa_drop5 ?_))
                    simp only [Int.toNat_natCast] at c166 ⊢
                    first | rw [if_pos (by omega)] at e2 | rw [if_neg (by omega)] at e2
                    exact e2
                · exact absurd c112 (by omega)
              · simp only [Bool.true_or, if_true] at e2
                refine wa_ild7 dX7_elsewhere_106 ?_
                refine wa_ald0 dX7_elsewhere_108 ?_
                refine gX7_7 dX7_elsewhere_109 rfl (by first | assumption | exact hL.1 _ (by decide)) ?_
                refine wa_icmp_ge 153 dX7_elsewhere_112 (by decide) (by first | omega | decide | (simp only [Int.toNat_natCast]; omega)) (by first | omega | decide | (simp only [Int.toNat_natCast]; omega)) (fun c112 => ?_) (fun c112 => ?_)
                · refine wa_ild3 dX7_elsewhere_153 ?_
                  refine wa_if_ne 169 dX7_elsewhere_154 (by decide) (by first | omega | decide | (simp only [Int.toNat_natCast]; omega)) (fun c154 => ?_) (fun c154 => absurd c154 (by decide))
                  refine wa_iconst dX7_elsewhere_169 ?_
                  refine wa_goto 174 dX7_elsewhere_170 (by decide) ?_
                  refine wa_ist3 dX7_elsewhere_174 (by decide) rfl ?_
                  refine wa_ald0 dX7_elsewhere_175 ?_
                  refine gX7_69 dX7_elsewhere_176 rfl (by first | assumption | exact hL.1 _ (by decide)) (by first | assumption | exact hL.2 _ _ (by decide)) ?_
                  refine wa_ild4 dX7_elsewhere_179 ?_
                  refine wa_ild5 dX7_elsewhere_181 ?_
                  refine wa_iastore dX7_elsewhere_183 (by first | assumption | exact hL.1 _ (by decide)) (by first | omega | decide | (simp only [Int.toNat_natCast]; omega)) (by first | decide | omega) ?_
                  refine wa_iinc4 dX7_elsewhere_184 (by decide) rfl ?_
                  refine wa_goto 75 dX7_elsewhere_187 (by decide) ?_
                  refine wa_drop7 (wa_drop6 (wa_drop5 ?_))
                  simp only [Int.toNat_natCast]
                  exact e2
                · exact absurd c112 (by omega)
            | succ m ih =>
              intro j o8 hj
              have e1 := fun o8 => ih (j + 1) o8 (by omega)
              have hbj := hsb j (by omega)
              have hb1 := hxb j
              have hb2 := hxb (scF x i (q.1 i) j).toNat
              simp only [scF] at e1
              refine wa_drop8 ?_
              refine wa_ild7 dX7_elsewhere_106 ?_
              refine wa_ald0 dX7_elsewhere_108 ?_
              refine gX7_7 dX7_elsewhere_109 rfl (by first | assumption | exact hL.1 _ (by decide)) ?_
              refine wa_icmp_ge 153 dX7_elsewhere_112 (by decide) (by omega) (by omega) (fun c112 => ?_) (fun c112 => ?_)
              · exact absurd c112 (by omega)
              · refine wa_ald0 dX7_elsewhere_115 ?_
                refine wa_ild4 dX7_elsewhere_116 ?_
                refine wa_ild7 dX7_elsewhere_118 ?_
                refine kX7_230 dX7_elsewhere_120 rfl (by first | assumption | exact hL.1 _ (by decide)) (hO (j : Int) (by omega)) (by decide) (Nat.le_of_ble_eq_true rfl) ⟨Nat.le_refl _, Nat.le_refl _⟩ (zdI ?_)
                rw [Int.toNat_natCast]
                refine wa_ist8 dX7_elsewhere_123 (by decide) rfl ?_
                refine wa_ild7 dX7_elsewhere_125 ?_
                refine wa_ild4 dX7_elsewhere_127 ?_
                refine wa_icmp_eq 147 dX7_elsewhere_129 (by decide) (by omega) (by omega) (fun c129 => ?_) (fun c129 => ?_)
                · refine wa_iinc7 dX7_elsewhere_147 (by decide) rfl ?_
                  refine wa_goto 106 dX7_elsewhere_150 (by decide) ?_
                  first
                    | (simp only [if_pos (show j ≠ i ∧ x j < x (scF x i (q.1 i) j).toNat by omega), Int.toNat_natCast] at e1; exact e1 _)
                    | (simp only [if_neg (show ¬ (j ≠ i ∧ x j < x (scF x i (q.1 i) j).toNat) by omega)] at e1; exact e1 _)
                · refine wa_ild8 dX7_elsewhere_132 ?_
                  refine wa_ild6 dX7_elsewhere_134 ?_
                  refine wa_icmp_ge 147 dX7_elsewhere_136 (by decide) (by omega) (by omega) (fun c136 => ?_) (fun c136 => ?_)
                  · refine wa_iinc7 dX7_elsewhere_147 (by decide) rfl ?_
                    refine wa_goto 106 dX7_elsewhere_150 (by decide) ?_
                    first
                      | (simp only [if_pos (show j ≠ i ∧ x j < x (scF x i (q.1 i) j).toNat by omega), Int.toNat_natCast] at e1; exact e1 _)
                      | (simp only [if_neg (show ¬ (j ≠ i ∧ x j < x (scF x i (q.1 i) j).toNat) by omega)] at e1; exact e1 _)
                  · refine wa_ild7 dX7_elsewhere_139 ?_
                    refine wa_ist5 dX7_elsewhere_141 (by decide) rfl ?_
                    refine wa_ild8 dX7_elsewhere_143 ?_
                    refine wa_ist6 dX7_elsewhere_145 (by decide) rfl ?_
                    refine wa_iinc7 dX7_elsewhere_147 (by decide) rfl ?_
                    refine wa_goto 106 dX7_elsewhere_150 (by decide) ?_
                    first
                      | (simp only [if_pos (show j ≠ i ∧ x j < x (scF x i (q.1 i) j).toNat by omega), Int.toNat_natCast] at e1; exact e1 _)
                      | (simp only [if_neg (show ¬ (j ≠ i ∧ x j < x (scF x i (q.1 i) j).toNat) by omega)] at e1; exact e1 _)
          have e3 := scan c 0 none (by omega)
          rw [scF] at e3
          refine wa_ild4 dX7_elsewhere_75 ?_
          refine wa_ald0 dX7_elsewhere_77 ?_
          refine gX7_7 dX7_elsewhere_78 rfl (by first | assumption | exact hL.1 _ (by decide)) ?_
          refine wa_icmp_ge 190 dX7_elsewhere_81 (by decide) (by omega) (by omega) (fun c81 => ?_) (fun c81 => ?_)
          · exact absurd c81 (by omega)
          · refine wa_ald0 dX7_elsewhere_84 ?_
            refine gX7_69 dX7_elsewhere_85 rfl (by first | assumption | exact hL.1 _ (by decide)) (by first | assumption | exact hL.2 _ _ (by decide)) ?_
            refine wa_ild4 dX7_elsewhere_88 ?_
            refine wa_iaload dX7_elsewhere_90 (by first | assumption | exact hL.1 _ (by decide)) (by omega) (by first | decide | omega) ?_
            simp only [Int.toNat_natCast, hti]
            refine wa_ist5 dX7_elsewhere_91 (by decide) rfl ?_
            refine wa_ald0 dX7_elsewhere_93 ?_
            refine wa_ild4 dX7_elsewhere_94 ?_
            refine wa_ild5 dX7_elsewhere_96 ?_
            refine kX7_230 dX7_elsewhere_98 rfl (by first | assumption | exact hL.1 _ (by decide)) (hO (q.1 i) hbi) (by decide) (Nat.le_of_ble_eq_true rfl) ⟨Nat.le_refl _, Nat.le_refl _⟩ (zdI ?_)
            refine wa_ist6 dX7_elsewhere_101 (by decide) rfl ?_
            refine wa_iconst dX7_elsewhere_103 ?_
            refine wa_ist7 dX7_elsewhere_104 (by decide) rfl ?_
            exact e3
      have hgo := kl c 0 V1 (q0.1, q0.2, false) (by omega) rfl hE ht hf1
      rw [if_neg (show ¬ false = true by decide)] at hgo
      refine wa_ild3 dX7_elsewhere_60 ?_
      refine wa_if_eq 196 dX7_elsewhere_61 (by decide) (by omega) (fun c61 => absurd c61 (by decide)) (fun c61 => ?_)
      refine wa_ild2 dX7_elsewhere_64 ?_
      refine wa_bipush dX7_elsewhere_65 (by decide) ?_
      refine wa_icmp_ge 196 dX7_elsewhere_67 (by decide) (by omega) (by omega) (fun c67 => ?_) (fun c67 => ?_)
      · exact absurd c67 (by omega)
      · refine wa_iconst dX7_elsewhere_70 ?_
        refine wa_ist3 dX7_elsewhere_71 (by decide) rfl ?_
        refine wa_iconst dX7_elsewhere_72 ?_
        refine wa_ist4 dX7_elsewhere_73 (by decide) rfl ?_
        exact hgo
  have hst : ∀ j, j < c → 0 ≤ st0 c j ∧ st0 c j < c := fun j hj => by unfold st0; split <;> omega
  have loop0 : ∀ (m i : Nat) (f : Nat → Int), i + m = c → (g = -1 ∨ 0 ≤ g ∧ g < c) → (∀ j, j < i → f j = st0 c j) → Wa zXn mX7_elsewhere (zrm 3 0 0) (zZm (rQ S Rf V X) (n + 0) 0 0) 0 0 n S 17 [some (zR 37), some (zI g), some (zI (i : Int)), none, none, none, none, none, none] [] Rf (zp V 52 f) := by
    intro m
    induction m with
    | zero =>
      intro i f hi hgc hf
      obtain rfl : c = i := by omega
      have r0' : zp V 52 f 37 0 = (c : Int) := by rw [zp_n _ _ (by decide)]; exact r0
      refine wa_ild2 dX7_elsewhere_17 ?_
      refine wa_ald0 dX7_elsewhere_18 ?_
      refine gX7_7 dX7_elsewhere_19 rfl (by first | assumption | exact hL.1 _ (by decide)) ?_
      refine wa_icmp_ge 56 dX7_elsewhere_22 (by decide) (by omega) (by omega) (fun c22 => ?_) (fun c22 => ?_)
      · refine wa_iconst dX7_elsewhere_56 ?_
        refine wa_ist2 dX7_elsewhere_57 (by decide) rfl ?_
        refine wa_iconst dX7_elsewhere_58 ?_
        refine wa_ist3 dX7_elsewhere_59 (by decide) rfl ?_
        refine loopR 50 0 _ (s, cn0 c c) (by omega) hgc ⟨fun j hj => by dsimp only; rw [hs j hj]; exact hst j hj, fun j => by dsimp only; rw [cn0_an h2 c (Nat.le_refl _)]; exact anF_c c (fun j hj => (hs j hj).symm)⟩ (fun j hj => by dsimp only; rw [zp_s, hf j hj, hs j hj]) hD.symm ⟨fun k a b => by rw [zp_n _ _ (by omega)], fun j a => by rw [zp_n _ _ (by decide)]⟩
      · exact absurd c22 (by omega)
    | succ m ih =>
      intro i f hi hgc hf
      have r0' : zp V 52 f 37 0 = (c : Int) := by rw [zp_n _ _ (by decide)]; exact r0
      have go : ∀ v : Int, v = st0 c i → Wa zXn mX7_elsewhere (zrm 3 0 0) (zZm (rQ S Rf V X) (n + 0) 0 0) 0 0 n S 17 [some (zR 37), some (zI g), some (zI ((i : Int) + 1)), none, none, none, none, none, none] [] Rf (zp (zp V 52 f) 52 (za (zp V 52 f 52) (i : Int).toNat v)) := by
        intro v hv
        rw [zp_zp, zp_s, Int.toNat_natCast]
        exact ih (i + 1) _ (by omega) hgc (fun j hj => by by_cases h : j = i; rw [h, za_s, hv]; rw [za_n _ _ h]; exact hf j (by omega))
      refine wa_ild2 dX7_elsewhere_17 ?_
      refine wa_ald0 dX7_elsewhere_18 ?_
      refine gX7_7 dX7_elsewhere_19 rfl (by first | assumption | exact hL.1 _ (by decide)) ?_
      refine wa_icmp_ge 56 dX7_elsewhere_22 (by decide) (by omega) (by omega) (fun c22 => ?_) (fun c22 => ?_)
      · exact absurd c22 (by omega)
      · refine wa_ald0 dX7_elsewhere_25 ?_
        refine gX7_69 dX7_elsewhere_26 rfl (by first | assumption | exact hL.1 _ (by decide)) (by first | assumption | exact hL.2 _ _ (by decide)) ?_
        refine wa_ild2 dX7_elsewhere_29 ?_
        refine wa_ild2 dX7_elsewhere_30 ?_
        refine wa_ald0 dX7_elsewhere_31 ?_
        refine gX7_7 dX7_elsewhere_32 rfl (by first | assumption | exact hL.1 _ (by decide)) ?_
        refine wa_iconst dX7_elsewhere_35 ?_
        refine wa_isub dX7_elsewhere_36 ?_
        refine wa_icmp_ne 46 dX7_elsewhere_37 (by decide) (by omega) (by omega) (fun c37 => ?_) (fun c37 => ?_)
        · refine wa_ild2 dX7_elsewhere_46 ?_
          refine wa_iconst dX7_elsewhere_47 ?_
          refine wa_iadd dX7_elsewhere_48 ?_
          refine wa_iastore dX7_elsewhere_49 (by first | assumption | exact hL.1 _ (by decide)) (by omega) (by first | decide | omega) ?_
          refine wa_iinc2 dX7_elsewhere_50 (by decide) rfl ?_
          refine wa_goto 17 dX7_elsewhere_53 (by decide) ?_
          refine go _ ?_
          unfold st0
          first | rw [if_pos (by omega)] | rw [if_neg (by omega)]
        · refine wa_ild2 dX7_elsewhere_40 ?_
          refine wa_iconst dX7_elsewhere_41 ?_
          refine wa_isub dX7_elsewhere_42 ?_
          refine wa_goto 49 dX7_elsewhere_43 (by decide) ?_
          refine wa_iastore dX7_elsewhere_49 (by first | assumption | exact hL.1 _ (by decide)) (by omega) (by first | decide | omega) ?_
          refine wa_iinc2 dX7_elsewhere_50 (by decide) rfl ?_
          refine wa_goto 17 dX7_elsewhere_53 (by decide) ?_
          refine go _ ?_
          unfold st0
          first | rw [if_pos (by omega)] | rw [if_neg (by omega)]
  refine wa_ild1 dX7_elsewhere_0 ?_
  refine wa_iconst dX7_elsewhere_1 ?_
  refine wa_icmp_eq 15 dX7_elsewhere_2 (by decide) (by omega) (by omega) (fun c2 => ?_) (fun c2 => ?_)
  · refine wa_iconst dX7_elsewhere_15 ?_
    refine wa_ist2 dX7_elsewhere_16 (by decide) rfl ?_
    refine wa_eqV (zp_self V 52).symm ?_
    exact loop0 c 0 _ (by omega) (by omega) (fun j hj => absurd hj (by omega))
  · refine wa_ald0 dX7_elsewhere_5 ?_
    refine wa_ild1 dX7_elsewhere_6 ?_
    refine kX7_95 dX7_elsewhere_7 rfl (by first | assumption | exact hL.1 _ (by decide)) (cm_isGarden hL r0 h8 hg) (by decide) (Nat.le_of_ble_eq_true rfl) ⟨Nat.le_refl _, Nat.le_refl _⟩ (zdI ?_)
    refine wa_ifne_B 15 dX7_elsewhere_10 (by decide) (fun c10 => ?_) (fun c10 => ?_)
    · refine wa_iconst dX7_elsewhere_15 ?_
      refine wa_ist2 dX7_elsewhere_16 (by decide) rfl ?_
      refine wa_eqV (zp_self V 52).symm ?_
      exact loop0 c 0 _ (by omega) (by omega) (fun j hj => absurd hj (by omega))
    · refine wa_iconst dX7_elsewhere_13 ?_
      refine wa_ireturn dX7_elsewhere_14 rfl rfl (Nat.le_refl _) ?_
      refine ⟨?_, rfl, rfl, rfr_rf⟩
      rw [← hX, elX, if_neg c2, if_neg c10]
