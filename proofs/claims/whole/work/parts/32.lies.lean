/-! Lies 34: saysIn 35, liesIn 36 -/
/-- the garden, not his own, where fewest say theirs: of the first m looked at -/
def emF (x : Nat → Int) (own : Nat) : Nat → Nat
  | 0 => if own = 0 then 1 else 0
  | m + 1 => if m ≠ own ∧ x m < x (emF x own m) then m else emF x own m
theorem emF_lt {x : Nat → Int} {own m c : Nat} (h2 : 2 ≤ c) (hm : m ≤ c) : emF x own m < c := by
  induction m with
  | zero => unfold emF; split <;> omega
  | succ m ih => unfold emF; split; omega; exact ih (by omega)
theorem ct_emptiest {n : Nat} {S : zH} {Rf : zG} {V : zE} {c own : Nat} (hL : Lay S Rf) (h2 : 2 ≤ c) (h8 : c ≤ 8) (ho : own < c) (hx : ∀ j, -100000 ≤ V 36 j ∧ V 36 j ≤ 100000) : Ci 1 mX0_emptiest [zR 34, zI (own : Int), zI (c : Int)] n S Rf V ((emF (V 36) own c : Nat) : Int) V := by
  refine ct_of (by decide) rfl (Nat.le_of_ble_eq_true rfl) ?_
  have loop : ∀ (q i : Nat), i + q = c → Wa zXn mX0_emptiest (zrm 1 0 0) (zZm (qI ((emF (V 36) own c : Nat) : Int) S Rf V) (n + 0) 0 0) 0 0 n S 13 [some (zR 34), some (zI (own : Int)), some (zI (c : Int)), some (zI ((emF (V 36) own i : Nat) : Int)), some (zI (i : Int))] [] Rf V := by
    intro q
    induction q with
    | zero =>
      intro i hi
      obtain rfl : i = c := by omega
      refine wa_ild4 dX0_emptiest_13 ?_
      refine wa_ild2 dX0_emptiest_15 ?_
      refine wa_icmp_ge 57 dX0_emptiest_16 (by decide) (by omega) (by omega) (fun c16 => ?_) (fun c16 => ?_)
      · refine wa_ild3 dX0_emptiest_57 ?_
        exact wa_ireturn dX0_emptiest_58 rfl rfl (Nat.le_refl _) (by exact ⟨rfl, rfl, rfl, rfl⟩)
      · exact absurd c16 (by omega)
    | succ q ih =>
      intro i hi
      have e1 := ih (i + 1) (by omega)
      have hlt := emF_lt (x := V 36) (own := own) (m := i) (c := c) h2 (by omega)
      have hxi := hx i
      have hxe := hx (emF (V 36) own i)
      rw [emF] at e1
      refine wa_ild4 dX0_emptiest_13 ?_
      refine wa_ild2 dX0_emptiest_15 ?_
      refine wa_icmp_ge 57 dX0_emptiest_16 (by decide) (by first | omega | (simp only [Int.toNat_natCast]; omega)) (by first | omega | (simp only [Int.toNat_natCast]; omega)) (fun c16 => ?_) (fun c16 => ?_)
      · exact absurd c16 (by omega)
      · refine wa_ild4 dX0_emptiest_19 ?_
        refine wa_bipush dX0_emptiest_21 (by decide) ?_
        refine wa_icmp_ge 57 dX0_emptiest_23 (by decide) (by first | omega | (simp only [Int.toNat_natCast]; omega)) (by first | omega | (simp only [Int.toNat_natCast]; omega)) (fun c23 => ?_) (fun c23 => ?_)
        · exact absurd c23 (by omega)
        · refine wa_ild4 dX0_emptiest_26 ?_
          refine wa_ild1 dX0_emptiest_28 ?_
          refine wa_icmp_eq 51 dX0_emptiest_29 (by decide) (by first | omega | (simp only [Int.toNat_natCast]; omega)) (by first | omega | (simp only [Int.toNat_natCast]; omega)) (fun c29 => ?_) (fun c29 => ?_)
          · refine wa_iinc4 dX0_emptiest_51 (by decide) rfl ?_
            refine wa_goto 13 dX0_emptiest_54 (by decide) ?_
            try simp only [Int.toNat_natCast] at c45
            first | rw [if_pos (by omega)] at e1 | rw [if_neg (by omega)] at e1
            exact e1
          · refine wa_ald0 dX0_emptiest_32 ?_
            refine gX0_15 dX0_emptiest_33 rfl (by first | assumption | exact hL.1 _ (by decide)) (by first | assumption | exact hL.2 _ _ (by decide)) ?_
            refine wa_ild4 dX0_emptiest_36 ?_
            refine wa_iaload dX0_emptiest_38 (by first | assumption | exact hL.1 _ (by decide)) (by first | omega | (simp only [Int.toNat_natCast]; omega)) (by first | decide | omega) ?_
            refine wa_ald0 dX0_emptiest_39 ?_
            refine gX0_15 dX0_emptiest_40 rfl (by first | assumption | exact hL.1 _ (by decide)) (by first | assumption | exact hL.2 _ _ (by decide)) ?_
            refine wa_ild3 dX0_emptiest_43 ?_
            refine wa_iaload dX0_emptiest_44 (by first | assumption | exact hL.1 _ (by decide)) (by first | omega | (simp only [Int.toNat_natCast]; omega)) (by first | decide | omega) ?_
            refine wa_icmp_ge 51 dX0_emptiest_45 (by decide) (by first | omega | (simp only [Int.toNat_natCast]; omega)) (by first | omega | (simp only [Int.toNat_natCast]; omega)) (fun c45 => ?_) (fun c45 => ?_)
            · refine wa_iinc4 dX0_emptiest_51 (by decide) rfl ?_
              refine wa_goto 13 dX0_emptiest_54 (by decide) ?_
              try simp only [Int.toNat_natCast] at c45
              first | rw [if_pos (by omega)] at e1 | rw [if_neg (by omega)] at e1
              exact e1
            · refine wa_ild4 dX0_emptiest_48 ?_
              refine wa_ist3 dX0_emptiest_50 (by decide) rfl ?_
              refine wa_iinc4 dX0_emptiest_51 (by decide) rfl ?_
              refine wa_goto 13 dX0_emptiest_54 (by decide) ?_
              try simp only [Int.toNat_natCast] at c45
              first | rw [if_pos (by omega)] at e1 | rw [if_neg (by omega)] at e1
              exact e1
  have h0 := loop c 0 (by omega)
  rw [emF] at h0
  refine wa_ild1 dX0_emptiest_0 ?_
  refine wa_if_ne 8 dX0_emptiest_1 (by decide) (by omega) (fun c1 => ?_) (fun c1 => ?_)
  · refine wa_iconst dX0_emptiest_8 ?_
    refine wa_ist3 dX0_emptiest_9 (by decide) rfl ?_
    refine wa_iconst dX0_emptiest_10 ?_
    refine wa_ist4 dX0_emptiest_11 (by decide) rfl ?_
    first | rw [if_pos (by omega)] at h0 | rw [if_neg (by omega)] at h0
    exact h0
  · refine wa_iconst dX0_emptiest_4 ?_
    refine wa_goto 9 dX0_emptiest_5 (by decide) ?_
    refine wa_ist3 dX0_emptiest_9 (by decide) rfl ?_
    refine wa_iconst dX0_emptiest_10 ?_
    refine wa_ist4 dX0_emptiest_11 (by decide) rfl ?_
    first | rw [if_pos (by omega)] at h0 | rw [if_neg (by omega)] at h0
    exact h0
/-- one neighbour goes, or stays -/
def gsS (c i : Nat) (q : (Nat → Int) × (Nat → Int) × Bool) : (Nat → Int) × (Nat → Int) × Bool :=
  let x1 := za q.2.1 (q.1 i).toNat (q.2.1 (q.1 i).toNat - 1)
  let to : Int := if x1 (q.1 i).toNat ≤ x1 (emF x1 i c) then q.1 i else (emF x1 i c : Nat)
  (za q.1 i to, za x1 to.toNat (x1 to.toNat + 1), q.2.2 || decide (to ≠ q.1 i))
def sgP (c : Nat) (V : zE) (x : Int) (V' : zE) : Prop :=
  x = (if (rgF (gsS c) c (V 35, V 36, false)).2.2 = true then 1 else 0) ∧ V' 35 = (rgF (gsS c) c (V 35, V 36, false)).1 ∧ V' 36 = (rgF (gsS c) c (V 35, V 36, false)).2.1 ∧ ∀ k, k ≠ 35 → k ≠ 36 → V' k = V k
theorem gsS_b {c i : Nat} {q : (Nat → Int) × (Nat → Int) × Bool} {B : Int} (h2 : 2 ≤ c) (hi : i < c) (hs : ∀ j, j < c → 0 ≤ q.1 j ∧ q.1 j < c) (hx : ∀ j, -B ≤ q.2.1 j ∧ q.2.1 j ≤ B) : (∀ j, j < c → 0 ≤ (gsS c i q).1 j ∧ (gsS c i q).1 j < c) ∧ ∀ j, -(B + 2) ≤ (gsS c i q).2.1 j ∧ (gsS c i q).2.1 j ≤ B + 2 := by
  have hem := emF_lt (x := za q.2.1 (q.1 i).toNat (q.2.1 (q.1 i).toNat - 1)) (own := i) (m := c) (c := c) h2 (Nat.le_refl _)
  have hsi := hs i hi
  constructor
  · intro j hj
    have := hs j hj
    unfold gsS; dsimp only
    by_cases h : j = i
    · subst h; rw [za_s]; split <;> omega
    · rw [za_n _ _ h]; exact this
  · intro j
    have h0 := hx j
    have h1 : ∀ a, -(B + 1) ≤ za q.2.1 (q.1 i).toNat (q.2.1 (q.1 i).toNat - 1) a ∧ za q.2.1 (q.1 i).toNat (q.2.1 (q.1 i).toNat - 1) a ≤ B + 1 := by
      intro a
      have ha := hx a
      have hb := hx (q.1 i).toNat
      simp only [za]; split <;> omega
    unfold gsS; dsimp only
    have h3 := h1 j
    generalize (if za q.2.1 (q.1 i).toNat (q.2.1 (q.1 i).toNat - 1) (q.1 i).toNat ≤ za q.2.1 (q.1 i).toNat (q.2.1 (q.1 i).toNat - 1) (emF (za q.2.1 (q.1 i).toNat (q.2.1 (q.1 i).toNat - 1)) i c) then q.1 i else ((emF (za q.2.1 (q.1 i).toNat (q.2.1 (q.1 i).toNat - 1)) i c : Nat) : Int)) = to
    have h4 := h1 to.toNat
    by_cases h : j = to.toNat
    · subst h; rw [za_s]; omega
    · rw [za_n _ _ h]; omega
theorem gsF_b {c : Nat} {q : (Nat → Int) × (Nat → Int) × Bool} {B : Int} (h2 : 2 ≤ c) (hs : ∀ j, j < c → 0 ≤ q.1 j ∧ q.1 j < c) (hx : ∀ j, -B ≤ q.2.1 j ∧ q.2.1 j ≤ B) : ∀ m, m ≤ c → (∀ j, j < c → 0 ≤ (rgF (gsS c) m q).1 j ∧ (rgF (gsS c) m q).1 j < c) ∧ ∀ j, -(B + 2 * m) ≤ (rgF (gsS c) m q).2.1 j ∧ (rgF (gsS c) m q).2.1 j ≤ B + 2 * m := by
  intro m
  induction m with
  | zero => intro _; exact ⟨hs, fun j => by have := hx j; show -(B + 2 * 0) ≤ q.2.1 j ∧ q.2.1 j ≤ B + 2 * 0; omega⟩
  | succ m ih =>
    intro hm
    obtain ⟨a, b⟩ := ih (by omega)
    obtain ⟨a', b'⟩ := gsS_b (i := m) h2 (by omega) a b
    exact ⟨a', fun j => by have := b' j; rw [rgF]; omega⟩
theorem ct_somebodyGoes {n : Nat} {S : zH} {Rf : zG} {V : zE} {c : Nat} (hL : Lay S Rf) (h2 : 2 ≤ c) (h8 : c ≤ 8) (hs : ∀ j, j < c → 0 ≤ V 35 j ∧ V 35 j < c) (hx : ∀ j, -10000 ≤ V 36 j ∧ V 36 j ≤ 10000) :
    Cpi 2 mX0_somebodyGoes [zR 34, zI (c : Int)] n S Rf V (sgP c V) := by
  refine ct_of (by decide) rfl (Nat.le_of_ble_eq_true rfl) ?_
  have loop : ∀ (q i : Nat) (V' : zE), i + q = c → V' 35 = (rgF (gsS c) i (V 35, V 36, false)).1 → V' 36 = (rgF (gsS c) i (V 35, V 36, false)).2.1 → (∀ k, k ≠ 35 → k ≠ 36 → V' k = V k) → Wa zXn mX0_somebodyGoes (zrm 2 0 0) (zZm (qPI S Rf (sgP c V)) (n + 0) 0 0) 0 0 n S 4 [some (zR 34), some (zI (c : Int)), some (zI (if (rgF (gsS c) i (V 35, V 36, false)).2.2 = true then 1 else 0)), some (zI (i : Int)), none, none] [] Rf V' := by
    intro q
    induction q with
    | zero =>
      intro i V' hi e35 e36 ho
      obtain rfl : i = c := by omega
      refine wa_ild3 dX0_somebodyGoes_4 ?_
      refine wa_ild1 dX0_somebodyGoes_5 ?_
      refine wa_icmp_ge 118 dX0_somebodyGoes_6 (by decide) (by omega) (by omega) (fun c6 => ?_) (fun c6 => ?_)
      · refine wa_ild2 dX0_somebodyGoes_118 ?_
        exact wa_breturn dX0_somebodyGoes_119 rfl rfl (Nat.le_refl _) (by first | exact Or.inl rfl | exact Or.inr rfl | (split <;> simp)) (by exact ⟨_, rfl, rfl, rfl, rfl, e35, e36, ho⟩)
      · exact absurd c6 (by omega)
    | succ q ih =>
      intro i V' hi e35 e36 ho
      obtain ⟨b1, b2⟩ := gsF_b (c := c) (q := (V 35, V 36, false)) (B := 10000) h2 hs hx i (by omega)
      rw [← e35] at b1
      rw [← e36] at b2
      have hs1 := b1 i (by omega)
      have e1 := ih (i + 1)
      rw [rgF] at e1
      generalize hq : rgF (gsS c) i (V 35, V 36, false) = st at e35 e36 e1 ⊢
      obtain ⟨s0, x0, g0⟩ := st
      dsimp only at e35 e36
      have hb : ∀ j, -100000 ≤ za (V' 36) (V' 35 i).toNat (V' 36 (V' 35 i).toNat - 1) j ∧ za (V' 36) (V' 35 i).toNat (V' 36 (V' 35 i).toNat - 1) j ≤ 100000 := by
        intro j
        have h9 := b2 j
        have h7 := b2 (V' 35 i).toNat
        simp only [za]; split <;> omega
      have hem := emF_lt (x := za (V' 36) (V' 35 i).toNat (V' 36 (V' 35 i).toNat - 1)) (own := i) (m := c) (c := c) h2 (Nat.le_refl _)
      have hgs : gsS c i (s0, x0, g0) = (za (V' 35) i (if za (V' 36) (V' 35 i).toNat (V' 36 (V' 35 i).toNat - 1) (V' 35 i).toNat ≤ za (V' 36) (V' 35 i).toNat (V' 36 (V' 35 i).toNat - 1) (emF (za (V' 36) (V' 35 i).toNat (V' 36 (V' 35 i).toNat - 1)) i c) then V' 35 i else ((emF (za (V' 36) (V' 35 i).toNat (V' 36 (V' 35 i).toNat - 1)) i c : Nat) : Int)), za (za (V' 36) (V' 35 i).toNat (V' 36 (V' 35 i).toNat - 1)) (if za (V' 36) (V' 35 i).toNat (V' 36 (V' 35 i).toNat - 1) (V' 35 i).toNat ≤ za (V' 36) (V' 35 i).toNat (V' 36 (V' 35 i).toNat - 1) (emF (za (V' 36) (V' 35 i).toNat (V' 36 (V' 35 i).toNat - 1)) i c) then V' 35 i else ((emF (za (V' 36) (V' 35 i).toNat (V' 36 (V' 35 i).toNat - 1)) i c : Nat) : Int)).toNat (za (V' 36) (V' 35 i).toNat (V' 36 (V' 35 i).toNat - 1) (if za (V' 36) (V' 35 i).toNat (V' 36 (V' 35 i).toNat - 1) (V' 35 i).toNat ≤ za (V' 36) (V' 35 i).toNat (V' 36 (V' 35 i).toNat - 1) (emF (za (V' 36) (V' 35 i).toNat (V' 36 (V' 35 i).toNat - 1)) i c) then V' 35 i else ((emF (za (V' 36) (V' 35 i).toNat (V' 36 (V' 35 i).toNat - 1)) i c : Nat) : Int)).toNat + 1), g0 || decide ((if za (V' 36) (V' 35 i).toNat (V' 36 (V' 35 i).toNat - 1) (V' 35 i).toNat ≤ za (V' 36) (V' 35 i).toNat (V' 36 (V' 35 i).toNat - 1) (emF (za (V' 36) (V' 35 i).toNat (V' 36 (V' 35 i).toNat - 1)) i c) then V' 35 i else ((emF (za (V' 36) (V' 35 i).toNat (V' 36 (V' 35 i).toNat - 1)) i c : Nat) : Int)) ≠ V' 35 i)) := by rw [e35, e36]; rfl
      rw [hgs] at e1
      generalize hfr : V' 35 i = fr at *
      generalize hx1 : za (V' 36) fr.toNat (V' 36 fr.toNat - 1) = x1 at *
      generalize hen : emF x1 i c = en at *
      generalize hto : (if x1 fr.toNat ≤ x1 en then fr else (en : Int)) = to at *
      have hto' : 0 ≤ to ∧ to < c := by rw [← hto]; split <;> omega
      have hbf := hb fr.toNat
      have hbe := hb en
      /- the end of a turn: he says it in 'to' -/
      have turn : ∀ (V3 : zE), V3 35 = V' 35 → V3 36 = x1 → (∀ k, k ≠ 35 → k ≠ 36 → V3 k = V k) → Wa zXn mX0_somebodyGoes (zrm 2 0 0) (zZm (qPI S Rf (sgP c V)) (n + 0) 0 0) 0 0 n S 76 [some (zR 34), some (zI (c : Int)), some (zI (if g0 = true then 1 else 0)), some (zI (i : Int)), some (zI fr), some (zI to)] [] Rf V3 := by
        intro V3 f35 f36 fo
        have hg01 : -2147483648 ≤ (if g0 = true then (1 : Int) else 0) ∧ (if g0 = true then (1 : Int) else 0) ≤ 2147483647 := by split <;> decide
        refine wa_ald0 dX0_somebodyGoes_76 ?_
        refine gX0_15 dX0_somebodyGoes_77 rfl (by first | assumption | exact hL.1 _ (by decide)) (by first | assumption | exact hL.2 _ _ (by decide)) ?_
        refine wa_ild5 dX0_somebodyGoes_80 ?_
        refine wa_dup2 dX0_somebodyGoes_82 rfl rfl ?_
        refine wa_iaload dX0_somebodyGoes_83 (by first | assumption | exact hL.1 _ (by decide)) (by first | omega | exact hg01) (by first | decide | omega) ?_
        refine wa_iconst dX0_somebodyGoes_84 ?_
        refine wa_iadd dX0_somebodyGoes_85 ?_
        refine wa_iastore dX0_somebodyGoes_86 (by first | assumption | exact hL.1 _ (by decide)) (by first | omega | exact hg01) (by first | decide | omega) ?_
        refine wa_ald0 dX0_somebodyGoes_87 ?_
        refine gX0_9 dX0_somebodyGoes_88 rfl (by first | assumption | exact hL.1 _ (by decide)) (by first | assumption | exact hL.2 _ _ (by decide)) ?_
        refine wa_ild3 dX0_somebodyGoes_91 ?_
        refine wa_ild5 dX0_somebodyGoes_92 ?_
        refine wa_iastore dX0_somebodyGoes_94 (by first | assumption | exact hL.1 _ (by decide)) (by first | omega | exact hg01) (by first | decide | omega) ?_
        simp only [f35, f36, Int.toNat_natCast, zp_n _ _ (show 35 ≠ 36 by decide)]
        refine wa_ild2 dX0_somebodyGoes_95 ?_
        refine wa_if_ne 106 dX0_somebodyGoes_96 (by decide) (by first | omega | exact hg01) (fun c96 => ?_) (fun c96 => ?_)
        · refine wa_iconst dX0_somebodyGoes_106 ?_
          refine wa_goto 111 dX0_somebodyGoes_107 (by decide) ?_
          refine wa_ist2 dX0_somebodyGoes_111 (by decide) rfl ?_
          refine wa_iinc3 dX0_somebodyGoes_112 (by decide) rfl ?_
          refine wa_goto 4 dX0_somebodyGoes_115 (by decide) ?_
          refine wa_drop4 (wa_drop5 ?_)
          rw [show (i : Int) + 1 = ((i + 1 : Nat) : Int) by omega]
          have e2 := e1 (zp (zp V3 36 (za x1 to.toNat (x1 to.toNat + 1))) 35 (za (V' 35) i to)) (by omega) (by rw [zp_s]) (by rw [zp_n _ _ (by decide), zp_s]) (fun k k1 k2 => by rw [zp_n _ _ k1, zp_n _ _ k2]; exact fo k k1 k2)
          dsimp only at e2
          cases g0
          · first | (exfalso; revert c96; decide) | (simp only [Bool.false_or, decide_eq_true_eq] at e2; (first | rw [if_pos (by omega)] at e2 | rw [if_neg (by omega)] at e2); exact e2)
          · first | (exfalso; revert c96; decide) | (simp only [Bool.true_or] at e2; rw [if_pos trivial] at e2; exact e2)
        · refine wa_ild5 dX0_somebodyGoes_99 ?_
          refine wa_ild4 dX0_somebodyGoes_101 ?_
          refine wa_icmp_eq 110 dX0_somebodyGoes_103 (by decide) (by first | omega | exact hg01) (by first | omega | exact hg01) (fun c103 => ?_) (fun c103 => ?_)
          · refine wa_iconst dX0_somebodyGoes_110 ?_
            refine wa_ist2 dX0_somebodyGoes_111 (by decide) rfl ?_
            refine wa_iinc3 dX0_somebodyGoes_112 (by decide) rfl ?_
            refine wa_goto 4 dX0_somebodyGoes_115 (by decide) ?_
            refine wa_drop4 (wa_drop5 ?_)
            rw [show (i : Int) + 1 = ((i + 1 : Nat) : Int) by omega]
            have e2 := e1 (zp (zp V3 36 (za x1 to.toNat (x1 to.toNat + 1))) 35 (za (V' 35) i to)) (by omega) (by rw [zp_s]) (by rw [zp_n _ _ (by decide), zp_s]) (fun k k1 k2 => by rw [zp_n _ _ k1, zp_n _ _ k2]; exact fo k k1 k2)
            dsimp only at e2
            cases g0
            · first | (exfalso; revert c96; decide) | (simp only [Bool.false_or, decide_eq_true_eq] at e2; (first | rw [if_pos (by omega)] at e2 | rw [if_neg (by omega)] at e2); exact e2)
            · first | (exfalso; revert c96; decide) | (simp only [Bool.true_or] at e2; rw [if_pos trivial] at e2; exact e2)
          · refine wa_iconst dX0_somebodyGoes_106 ?_
            refine wa_goto 111 dX0_somebodyGoes_107 (by decide) ?_
            refine wa_ist2 dX0_somebodyGoes_111 (by decide) rfl ?_
            refine wa_iinc3 dX0_somebodyGoes_112 (by decide) rfl ?_
            refine wa_goto 4 dX0_somebodyGoes_115 (by decide) ?_
            refine wa_drop4 (wa_drop5 ?_)
            rw [show (i : Int) + 1 = ((i + 1 : Nat) : Int) by omega]
            have e2 := e1 (zp (zp V3 36 (za x1 to.toNat (x1 to.toNat + 1))) 35 (za (V' 35) i to)) (by omega) (by rw [zp_s]) (by rw [zp_n _ _ (by decide), zp_s]) (fun k k1 k2 => by rw [zp_n _ _ k1, zp_n _ _ k2]; exact fo k k1 k2)
            dsimp only at e2
            cases g0
            · first | (exfalso; revert c96; decide) | (simp only [Bool.false_or, decide_eq_true_eq] at e2; (first | rw [if_pos (by omega)] at e2 | rw [if_neg (by omega)] at e2); exact e2)
            · first | (exfalso; revert c96; decide) | (simp only [Bool.true_or] at e2; rw [if_pos trivial] at e2; exact e2)
      refine wa_ild3 dX0_somebodyGoes_4 ?_
      refine wa_ild1 dX0_somebodyGoes_5 ?_
      refine wa_icmp_ge 118 dX0_somebodyGoes_6 (by decide) (by first | omega | (simp only [zp_s, Int.toNat_natCast]; omega)) (by first | omega | (simp only [zp_s, Int.toNat_natCast]; omega)) (fun c6 => ?_) (fun c6 => ?_)
      · exact absurd c6 (by omega)
      · refine wa_ild3 dX0_somebodyGoes_9 ?_
        refine wa_bipush dX0_somebodyGoes_10 (by decide) ?_
        refine wa_icmp_ge 118 dX0_somebodyGoes_12 (by decide) (by first | omega | (simp only [zp_s, Int.toNat_natCast]; omega)) (by first | omega | (simp only [zp_s, Int.toNat_natCast]; omega)) (fun c12 => ?_) (fun c12 => ?_)
        · exact absurd c12 (by omega)
        · refine wa_ald0 dX0_somebodyGoes_15 ?_
          refine gX0_9 dX0_somebodyGoes_16 rfl (by first | assumption | exact hL.1 _ (by decide)) (by first | assumption | exact hL.2 _ _ (by decide)) ?_
          refine wa_ild3 dX0_somebodyGoes_19 ?_
          refine wa_iaload dX0_somebodyGoes_20 (by first | assumption | exact hL.1 _ (by decide)) (by first | omega | (simp only [zp_s, Int.toNat_natCast]; omega)) (by first | decide | omega) ?_
          simp only [Int.toNat_natCast, hfr]
          refine wa_ist4 dX0_somebodyGoes_21 (by decide) rfl ?_
          refine wa_ild4 dX0_somebodyGoes_23 ?_
          refine wa_iconst dX0_somebodyGoes_25 ?_
          refine wa_bipush dX0_somebodyGoes_26 (by decide) ?_
          refine kX0_34 dX0_somebodyGoes_28 rfl (ct_isOutside (by omega) (by decide) (by decide)) (by decide) (Nat.le_of_ble_eq_true rfl) ⟨Nat.le_refl _, Nat.le_refl _⟩ (zdI ?_)
          refine wa_ifeq_B 36 dX0_somebodyGoes_31 (by decide) (fun c31 => ?_) (fun c31 => ?_)
          · refine wa_ald0 dX0_somebodyGoes_36 ?_
            refine gX0_15 dX0_somebodyGoes_37 rfl (by first | assumption | exact hL.1 _ (by decide)) (by first | assumption | exact hL.2 _ _ (by decide)) ?_
            refine wa_ild4 dX0_somebodyGoes_40 ?_
            refine wa_dup2 dX0_somebodyGoes_42 rfl rfl ?_
            refine wa_iaload dX0_somebodyGoes_43 (by first | assumption | exact hL.1 _ (by decide)) (by first | omega | (simp only [zp_s, Int.toNat_natCast]; omega)) (by first | decide | omega) ?_
            refine wa_iconst dX0_somebodyGoes_44 ?_
            refine wa_isub dX0_somebodyGoes_45 ?_
            refine wa_iastore dX0_somebodyGoes_46 (by first | assumption | exact hL.1 _ (by decide)) (by first | omega | (simp only [zp_s, Int.toNat_natCast]; omega)) (by first | decide | omega) ?_
            rw [hx1]
            refine wa_ald0 dX0_somebodyGoes_47 ?_
            refine wa_ild3 dX0_somebodyGoes_48 ?_
            refine wa_ild1 dX0_somebodyGoes_49 ?_
            refine kX0_38 dX0_somebodyGoes_50 rfl (by first | assumption | exact hL.1 _ (by decide)) (ct_emptiest hL h2 h8 (by omega) (fun j => by rw [zp_s]; exact hb j)) (by decide) (Nat.le_of_ble_eq_true rfl) ⟨Nat.le_refl _, Nat.le_refl _⟩ (zdI ?_)
            simp only [zp_s, hen]
            refine wa_ist5 dX0_somebodyGoes_53 (by decide) rfl ?_
            refine wa_ald0 dX0_somebodyGoes_55 ?_
            refine gX0_15 dX0_somebodyGoes_56 rfl (by first | assumption | exact hL.1 _ (by decide)) (by first | assumption | exact hL.2 _ _ (by decide)) ?_
            refine wa_ild5 dX0_somebodyGoes_59 ?_
            refine wa_iaload dX0_somebodyGoes_61 (by first | assumption | exact hL.1 _ (by decide)) (by first | omega | (simp only [zp_s, Int.toNat_natCast]; omega)) (by first | decide | omega) ?_
            refine wa_ald0 dX0_somebodyGoes_62 ?_
            refine gX0_15 dX0_somebodyGoes_63 rfl (by first | assumption | exact hL.1 _ (by decide)) (by first | assumption | exact hL.2 _ _ (by decide)) ?_
            refine wa_ild4 dX0_somebodyGoes_66 ?_
            refine wa_iaload dX0_somebodyGoes_68 (by first | assumption | exact hL.1 _ (by decide)) (by first | omega | (simp only [zp_s, Int.toNat_natCast]; omega)) (by first | decide | omega) ?_
            refine wa_icmp_lt 76 dX0_somebodyGoes_69 (by decide) (by first | omega | (simp only [zp_s, Int.toNat_natCast]; omega)) (by first | omega | (simp only [zp_s, Int.toNat_natCast]; omega)) (fun c69 => ?_) (fun c69 => ?_)
            · simp only [zp_s, Int.toNat_natCast] at c69
              first | rw [if_pos (by omega)] at hto | rw [if_neg (by omega)] at hto
              subst hto
              exact turn _ (by rw [zp_n _ _ (by decide)]) (zp_s _ _ _) (fun k k1 k2 => by rw [zp_n _ _ k2]; exact ho k k1 k2)
            · refine wa_ild4 dX0_somebodyGoes_72 ?_
              refine wa_ist5 dX0_somebodyGoes_74 (by decide) rfl ?_
              simp only [zp_s, Int.toNat_natCast] at c69
              first | rw [if_pos (by omega)] at hto | rw [if_neg (by omega)] at hto
              subst hto
              exact turn _ (by rw [zp_n _ _ (by decide)]) (zp_s _ _ _) (fun k k1 k2 => by rw [zp_n _ _ k2]; exact ho k k1 k2)
          · exact absurd c31 (by omega)
  refine wa_iconst dX0_somebodyGoes_0 ?_
  refine wa_ist2 dX0_somebodyGoes_1 (by decide) rfl ?_
  refine wa_iconst dX0_somebodyGoes_2 ?_
  refine wa_ist3 dX0_somebodyGoes_3 (by decide) rfl ?_
  exact loop c 0 V (by omega) rfl rfl (fun _ _ _ => rfl)
/-- where each says it at first, how many where -/
def st0 (c : Nat) (i : Nat) : Int := if i + 1 < c then (i : Int) + 1 else (i : Int) - 1
def cn0 (c : Nat) : Nat → Nat → Int
  | 0 => fun _ => 0
  | m + 1 => za (cn0 c m) (st0 c m).toNat (cn0 c m (st0 c m).toNat + 1)
/-- rounds till nobody goes -/
def rdsF (c : Nat) : Nat → Int → (Nat → Int) × (Nat → Int) → Int × (Nat → Int) × (Nat → Int)
  | 0, _, q => (-6, q)
  | f + 1, i, q => if (rgF (gsS c) c (q.1, q.2, false)).2.2 = true then rdsF c f (i + 1) ((rgF (gsS c) c (q.1, q.2, false)).1, (rgF (gsS c) c (q.1, q.2, false)).2.1) else (i, (rgF (gsS c) c (q.1, q.2, false)).1, (rgF (gsS c) c (q.1, q.2, false)).2.1)
def stP (c : Nat) (V : zE) (x : Int) (V' : zE) : Prop := (∃ s : Nat → Int, (∀ j, j < c → s j = st0 c j) ∧ x = (rdsF c 50 1 (s, cn0 c c)).1 ∧ V' 36 = (rdsF c 50 1 (s, cn0 c c)).2.2) ∧ ∀ k, k ≠ 35 → k ≠ 36 → V' k = V k
theorem cn0_b {c m : Nat} (hm : m ≤ c) : ∀ j, 0 ≤ cn0 c m j ∧ cn0 c m j ≤ m := by
  induction m with
  | zero => intro j; exact ⟨Int.le_refl _, Int.le_refl _⟩
  | succ m ih =>
    intro j
    have h1 := ih (by omega) j
    have h2 := ih (by omega) (st0 c m).toNat
    unfold cn0
    by_cases h : j = (st0 c m).toNat
    · subst h; rw [za_s]; omega
    · rw [za_n _ _ h]; omega
theorem ct_settle {n : Nat} {S : zH} {Rf : zG} {V : zE} {c : Nat} (hL : Lay S Rf) (h2 : 2 ≤ c) (h8 : c ≤ 8) : Cpi 3 mX0_settle [zR 34, zI (c : Int)] n S Rf V (stP c V) := by
  refine ct_of (by decide) rfl (Nat.le_of_ble_eq_true rfl) ?_
  have loop2 : ∀ (f i : Nat) (V' : zE) (s : Nat → Int), i + f = 51 → (∀ j, j < c → s j = st0 c j) → rdsF c 50 1 (s, cn0 c c) = rdsF c f i (V' 35, V' 36) → (∀ j, j < c → 0 ≤ V' 35 j ∧ V' 35 j < c) → (∀ j, -(16 * (i : Int)) ≤ V' 36 j ∧ V' 36 j ≤ 16 * (i : Int)) → (∀ k, k ≠ 35 → k ≠ 36 → V' k = V k) → Wa zXn mX0_settle (zrm 3 0 0) (zZm (qPI S Rf (stP c V)) (n + 0) 0 0) 0 0 n S 78 [some (zR 34), some (zI (c : Int)), some (zI (i : Int))] [] Rf V' := by
    intro f
    induction f with
    | zero =>
      intro i V' s hi hs hr hb hx ho
      refine wa_ild2 dX0_settle_78 ?_
      refine wa_bipush dX0_settle_79 (by decide) ?_
      refine wa_icmp_gt 100 dX0_settle_81 (by decide) (by omega) (by omega) (fun c81 => ?_) (fun c81 => ?_)
      · refine wa_bipush dX0_settle_100 (by decide) ?_
        exact wa_ireturn dX0_settle_102 rfl rfl (Nat.le_refl _) (by exact ⟨_, rfl, rfl, rfl, ⟨s, hs, by rw [hr]; rfl, by rw [hr]; rfl⟩, ho⟩)
      · exact absurd c81 (by omega)
    | succ f ih =>
      intro i V' s hi hs hr hb hx ho
      obtain ⟨b1, b2⟩ := gsF_b (c := c) (q := (V' 35, V' 36, false)) (B := 16 * (i : Int)) h2 hb hx c (Nat.le_refl _)
      refine wa_ild2 dX0_settle_78 ?_
      refine wa_bipush dX0_settle_79 (by decide) ?_
      refine wa_icmp_gt 100 dX0_settle_81 (by decide) (by first | omega | exact hy) (by first | omega | exact hy) (fun c81 => ?_) (fun c81 => ?_)
      · exact absurd c81 (by omega)
      · refine wa_ald0 dX0_settle_84 ?_
        refine wa_ild1 dX0_settle_85 ?_
        refine kX0_30 dX0_settle_86 rfl (by first | assumption | exact hL.1 _ (by decide)) (ct_somebodyGoes hL h2 h8 hb (fun j => by have := hx j; omega)) (by decide) (Nat.le_of_ble_eq_true rfl) ⟨Nat.le_refl _, Nat.le_refl _⟩ (zpI fun y V2 hp2 => ?_)
        obtain ⟨p1, p2, p3, p4⟩ := hp2
        subst p1
        have hy : -2147483648 ≤ (if (rgF (gsS c) c (V' 35, V' 36, false)).2.2 = true then (1 : Int) else 0) ∧ (if (rgF (gsS c) c (V' 35, V' 36, false)).2.2 = true then (1 : Int) else 0) ≤ 2147483647 := by split <;> decide
        refine wa_if_ne 94 dX0_settle_89 (by decide) (by first | omega | exact hy) (fun c89 => ?_) (fun c89 => ?_)
        · refine wa_iinc2 dX0_settle_94 (by decide) rfl ?_
          refine wa_goto 78 dX0_settle_97 (by decide) ?_
          rw [show (i : Int) + 1 = ((i + 1 : Nat) : Int) by omega]
          have hg : (rgF (gsS c) c (V' 35, V' 36, false)).2.2 = true := by (by_cases h : (rgF (gsS c) c (V' 35, V' 36, false)).2.2 = true); exact h; rw [if_neg h] at c89; omega
          exact ih (i + 1) V2 s (by omega) hs (by rw [hr, rdsF, if_pos hg, p2, p3]; rfl) (fun j hj => by rw [p2]; exact b1 j hj) (fun j => by rw [p3]; have := b2 j; omega) (fun k k1 k2 => by rw [p4 k k1 k2]; exact ho k k1 k2)
        · refine wa_ild2 dX0_settle_92 ?_
          exact wa_ireturn dX0_settle_93 rfl rfl (Nat.le_refl _) (by refine ⟨_, rfl, rfl, rfl, ⟨s, hs, ?_, ?_⟩, fun k k1 k2 => by rw [p4 k k1 k2]; exact ho k k1 k2⟩ <;> rw [hr, rdsF, if_neg (fun h => by rw [if_pos h] at c89; omega)]; rw [p3])
  have loop1 : ∀ (q i : Nat) (V' : zE), i + q = c → (∀ j, j < i → V' 35 j = st0 c j) → V' 36 = cn0 c i → (∀ k, k ≠ 35 → k ≠ 36 → V' k = V k) → Wa zXn mX0_settle (zrm 3 0 0) (zZm (qPI S Rf (stP c V)) (n + 0) 0 0) 0 0 n S 10 [some (zR 34), some (zI (c : Int)), some (zI (i : Int))] [] Rf V' := by
    intro q
    induction q with
    | zero =>
      intro i V' hi h35 h36 ho
      obtain rfl : i = c := by omega
      refine wa_ild2 dX0_settle_10 ?_
      refine wa_ild1 dX0_settle_11 ?_
      refine wa_icmp_ge 76 dX0_settle_12 (by decide) (by omega) (by omega) (fun c12 => ?_) (fun c12 => ?_)
      · refine wa_iconst dX0_settle_76 ?_
        refine wa_ist2 dX0_settle_77 (by decide) rfl ?_
        exact loop2 50 1 V' (V' 35) (by omega) h35 (by rw [h36]; rfl) (fun j hj => by rw [h35 j hj]; unfold st0; split <;> omega) (fun j => by rw [h36]; have := cn0_b (c := i) (Nat.le_refl i) j; omega) ho
      · exact absurd c12 (by omega)
    | succ q ih =>
      intro i V' hi h35 h36 ho
      have hst : 0 ≤ st0 c i ∧ st0 c i < c := by unfold st0; split <;> omega
      have fin : ∀ (v : Int), v = st0 c i → Wa zXn mX0_settle (zrm 3 0 0) (zZm (qPI S Rf (stP c V)) (n + 0) 0 0) 0 0 n S 54 [some (zR 34), some (zI (c : Int)), some (zI (i : Int))] [zI v, zI (i : Int), zR 35] Rf V' := by
        intro v hv
        subst hv
        refine wa_iastore dX0_settle_54 (by first | assumption | exact hL.1 _ (by decide)) (by first | omega | (simp only [Int.toNat_natCast, zp_s, za_s]; omega)) (by first | decide | omega) ?_
        refine wa_ald0 dX0_settle_55 ?_
        refine gX0_15 dX0_settle_56 rfl (by first | assumption | exact hL.1 _ (by decide)) (by first | assumption | exact hL.2 _ _ (by decide)) ?_
        refine wa_ald0 dX0_settle_59 ?_
        refine gX0_9 dX0_settle_60 rfl (by first | assumption | exact hL.1 _ (by decide)) (by first | assumption | exact hL.2 _ _ (by decide)) ?_
        refine wa_ild2 dX0_settle_63 ?_
        refine wa_iaload dX0_settle_64 (by first | assumption | exact hL.1 _ (by decide)) (by first | omega | (simp only [Int.toNat_natCast, zp_s, za_s]; omega)) (by first | decide | omega) ?_
        simp only [Int.toNat_natCast, zp_s, za_s]
        refine wa_dup2 dX0_settle_65 rfl rfl ?_
        refine wa_iaload dX0_settle_66 (by first | assumption | exact hL.1 _ (by decide)) (by first | omega | (simp only [Int.toNat_natCast, zp_s, za_s]; omega)) (by first | decide | omega) ?_
        refine wa_iconst dX0_settle_67 ?_
        refine wa_iadd dX0_settle_68 ?_
        refine wa_iastore dX0_settle_69 (by first | assumption | exact hL.1 _ (by decide)) (by first | omega | (simp only [Int.toNat_natCast, zp_s, za_s]; omega)) (by first | decide | omega) ?_
        refine wa_iinc2 dX0_settle_70 (by decide) rfl ?_
        refine wa_goto 10 dX0_settle_73 (by decide) ?_
        rw [show (i : Int) + 1 = ((i + 1 : Nat) : Int) by omega]
        refine ih (i + 1) _ (by omega) (fun j hj => ?_) ?_ (fun k k1 k2 => by rw [zp_n _ _ k2, zp_n _ _ k1]; exact ho k k1 k2)
        · rw [zp_n _ _ (by decide), zp_s]
          by_cases h : j = i
          · subst h; rw [za_s]
          · rw [za_n _ _ h]; exact h35 j (by omega)
        · rw [zp_s, zp_n _ _ (by decide), h36]; rfl
      refine wa_ild2 dX0_settle_10 ?_
      refine wa_ild1 dX0_settle_11 ?_
      refine wa_icmp_ge 76 dX0_settle_12 (by decide) (by omega) (by omega) (fun c12 => ?_) (fun c12 => ?_)
      · exact absurd c12 (by omega)
      · refine wa_ild2 dX0_settle_15 ?_
        refine wa_bipush dX0_settle_16 (by decide) ?_
        refine wa_icmp_ge 76 dX0_settle_18 (by decide) (by omega) (by omega) (fun c18 => ?_) (fun c18 => ?_)
        · exact absurd c18 (by omega)
        · refine wa_ald0 dX0_settle_21 ?_
          refine gX0_9 dX0_settle_22 rfl (by first | assumption | exact hL.1 _ (by decide)) (by first | assumption | exact hL.2 _ _ (by decide)) ?_
          refine wa_ild2 dX0_settle_25 ?_
          refine wa_ild2 dX0_settle_26 ?_
          refine wa_iconst dX0_settle_27 ?_
          refine wa_iadd dX0_settle_28 ?_
          refine wa_ild1 dX0_settle_29 ?_
          refine wa_icmp_ge 47 dX0_settle_30 (by decide) (by omega) (by omega) (fun c30 => ?_) (fun c30 => ?_)
          · refine wa_iconst dX0_settle_47 ?_
            refine wa_ild2 dX0_settle_48 ?_
            refine wa_iconst dX0_settle_49 ?_
            refine wa_isub dX0_settle_50 ?_
            refine wa_max dX0_settle_51 lX0_24 w_st_max w_iMath w_co_max ⟨Nat.le_of_ble_eq_true rfl, Nat.le_of_ble_eq_true rfl⟩ (by decide) (by omega) (by omega) ?_
            first | (exfalso; omega) | exact fin _ (by unfold st0; rw [if_pos (by omega)]) | exact fin _ (by unfold st0; rw [if_neg (by omega)]; omega)
          · refine wa_ild2 dX0_settle_33 ?_
            refine wa_iconst dX0_settle_34 ?_
            refine wa_iadd dX0_settle_35 ?_
            refine wa_bipush dX0_settle_36 (by decide) ?_
            refine wa_icmp_ge 47 dX0_settle_38 (by decide) (by omega) (by omega) (fun c38 => ?_) (fun c38 => ?_)
            · refine wa_iconst dX0_settle_47 ?_
              refine wa_ild2 dX0_settle_48 ?_
              refine wa_iconst dX0_settle_49 ?_
              refine wa_isub dX0_settle_50 ?_
              refine wa_max dX0_settle_51 lX0_24 w_st_max w_iMath w_co_max ⟨Nat.le_of_ble_eq_true rfl, Nat.le_of_ble_eq_true rfl⟩ (by decide) (by omega) (by omega) ?_
              first | (exfalso; omega) | exact fin _ (by unfold st0; rw [if_pos (by omega)]) | exact fin _ (by unfold st0; rw [if_neg (by omega)]; omega)
            · refine wa_ild2 dX0_settle_41 ?_
              refine wa_iconst dX0_settle_42 ?_
              refine wa_iadd dX0_settle_43 ?_
              refine wa_goto 54 dX0_settle_44 (by decide) ?_
              first | (exfalso; omega) | exact fin _ (by unfold st0; rw [if_pos (by omega)]) | exact fin _ (by unfold st0; rw [if_neg (by omega)]; omega)
  refine wa_ald0 dX0_settle_0 ?_
  refine gX0_15 dX0_settle_1 rfl (by first | assumption | exact hL.1 _ (by decide)) (by first | assumption | exact hL.2 _ _ (by decide)) ?_
  refine wa_iconst dX0_settle_4 ?_
  refine kX0_18 dX0_settle_5 rfl (ct_fill (hL.1 36 (by decide)) (by decide)) (by decide) (Nat.le_of_ble_eq_true rfl) ⟨Nat.le_refl _, Nat.le_refl _⟩ (zdN ?_)
  refine wa_iconst dX0_settle_8 ?_
  refine wa_ist2 dX0_settle_9 (by decide) rfl ?_
  exact loop1 c 0 _ (by omega) (fun j hj => absurd hj (by omega)) (zp_s _ _ _) (fun k _ k2 => zp_n _ _ k2)
