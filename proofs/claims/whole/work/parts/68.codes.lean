/-! where: places as numbers, the least first -/
theorem rg_add {α : Type} {f : Nat → α → α} (a : Nat) (B : α) : ∀ b, rgF f (a + b) B = rgF (fun r => f (a + r)) b (rgF f a B) := by
  intro b
  induction b with
  | zero => rfl
  | succ b ih => rw [← Nat.add_assoc, rgF, ih, rgF]
theorem rg_mul {α : Type} {f : Nat → α → α} (M : Nat) (B : α) : ∀ A, rgF f (A * M) B = rgF (fun h B => rgF (fun r => f (h * M + r)) M B) A B := by
  intro A
  induction A with
  | zero => rw [Nat.zero_mul]; rfl
  | succ A ih => rw [Nat.succ_mul, rg_add, ih, rgF]
theorem rg_cong {α : Type} {f g : Nat → α → α} {P : α → Prop} : ∀ m, (∀ r, r < m → ∀ B, P B → f r B = g r B ∧ P (g r B)) → ∀ B, P B → rgF f m B = rgF g m B ∧ P (rgF g m B) := by
  intro m
  induction m with
  | zero => intro _ B hB; exact ⟨rfl, hB⟩
  | succ m ih =>
    intro h B hB
    obtain ⟨h1, h2⟩ := ih (fun r hr => h r (by omega)) B hB
    rw [rgF, rgF, h1]
    exact h m (by omega) _ h2
def ownF (c : Nat) (roof rule : Nat → Int) (f0 : Int) : List (Int × Int × Int) → Nat → zDs → Int → Int
  | [], _, _, u => u
  | x :: ws, a, q, u => if a / (c + 1) ^ ws.length = c then ownF c roof rule f0 ws (a % (c + 1) ^ ws.length) q (u + 1) else if canB c roof rule f0 x.1 ((a / (c + 1) ^ ws.length : Nat) : Int) x.2.2 q = true then ownF c roof rule f0 ws (a % (c + 1) ^ ws.length) (sayD rule x.1 ((a / (c + 1) ^ ws.length : Nat) : Int) x.2.2 q) u else 10000000
def putF (c : Nat) : Nat → Nat → Nat → (Nat → Int) → (Nat → Int)
  | 0, _, _, t => t
  | L + 1, a, i, t => putF c L (a % (c + 1) ^ L) (i + 1) (za t i (if a / (c + 1) ^ L = c then -6 else ((a / (c + 1) ^ L : Nat) : Int)))
theorem own_b {c : Nat} {roof rule : Nat → Int} {f0 : Int} : ∀ (ws : List (Int × Int × Int)) (a : Nat) (q : zDs) (u : Int), ownF c roof rule f0 ws a q u = 10000000 ∨ (u ≤ ownF c roof rule f0 ws a q u ∧ ownF c roof rule f0 ws a q u ≤ u + ws.length) := by
  intro ws
  induction ws with
  | nil => intro a q u; right; rw [ownF]; simp
  | cons x ws ih =>
    intro a q u
    rw [ownF, List.length_cons]
    split
    · rcases ih (a % (c + 1) ^ ws.length) q (u + 1) with h | h
      · exact Or.inl h
      · right; omega
    · split
      · rcases ih (a % (c + 1) ^ ws.length) (sayD rule x.1 ((a / (c + 1) ^ ws.length : Nat) : Int) x.2.2 q) u with h | h
        · exact Or.inl h
        · right; omega
      · exact Or.inl rfl
theorem dm_1 {h M r : Nat} (hr : r < M) : (h * M + r) / M = h ∧ (h * M + r) % M = r := by
  have hM : 0 < M := by omega
  constructor
  · rw [Nat.mul_comm, Nat.mul_add_div hM, Nat.div_eq_of_lt hr, Nat.add_zero]
  · rw [Nat.mul_comm, Nat.mul_add_mod, Nat.mod_eq_of_lt hr]
theorem pl_fold {c : Nat} {roof rule : Nat → Int} {f0 : Int} : ∀ (ws : List (Int × Int × Int)) (i : Nat) (q : zDs) (t : Nat → Int) (u : Int) (B : Int × (Nat → Int)), B.1 ≤ 10000000 → plS c roof rule f0 ws i q t u B = rgF (fun a B => if ownF c roof rule f0 ws a q u < B.1 then (ownF c roof rule f0 ws a q u, putF c ws.length a i t) else B) ((c + 1) ^ ws.length) B := by
  intro ws
  induction ws with
  | nil => intro i q t u B _; rfl
  | cons x ws ih =>
    intro i q t u B hB
    rw [plS, List.length_cons, Nat.pow_succ, Nat.mul_comm, rg_mul, rgF]
    generalize hM : (c + 1) ^ ws.length = M at ih
    have key := rg_cong (P := fun B : Int × (Nat → Int) => B.1 ≤ 10000000) (f := fun (h : Nat) (B : Int × (Nat → Int)) => rgF (fun r B => if ownF c roof rule f0 (x :: ws) (h * M + r) q u < B.1 then (ownF c roof rule f0 (x :: ws) (h * M + r) q u, putF c (ws.length + 1) (h * M + r) i t) else B) M B) (g := fun (g : Nat) (B : Int × (Nat → Int)) => if canB c roof rule f0 x.1 g x.2.2 q = true then plS c roof rule f0 ws (i + 1) (sayD rule x.1 g x.2.2 q) (za t i g) u B else B) c (fun h hh B hB => by
      have hmono : ∀ (fo : Nat → Int) (pt : Nat → (Nat → Int)) (N : Nat) (B : Int × (Nat → Int)), B.1 ≤ 10000000 → (rgF (fun a B => if fo a < B.1 then (fo a, pt a) else B) N B).1 ≤ 10000000 := by
        intro fo pt N
        induction N with
        | zero => intro B hB; exact hB
        | succ N ihN =>
          intro B hB
          have := ihN B hB
          rw [rgF]
          split
          · dsimp only; omega
          · exact this
      try dsimp only
      by_cases hcan : canB c roof rule f0 x.1 (h : Int) x.2.2 q = true
      · rw [if_pos hcan, ih (i + 1) _ _ u B hB]
        refine ⟨?_, hmono _ _ _ _ hB⟩
        refine (rg_cong (P := fun _ => True) M (fun r hr B _ => ⟨?_, trivial⟩) B trivial).1
        obtain ⟨e1, e2⟩ := dm_1 (h := h) hr
        have o1 : ownF c roof rule f0 (x :: ws) (h * M + r) q u = ownF c roof rule f0 ws r (sayD rule x.1 (h : Int) x.2.2 q) u := by rw [ownF, hM, e1, e2, if_neg (by omega), if_pos hcan]
        have o2 : putF c (ws.length + 1) (h * M + r) i t = putF c ws.length r (i + 1) (za t i (h : Int)) := by rw [putF, hM, e1, e2, if_neg (by omega)]
        rw [o1, o2]
      · rw [if_neg hcan]
        refine ⟨?_, hB⟩
        have hid := (rg_cong (P := fun B : Int × (Nat → Int) => B.1 ≤ 10000000) (f := fun r B => if ownF c roof rule f0 (x :: ws) (h * M + r) q u < B.1 then (ownF c roof rule f0 (x :: ws) (h * M + r) q u, putF c (ws.length + 1) (h * M + r) i t) else B) (g := fun _ B => B) M (fun r hr B hB => by
          obtain ⟨e1, e2⟩ := dm_1 (h := h) hr
          refine ⟨?_, hB⟩
          have o1 : ownF c roof rule f0 (x :: ws) (h * M + r) q u = 10000000 := by rw [ownF, hM, e1, if_neg (by omega), if_neg hcan]
          rw [o1, if_neg (by omega)]) B hB).1
        rw [hid]
        exact rgF_id (fun g => rfl)) B hB
    rw [key.1, ih (i + 1) q (za t i (-6)) (u + 1) _ key.2]
    refine ((rg_cong (P := fun _ => True) M (fun r hr B _ => ⟨?_, trivial⟩) _ trivial).1).symm
    obtain ⟨e1, e2⟩ := dm_1 (h := c) hr
    rw [ownF, putF, hM, e1, e2, if_pos rfl, if_pos rfl]
/-- the best so far, and its number -/
def bsF (own : Nat → Int) (N : Nat) : Int × Nat := rgF (fun a B => if own a < B.1 then (own a, a) else B) N (10000000, 0)
theorem pl_bs {own : Nat → Int} {pt : Nat → (Nat → Int)} {m : Int} {b : Nat → Int} (hm : m ≤ 100) : ∀ N, (∀ a, a < N → own a = 10000000 ∨ (0 ≤ own a ∧ own a ≤ m)) → ((0 ≤ (bsF own N).1 ∧ (bsF own N).1 ≤ m) ∧ rgF (fun a B => if own a < B.1 then (own a, pt a) else B) N (m + 1, b) = ((bsF own N).1, pt (bsF own N).2) ∧ (bsF own N).2 < N) ∨ ((bsF own N).1 = 10000000 ∧ rgF (fun a B => if own a < B.1 then (own a, pt a) else B) N (m + 1, b) = (m + 1, b) ∧ ∀ a, a < N → own a = 10000000) := by
  intro N
  induction N with
  | zero => intro _; exact Or.inr ⟨rfl, rfl, fun a h => absurd h (by omega)⟩
  | succ N ih =>
    intro h
    have hN := h N (by omega)
    have e : bsF own (N + 1) = if own N < (bsF own N).1 then (own N, N) else bsF own N := rfl
    rw [e, rgF]
    rcases ih (fun a ha => h a (by omega)) with ⟨h1, h2, h3⟩ | ⟨h1, h2, h3⟩
    · rw [h2]
      dsimp only
      by_cases hlt : own N < (bsF own N).1
      · rw [if_pos hlt, if_pos hlt]
        exact Or.inl ⟨by dsimp only; omega, rfl, by dsimp only; omega⟩
      · rw [if_neg hlt, if_neg hlt]
        exact Or.inl ⟨h1, rfl, by omega⟩
    · rw [h2]
      dsimp only
      rcases hN with hN | hN
      · rw [if_neg (by omega), if_neg (by omega)]
        refine Or.inr ⟨h1, rfl, fun a ha => ?_⟩
        by_cases hh : a = N
        · rw [hh]; exact hN
        · exact h3 a (by omega)
      · rw [if_pos (by omega), if_pos (by omega)]
        exact Or.inl ⟨hN, rfl, by dsimp only; omega⟩
theorem own_all {c : Nat} {roof rule : Nat → Int} {f0 : Int} : ∀ (ws : List (Int × Int × Int)) (q : zDs) (u : Int), ownF c roof rule f0 ws ((c + 1) ^ ws.length - 1) q u = u + ws.length := by
  intro ws
  induction ws with
  | nil => intro q u; rw [ownF]; simp
  | cons x ws ih =>
    intro q u
    have hp : 0 < (c + 1) ^ ws.length := Nat.pow_pos (by omega)
    have e : (c + 1) ^ (ws.length + 1) - 1 = c * (c + 1) ^ ws.length + ((c + 1) ^ ws.length - 1) := by
      rw [Nat.pow_succ, Nat.mul_comm, Nat.succ_mul]; omega
    obtain ⟨e1, e2⟩ := dm_1 (h := c) (M := (c + 1) ^ ws.length) (r := (c + 1) ^ ws.length - 1) (by omega)
    rw [ownF, List.length_cons, e, e1, e2, if_pos rfl, ih]; simp; omega
theorem dig_mod {b L j a : Nat} (hb : 0 < b) (hj : j < L) : a % b ^ L / b ^ j % b = a / b ^ j % b := by
  obtain ⟨e, rfl⟩ : ∃ e, L = j + 1 + e := ⟨L - j - 1, by omega⟩
  have hp : 0 < b ^ j := Nat.pow_pos hb
  conv => rhs; rw [← Nat.div_add_mod a (b ^ (j + 1 + e))]
  rw [show b ^ (j + 1 + e) = b ^ j * (b * b ^ e) by rw [Nat.pow_add, Nat.pow_succ, Nat.mul_assoc]]
  rw [Nat.mul_assoc (b ^ j), Nat.mul_add_div hp, Nat.mul_assoc b, Nat.mul_add_mod]
theorem put_lo {c : Nat} : ∀ (L a i : Nat) (t : Nat → Int) (j : Nat), j < i → putF c L a i t j = t j := by
  intro L
  induction L with
  | zero => intro a i t j _; rfl
  | succ L ih => intro a i t j hj; rw [putF, ih _ _ _ _ (by omega), za_n _ _ (by omega)]
theorem put_at {c : Nat} : ∀ (L a i : Nat) (t : Nat → Int) (k : Nat), k < L → a < (c + 1) ^ L → putF c L a i t (i + k) = if a / (c + 1) ^ (L - 1 - k) % (c + 1) = c then -6 else ((a / (c + 1) ^ (L - 1 - k) % (c + 1) : Nat) : Int) := by
  intro L
  induction L with
  | zero => intro a i t k hk; omega
  | succ L ih =>
    intro a i t k hk ha
    have hp : 0 < (c + 1) ^ L := Nat.pow_pos (by omega)
    rw [putF]
    rcases k with _ | k
    · rw [show i + 0 = i from rfl, put_lo _ _ _ _ _ (by omega), za_s, show L + 1 - 1 - 0 = L by omega]
      have h1 : a / (c + 1) ^ L < c + 1 := by rw [Nat.div_lt_iff_lt_mul hp, Nat.mul_comm, ← Nat.pow_succ]; exact ha
      rw [Nat.mod_eq_of_lt h1]
    · rw [show i + (k + 1) = i + 1 + k by omega, ih _ _ _ k (by omega) (Nat.mod_lt _ hp), dig_mod (by omega) (by omega), show L + 1 - 1 - (k + 1) = L - 1 - k by omega]
/-- unsaid words, by their places -/
def unP (c : Nat) (roof rule : Nat → Int) (f0 : Int) (pl : Nat → Int) : List (Int × Int × Int) → Nat → zDs → Int → Int
  | [], _, _, u => u
  | x :: ws, i, q, u => if pl i = (c : Int) then unP c roof rule f0 pl ws (i + 1) q (u + 1) else if canB c roof rule f0 x.1 (pl i) x.2.2 q = true then unP c roof rule f0 pl ws (i + 1) (sayD rule x.1 (pl i) x.2.2 q) u else 10000000
theorem un_own {c : Nat} {roof rule : Nat → Int} {f0 : Int} {pl : Nat → Int} : ∀ (ws : List (Int × Int × Int)) (i a : Nat) (q : zDs) (u : Int), a < (c + 1) ^ ws.length → (∀ k, k < ws.length → pl (i + k) = ((a / (c + 1) ^ (ws.length - 1 - k) % (c + 1) : Nat) : Int)) → unP c roof rule f0 pl ws i q u = ownF c roof rule f0 ws a q u := by
  intro ws
  induction ws with
  | nil => intro i a q u _ _; rfl
  | cons x ws ih =>
    intro i a q u ha hpl
    rw [List.length_cons] at ha hpl
    have hp : 0 < (c + 1) ^ ws.length := Nat.pow_pos (by omega)
    have h1 : a / (c + 1) ^ ws.length < c + 1 := by rw [Nat.div_lt_iff_lt_mul hp, Nat.mul_comm, ← Nat.pow_succ]; exact ha
    have h0 := hpl 0 (by omega)
    rw [Nat.add_zero, show ws.length + 1 - 1 - 0 = ws.length by omega, Nat.mod_eq_of_lt h1] at h0
    have ht : ∀ k, k < ws.length → pl (i + 1 + k) = ((a % (c + 1) ^ ws.length / (c + 1) ^ (ws.length - 1 - k) % (c + 1) : Nat) : Int) := by
      intro k hk
      rw [show i + 1 + k = i + (k + 1) by omega, hpl (k + 1) (by omega), dig_mod (by omega) (by omega), show ws.length + 1 - 1 - (k + 1) = ws.length - 1 - k by omega]
    rw [unP, ownF, h0]
    by_cases hc : a / (c + 1) ^ ws.length = c
    · rw [if_pos (by omega), if_pos hc, ih (i + 1) _ q (u + 1) (Nat.mod_lt _ hp) ht]
    · rw [if_neg (by omega), if_neg hc]
      split
      · exact ih (i + 1) _ _ u (Nat.mod_lt _ hp) ht
      · rfl
/-- a roof more has fallen -/
theorem i32_orn (x y : Int32) : y &&& ((x ||| y) ^^^ (-1)) = 0 := by
  apply Int32.toBitVec_inj.mp
  have e : (-1 : Int32).toBitVec = BitVec.allOnes 32 := by decide
  have e0 : (0 : Int32).toBitVec = 0#32 := by decide
  rw [Int32.toBitVec_and, Int32.toBitVec_xor, Int32.toBitVec_or, e, e0]
  ext i hi
  simp only [BitVec.getElem_or, BitVec.getElem_and, BitVec.getElem_xor, BitVec.getElem_allOnes, BitVec.getElem_zero]
  cases x.toBitVec[i] <;> cases y.toBitVec[i] <;> rfl
theorem zor_fell {f o : Int} (hf : -2147483648 ≤ f ∧ f ≤ 2147483647) : zor f o = f ↔ zand o (zxor f (-1)) = 0 := by
  have h1 : zor f o = f ↔ Int32.ofInt f ||| Int32.ofInt o = Int32.ofInt f := by
    constructor
    · intro h
      have h2 : Int32.ofInt (zor f o) = Int32.ofInt f := by rw [h]
      unfold zor at h2
      rw [Int32.ofInt_toInt] at h2; exact h2
    · intro h
      unfold zor; rw [h, zi_to hf]
  have h2 : zand o (zxor f (-1)) = 0 ↔ Int32.ofInt o &&& (Int32.ofInt f ^^^ (-1)) = 0 := by
    unfold zand zxor
    rw [Int32.ofInt_toInt, show Int32.ofInt (-1) = -1 from rfl]
    constructor
    · intro h; apply Int32.toInt_inj.mp; rw [h]; decide
    · intro h; rw [h]; decide
  rw [h1, h2]
  constructor
  · intro h
    have := i32_orn (Int32.ofInt f) (Int32.ofInt o)
    rw [h] at this; exact this
  · intro h
    have := i32_oran (Int32.ofInt f) (Int32.ofInt o)
    rw [h, i32_or0] at this; exact this.symm
/-- plain words: three signs each -/
theorem pl_len {c : Nat} {p : Nat → Int} {len : Nat} : ∀ (f a : Nat) (us : List (Int × Int × Int)), a ≤ len → len ≤ a + f → prs c (sgF p len) len f a = (us, -6) → onlyB us → a + 3 * us.length = len ∧ ∀ j x, us[j]? = some x → x = (kdF (p (a + 3 * j + 2)), p (a + 3 * j) - 97, p (a + 3 * j + 1) - 65) ∧ ((x.1 = 0 ∧ p (a + 3 * j + 2) = 116) ∨ (x.1 = 1 ∧ p (a + 3 * j + 2) = 108)) := by
  intro f
  induction f with
  | zero =>
    intro a us h1 h2 h3 _
    rw [prs] at h3
    obtain rfl : [] = us := (Prod.mk.inj h3).1
    exact ⟨by simp; omega, fun j x h => by simp at h⟩
  | succ f ih =>
    intro a us h1 h2 h3 h4
    by_cases hal : len ≤ a
    · rw [prs_out hal] at h3
      obtain rfl : [] = us := (Prod.mk.inj h3).1
      exact ⟨by simp; omega, fun j x h => by simp at h⟩
    have hal' : a < len := by omega
    obtain ⟨s1, s2, s3⟩ := prs_step hal' (by rw [h3])
    have hcs := pw_cases (by omega) s1
    have hsa := sgF_in (p := p) hal'
    rw [h3] at s2
    dsimp only at s2
    subst s2
    have h40 := h4 _ List.mem_cons_self
    rcases hpw : pwF c (sgF p len) (a : Int) with ⟨p1, kd, g, w⟩
    rw [hpw] at s1 s3 hcs h40 h4
    dsimp only at s1 s3 h40 h4
    rw [hsa] at hcs
    rcases hcs with ⟨_, hq⟩ | ⟨_, hq⟩ | ⟨_, _, _, _, hq⟩ | ⟨hb, hb1, hb2, hb3, hb4, hb5, hq⟩
    · obtain ⟨rfl, rfl, rfl, rfl⟩ : p1 = 1 ∧ kd = 4 ∧ g = 0 ∧ w = 0 := by simpa using hq
      omega
    · obtain ⟨rfl, rfl, rfl, rfl⟩ : p1 = 1 ∧ kd = 5 ∧ g = 0 ∧ w = 0 := by simpa using hq
      omega
    · obtain ⟨rfl, rfl, -, -⟩ : p1 = 2 ∧ kd = 3 ∧ g = p a - 97 ∧ w = 0 := by simpa using hq
      omega
    · obtain ⟨rfl, rfl, rfl, rfl⟩ : p1 = 3 ∧ kd = kdF (sgF p len (↑a + 2)) ∧ g = p a - 97 ∧ w = sgF p len (↑a + 1) - 65 := by simpa using hq
      obtain ⟨n1, n2, n3⟩ := sgF_nz (p := p) (len := len) (i := (a : Int) + 1) (by omega)
      have hkh := kdF_h hb5
      obtain ⟨n4, n5, n6⟩ := sgF_nz (p := p) (len := len) (i := (a : Int) + 2) (by omega)
      rw [show ((a : Int) + 1).toNat = a + 1 by omega] at n3
      rw [show ((a : Int) + 2).toNat = a + 2 by omega] at n6
      rw [n6] at hkh
      rw [show ((3 : Int)).toNat = 3 from rfl] at s3
      have hus : prs c (sgF p len) len f (a + 3) = ((prs c (sgF p len) len f (a + 3)).1, -6) := by rw [← s3]
      obtain ⟨i1, i2⟩ := ih (a + 3) _ (by omega) (by omega) hus (fun q hq => h4 q (List.mem_cons_of_mem _ hq))
      refine ⟨?_, fun j x hx => ?_⟩
      · show a + 3 * ((prs c (sgF p len) len f (a + 3)).1.length + 1) = len
        omega
      change ((kdF (sgF p len (↑a + 2)), p a - 97, sgF p len (↑a + 1) - 65) :: (prs c (sgF p len) len f (a + 3)).1)[j]? = some x at hx
      rcases j with _ | j
      · simp only [List.getElem?_cons_zero, Option.some.injEq] at hx
        subst hx
        rw [n3, n6]
        refine ⟨rfl, ?_⟩
        have h401 := h40.1
        rw [n6] at h401
        simp only [Nat.mul_zero, Nat.add_zero]
        omega
      · rw [List.getElem?_cons_succ] at hx
        have := i2 j x hx
        rw [show a + 3 * (j + 1) = a + 3 + 3 * j by omega]
        exact this
