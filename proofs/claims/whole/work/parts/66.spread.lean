/-! salted: rows of spreads against their counts -/
theorem lwF_at {c : Nat} {g x : Int} {d : Nat → Int} {j : Nat} : lwF c g x d j = if 0 ≤ g ∧ g < c ∧ j = g.toNat then max 0 (d j - x) else d j := by
  unfold lwF
  by_cases h : 0 ≤ g ∧ g < c
  · rw [if_pos h]
    by_cases hj : j = g.toNat
    · rw [if_pos ⟨h.1, h.2, hj⟩, hj, za_s]
    · rw [za_n _ _ hj, if_neg (fun q => hj q.2.2)]
  · rw [if_neg h, if_neg (fun q => h ⟨q.1, q.2.1⟩)]
def ssF (c g : Nat) (d : Nat → Int) : Nat → Int := lwF c ((g : Int) + 1) 1 (lwF c ((g : Int) - 1) 1 (lwF c (g : Int) 2 d))
def ld1 (g j : Nat) : Int := if j = g then 2 else if j = g + 1 ∨ j + 1 = g then 1 else 0
theorem ss_at {c g j : Nat} {d : Nat → Int} (hg : g < c) (hj : j < c) (hd : 0 ≤ d j) : ssF c g d j = max 0 (d j - ld1 g j) := by
  unfold ssF ld1
  rw [lwF_at, lwF_at, lwF_at]
  by_cases h1 : j = g
  · rw [if_pos h1, if_neg (by omega), if_neg (by omega), if_pos (by omega)]
  · rw [if_neg h1]
    by_cases h2 : j = g + 1
    · rw [if_pos (Or.inl h2), if_pos (by omega), if_neg (by omega), if_neg (by omega)]
    · by_cases h3 : j + 1 = g
      · rw [if_pos (Or.inr h3), if_neg (by omega), if_pos (by omega), if_neg (by omega)]
      · rw [if_neg (by omega), if_neg (by omega), if_neg (by omega), if_neg (by omega)]; omega
theorem ss_0 {c g : Nat} {d : Nat → Int} (hd : ∀ j, 0 ≤ d j) : ∀ j, 0 ≤ ssF c g d j := by
  intro j
  have := hd j
  unfold ssF
  rw [lwF_at, lwF_at, lwF_at]
  (repeat' split) <;> omega
def spB (c : Nat) (d : Nat → Int) (g : Int) : Prop := (0 ≤ g ∧ g < c ∧ 0 < d g.toNat) ∨ (0 ≤ g - 1 ∧ g - 1 < c ∧ 0 < d (g - 1).toNat) ∨ (0 ≤ g + 1 ∧ g + 1 < c ∧ 0 < d (g + 1).toNat)
theorem hin_sp {c : Nat} {d rule said : Nat → Int} {g w : Int} : hinF c d rule said 3 g w = 0 ↔ spB c d g := by
  rw [hinF, if_neg (by decide), if_pos rfl]
  by_cases h : spB c d g
  · have h' := h
    unfold spB at h'
    rw [if_pos h']; exact ⟨fun _ => h, fun _ => rfl⟩
  · have h' := h
    unfold spB at h'
    rw [if_neg h']; exact ⟨fun q => absurd q (by decide), fun q => absurd q h⟩
theorem ss_bare {c g j : Nat} {d : Nat → Int} (hg : g < c) (hj : j < c) (hd : ∀ j, 0 ≤ d j) (hb : ¬ spB c d (g : Int)) : ssF c g d j = d j := by
  have hdj := hd j
  rw [ss_at hg hj hdj]
  unfold spB at hb
  unfold ld1
  by_cases h1 : j = g
  · subst h1
    rw [Int.toNat_natCast] at hb
    rw [if_pos rfl]; omega
  · rw [if_neg h1]
    by_cases h2 : j = g + 1
    · subst h2
      rw [show ((g : Int) + 1).toNat = g + 1 by omega] at hb
      rw [if_pos (Or.inl rfl)]; omega
    · by_cases h3 : j + 1 = g
      · subst h3
        rw [show (((j + 1 : Nat) : Int) - 1).toNat = j by omega] at hb
        rw [if_pos (Or.inr rfl)]; omega
      · rw [if_neg (by omega)]; omega
def stF (c : Nat) : List Nat → (Nat → Int) → (Nat → Int)
  | [], d => d
  | g :: gs, d => stF c gs (ssF c g d)
def okQ (c : Nat) (v : Int) : List Nat → (Nat → Int) → Prop
  | [], d => ∀ j, j < c → d j ≤ v
  | g :: gs, d => spB c d (g : Int) ∧ okQ c v gs (ssF c g d)
def ldF (j : Nat) : List Nat → Int
  | [] => 0
  | g :: gs => ld1 g j + ldF j gs
theorem ldF_0 {j : Nat} : ∀ gs : List Nat, 0 ≤ ldF j gs := by
  intro gs
  induction gs with
  | nil => exact Int.le_refl _
  | cons g gs ih => rw [ldF]; unfold ld1; (repeat' split) <;> omega
theorem st_at {c : Nat} : ∀ (gs : List Nat) (d : Nat → Int), (∀ g ∈ gs, g < c) → (∀ j, 0 ≤ d j) → ∀ j, j < c → stF c gs d j = max 0 (d j - ldF j gs) := by
  intro gs
  induction gs with
  | nil => intro d _ hd j hj; have := hd j; rw [stF, ldF]; omega
  | cons g gs ih =>
    intro d hg hd j hj
    have h0 := ldF_0 (j := j) gs
    rw [stF, ih (ssF c g d) (fun x hx => hg x (List.mem_cons_of_mem _ hx)) (ss_0 hd) j hj, ss_at (hg g List.mem_cons_self) hj (hd j), ldF]
    omega
theorem ok_st {c : Nat} {v : Int} : ∀ (gs : List Nat) (d : Nat → Int), okQ c v gs d → ∀ j, j < c → stF c gs d j ≤ v := by
  intro gs
  induction gs with
  | nil => intro d h; exact h
  | cons g gs ih => intro d h; exact ih _ h.2
theorem ok_or {c : Nat} {v : Int} : ∀ (gs : List Nat) (d : Nat → Int), (∀ g ∈ gs, g < c) → (∀ j, 0 ≤ d j) → (∀ j, j < c → stF c gs d j ≤ v) → okQ c v gs d ∨ ∃ gs' : List Nat, gs'.length < gs.length ∧ (∀ g ∈ gs', g < c) ∧ ∀ j, j < c → stF c gs' d j ≤ v := by
  intro gs
  induction gs with
  | nil => intro d _ _ h; exact Or.inl h
  | cons g gs ih =>
    intro d hg hd h
    have hg0 := hg g List.mem_cons_self
    have hg1 : ∀ x ∈ gs, x < c := fun x hx => hg x (List.mem_cons_of_mem _ hx)
    by_cases hb : spB c d (g : Int)
    · rcases ih (ssF c g d) hg1 (ss_0 hd) h with h1 | ⟨gs', h1, h2, h3⟩
      · exact Or.inl ⟨hb, h1⟩
      · right
        refine ⟨g :: gs', by simp; omega, fun x hx => ?_, h3⟩
        rcases List.mem_cons.mp hx with rfl | hx
        · exact hg0
        · exact h2 x hx
    · right
      refine ⟨gs, by simp, hg1, fun j hj => ?_⟩
      have h1 := h j hj
      rw [stF, st_at gs _ hg1 (ss_0 hd) j hj, ss_bare hg0 hj hd hb] at h1
      rw [st_at gs d hg1 hd j hj]; exact h1
/-- how often a garden stands in a row -/
def cnF (j : Nat) : List Nat → Int
  | [] => 0
  | g :: gs => (if g = j then 1 else 0) + cnF j gs
theorem cnF_0 {j : Nat} : ∀ gs : List Nat, 0 ≤ cnF j gs := by
  intro gs
  induction gs with
  | nil => exact Int.le_refl _
  | cons g gs ih => rw [cnF]; split <;> omega
theorem cnF_c {c j : Nat} (hj : c ≤ j) : ∀ gs : List Nat, (∀ g ∈ gs, g < c) → cnF j gs = 0 := by
  intro gs
  induction gs with
  | nil => intro _; rfl
  | cons g gs ih =>
    intro h
    have := h g List.mem_cons_self
    rw [cnF, if_neg (by omega), ih (fun x hx => h x (List.mem_cons_of_mem _ hx))]; rfl
theorem ld_cn {j : Nat} : ∀ gs : List Nat, ldF j gs = 2 * cnF j gs + (if j = 0 then 0 else cnF (j - 1) gs) + cnF (j + 1) gs := by
  intro gs
  induction gs with
  | nil => rw [ldF, cnF, cnF, cnF]; split <;> rfl
  | cons g gs ih =>
    rw [ldF, ih, cnF, cnF, cnF]
    unfold ld1
    by_cases h0 : j = 0
    · rw [if_pos h0, if_pos h0]
      (repeat' split) <;> omega
    · rw [if_neg h0, if_neg h0]
      (repeat' split) <;> omega
theorem sum_add {a b : Nat → Int} {p : Nat} : ∀ m, sumR (fun j => a j + b j) p m = sumR a p m + sumR b p m := by
  intro m
  induction m with
  | zero => rfl
  | succ m ih => rw [sumR, ih, sumR, sumR]; omega
theorem sum_one {g : Nat} : ∀ m, sumR (fun j => if g = j then 1 else 0) 0 m = if g < m then 1 else 0 := by
  intro m
  induction m with
  | zero => rw [sumR, if_neg (by omega)]
  | succ m ih =>
    rw [sumR, ih]
    (repeat' split) <;> omega
theorem sum_cn {c : Nat} : ∀ gs : List Nat, (∀ g ∈ gs, g < c) → sumR (fun j => cnF j gs) 0 c = (gs.length : Int) := by
  intro gs
  induction gs with
  | nil =>
    intro _
    have : ∀ m, sumR (fun j => cnF j []) 0 m = 0 := by
      intro m
      induction m with
      | zero => rfl
      | succ m ih => rw [sumR, ih, cnF]; rfl
    exact this c
  | cons g gs ih =>
    intro h
    have e : (fun j => cnF j (g :: gs)) = fun j => (fun j => if g = j then (1 : Int) else 0) j + (fun j => cnF j gs) j := by funext j; rw [cnF]
    rw [e, sum_add, sum_one, ih (fun x hx => h x (List.mem_cons_of_mem _ hx)), if_pos (h g List.mem_cons_self)]
    simp; omega
theorem ld_sp {c j : Nat} {gs : List Nat} {y : Nat → Int} (hy : ∀ j, j < c → y j = cnF j gs) (hg : ∀ g ∈ gs, g < c) (hj : j < c) : ldF j gs = 2 * spI c y (j : Int) + spI c y ((j : Int) - 1) + spI c y ((j : Int) + 1) := by
  rw [ld_cn]
  have e1 : spI c y (j : Int) = cnF j gs := by unfold spI; rw [if_pos (by omega), Int.toNat_natCast, hy j hj]
  have e2 : spI c y ((j : Int) - 1) = if j = 0 then 0 else cnF (j - 1) gs := by
    unfold spI
    by_cases h0 : j = 0
    · rw [if_pos h0, if_neg (by omega)]
    · rw [if_neg h0, if_pos (by omega), show ((j : Int) - 1).toNat = j - 1 by omega, hy _ (by omega)]
  have e3 : spI c y ((j : Int) + 1) = cnF (j + 1) gs := by
    unfold spI
    by_cases h0 : j + 1 < c
    · rw [if_pos (by omega), show ((j : Int) + 1).toNat = j + 1 by omega, hy _ h0]
    · rw [if_neg (by omega), cnF_c (c := c) (by omega) gs hg]
  rw [e1, e2, e3]
theorem go_of {c : Nat} {v : Int} {d : Nat → Int} {gs : List Nat} (hd : ∀ j, 0 ≤ d j) (hg : ∀ g ∈ gs, g < c) (h : ∀ j, j < c → stF c gs d j ≤ v) : goOn c (fun j => d j - v) (fun _ => 0) 0 (fun j => cnF j gs) := by
  refine ⟨fun j hj => absurd hj (by omega), fun j => cnF_0 gs, fun j _ hj => ?_⟩
  have h1 := h j hj
  rw [st_at gs d hg hd j hj, ld_sp (y := fun j => cnF j gs) (fun _ _ => rfl) hg hj] at h1
  dsimp only
  omega
/-- a row of these counts -/
def mkL (y : Nat → Int) : Nat → List Nat
  | 0 => []
  | m + 1 => List.replicate (y m).toNat m ++ mkL y m
theorem cn_app {j : Nat} {b : List Nat} : ∀ a : List Nat, cnF j (a ++ b) = cnF j a + cnF j b := by
  intro a
  induction a with
  | nil => simp [cnF]
  | cons g a ih => rw [List.cons_append, cnF, cnF, ih]; omega
theorem cn_rep {j g : Nat} : ∀ k : Nat, cnF j (List.replicate k g) = if g = j then (k : Int) else 0 := by
  intro k
  induction k with
  | zero => rw [List.replicate, cnF]; split <;> rfl
  | succ k ih => rw [List.replicate, cnF, ih]; split <;> omega
theorem mk_cn {y : Nat → Int} (hy : ∀ j, 0 ≤ y j) : ∀ (m j : Nat), cnF j (mkL y m) = if j < m then y j else 0 := by
  intro m
  induction m with
  | zero => intro j; rw [mkL, cnF, if_neg (by omega)]
  | succ m ih =>
    intro j
    have := hy m
    rw [mkL, cn_app, cn_rep, ih]
    by_cases h : m = j
    · subst h; rw [if_pos rfl, if_neg (by omega), if_pos (by omega)]; omega
    · rw [if_neg h]
      by_cases h2 : j < m
      · rw [if_pos h2, if_pos (by omega)]; omega
      · rw [if_neg h2, if_neg (by omega)]; rfl
theorem mk_lt {y : Nat → Int} : ∀ (m g : Nat), g ∈ mkL y m → g < m := by
  intro m
  induction m with
  | zero => intro g h; simp [mkL] at h
  | succ m ih =>
    intro g h
    rw [mkL, List.mem_append] at h
    rcases h with h | h
    · have := List.eq_of_mem_replicate h; omega
    · have := ih g h; omega
theorem mk_len {y : Nat → Int} (hy : ∀ j, 0 ≤ y j) : ∀ m, ((mkL y m).length : Int) = sumR y 0 m := by
  intro m
  induction m with
  | zero => rfl
  | succ m ih =>
    have := hy m
    rw [mkL, sumR, List.length_append, List.length_replicate, ← ih, Nat.zero_add]; omega
def exS (c : Nat) (v : Int) (d : Nat → Int) (s : Nat) : Prop := ∃ gs : List Nat, gs.length = s ∧ (∀ g ∈ gs, g < c) ∧ okQ c v gs d
theorem sl_lo {c s : Nat} {v f : Int} {d : Nat → Int} (hd : ∀ j, 0 ≤ d j) (hs : slP c (fun j => d j - v) (fun _ => 0) 0 0 6 f) (h : exS c v d s) : f ≤ (s : Int) := by
  obtain ⟨gs, h1, h2, h3⟩ := h
  have h4 := hs.2.2.1 _ (go_of hd h2 (ok_st gs d h3))
  rw [Nat.sub_zero, sum_cn gs h2, h1] at h4
  omega
theorem sl_hi {c : Nat} {v f : Int} {d : Nat → Int} (hv : 0 ≤ v) (hd : ∀ j, 0 ≤ d j) (hs : slP c (fun j => d j - v) (fun _ => 0) 0 0 6 f) (h5 : f ≤ 5) : exS c v d f.toNat := by
  rcases hs.2.2.2 with h | ⟨y, hy, h⟩
  · omega
  · rw [Nat.sub_zero] at h
    have hl := mk_len hy.2.1 c
    have hg : ∀ g ∈ mkL y c, g < c := fun g hg => mk_lt c g hg
    have hst : ∀ j, j < c → stF c (mkL y c) d j ≤ v := by
      intro j hj
      rw [st_at _ d hg hd j hj, ld_sp (y := y) (fun j hj => by rw [mk_cn hy.2.1, if_pos hj]) hg hj]
      have := hy.2.2 j (by omega) hj
      dsimp only at this
      omega
    rcases ok_or _ d hg hd hst with h1 | ⟨gs', h1, h2, h3⟩
    · exact ⟨_, by omega, hg, h1⟩
    · exfalso
      have h4 := hs.2.2.1 _ (go_of hd h2 h3)
      rw [Nat.sub_zero, sum_cn gs' h2] at h4
      omega
/-- the row that a number spells -/
def dgL (c : Nat) : Nat → Nat → List Nat
  | 0, _ => []
  | s + 1, a => a % c :: dgL c s (a / c)
theorem dg_ok {c : Nat} (hc : 0 < c) : ∀ s a, (dgL c s a).length = s ∧ ∀ g ∈ dgL c s a, g < c := by
  intro s
  induction s with
  | zero => intro a; exact ⟨rfl, fun g h => by simp [dgL] at h⟩
  | succ s ih =>
    intro a
    refine ⟨by rw [dgL, List.length_cons, (ih _).1], fun g h => ?_⟩
    rw [dgL] at h
    rcases List.mem_cons.mp h with rfl | h
    · exact Nat.mod_lt _ hc
    · exact (ih _).2 g h
theorem dg_all {c : Nat} (hc : 0 < c) : ∀ gs : List Nat, (∀ g ∈ gs, g < c) → ∃ a, a < c ^ gs.length ∧ dgL c gs.length a = gs := by
  intro gs
  induction gs with
  | nil => intro _; exact ⟨0, by simp, rfl⟩
  | cons g gs ih =>
    intro h
    obtain ⟨a, h1, h2⟩ := ih (fun x hx => h x (List.mem_cons_of_mem _ hx))
    have hg := h g List.mem_cons_self
    refine ⟨g + c * a, ?_, ?_⟩
    · rw [List.length_cons, Nat.pow_succ, Nat.mul_comm (c ^ gs.length)]
      have : c * (a + 1) ≤ c * c ^ gs.length := Nat.mul_le_mul_left _ h1
      rw [Nat.mul_add] at this; omega
    · rw [List.length_cons, dgL, Nat.add_mul_mod_self_left, Nat.mod_eq_of_lt hg, Nat.add_mul_div_left _ _ hc, Nat.div_eq_of_lt hg, Nat.zero_add, h2]
theorem ex_dg {c s : Nat} {v : Int} {d : Nat → Int} (hc : 0 < c) : exS c v d s ↔ ∃ a, a < c ^ s ∧ okQ c v (dgL c s a) d := by
  constructor
  · rintro ⟨gs, h1, h2, h3⟩
    obtain ⟨a, h4, h5⟩ := dg_all hc gs h2
    rw [h1] at h4 h5
    exact ⟨a, h4, by rw [h5]; exact h3⟩
  · rintro ⟨a, h1, h2⟩
    exact ⟨_, (dg_ok hc s a).1, (dg_ok hc s a).2, h2⟩
