/-! where things lie: SnowTalk at 0 (now 1, trial 9, images 17, talk 18, places 23, salt 26, rows 29, lies 34), the reference at 37; 55 cells -/
def shp (k : Nat) : Option zS := match k with
  | 0 => some (.inr 6)
  | 1 => some (.inr 4)
  | 2 => some (.inl (0, 8))
  | 3 => some (.inl (0, 8))
  | 4 => some (.inl (0, 4))
  | 5 => some (.inl (0, 8))
  | 6 => some (.inl (0, 64))
  | 7 => some (.inl (0, 8))
  | 8 => some (.inl (0, 8))
  | 9 => some (.inr 4)
  | 10 => some (.inl (0, 8))
  | 11 => some (.inl (0, 8))
  | 12 => some (.inl (0, 4))
  | 13 => some (.inl (0, 8))
  | 14 => some (.inl (0, 64))
  | 15 => some (.inl (0, 8))
  | 16 => some (.inl (0, 8))
  | 17 => some (.inl (2, 2))
  | 18 => some (.inr 5)
  | 19 => some (.inl (0, 60))
  | 20 => some (.inl (0, 60))
  | 21 => some (.inl (0, 60))
  | 22 => some (.inl (0, 60))
  | 23 => some (.inr 1)
  | 24 => some (.inl (0, 4))
  | 25 => some (.inl (0, 4))
  | 26 => some (.inr 3)
  | 27 => some (.inl (0, 8))
  | 28 => some (.inl (0, 8))
  | 29 => some (.inr 2)
  | 30 => some (.inl (0, 3))
  | 31 => some (.inl (0, 8))
  | 32 => some (.inl (0, 8))
  | 33 => some (.inl (0, 256))
  | 34 => some (.inr 0)
  | 35 => some (.inl (0, 8))
  | 36 => some (.inl (0, 8))
  | 37 => some (.inr 7)
  | 38 => some (.inl (0, 8))
  | 39 => some (.inl (0, 8))
  | 40 => some (.inl (0, 8))
  | 41 => some (.inl (0, 64))
  | 42 => some (.inl (0, 16))
  | 43 => some (.inl (0, 60))
  | 44 => some (.inl (0, 8))
  | 45 => some (.inl (0, 8))
  | 46 => some (.inl (0, 8))
  | 47 => some (.inl (0, 64))
  | 48 => some (.inl (0, 4))
  | 49 => some (.inl (0, 4))
  | 50 => some (.inl (0, 32768))
  | 51 => some (.inl (0, 1100))
  | 52 => some (.inl (0, 8))
  | 53 => some (.inl (0, 260))
  | 54 => some (.inl (1, 2))
  | _ => none
def rfp (k j : Nat) : Option Nat := match k, j with
  | 0, 0 => some 1
  | 0, 1 => some 9
  | 0, 2 => some 17
  | 0, 3 => some 18
  | 0, 4 => some 23
  | 0, 5 => some 26
  | 0, 6 => some 29
  | 0, 7 => some 34
  | 1, 1 => some 2
  | 1, 2 => some 3
  | 1, 5 => some 4
  | 1, 6 => some 5
  | 1, 7 => some 6
  | 1, 9 => some 7
  | 1, 10 => some 8
  | 9, 1 => some 10
  | 9, 2 => some 11
  | 9, 5 => some 12
  | 9, 6 => some 13
  | 9, 7 => some 14
  | 9, 9 => some 15
  | 9, 10 => some 16
  | 18, 0 => some 19
  | 18, 3 => some 20
  | 18, 4 => some 21
  | 18, 5 => some 22
  | 23, 0 => some 24
  | 23, 1 => some 25
  | 26, 0 => some 27
  | 26, 1 => some 28
  | 29, 0 => some 30
  | 29, 1 => some 31
  | 29, 2 => some 32
  | 29, 3 => some 33
  | 34, 0 => some 35
  | 34, 1 => some 36
  | 37, 1 => some 38
  | 37, 2 => some 39
  | 37, 5 => some 40
  | 37, 6 => some 41
  | 37, 12 => some 42
  | 37, 14 => some 43
  | 37, 15 => some 44
  | 37, 16 => some 45
  | 37, 17 => some 46
  | 37, 18 => some 47
  | 37, 27 => some 48
  | 37, 28 => some 49
  | 37, 34 => some 50
  | 37, 35 => some 51
  | 37, 36 => some 52
  | 37, 37 => some 53
  | 37, 38 => some 54
  | _, _ => none
def Lay (S : zH) (Rf : zG) : Prop := (∀ k, k < 55 → S k = shp k) ∧ ∀ k j, rfp k j ≠ none → Rf k j = rfp k j
/-- a street at r, with its rows behind it -/
def isStr (S : zH) (Rf : zG) (r : Nat) : Prop := S r = some (.inr 4) ∧ S (r + 1) = some (.inl (0, 8)) ∧ S (r + 2) = some (.inl (0, 8)) ∧ S (r + 3) = some (.inl (0, 4)) ∧ S (r + 4) = some (.inl (0, 8)) ∧ S (r + 5) = some (.inl (0, 64)) ∧ S (r + 6) = some (.inl (0, 8)) ∧ S (r + 7) = some (.inl (0, 8)) ∧
  Rf r 1 = some (r + 1) ∧ Rf r 2 = some (r + 2) ∧ Rf r 5 = some (r + 3) ∧ Rf r 6 = some (r + 4) ∧ Rf r 7 = some (r + 5) ∧ Rf r 9 = some (r + 6) ∧ Rf r 10 = some (r + 7)
theorem Lay.s1 {S : zH} {Rf : zG} (h : Lay S Rf) : isStr S Rf 1 := ⟨h.1 _ (by decide), h.1 _ (by decide), h.1 _ (by decide), h.1 _ (by decide), h.1 _ (by decide), h.1 _ (by decide), h.1 _ (by decide), h.1 _ (by decide), h.2 _ _ (by decide), h.2 _ _ (by decide), h.2 _ _ (by decide), h.2 _ _ (by decide), h.2 _ _ (by decide), h.2 _ _ (by decide), h.2 _ _ (by decide)⟩
theorem Lay.s9 {S : zH} {Rf : zG} (h : Lay S Rf) : isStr S Rf 9 := ⟨h.1 _ (by decide), h.1 _ (by decide), h.1 _ (by decide), h.1 _ (by decide), h.1 _ (by decide), h.1 _ (by decide), h.1 _ (by decide), h.1 _ (by decide), h.2 _ _ (by decide), h.2 _ _ (by decide), h.2 _ _ (by decide), h.2 _ _ (by decide), h.2 _ _ (by decide), h.2 _ _ (by decide), h.2 _ _ (by decide)⟩
def zbit (s w : Int) : Int := zand (zshr s w) 1
theorem zand_rg (a b : Int) : -2147483648 ≤ zand a b ∧ zand a b ≤ 2147483647 := zi_rg _
theorem zor_rg (a b : Int) : -2147483648 ≤ zor a b ∧ zor a b ≤ 2147483647 := zi_rg _
theorem zxor_rg (a b : Int) : -2147483648 ≤ zxor a b ∧ zxor a b ≤ 2147483647 := zi_rg _
theorem zshr_rg (a b : Int) : -2147483648 ≤ zshr a b ∧ zshr a b ≤ 2147483647 := zi_rg _
theorem zbit_rg (a b : Int) : -2147483648 ≤ zbit a b ∧ zbit a b ≤ 2147483647 := zi_rg _
theorem zp_zp {α : Type} (V : Nat → Nat → α) (k : Nat) (f g : Nat → α) : zp (zp V k f) k g = zp V k g := by
  funext a; simp only [zp]; split <;> rfl
theorem zp_self {α : Type} (V : Nat → Nat → α) (k : Nat) : zp V k (V k) = V := by
  funext a; simp only [zp]; split
  · next h => rw [h]
  · rfl
theorem zp_comm {α : Type} (V : Nat → Nat → α) {k l : Nat} (f g : Nat → α) (h : k ≠ l) : zp (zp V k f) l g = zp (zp V l g) k f := by
  funext a
  simp only [zp]
  by_cases h1 : a = l <;> by_cases h2 : a = k <;> simp [h1, h2]
  all_goals (intro h3; omega)
theorem zp_of1 {α : Type} {V V' : Nat → Nat → α} {a : Nat} {f : Nat → α} (ho : ∀ k, k ≠ a → V' k = V k) (h : V' a = f) : V' = zp V a f := by
  funext k
  by_cases h1 : k = a
  · subst h1; rw [zp_s, h]
  · rw [zp_n _ _ h1, ho k h1]
theorem zp_of2 {α : Type} {V V' : Nat → Nat → α} {a b : Nat} {f g : Nat → α} (hab : a ≠ b) (ho : ∀ k, k ≠ a → k ≠ b → V' k = V k) (h : V' a = f) (h' : V' b = g) : V' = zp (zp V a f) b g := by
  refine zp_of1 (fun k hk => ?_) h'
  by_cases h1 : k = a
  · subst h1; rw [zp_s, h]
  · rw [zp_n _ _ h1, ho k h1 hk]
theorem zp_of3 {α : Type} {V V' : Nat → Nat → α} {a b c : Nat} {f g h : Nat → α} (hab : a ≠ b) (hac : a ≠ c) (hbc : b ≠ c) (ho : ∀ k, k ≠ a → k ≠ b → k ≠ c → V' k = V k) (h1 : V' a = f) (h2 : V' b = g) (h3 : V' c = h) : V' = zp (zp (zp V a f) b g) c h := by
  refine zp_of1 (fun k hk => ?_) h3
  by_cases q1 : k = b
  · subst q1; rw [zp_s, h2]
  · rw [zp_n _ _ q1]
    by_cases q2 : k = a
    · subst q2; rw [zp_s, h1]
    · rw [zp_n _ _ q2, ho k q2 q1 hk]
theorem zprog {α : Type} {f g F : Nat → α} {i : Nat} {x : α} (hf : ∀ j, f j = if j < i then F j else g j) (hx : x = F i) : ∀ j, za f i x j = if j < i + 1 then F j else g j := by
  intro j
  by_cases hj : j = i
  · subst hj; rw [za_s, if_pos (by omega), hx]
  · rw [za_n _ _ hj, hf j]
    by_cases h : j < i
    · rw [if_pos h, if_pos (by omega)]
    · rw [if_neg h, if_neg (by omega)]
theorem za_za {α : Type} (f : Nat → α) (j : Nat) (x y : α) : za (za f j x) j y = za f j y := by
  funext a; simp only [za]; split <;> rfl
theorem za_self {α : Type} (f : Nat → α) (j : Nat) : za f j (f j) = f := by
  funext a; simp only [za]; split
  · next h => rw [h]
  · rfl
section
variable {X : zXt} {μ : zM} {R : Room} {Z : zZt} {ce sl n : Nat} {S : zH} {pc : Nat} {L : List (Option zV)} {st : List zV} {Rf : zG} {V : zE}
/-- a row of whole numbers is what its places hold -/
theorem wa_row {k N : Nat} (hS : S k = some (.inl (0, N))) (f : Nat → Int) (hf : ∀ j, j < N → V k j = f j) (kk : Wa X μ R Z ce sl n S pc L st Rf (zp V k f)) : Wa X μ R Z ce sl n S pc L st Rf V := by
  intro p l e s m args below meth c D cy base b H locs ls C HH LL
  refine kk p l e s m args below meth c D cy base b H locs ls C ⟨fun q x hx => ?_, HH.2⟩ LL
  obtain ⟨hq, rfl⟩ := zw_lt hx
  have h1 := HH.1 q _ (zw_at hq)
  by_cases h : q = k
  · subst h
    rw [zp_s]
    rw [hS] at h1 ⊢
    have h2 : H[base + q]? = some (vp_cell cy.1 (N, .inl (fun j => Int32.ofInt (V q j)))) := h1
    show H[base + q]? = some (vp_cell cy.1 (N, .inl (fun j => Int32.ofInt (f j))))
    rw [h2, vp_cell_i, vp_cell_i]
    unfold arrV
    congr 2
    apply Array.ext
    · simp
    · intro i hi1 hi2
      simp at hi1
      simp [hf i hi1]
  · rw [zp_n _ _ h]; exact h1
theorem wa_rowZ {k N : Nat} (hS : S k = some (.inl (1, N))) (f : Nat → Int) (hf : ∀ j, j < N → V k j = f j) (kk : Wa X μ R Z ce sl n S pc L st Rf (zp V k f)) : Wa X μ R Z ce sl n S pc L st Rf V := by
  intro p l e s m args below meth c D cy base b H locs ls C HH LL
  refine kk p l e s m args below meth c D cy base b H locs ls C ⟨fun q x hx => ?_, HH.2⟩ LL
  obtain ⟨hq, rfl⟩ := zw_lt hx
  have h1 := HH.1 q _ (zw_at hq)
  by_cases h : q = k
  · subst h
    rw [zp_s]
    rw [hS] at h1 ⊢
    have h2 : H[base + q]? = some (vp_cell cy.2.1 (N, .inl (fun j => Int32.ofInt (V q j)))) := h1
    show H[base + q]? = some (vp_cell cy.2.1 (N, .inl (fun j => Int32.ofInt (f j))))
    rw [h2, vp_cell_i, vp_cell_i]
    unfold arrV
    congr 2
    apply Array.ext
    · simp
    · intro i hi1 hi2
      simp at hi1
      simp [hf i hi1]
  · rw [zp_n _ _ h]; exact h1
end
theorem zdrop {L : List (Option zV)} {i j : Nat} {v : zV} (h : (L.set i none)[j]? = some (some v)) : L[j]? = some (some v) := by
  rw [List.getElem?_set] at h
  by_cases hij : i = j
  · rw [if_pos hij] at h; split at h <;> cases h
  · rw [if_neg hij] at h; exact h
section
variable {X : zXt} {μ : zM} {R : Room} {Z : zZt} {ce sl n : Nat} {S : zH} {pc : Nat} {L : List (Option zV)} {st : List zV} {Rf : zG} {V : zE}
theorem wa_drop0 { o : Option zV} {T : List (Option zV)} (kk : Wa X μ R Z ce sl n S pc (none :: T) st Rf V) : Wa X μ R Z ce sl n S pc (o :: T) st Rf V := wa_weak (fun j v h => zdrop (i := 0) (by rw [show (none :: T) = (o :: T).set 0 none from rfl] at h; exact h)) kk
theorem wa_drop1 {a0 o : Option zV} {T : List (Option zV)} (kk : Wa X μ R Z ce sl n S pc (a0 :: none :: T) st Rf V) : Wa X μ R Z ce sl n S pc (a0 :: o :: T) st Rf V := wa_weak (fun j v h => zdrop (i := 1) (by rw [show (a0 :: none :: T) = (a0 :: o :: T).set 1 none from rfl] at h; exact h)) kk
theorem wa_drop2 {a0 a1 o : Option zV} {T : List (Option zV)} (kk : Wa X μ R Z ce sl n S pc (a0 :: a1 :: none :: T) st Rf V) : Wa X μ R Z ce sl n S pc (a0 :: a1 :: o :: T) st Rf V := wa_weak (fun j v h => zdrop (i := 2) (by rw [show (a0 :: a1 :: none :: T) = (a0 :: a1 :: o :: T).set 2 none from rfl] at h; exact h)) kk
theorem wa_drop3 {a0 a1 a2 o : Option zV} {T : List (Option zV)} (kk : Wa X μ R Z ce sl n S pc (a0 :: a1 :: a2 :: none :: T) st Rf V) : Wa X μ R Z ce sl n S pc (a0 :: a1 :: a2 :: o :: T) st Rf V := wa_weak (fun j v h => zdrop (i := 3) (by rw [show (a0 :: a1 :: a2 :: none :: T) = (a0 :: a1 :: a2 :: o :: T).set 3 none from rfl] at h; exact h)) kk
theorem wa_drop4 {a0 a1 a2 a3 o : Option zV} {T : List (Option zV)} (kk : Wa X μ R Z ce sl n S pc (a0 :: a1 :: a2 :: a3 :: none :: T) st Rf V) : Wa X μ R Z ce sl n S pc (a0 :: a1 :: a2 :: a3 :: o :: T) st Rf V := wa_weak (fun j v h => zdrop (i := 4) (by rw [show (a0 :: a1 :: a2 :: a3 :: none :: T) = (a0 :: a1 :: a2 :: a3 :: o :: T).set 4 none from rfl] at h; exact h)) kk
theorem wa_drop5 {a0 a1 a2 a3 a4 o : Option zV} {T : List (Option zV)} (kk : Wa X μ R Z ce sl n S pc (a0 :: a1 :: a2 :: a3 :: a4 :: none :: T) st Rf V) : Wa X μ R Z ce sl n S pc (a0 :: a1 :: a2 :: a3 :: a4 :: o :: T) st Rf V := wa_weak (fun j v h => zdrop (i := 5) (by rw [show (a0 :: a1 :: a2 :: a3 :: a4 :: none :: T) = (a0 :: a1 :: a2 :: a3 :: a4 :: o :: T).set 5 none from rfl] at h; exact h)) kk
theorem wa_drop6 {a0 a1 a2 a3 a4 a5 o : Option zV} {T : List (Option zV)} (kk : Wa X μ R Z ce sl n S pc (a0 :: a1 :: a2 :: a3 :: a4 :: a5 :: none :: T) st Rf V) : Wa X μ R Z ce sl n S pc (a0 :: a1 :: a2 :: a3 :: a4 :: a5 :: o :: T) st Rf V := wa_weak (fun j v h => zdrop (i := 6) (by rw [show (a0 :: a1 :: a2 :: a3 :: a4 :: a5 :: none :: T) = (a0 :: a1 :: a2 :: a3 :: a4 :: a5 :: o :: T).set 6 none from rfl] at h; exact h)) kk
theorem wa_drop7 {a0 a1 a2 a3 a4 a5 a6 o : Option zV} {T : List (Option zV)} (kk : Wa X μ R Z ce sl n S pc (a0 :: a1 :: a2 :: a3 :: a4 :: a5 :: a6 :: none :: T) st Rf V) : Wa X μ R Z ce sl n S pc (a0 :: a1 :: a2 :: a3 :: a4 :: a5 :: a6 :: o :: T) st Rf V := wa_weak (fun j v h => zdrop (i := 7) (by rw [show (a0 :: a1 :: a2 :: a3 :: a4 :: a5 :: a6 :: none :: T) = (a0 :: a1 :: a2 :: a3 :: a4 :: a5 :: a6 :: o :: T).set 7 none from rfl] at h; exact h)) kk
theorem wa_drop8 {a0 a1 a2 a3 a4 a5 a6 a7 o : Option zV} {T : List (Option zV)} (kk : Wa X μ R Z ce sl n S pc (a0 :: a1 :: a2 :: a3 :: a4 :: a5 :: a6 :: a7 :: none :: T) st Rf V) : Wa X μ R Z ce sl n S pc (a0 :: a1 :: a2 :: a3 :: a4 :: a5 :: a6 :: a7 :: o :: T) st Rf V := wa_weak (fun j v h => zdrop (i := 8) (by rw [show (a0 :: a1 :: a2 :: a3 :: a4 :: a5 :: a6 :: a7 :: none :: T) = (a0 :: a1 :: a2 :: a3 :: a4 :: a5 :: a6 :: a7 :: o :: T).set 8 none from rfl] at h; exact h)) kk
theorem wa_drop9 {a0 a1 a2 a3 a4 a5 a6 a7 a8 o : Option zV} {T : List (Option zV)} (kk : Wa X μ R Z ce sl n S pc (a0 :: a1 :: a2 :: a3 :: a4 :: a5 :: a6 :: a7 :: a8 :: none :: T) st Rf V) : Wa X μ R Z ce sl n S pc (a0 :: a1 :: a2 :: a3 :: a4 :: a5 :: a6 :: a7 :: a8 :: o :: T) st Rf V := wa_weak (fun j v h => zdrop (i := 9) (by rw [show (a0 :: a1 :: a2 :: a3 :: a4 :: a5 :: a6 :: a7 :: a8 :: none :: T) = (a0 :: a1 :: a2 :: a3 :: a4 :: a5 :: a6 :: a7 :: a8 :: o :: T).set 9 none from rfl] at h; exact h)) kk
theorem wa_drop10 {a0 a1 a2 a3 a4 a5 a6 a7 a8 a9 o : Option zV} {T : List (Option zV)} (kk : Wa X μ R Z ce sl n S pc (a0 :: a1 :: a2 :: a3 :: a4 :: a5 :: a6 :: a7 :: a8 :: a9 :: none :: T) st Rf V) : Wa X μ R Z ce sl n S pc (a0 :: a1 :: a2 :: a3 :: a4 :: a5 :: a6 :: a7 :: a8 :: a9 :: o :: T) st Rf V := wa_weak (fun j v h => zdrop (i := 10) (by rw [show (a0 :: a1 :: a2 :: a3 :: a4 :: a5 :: a6 :: a7 :: a8 :: a9 :: none :: T) = (a0 :: a1 :: a2 :: a3 :: a4 :: a5 :: a6 :: a7 :: a8 :: a9 :: o :: T).set 10 none from rfl] at h; exact h)) kk
theorem wa_drop11 {a0 a1 a2 a3 a4 a5 a6 a7 a8 a9 a10 o : Option zV} {T : List (Option zV)} (kk : Wa X μ R Z ce sl n S pc (a0 :: a1 :: a2 :: a3 :: a4 :: a5 :: a6 :: a7 :: a8 :: a9 :: a10 :: none :: T) st Rf V) : Wa X μ R Z ce sl n S pc (a0 :: a1 :: a2 :: a3 :: a4 :: a5 :: a6 :: a7 :: a8 :: a9 :: a10 :: o :: T) st Rf V := wa_weak (fun j v h => zdrop (i := 11) (by rw [show (a0 :: a1 :: a2 :: a3 :: a4 :: a5 :: a6 :: a7 :: a8 :: a9 :: a10 :: none :: T) = (a0 :: a1 :: a2 :: a3 :: a4 :: a5 :: a6 :: a7 :: a8 :: a9 :: a10 :: o :: T).set 11 none from rfl] at h; exact h)) kk
end
/-- Arrays.fill of a whole row -/
theorem ct_fill {n : Nat} {S : zH} {Rf : zG} {V : zE} {a N : Nat} {x : Int} (hS : S a = some (.inl (0, N))) (hN : N ≤ 100000) : Cv 1 mJ7_fill_53178 [zR a, zI x] n S Rf V (zp V a (fun _ => x)) := by
  refine ct_of (by decide) rfl (Nat.le_of_ble_eq_true rfl) ?_
  have loop : ∀ (m i : Nat) (f : Nat → Int), i + m = N → (∀ j, j < i → f j = x) → Wa zXn mJ7_fill_53178 (zrm 1 0 0) (zZm (qN S Rf (zp V a (fun _ => x))) (n + 0) 0 0) 0 0 n S 5 [some (zR a), some (zI x), some (zI (i : Int)), some (zI (N : Int))] [] Rf (zp V a f) := by
    intro m
    induction m with
    | zero =>
      intro i f hi hf
      refine wa_ild2 dJ7_fill_53178_5 ?_
      refine wa_ild3 dJ7_fill_53178_6 ?_
      refine wa_icmp_ge 20 dJ7_fill_53178_7 (by decide) (by omega) (by omega) (fun c7 => ?_) (fun c7 => ?_)
      · refine wa_row hS (fun _ => x) (fun j hj => by rw [zp_s]; exact hf j (by omega)) ?_
        rw [zp_zp]
        exact wa_return dJ7_fill_53178_20 rfl rfl (Nat.le_refl _) ⟨rfl, rfl, rfl, rfl⟩
      · exact absurd c7 (by omega)
    | succ m ih =>
      intro i f hi hf
      refine wa_ild2 dJ7_fill_53178_5 ?_
      refine wa_ild3 dJ7_fill_53178_6 ?_
      refine wa_icmp_ge 20 dJ7_fill_53178_7 (by decide) (by omega) (by omega) (fun c7 => ?_) (fun c7 => ?_)
      · exact absurd c7 (by omega)
      · refine wa_ald0 dJ7_fill_53178_10 ?_
        refine wa_ild2 dJ7_fill_53178_11 ?_
        refine wa_ild1 dJ7_fill_53178_12 ?_
        refine wa_iastore dJ7_fill_53178_13 (by first | assumption | exact hL.1 _ (by decide)) (by omega) (by first | decide | omega) ?_
        refine wa_iinc2 dJ7_fill_53178_14 (by decide) rfl ?_
        refine wa_goto 5 dJ7_fill_53178_17 (by decide) ?_
        rw [zp_zp, zp_s, Int.toNat_natCast]
        exact ih (i + 1) (za f i x) (by omega) (fun j hj => by simp only [za]; split; rfl; exact hf j (by omega))
  refine wa_iconst dJ7_fill_53178_0 ?_
  refine wa_ist2 dJ7_fill_53178_1 (by decide) rfl ?_
  refine wa_ald0 dJ7_fill_53178_2 ?_
  refine wa_alen dJ7_fill_53178_3 (by first | assumption | exact hL.1 _ (by decide)) (by decide) ?_
  refine wa_ist3 dJ7_fill_53178_4 (by decide) rfl ?_
  refine wa_eqV (zp_self V a).symm ?_
  exact loop N 0 (V a) (by omega) (fun j hj => absurd hj (by omega))
