/-! chances: rows of bits against counts -/
theorem zbit_n {r k : Nat} (hk : k < 12) (hr : r < 4096) : zbit (r : Int) (k : Int) = ((r / 2 ^ k % 2 : Nat) : Int) := by
  have h := zbit_tab ⟨k, hk⟩ ⟨r / 64, by omega⟩ ⟨r % 64, by omega⟩
  dsimp only at h
  rw [Nat.div_add_mod] at h
  exact h
theorem i32_and1 (x : Int32) : (x &&& 1) = 0 ∨ (x &&& 1) = 1 := by
  have h : ((x &&& 1).toBitVec) = 0#32 ∨ ((x &&& 1).toBitVec) = 1#32 := by
    rw [Int32.toBitVec_and, show (1 : Int32).toBitVec = 1#32 from by decide]
    by_cases hb : x.toBitVec[0] = true
    · right
      ext i hi
      rw [BitVec.getElem_and]
      by_cases h0 : i = 0
      · subst h0; rw [hb]; rfl
      · have : (1#32)[i] = false := by rw [BitVec.getElem_one]; simp [h0]
        rw [this, Bool.and_false]
    · left
      ext i hi
      rw [BitVec.getElem_and]
      by_cases h0 : i = 0
      · subst h0; rw [Bool.eq_false_iff.mpr hb]; simp
      · have : (1#32)[i] = false := by rw [BitVec.getElem_one]; simp [h0]
        rw [this, Bool.and_false]; simp
  rcases h with h | h
  · left; exact Int32.toBitVec_inj.mp h
  · right; exact Int32.toBitVec_inj.mp h
theorem zbit_01 (s w : Int) : zbit s w = 0 ∨ zbit s w = 1 := by
  unfold zbit zand
  rcases i32_and1 (Int32.ofInt (zshr s w)) with h | h
  · left; rw [show Int32.ofInt 1 = 1 from rfl, h]; rfl
  · right; rw [show Int32.ofInt 1 = 1 from rfl, h]; rfl
/-- the chance of a row of bits, its count -/
def owF (t : Int) (r : Nat) : Nat → Int
  | 0 => 1
  | k + 1 => owF t r k * (if r / 2 ^ k % 2 = 1 then t else 10 - t)
def pcF (r : Nat) : Nat → Nat
  | 0 => 0
  | k + 1 => pcF r k + (if r / 2 ^ k % 2 = 1 then 1 else 0)
theorem rsF_c {f g : Nat → Int} : ∀ m, (∀ j, j < m → f j = g j) → rsF f m = rsF g m := by
  intro m
  induction m with
  | zero => intro _; rfl
  | succ m ih => intro h; rw [rsF, rsF, ih (fun j hj => h j (by omega)), h m (by omega)]
theorem rsF_add {f : Nat → Int} (a : Nat) : ∀ b, rsF f (a + b) = rsF f a + rsF (fun j => f (a + j)) b := by
  intro b
  induction b with
  | zero => rw [rsF]; simp
  | succ b ih => rw [← Nat.add_assoc, rsF, ih, rsF, Int.add_assoc]
theorem rsF_mul {f : Nat → Int} (x : Int) : ∀ b, rsF (fun j => f j * x) b = rsF f b * x := by
  intro b
  induction b with
  | zero => rw [rsF, rsF, Int.zero_mul]
  | succ b ih => rw [rsF, ih, rsF, Int.add_mul]
theorem bit_lo {m r k : Nat} (hk : k < m) : (2 ^ m + r) / 2 ^ k % 2 = r / 2 ^ k % 2 := by
  obtain ⟨d, rfl⟩ : ∃ d, m = k + 1 + d := ⟨m - k - 1, by omega⟩
  rw [show 2 ^ (k + 1 + d) = 2 ^ k * (2 * 2 ^ d) by rw [Nat.pow_add, Nat.pow_succ, Nat.mul_assoc], Nat.mul_add_div (Nat.two_pow_pos k)]
  omega
theorem bit_hi {m r : Nat} (hr : r < 2 ^ m) : (2 ^ m + r) / 2 ^ m % 2 = 1 := by
  rw [Nat.add_div_left _ (Nat.two_pow_pos m), Nat.div_eq_of_lt hr]
theorem bit_0 {m r : Nat} (hr : r < 2 ^ m) : r / 2 ^ m % 2 = 0 := by rw [Nat.div_eq_of_lt hr]
theorem ow_lo {t : Int} {m r : Nat} : ∀ k, k ≤ m → owF t (2 ^ m + r) k = owF t r k ∧ pcF (2 ^ m + r) k = pcF r k := by
  intro k
  induction k with
  | zero => intro _; exact ⟨rfl, rfl⟩
  | succ k ih =>
    intro hk
    obtain ⟨h1, h2⟩ := ih (by omega)
    rw [owF, pcF, owF, pcF, h1, h2, bit_lo (by omega)]; exact ⟨rfl, rfl⟩
/-- what the rows of m bits weigh, where s ones stand ahead -/
def roF (o : Nat → Int) (t : Int) (m s : Nat) : Int := rsF (fun r => o (s + pcF r m) * owF t r m) (2 ^ m)
theorem roF_s {o : Nat → Int} {t : Int} {m s : Nat} : roF o t (m + 1) s = roF o t m s * (10 - t) + roF o t m (s + 1) * t := by
  unfold roF
  rw [show 2 ^ (m + 1) = 2 ^ m + 2 ^ m by rw [Nat.pow_succ]; omega, rsF_add, ← rsF_mul, ← rsF_mul]
  congr 1
  · refine rsF_c _ (fun r hr => ?_)
    rw [owF, pcF, bit_0 hr, if_neg (by decide), if_neg (by decide), Nat.add_zero, Int.mul_assoc]
  · refine rsF_c _ (fun r hr => ?_)
    obtain ⟨h1, h2⟩ := ow_lo (t := t) (m := m) (r := r) m (Nat.le_refl _)
    rw [owF, pcF, bit_hi hr, if_pos rfl, if_pos rfl, h1, h2, Int.mul_assoc, show s + (pcF r m + 1) = s + 1 + pcF r m by omega]
theorem coF_s {o : Nat → Int} {t : Int} {m s : Nat} : ∀ N, rsF (fun j => o (s + j) * coF t (m + 1) j) (N + 1) = rsF (fun j => o (s + j) * coF t m j) (N + 1) * (10 - t) + rsF (fun j => o (s + 1 + j) * coF t m j) N * t := by
  intro N
  induction N with
  | zero => simp only [rsF]; rw [coF]; simp [Int.mul_assoc]
  | succ N ih =>
    rw [rsF, ih]
    rw [show rsF (fun j => o (s + j) * coF t m j) (N + 1 + 1) = rsF (fun j => o (s + j) * coF t m j) (N + 1) + o (s + (N + 1)) * coF t m (N + 1) from rfl, show rsF (fun j => o (s + 1 + j) * coF t m j) (N + 1) = rsF (fun j => o (s + 1 + j) * coF t m j) N + o (s + 1 + N) * coF t m N from rfl]
    rw [coF, show s + 1 + N = s + (N + 1) by omega, Int.mul_add, Int.add_mul, Int.add_mul, Int.mul_assoc (o _), Int.mul_assoc (o _)]
    omega
theorem coF_0 {t : Int} : ∀ m j, m < j → coF t m j = 0 := by
  intro m
  induction m with
  | zero => intro j hj; obtain ⟨i, rfl⟩ : ∃ i, j = i + 1 := ⟨j - 1, by omega⟩; rfl
  | succ m ih =>
    intro j hj
    obtain ⟨i, rfl⟩ : ∃ i, j = i + 1 := ⟨j - 1, by omega⟩
    rw [coF, ih _ (by omega), ih _ (by omega)]; simp
theorem roF_co {o : Nat → Int} {t : Int} : ∀ m s, roF o t m s = rsF (fun j => o (s + j) * coF t m j) (m + 1) := by
  intro m
  induction m with
  | zero => intro s; simp [roF, rsF, owF, pcF, coF]
  | succ m ih =>
    intro s
    rw [roF_s, ih, ih, coF_s, show rsF (fun j => o (s + j) * coF t m j) (m + 1 + 1) = rsF (fun j => o (s + j) * coF t m j) (m + 1) + o (s + (m + 1)) * coF t m (m + 1) from rfl, coF_0 m (m + 1) (by omega)]
    simp
theorem ch_co {t : Int} {m j : Nat} (ht : 0 ≤ t ∧ t ≤ 10) (hm : m ≤ 12) (hj : j ≤ m) : chF t m j = coF t m j := by
  have h := ch_tab ⟨t.toNat, by omega⟩ ⟨m, by omega⟩ ⟨j, by omega⟩ hj
  dsimp only at h
  rw [show ((t.toNat : Nat) : Int) = t by omega] at h; exact h
theorem up_co {ok : Nat → Prop} [DecidablePred ok] {t : Int} {m : Nat} (ht : 0 ≤ t ∧ t ≤ 10) (hm : m ≤ 12) : ∀ j, j ≤ m + 1 → upF ok t m j = rsF (fun j => (if ok j then 1 else 0) * coF t m j) j := by
  intro j
  induction j with
  | zero => intro _; rfl
  | succ j ih =>
    intro hj
    rw [upF, ih (by omega), rsF, ch_co ht hm (by omega)]
    split <;> simp
theorem up_ro {ok : Nat → Prop} [DecidablePred ok] {t : Int} {m : Nat} (ht : 0 ≤ t ∧ t ≤ 10) (hm : m ≤ 12) : upF ok t m (m + 1) = rsF (fun r => (if ok (pcF r m) then 1 else 0) * owF t r m) (2 ^ m) := by
  rw [up_co ht hm (m + 1) (Nat.le_refl _)]
  have h := roF_co (o := fun j => if ok j then 1 else 0) (t := t) m 0
  unfold roF at h
  simp only [Nat.zero_add] at h
  exact h.symm
theorem tot_ch {t : Int} {m : Nat} (ht : 0 ≤ t ∧ t ≤ 10) (hm : m ≤ 12) : rsF (fun j => coF t m j) (m + 1) = 10 ^ m := by
  have h := tot_tab ⟨t.toNat, by omega⟩ ⟨m, by omega⟩
  dsimp only at h
  rw [show ((t.toNat : Nat) : Int) = t by omega] at h; exact h
/-- Euclid's steps end -/
def euT : Nat → Int → Int → Prop
  | 0, _, b => b = 0
  | f + 1, a, b => b = 0 ∨ euT f b (a % b)
theorem euT_le : ∀ (f g : Nat) (a b : Int), f ≤ g → euT f a b → euT g a b := by
  intro f
  induction f with
  | zero => intro g a b h q; cases g with
    | zero => exact q
    | succ g => exact Or.inl q
  | succ f ih =>
    intro g a b h q
    obtain ⟨g', rfl⟩ : ∃ g', g = g' + 1 := ⟨g - 1, by omega⟩
    rcases q with q | q
    · exact Or.inl q
    · exact Or.inr (ih g' _ _ (by omega) q)
theorem euT_n : ∀ (n : Nat) (a b : Int), 0 ≤ a → 0 ≤ b → b < 2 ^ n → euT (2 * n) a b := by
  intro n
  induction n with
  | zero => intro a b h1 h2 h3; show b = 0; simp at h3; omega
  | succ n ih =>
    intro a b h1 h2 h3
    rw [show 2 * (n + 1) = (2 * n + 1) + 1 by omega]
    by_cases hb : b = 0
    · exact Or.inl hb
    refine Or.inr ?_
    by_cases hr : a % b = 0
    · exact Or.inl hr
    refine Or.inr (ih _ _ (Int.emod_nonneg _ hb) (Int.emod_nonneg _ hr) ?_)
    have r1 := Int.emod_nonneg a hb
    have r2 := Int.emod_lt_of_pos a (show 0 < b by omega)
    have r3 := Int.emod_lt_of_pos b (show 0 < a % b by omega)
    have r4 := Int.emod_nonneg b hr
    rw [Int.pow_succ] at h3
    by_cases h5 : 2 * (a % b) ≤ b
    · omega
    · have h6 : b % (a % b) = b - a % b := by
        have h7 : b % (a % b) = ((b - a % b) + 1 * (a % b)) % (a % b) := by congr 1; omega
        rw [h7, Int.add_mul_emod_self_right, Int.emod_eq_of_lt (by omega) (by omega)]
      omega
theorem euT_eu : ∀ (f g : Nat) (a b : Int), f ≤ g → euT f a b → euF g a b = euF f a b := by
  intro f
  induction f with
  | zero => intro g a b h q; cases g with
    | zero => rfl
    | succ g =>
      have hb : b = 0 := q
      rw [show euF (g + 1) a b = (if b = 0 then a else euF g b (a % b)) from rfl, if_pos hb]; rfl
  | succ f ih =>
    intro g a b h q
    obtain ⟨g', rfl⟩ : ∃ g', g = g' + 1 := ⟨g - 1, by omega⟩
    rw [euF, euF]
    by_cases hb : b = 0
    · rw [if_pos hb, if_pos hb]
    · rw [if_neg hb, if_neg hb]
      rcases q with q | q
      · exact absurd q hb
      · exact ih g' _ _ (by omega) q
