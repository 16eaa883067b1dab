/-! tables of chances -/
def rsF (f : Nat → Int) : Nat → Int
  | 0 => 0
  | m + 1 => rsF f m + f m
def coF (t : Int) : Nat → Nat → Int
  | 0, 0 => 1
  | 0, _ + 1 => 0
  | m + 1, 0 => coF t m 0 * (10 - t)
  | m + 1, j + 1 => coF t m (j + 1) * (10 - t) + coF t m j * t
theorem zbit_tab : ∀ k : Fin 12, ∀ a : Fin 64, ∀ b : Fin 64, zbit ((64 * a.val + b.val : Nat) : Int) ((k.val : Nat) : Int) = (((64 * a.val + b.val) / 2 ^ k.val % 2 : Nat) : Int) := by decide +kernel
theorem ch_tab : ∀ t : Fin 11, ∀ m : Fin 13, ∀ j : Fin 13, j.val ≤ m.val → chF ((t.val : Nat) : Int) m.val j.val = coF ((t.val : Nat) : Int) m.val j.val := by decide +kernel
theorem tot_tab : ∀ t : Fin 11, ∀ m : Fin 13, rsF (fun j => coF ((t.val : Nat) : Int) m.val j) (m.val + 1) = 10 ^ m.val := by decide +kernel
