/-! who: rows of words in all orders against heaps of words -/
abbrev zEv : Type := Int × (Nat → Int)
def adF (t l : Int) (p : Nat) (d : Nat → Int) : Nat → Int := za d (p / 2) (d (p / 2) + (if p % 2 = 0 then t else l))
def evL (t l : Int) (d : Nat → Int) (ps : List Nat) : zEv := (ps.foldl (fun s p => zor s (2 ^ (p / 2))) 0, ps.foldl (fun d p => adF t l p d) d)
def tnF (d mo : Nat → Int) (j : Nat) : Nat → Int
  | 0 => 0
  | g + 1 => tnF d mo j g + (if (0 ≤ mo g - d g + 1 ∧ mo g - d g + 1 < 32) ∧ j = ((g : Int) * 32 + (mo g - d g + 1)).toNat then 1 else 0)
def fitE (c k : Nat) (sg sd : Nat → Int) (e : zEv) : Bool := allB (fun i => ngF c e.2 (sg i).toNat == sd i) k
def stpE (c k : Nat) (d sg sd : Nat → Int) (e : zEv) (a : zAc) : zAc := if fitE c k sg sd e = true then (a.1 + 1, zor a.2.1 e.1, zand a.2.2.1 e.1, fun j => a.2.2.2 j + tnF d (ngF c e.2) j c) else a
def runE (c k : Nat) (d sg sd : Nat → Int) (l : List zEv) (a : zAc) : zAc := l.foldl (fun a e => stpE c k d sg sd e a) a
theorem i32_anas (x y z : Int32) : (x &&& y) &&& z = x &&& (y &&& z) := by
  apply Int32.toBitVec_inj.mp
  simp only [Int32.toBitVec_and]
  rw [BitVec.and_assoc]
theorem zor_cm (a b : Int) : zor a b = zor b a := by unfold zor; rw [Int32.or_comm]
theorem zand_cm (a b : Int) : zand a b = zand b a := by unfold zand; rw [Int32.and_comm]
theorem zand_as (a b c : Int) : zand (zand a b) c = zand a (zand b c) := by
  unfold zand; rw [Int32.ofInt_toInt, Int32.ofInt_toInt, i32_anas]
theorem zor_rc (a b c : Int) : zor (zor a b) c = zor (zor a c) b := by rw [zor_as, zor_cm b c, ← zor_as]
theorem zand_rc (a b c : Int) : zand (zand a b) c = zand (zand a c) b := by rw [zand_as, zand_cm b c, ← zand_as]
theorem zor_id (a b : Int) : zor (zor a b) b = zor a b := by
  rw [zor_as]
  have : Int32.ofInt (zor b b) = Int32.ofInt b := by unfold zor; rw [Int32.ofInt_toInt, Int32.or_self]
  unfold zor at this ⊢
  rw [this]
theorem zand_id (a b : Int) : zand (zand a b) b = zand a b := by
  rw [zand_as]
  have : Int32.ofInt (zand b b) = Int32.ofInt b := by unfold zand; rw [Int32.ofInt_toInt, Int32.and_self]
  unfold zand at this ⊢
  rw [this]
theorem tl_tn {d mo : Nat → Int} {al : Int} {t : Nat → Int} : ∀ m, rgF (tlS d mo al) m t = fun j => t j + al * tnF d mo j m := by
  intro m
  induction m with
  | zero => funext j; rw [rgF, tnF, Int.mul_zero, Int.add_zero]
  | succ m ih =>
    funext j
    rw [rgF, ih, tnF, tlS]
    by_cases hc : 0 ≤ mo m - d m + 1 ∧ mo m - d m + 1 < 32
    · rw [if_pos hc]
      by_cases hj : j = ((m : Int) * 32 + (mo m - d m + 1)).toNat
      · rw [if_pos ⟨hc, hj⟩, hj, za_s, Int.mul_add, Int.mul_one]; omega
      · rw [za_n _ _ hj, if_neg (fun q => hj q.2), Int.add_zero]
    · rw [if_neg hc, if_neg (fun q => hc q.1), Int.add_zero]
theorem stp_cm {c k : Nat} {d sg sd : Nat → Int} (e e' : zEv) (a : zAc) : stpE c k d sg sd e (stpE c k d sg sd e' a) = stpE c k d sg sd e' (stpE c k d sg sd e a) := by
  unfold stpE
  by_cases h1 : fitE c k sg sd e = true
  · by_cases h2 : fitE c k sg sd e' = true
    · rw [if_pos h1, if_pos h2, if_pos h2, if_pos h1]
      dsimp only
      rw [zor_rc, zand_rc]
      refine congrArg (Prod.mk _) (congrArg (Prod.mk _) (congrArg (Prod.mk _) ?_))
      funext j; omega
    · rw [if_pos h1, if_neg h2, if_neg h2, if_pos h1]
  · by_cases h2 : fitE c k sg sd e' = true
    · rw [if_neg h1, if_pos h2, if_pos h2, if_neg h1]
    · rw [if_neg h1, if_neg h2, if_neg h2, if_neg h1]
theorem stp_rep {c k : Nat} {d sg sd : Nat → Int} {e : zEv} : ∀ (w : Nat) (a : zAc), runE c k d sg sd (List.replicate (w + 1) e) a = if fitE c k sg sd e = true then (a.1 + ((w : Int) + 1), zor a.2.1 e.1, zand a.2.2.1 e.1, fun j => a.2.2.2 j + ((w : Int) + 1) * tnF d (ngF c e.2) j c) else a := by
  intro w
  induction w with
  | zero =>
    intro a
    show stpE c k d sg sd e a = _
    unfold stpE
    split
    · refine congrArg (Prod.mk _) (congrArg (Prod.mk _) (congrArg (Prod.mk _) ?_))
      funext j; simp
    · rfl
  | succ w ih =>
    intro a
    rw [List.replicate_succ]
    show runE c k d sg sd (List.replicate (w + 1) e) (stpE c k d sg sd e a) = _
    rw [ih]
    unfold stpE
    by_cases h : fitE c k sg sd e = true
    · rw [if_pos h, if_pos h, if_pos h]
      dsimp only
      rw [zor_id, zand_id]
      have e1 : a.1 + 1 + ((w : Int) + 1) = a.1 + (((w + 1 : Nat) : Int) + 1) := by omega
      rw [e1]
      refine congrArg (Prod.mk _) (congrArg (Prod.mk _) (congrArg (Prod.mk _) ?_))
      funext j
      rw [show ((w + 1 : Nat) : Int) + 1 = 1 + ((w : Int) + 1) by omega, Int.add_mul 1, Int.one_mul]; omega
    · rw [if_neg h, if_neg h, if_neg h]
theorem orS_1 {pk : Nat → Int} {i : Nat} (hi : i ≤ 2) : 1 ≤ (orS pk i).1 := by
  obtain rfl | rfl | rfl : i = 0 ∨ i = 1 ∨ i = 2 := by omega
  · show (1 : Int) ≤ 1
    decide
  · simp only [orS]; split <;> decide
  · simp only [orS]; split <;> split <;> decide
theorem wg_run {c k m : Nat} {d sg sd pk day : Nat → Int} {a : zAc} (hm : m ≤ 3) : wgS c k m d sg sd pk day a = runE c k d sg sd (List.replicate (orS pk (m - 1)).1.toNat (btF pk m, day)) a := by
  have h1 := orS_1 (pk := pk) (i := m - 1) (by omega)
  obtain ⟨w, hw⟩ : ∃ w : Nat, (orS pk (m - 1)).1.toNat = w + 1 := ⟨(orS pk (m - 1)).1.toNat - 1, by omega⟩
  have hw2 : (orS pk (m - 1)).1 = (w : Int) + 1 := by omega
  rw [hw, stp_rep, wgS, hw2, tl_tn]
  rfl
def catF {α : Type} (f : Nat → List α) : Nat → List α
  | 0 => []
  | m + 1 => catF f m ++ f m
def pkL (Wl : (Nat → Int) → (Nat → Int) → List zEv) (c : Nat) (t l : Int) : Nat → Nat → (Nat → Int) → (Nat → Int) → List zEv
  | 0, _, pk, day => Wl pk day
  | q + 1, b, pk, day => catF (fun i => pkL Wl c t l q (b + i) (za pk q ((b + i : Nat) : Int)) (adF t l (b + i) day)) (2 * c - b)
theorem lp_cat {c k : Nat} {d sg sd : Nat → Int} {f : Nat → zAc → zAc} {g : Nat → List zEv} {b : Nat} (h : ∀ i a, f (b + i) a = runE c k d sg sd (g i) a) : ∀ m a, lpF f b m a = runE c k d sg sd (catF g m) a := by
  intro m
  induction m with
  | zero => intro a; rfl
  | succ m ih =>
    intro a
    rw [lpF, h, ih, catF]
    unfold runE
    rw [List.foldl_append]
theorem pk_run {c k : Nat} {d sg sd : Nat → Int} {W : (Nat → Int) → (Nat → Int) → zAc → zAc} {Wl : (Nat → Int) → (Nat → Int) → List zEv} {t l : Int} (h : ∀ pk day a, W pk day a = runE c k d sg sd (Wl pk day) a) : ∀ (q b : Nat) (pk day : Nat → Int) (a : zAc), pkS W c t l q b pk day a = runE c k d sg sd (pkL Wl c t l q b pk day) a := by
  intro q
  induction q with
  | zero => intro b pk day a; exact h pk day a
  | succ q ih =>
    intro b pk day a
    rw [pkS, pkL]
    exact lp_cat (fun i a => ih (b + i) _ _ a) _ a
/-! counting -/
theorem rs_first {f : Nat → Int} : ∀ k, rsF f (k + 1) = f 0 + rsF (fun i => f (i + 1)) k := by
  intro k
  induction k with
  | zero => rw [rsF, rsF, rsF]; omega
  | succ k ih => rw [rsF, ih, rsF]; omega
theorem rs_plus {f g : Nat → Int} : ∀ k, rsF (fun i => f i + g i) k = rsF f k + rsF g k := by
  intro k
  induction k with
  | zero => rfl
  | succ k ih => rw [rsF, ih, rsF, rsF]; omega
theorem rs_cmul {f : Nat → Int} (x : Int) : ∀ k, rsF (fun i => x * f i) k = x * rsF f k := by
  intro k
  induction k with
  | zero => rw [rsF, rsF, Int.mul_zero]
  | succ k ih => rw [rsF, ih, rsF, Int.mul_add]
theorem rs_mul {f : Nat → Int} (M : Nat) : ∀ A, rsF f (A * M) = rsF (fun h => rsF (fun r => f (h * M + r)) M) A := by
  intro A
  induction A with
  | zero => rw [Nat.zero_mul]; rfl
  | succ A ih => rw [Nat.succ_mul, rsF_add, ih, rsF]
def sA2 (φ : Nat → Nat → Int) (b k : Nat) : Int := rsF (fun i => rsF (fun j => φ (b + i) (b + j)) k) k
def sB2 (φ : Nat → Nat → Int) (b k : Nat) : Int := rsF (fun i => rsF (fun j => (if j = 0 then 1 else 2) * φ (b + i) (b + i + j)) (k - i)) k
theorem sym2 {φ : Nat → Nat → Int} (h : ∀ x y, φ x y = φ y x) : ∀ k b, sA2 φ b k = sB2 φ b k := by
  intro k
  induction k with
  | zero => intro b; rfl
  | succ k ih =>
    intro b
    obtain ⟨B, hB⟩ : ∃ B, B = b + 1 := ⟨_, rfl⟩
    have hb : ∀ i, b + (i + 1) = B + i := fun i => by omega
    have hk : ∀ i, k + 1 - (i + 1) = k - i := fun i => by omega
    have e1 : sA2 φ b (k + 1) = φ b b + 2 * rsF (fun j => φ b (B + j)) k + sA2 φ B k := by
      unfold sA2
      simp only [rs_first, rs_plus, hb, Nat.add_zero]
      have : rsF (fun i => φ (B + i) b) k = rsF (fun j => φ b (B + j)) k := rsF_c k (fun j _ => h _ _)
      omega
    have e2 : sB2 φ b (k + 1) = φ b b + 2 * rsF (fun j => φ b (B + j)) k + sB2 φ B k := by
      unfold sB2
      rw [rs_first]
      simp only [hb, hk, Nat.add_zero, Nat.sub_zero]
      rw [rs_first]
      simp only [hb, Nat.add_zero, if_pos, Nat.succ_ne_zero, if_neg, not_false_eq_true, Int.one_mul]
      rw [rs_cmul]
    rw [e1, e2, ih B]
def sA3 (φ : Nat → Nat → Nat → Int) (b k : Nat) : Int := rsF (fun i => rsF (fun j => rsF (fun l => φ (b + i) (b + j) (b + l)) k) k) k
def sB3 (φ : Nat → Nat → Nat → Int) (b k : Nat) : Int := rsF (fun i => rsF (fun j => rsF (fun l => (if j = 0 then (if l = 0 then 1 else 3) else (if l = 0 then 3 else 6)) * φ (b + i) (b + i + j) (b + i + j + l)) (k - i - j)) (k - i)) k
theorem sym3 {φ : Nat → Nat → Nat → Int} (h1 : ∀ x y z, φ x y z = φ y x z) (h2 : ∀ x y z, φ x y z = φ x z y) : ∀ k b, sA3 φ b k = sB3 φ b k := by
  intro k
  induction k with
  | zero => intro b; rfl
  | succ k ih =>
    intro b
    obtain ⟨B, hB⟩ : ∃ B, B = b + 1 := ⟨_, rfl⟩
    have hb : ∀ i, b + (i + 1) = B + i := fun i => by omega
    have hk : ∀ i, k + 1 - (i + 1) = k - i := fun i => by omega
    have e1 : sA3 φ b (k + 1) = φ b b b + 3 * rsF (fun j => φ b b (B + j)) k + 3 * sA2 (φ b) B k + sA3 φ B k := by
      unfold sA3 sA2
      simp only [rs_first, rs_plus, hb, Nat.add_zero]
      have q1 : rsF (fun i => φ b (B + i) b) k = rsF (fun j => φ b b (B + j)) k := rsF_c k (fun j _ => h2 _ _ _)
      have q2 : rsF (fun i => φ (B + i) b b) k = rsF (fun j => φ b b (B + j)) k := rsF_c k (fun j _ => by rw [h1, h2])
      have q3 : rsF (fun i => rsF (fun l => φ (B + i) b (B + l)) k) k = rsF (fun i => rsF (fun j => φ b (B + i) (B + j)) k) k := rsF_c k (fun i _ => rsF_c k (fun j _ => h1 _ _ _))
      have q4 : rsF (fun i => rsF (fun j => φ (B + i) (B + j) b) k) k = rsF (fun i => rsF (fun j => φ b (B + i) (B + j)) k) k := rsF_c k (fun i _ => rsF_c k (fun j _ => by rw [h2, h1]))
      omega
    have e2 : sB3 φ b (k + 1) = φ b b b + 3 * rsF (fun j => φ b b (B + j)) k + 3 * sB2 (φ b) B k + sB3 φ B k := by
      unfold sB3 sB2
      rw [rs_first]
      simp only [hb, hk, Nat.add_zero, Nat.sub_zero]
      rw [rs_first]
      simp only [hb, hk, Nat.add_zero, Nat.sub_zero, if_pos, Nat.succ_ne_zero, if_neg, not_false_eq_true]
      rw [rs_first]
      simp only [hb, Nat.add_zero, if_pos, Nat.succ_ne_zero, if_neg, not_false_eq_true, Int.one_mul]
      rw [rs_cmul]
      have q1 : rsF (fun i => rsF (fun l => (if l = 0 then 3 else 6) * φ b (B + i) (B + i + l)) (k - i)) k = 3 * rsF (fun i => rsF (fun j => (if j = 0 then 1 else 2) * φ b (B + i) (B + i + j)) (k - i)) k := by
        rw [← rs_cmul]
        refine rsF_c k (fun i _ => ?_)
        rw [← rs_cmul]
        refine rsF_c _ (fun j _ => ?_)
        rw [← Int.mul_assoc]
        congr 1
        split <;> rfl
      omega
    rw [e1, e2, ih B, sym2 (fun x y => h2 b x y)]
theorem ct_rg {α : Type} [DecidableEq α] (f : Nat → α) (e : α) : ∀ n, (((List.range n).map f).count e : Int) = rsF (fun i => if f i = e then 1 else 0) n := by
  intro n
  induction n with
  | zero => rfl
  | succ n ih =>
    rw [List.range_succ, List.map_append, List.count_append, rsF, ← ih, List.map_cons, List.map_nil, List.count_singleton, Int.natCast_add]
    congr 1
    by_cases h : f n = e
    · simp [h]
    · simp [h]
theorem ct_cat {α : Type} [DecidableEq α] (f : Nat → List α) (e : α) : ∀ n, ((catF f n).count e : Int) = rsF (fun i => ((f i).count e : Int)) n := by
  intro n
  induction n with
  | zero => rfl
  | succ n ih => rw [catF, List.count_append, rsF, ← ih, Int.natCast_add]
theorem ct_rep {α : Type} [DecidableEq α] (x e : α) (w : Nat) : ((List.replicate w x).count e : Int) = (w : Int) * (if x = e then 1 else 0) := by
  rw [List.count_replicate]
  by_cases h : x = e
  · simp [h]
  · simp [h]
theorem pm_of {α : Type} {l1 l2 : List α} (h : ∀ (_ : DecidableEq α) (e : α), (l1.count e : Int) = (l2.count e : Int)) : l1.Perm l2 := by
  letI : DecidableEq α := fun a b => Classical.propDecidable (a = b)
  exact List.perm_iff_count.mpr (fun e => Int.ofNat.inj (h _ e))
theorem dg_sum {N m : Nat} {ψ : List Nat → Int} : rsF (fun a => ψ (dgL N (m + 1) a)) (N ^ (m + 1)) = rsF (fun b => rsF (fun r => ψ (r :: dgL N m b)) N) (N ^ m) := by
  rw [Nat.pow_succ, rs_mul]
  refine rsF_c _ (fun b _ => rsF_c _ (fun r hr => ?_))
  obtain ⟨e1, e2⟩ := dm_1 (h := b) hr
  rw [dgL, e1, e2]
theorem ad_cm {t l : Int} (x y : Nat) (d : Nat → Int) : adF t l x (adF t l y d) = adF t l y (adF t l x d) := by
  funext j
  unfold adF
  generalize (if x % 2 = 0 then t else l) = u
  generalize (if y % 2 = 0 then t else l) = v
  by_cases hxy : x / 2 = y / 2
  · rw [hxy, za_s, za_s]
    by_cases hj : j = y / 2
    · rw [hj, za_s, za_s]; omega
    · rw [za_n _ _ hj, za_n _ _ hj, za_n _ _ hj, za_n _ _ hj]
  · rw [za_n _ _ hxy, za_n _ _ (fun h => hxy h.symm)]
    by_cases hj : j = x / 2
    · rw [hj, za_s, za_n _ _ hxy, za_s]
    · rw [za_n _ _ hj]
      by_cases hj2 : j = y / 2
      · rw [hj2, za_s, za_s]
      · rw [za_n _ _ hj2, za_n _ _ hj2, za_n _ _ hj]
theorem ev_pm {t l : Int} {d : Nat → Int} {ps qs : List Nat} (h : ps.Perm qs) : evL t l d ps = evL t l d qs := by
  unfold evL
  rw [List.Perm.foldl_eq' h (fun x _ y _ z => zor_rc z _ _), List.Perm.foldl_eq' h (fun x _ y _ z => ad_cm y x z)]
