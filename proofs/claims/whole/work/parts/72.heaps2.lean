/-! who: the two ways come to the same -/
abbrev zWl (m : Nat) : (Nat → Int) → (Nat → Int) → List zEv := fun pk day => List.replicate (orS pk (m - 1)).1.toNat (btF pk m, day)
theorem bt_s {pk : Nat → Int} {i p : Nat} (h : pk i = (p : Int)) : btF pk (i + 1) = zor (btF pk i) (2 ^ (p / 2)) := by
  rw [btF, h, show ((p : Int) / 2).toNat = p / 2 by omega]
theorem or_2 {pk : Nat → Int} : (orS pk 1).1 = if pk 1 = pk 0 then 1 else 2 := by
  simp only [orS, Nat.zero_add]
  split <;> rfl
theorem or_3 {pk : Nat → Int} : (orS pk 2).1 = if pk 2 = pk 1 then (if pk 1 = pk 0 then 1 else 3) else (if pk 1 = pk 0 then 3 else 6) := by
  simp only [orS, Nat.zero_add, Nat.reduceAdd]
  split <;> split <;> rfl
section
variable {c : Nat} {t l : Int} {d : Nat → Int}
theorem ev_r2 {x y : Nat} : evL t l d [y, x] = evL t l d [x, y] := ev_pm (List.reverse_perm [x, y])
theorem ev_r3 {x y z : Nat} : evL t l d [z, y, x] = evL t l d [x, y, z] := ev_pm (List.reverse_perm [x, y, z])
theorem pm_1 : ((List.range ((2 * c) ^ 1)).map (fun a => evL t l d (dgL (2 * c) 1 a))).Perm (pkL (zWl 1) c t l 1 0 (fun _ => 0) d) := by
  refine pm_of (fun inst e => ?_)
  rw [ct_rg, dg_sum (ψ := fun q => if evL t l d q = e then 1 else 0), pkL, ct_cat, Nat.sub_zero, show (2 * c) ^ 0 = 0 + 1 from rfl, rsF, rsF, Int.zero_add]
  refine rsF_c _ (fun i _ => ?_)
  show _ = ((List.replicate 1 (btF (za (fun _ => 0) 0 ((0 + i : Nat) : Int)) 1, adF t l (0 + i) d)).count e : Int)
  rw [ct_rep, bt_s (p := i) (by rw [za_s, Nat.zero_add]), Nat.zero_add]
  exact (Int.one_mul _).symm
theorem pm_2 : ((List.range ((2 * c) ^ 2)).map (fun a => evL t l d (dgL (2 * c) 2 a))).Perm (pkL (zWl 2) c t l 2 0 (fun _ => 0) d) := by
  refine pm_of (fun inst e => ?_)
  have e1 : (((List.range ((2 * c) ^ 2)).map (fun a => evL t l d (dgL (2 * c) 2 a))).count e : Int) = sA2 (fun x y => if evL t l d [x, y] = e then 1 else 0) 0 (2 * c) := by
    rw [ct_rg, dg_sum (ψ := fun q => if evL t l d q = e then 1 else 0), dg_sum (ψ := fun q => rsF (fun r => if evL t l d (r :: q) = e then 1 else 0) (2 * c)), show (2 * c) ^ 0 = 0 + 1 from rfl, rsF, rsF, Int.zero_add, sA2]
    refine rsF_c _ (fun i _ => rsF_c _ (fun j _ => ?_))
    rw [Nat.zero_add, Nat.zero_add]
    show (if evL t l d [j, i] = e then (1 : Int) else 0) = _
    rw [ev_r2]
  have e2 : ((pkL (zWl 2) c t l 2 0 (fun _ => 0) d).count e : Int) = sB2 (fun x y => if evL t l d [x, y] = e then 1 else 0) 0 (2 * c) := by
    rw [pkL, ct_cat, Nat.sub_zero, sB2]
    refine rsF_c _ (fun i _ => ?_)
    rw [pkL, ct_cat, show 2 * c - (0 + i) = 2 * c - i by omega]
    refine rsF_c _ (fun j _ => ?_)
    rw [pkL]
    show ((List.replicate (orS _ 1).1.toNat (btF _ 2, _)).count e : Int) = _
    generalize hpk : za (za (fun _ => (0 : Int)) 1 ((0 + i : Nat) : Int)) 0 ((0 + i + j : Nat) : Int) = pk
    have p0 : pk 0 = ((0 + i + j : Nat) : Int) := by rw [← hpk, za_s]
    have p1 : pk 1 = ((0 + i : Nat) : Int) := by rw [← hpk, za_n _ _ (by decide), za_s]
    have hev : (btF pk 2, adF t l (0 + i + j) (adF t l (0 + i) d)) = evL t l d [0 + i, 0 + i + j] := Prod.ext (by
      dsimp only
      rw [bt_s p1, bt_s p0]
      show (evL t l d [0 + i + j, 0 + i]).1 = _
      rw [ev_r2]) rfl
    rw [ct_rep, hev, or_2, p0, p1]
    congr 1
    by_cases hj : j = 0
    · rw [if_pos (by omega), if_pos hj]; rfl
    · rw [if_neg (by omega), if_neg hj]; rfl
  rw [e1, e2]
  exact sym2 (fun x y => by rw [ev_r2]) _ _
theorem pm_3 : ((List.range ((2 * c) ^ 3)).map (fun a => evL t l d (dgL (2 * c) 3 a))).Perm (pkL (zWl 3) c t l 3 0 (fun _ => 0) d) := by
  refine pm_of (fun inst e => ?_)
  have e1 : (((List.range ((2 * c) ^ 3)).map (fun a => evL t l d (dgL (2 * c) 3 a))).count e : Int) = sA3 (fun x y z => if evL t l d [x, y, z] = e then 1 else 0) 0 (2 * c) := by
    rw [ct_rg, dg_sum (ψ := fun q => if evL t l d q = e then 1 else 0), dg_sum (ψ := fun q => rsF (fun r => if evL t l d (r :: q) = e then 1 else 0) (2 * c)), dg_sum (ψ := fun q => rsF (fun s => rsF (fun r => if evL t l d (r :: s :: q) = e then 1 else 0) (2 * c)) (2 * c)), show (2 * c) ^ 0 = 0 + 1 from rfl, rsF, rsF, Int.zero_add, sA3]
    refine rsF_c _ (fun i _ => rsF_c _ (fun j _ => rsF_c _ (fun h _ => ?_)))
    rw [Nat.zero_add, Nat.zero_add, Nat.zero_add]
    show (if evL t l d [h, j, i] = e then (1 : Int) else 0) = _
    rw [ev_r3]
  have e2 : ((pkL (zWl 3) c t l 3 0 (fun _ => 0) d).count e : Int) = sB3 (fun x y z => if evL t l d [x, y, z] = e then 1 else 0) 0 (2 * c) := by
    rw [pkL, ct_cat, Nat.sub_zero, sB3]
    refine rsF_c _ (fun i _ => ?_)
    rw [pkL, ct_cat, show 2 * c - (0 + i) = 2 * c - i by omega]
    refine rsF_c _ (fun j _ => ?_)
    rw [pkL, ct_cat, show 2 * c - (0 + i + j) = 2 * c - i - j by omega]
    refine rsF_c _ (fun h _ => ?_)
    rw [pkL]
    show ((List.replicate (orS _ 2).1.toNat (btF _ 3, _)).count e : Int) = _
    generalize hpk : za (za (za (fun _ => (0 : Int)) 2 ((0 + i : Nat) : Int)) 1 ((0 + i + j : Nat) : Int)) 0 ((0 + i + j + h : Nat) : Int) = pk
    have p0 : pk 0 = ((0 + i + j + h : Nat) : Int) := by rw [← hpk, za_s]
    have p1 : pk 1 = ((0 + i + j : Nat) : Int) := by rw [← hpk, za_n _ _ (by decide), za_s]
    have p2 : pk 2 = ((0 + i : Nat) : Int) := by rw [← hpk, za_n _ _ (by decide), za_n _ _ (by decide), za_s]
    have hev : (btF pk 3, adF t l (0 + i + j + h) (adF t l (0 + i + j) (adF t l (0 + i) d))) = evL t l d [0 + i, 0 + i + j, 0 + i + j + h] := Prod.ext (by
      dsimp only
      rw [bt_s p2, bt_s p1, bt_s p0]
      show (evL t l d [0 + i + j + h, 0 + i + j, 0 + i]).1 = _
      rw [ev_r3]) rfl
    rw [ct_rep, hev, or_3, p0, p1, p2]
    congr 1
    by_cases hj : j = 0
    · by_cases hh : h = 0
      · rw [if_pos (by omega), if_pos (by omega), if_pos hj, if_pos hh]; rfl
      · rw [if_pos (by omega), if_neg (by omega), if_pos hj, if_neg hh]; rfl
    · by_cases hh : h = 0
      · rw [if_neg (by omega), if_pos (by omega), if_neg hj, if_pos hh]; rfl
      · rw [if_neg (by omega), if_neg (by omega), if_neg hj, if_neg hh]; rfl
  rw [e1, e2]
  exact sym3 (fun x y z => by rw [ev_pm (List.Perm.swap y x [z])]) (fun x y z => by rw [ev_pm ((List.Perm.swap z y []).cons x)]) _ _
theorem pm_m {m : Nat} (hm : m ≤ 3) : ((List.range ((2 * c) ^ m)).map (fun a => evL t l d (dgL (2 * c) m a))).Perm (pkL (zWl m) c t l m 0 (fun _ => 0) d) := by
  obtain rfl | rfl | rfl | rfl : m = 0 ∨ m = 1 ∨ m = 2 ∨ m = 3 := by omega
  · exact List.Perm.refl [((0 : Int), d)]
  · exact pm_1
  · exact pm_2
  · exact pm_3
end
theorem ga_run {c k m : Nat} {d rule sg sd : Nat → Int} (hm : m ≤ 3) : gaF c k m d rule sg sd = runE c k d sg sd ((List.range ((2 * c) ^ m)).map (fun a => evL (rule 0) (rule 1) d (dgL (2 * c) m a))) (0, 0, (2 : Int) ^ c - 1, fun _ => 0) := by
  unfold gaF
  rw [pk_run (Wl := zWl m) (fun pk day a => wg_run hm)]
  exact (List.Perm.foldl_eq' (pm_m hm) (fun x _ y _ z => stp_cm y x z) _).symm
theorem rg_run {c k : Nat} {d sg sd : Nat → Int} {f : Nat → zEv} {a0 : zAc} : ∀ n, rgF (fun a acc => stpE c k d sg sd (f a) acc) n a0 = runE c k d sg sd ((List.range n).map f) a0 := by
  intro n
  induction n with
  | zero => rfl
  | succ n ih =>
    rw [rgF, ih, List.range_succ, List.map_append]
    unfold runE
    rw [List.foldl_append]
    rfl
/-! bits within the gardens -/
theorem i32_dis (x y m : Int32) : (x ||| y) &&& m = (x &&& m) ||| (y &&& m) := by
  apply Int32.toBitVec_inj.mp
  simp only [Int32.toBitVec_and, Int32.toBitVec_or]
  ext i hi
  simp only [BitVec.getElem_or, BitVec.getElem_and]
  cases x.toBitVec[i] <;> cases y.toBitVec[i] <;> cases m.toBitVec[i] <;> rfl
def inM (c : Nat) (s : Int) : Prop := zand s ((2 : Int) ^ c - 1) = s
theorem inM_or {c : Nat} {a b : Int} (h1 : inM c a) (h2 : inM c b) : inM c (zor a b) := by
  unfold inM at *
  have h3 : zand (zor a b) ((2 : Int) ^ c - 1) = zor (zand a ((2 : Int) ^ c - 1)) (zand b ((2 : Int) ^ c - 1)) := by
    unfold zand zor
    rw [Int32.ofInt_toInt, Int32.ofInt_toInt, Int32.ofInt_toInt, i32_dis]
  rw [h3, h1, h2]
theorem inM_tab : ∀ c : Fin 9, ∀ i : Fin 8, i.val < c.val → zand ((2 : Int) ^ i.val) ((2 : Int) ^ c.val - 1) = (2 : Int) ^ i.val := by decide +kernel
theorem inM_0 : ∀ c : Fin 9, zand 0 ((2 : Int) ^ c.val - 1) = 0 := by decide +kernel
theorem inM_m : ∀ c : Fin 9, zand ((2 : Int) ^ c.val - 1) 255 = (2 : Int) ^ c.val - 1 := by decide +kernel
theorem inM_ev {c : Nat} {t l : Int} {d : Nat → Int} (h8 : c ≤ 8) {ps : List Nat} (hp : ∀ p ∈ ps, p < 2 * c) : inM c (evL t l d ps).1 := by
  have : ∀ (ps : List Nat) (s : Int), (∀ p ∈ ps, p < 2 * c) → inM c s → inM c (ps.foldl (fun s p => zor s (2 ^ (p / 2))) s) := by
    intro ps
    induction ps with
    | nil => intro s _ h; exact h
    | cons p ps ih =>
      intro s hp h
      have hp0 := hp p List.mem_cons_self
      exact ih _ (fun x hx => hp x (List.mem_cons_of_mem _ hx)) (inM_or h (inM_tab ⟨c, by omega⟩ ⟨p / 2, by omega⟩ (show p / 2 < c by omega)))
  exact this ps 0 hp (inM_0 ⟨c, by omega⟩)
theorem inM_255 {c : Nat} {s : Int} (h8 : c ≤ 8) (h : inM c s) : zand 255 s = zand ((2 : Int) ^ c - 1) s := by
  have h1 := inM_m ⟨c, by omega⟩
  dsimp only at h1
  unfold inM at h
  rw [zand_cm 255 s, zand_cm _ s]
  conv => lhs; rw [← h]
  rw [zand_as, h1]
def mkR (M : Int) (a b : zAc) : Prop := a.1 = b.1 ∧ a.2.1 = b.2.1 ∧ a.2.2.2 = b.2.2.2 ∧ (a.2.2.1 = b.2.2.1 ∨ (a.2.2.1 = 255 ∧ b.2.2.1 = M ∧ a.1 = 0))
theorem run_mk {c k : Nat} {d sg sd : Nat → Int} {M : Int} : ∀ (es : List zEv) (a b : zAc), (∀ e ∈ es, zand 255 e.1 = zand M e.1) → mkR M a b → mkR M (runE c k d sg sd es a) (runE c k d sg sd es b) := by
  intro es
  induction es with
  | nil => intro a b _ h; exact h
  | cons e es ih =>
    intro a b he h
    show mkR M (runE c k d sg sd es (stpE c k d sg sd e a)) (runE c k d sg sd es (stpE c k d sg sd e b))
    refine ih _ _ (fun x hx => he x (List.mem_cons_of_mem _ hx)) ?_
    have he0 := he e List.mem_cons_self
    obtain ⟨h1, h2, h3, h4⟩ := h
    unfold stpE
    by_cases hf : fitE c k sg sd e = true
    · rw [if_pos hf, if_pos hf]
      refine ⟨by dsimp only; rw [h1], by dsimp only; rw [h2], by dsimp only; rw [h3], Or.inl ?_⟩
      dsimp only
      rcases h4 with h4 | ⟨h4, h5, _⟩
      · rw [h4]
      · rw [h4, h5, he0]
    · rw [if_neg hf, if_neg hf]
      exact ⟨h1, h2, h3, h4⟩
/-- what the reference gathers up to a number -/
def rfA (c k m : Nat) (d rule sg sd : Nat → Int) (n : Nat) : zAc := rgF (fun a acc => stpE c k d sg sd (evL (rule 0) (rule 1) d (dgL (2 * c) m a)) acc) n (0, 0, 255, fun _ => 0)
theorem who_eq {c k m : Nat} {d rule sg sd : Nat → Int} (h2 : 2 ≤ c) (h8 : c ≤ 8) (hm : m ≤ 3) : (rfA c k m d rule sg sd ((2 * c) ^ m)).1 = (gaF c k m d rule sg sd).1 ∧ (rfA c k m d rule sg sd ((2 * c) ^ m)).2.1 = (gaF c k m d rule sg sd).2.1 ∧ (rfA c k m d rule sg sd ((2 * c) ^ m)).2.2.2 = (gaF c k m d rule sg sd).2.2.2 ∧ ((rfA c k m d rule sg sd ((2 * c) ^ m)).1 ≠ 0 → (rfA c k m d rule sg sd ((2 * c) ^ m)).2.2.1 = (gaF c k m d rule sg sd).2.2.1) := by
  unfold rfA
  rw [rg_run, ga_run hm]
  have h := run_mk (c := c) (k := k) (d := d) (sg := sg) (sd := sd) (M := (2 : Int) ^ c - 1) ((List.range ((2 * c) ^ m)).map (fun a => evL (rule 0) (rule 1) d (dgL (2 * c) m a))) (0, 0, 255, fun _ => 0) (0, 0, (2 : Int) ^ c - 1, fun _ => 0) (fun e he => by
    obtain ⟨a, _, rfl⟩ := List.mem_map.mp he
    exact inM_255 h8 (inM_ev h8 (dg_ok (by omega) m a).2)) ⟨rfl, rfl, rfl, Or.inr ⟨rfl, rfl, rfl⟩⟩
  obtain ⟨h1, h2, h3, h4⟩ := h
  refine ⟨h1, h2, h3, fun hn => ?_⟩
  rcases h4 with h4 | ⟨_, _, h5⟩
  · exact h4
  · exact absurd h5 hn
theorem rfA_b {c k m : Nat} {d rule sg sd : Nat → Int} : ∀ n, 0 ≤ (rfA c k m d rule sg sd n).1 ∧ (rfA c k m d rule sg sd n).1 ≤ n := by
  intro n
  induction n with
  | zero => exact ⟨Int.le_refl _, Int.le_refl _⟩
  | succ n ih =>
    show 0 ≤ (stpE c k d sg sd _ (rfA c k m d rule sg sd n)).1 ∧ (stpE c k d sg sd _ (rfA c k m d rule sg sd n)).1 ≤ _
    unfold stpE
    split
    · dsimp only; omega
    · omega
theorem rfA_s {c k m : Nat} {d rule sg sd : Nat → Int} {n : Nat} : rfA c k m d rule sg sd (n + 1) = stpE c k d sg sd (evL (rule 0) (rule 1) d (dgL (2 * c) m n)) (rfA c k m d rule sg sd n) := rfl
/-! tallies -/
theorem tn_at {d mo : Nat → Int} {g ch : Nat} (hc : ch < 32) : ∀ m, tnF d mo (g * 32 + ch) m = if g < m ∧ mo g - d g + 1 = (ch : Int) then 1 else 0 := by
  intro m
  induction m with
  | zero => rw [tnF, if_neg (by omega)]
  | succ m ih =>
    rw [tnF, ih]
    by_cases hm : m = g
    · subst hm
      rw [if_neg (by omega)]
      by_cases h : mo m - d m + 1 = (ch : Int)
      · rw [if_pos (by omega), if_pos (by omega)]; rfl
      · rw [if_neg (by omega), if_neg (by omega)]; rfl
    · rw [if_neg (show ¬ ((0 ≤ mo m - d m + 1 ∧ mo m - d m + 1 < 32) ∧ g * 32 + ch = ((m : Int) * 32 + (mo m - d m + 1)).toNat) by omega), Int.add_zero]
      by_cases h : g < m ∧ mo g - d g + 1 = (ch : Int)
      · rw [if_pos h, if_pos (by omega)]
      · rw [if_neg h, if_neg (by omega)]
def wsF (f : Nat → Int) : Nat → Int
  | 0 => 0
  | k + 1 => max (wsF f k) (anF f (f k) (k + 1))
theorem an_mono {f : Nat → Int} {v : Int} {a : Nat} : ∀ b, a ≤ b → anF f v a ≤ anF f v b := by
  intro b
  induction b with
  | zero => intro h; obtain rfl : a = 0 := by omega
            exact Int.le_refl _
  | succ b ih =>
    intro h
    by_cases hb : a = b + 1
    · subst hb; exact Int.le_refl _
    · have := ih (by omega)
      rw [anF]; split <;> omega
theorem mx_le {f : Nat → Int} {B : Int} (hB : 0 ≤ B) : ∀ m, (∀ i, i < m → f i ≤ B) → mxF f m ≤ B := by
  intro m
  induction m with
  | zero => intro _; exact hB
  | succ m ih => intro h; have := ih (fun i hi => h i (by omega)); have := h m (by omega); rw [mxF]; omega
theorem mx_ge {f : Nat → Int} {i : Nat} : ∀ m, i < m → f i ≤ mxF f m := by
  intro m
  induction m with
  | zero => intro h; omega
  | succ m ih =>
    intro h
    rw [mxF]
    by_cases hi : i = m
    · subst hi; omega
    · have := ih (by omega); omega
theorem ws_0 {f : Nat → Int} : ∀ k, 0 ≤ wsF f k ∧ wsF f k ≤ k := by
  intro k
  induction k with
  | zero => exact ⟨Int.le_refl _, Int.le_refl _⟩
  | succ k ih => have := anF_b (s := f) (g := f k) (k + 1); rw [wsF]; omega
theorem ws_ge {f : Nat → Int} {v : Int} : ∀ k, anF f v k ≤ wsF f k := by
  intro k
  induction k with
  | zero => exact Int.le_refl _
  | succ k ih =>
    rw [wsF]
    by_cases h : f k = v
    · rw [h]; omega
    · rw [anF, if_neg h]; omega
theorem ws_mx {f : Nat → Int} {dg : Int} {K : Nat} (h : ∀ j, j < K → dg - 1 ≤ f j ∧ f j ≤ dg + 30) : wsF f K = mxF (fun ch => anF f (dg + (ch : Int) - 1) K) 32 := by
  apply Int.le_antisymm
  · have : ∀ k, k ≤ K → wsF f k ≤ mxF (fun ch => anF f (dg + (ch : Int) - 1) K) 32 := by
      intro k
      induction k with
      | zero => intro _; exact (mxF_b (B := K) (by omega) (fun j => anF_b K) 32).1
      | succ k ih =>
        intro hk
        have hb := h k (by omega)
        have h1 := an_mono (f := f) (v := f k) (a := k + 1) K hk
        have h2 := mx_ge (f := fun ch => anF f (dg + (ch : Int) - 1) K) (i := (f k - dg + 1).toNat) 32 (by omega)
        rw [show dg + (((f k - dg + 1).toNat : Nat) : Int) - 1 = f k by omega] at h2
        have h3 := ih (by omega)
        rw [wsF]; omega
    exact this K (Nat.le_refl _)
  · exact mx_le (ws_0 K).1 32 (fun i _ => ws_ge K)
theorem day_b {t l : Int} (ht : 0 ≤ t ∧ t ≤ 9) (hl : 0 ≤ l ∧ l ≤ 9) : ∀ (ps : List Nat) (d : Nat → Int) (j : Nat), d j ≤ (ps.foldl (fun d p => adF t l p d) d) j ∧ (ps.foldl (fun d p => adF t l p d) d) j ≤ d j + 9 * ps.length := by
  intro ps
  induction ps with
  | nil => intro d j; simp
  | cons p ps ih =>
    intro d j
    have h1 := ih (adF t l p d) j
    have h2 : d j ≤ adF t l p d j ∧ adF t l p d j ≤ d j + 9 := by
      unfold adF
      by_cases hj : j = p / 2
      · rw [hj, za_s]; split <;> omega
      · rw [za_n _ _ hj]; omega
    rw [List.foldl_cons, List.length_cons]
    omega
theorem ng_pm {c : Nat} {d : Nat → Int} {g : Nat} : d g - 1 ≤ ngF c d g ∧ ngF c d g ≤ d g + 1 := by
  unfold ngF
  (repeat' split) <;> omega
