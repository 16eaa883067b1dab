/-! SnowTalk: powers, chances, guests, build -/
theorem ct_power {n : Nat} {S : zH} {Rf : zG} {V : zE} {b : Int} {e : Nat} (hb : 0 ≤ b ∧ b ≤ 10) (he : e ≤ 12) : Cl 1 mX6_power [zI b, zI (e : Int)] n S Rf V (b ^ e) V := by
  refine ct_of (by decide) rfl (Nat.le_of_ble_eq_true rfl) ?_
  have loop : ∀ (q i : Nat), i + q = e → Wa zXn mX6_power (zrm 1 0 0) (zZm (qL (b ^ e) S Rf V) (n + 0) 0 0) 0 0 n S 5 [some (zI b), some (zI (e : Int)), some (zL (b ^ i)), none, some (zI (i : Int))] [] Rf V := by
    intro q
    induction q with
    | zero =>
      intro i hi
      obtain rfl : i = e := by omega
      refine wa_ild4 dX6_power_5 ?_
      refine wa_ild1 dX6_power_7 ?_
      refine wa_icmp_ge 22 dX6_power_8 (by decide) (by omega) (by omega) (fun c8 => ?_) (fun c8 => ?_)
      · refine wa_lld2 dX6_power_22 ?_
        exact wa_lreturn dX6_power_23 rfl rfl (Nat.le_refl _) (by exact ⟨rfl, rfl, rfl, rfl⟩)
      · exact absurd c8 (by omega)
    | succ q ih =>
      intro i hi
      have e1 := ih (i + 1) (by omega)
      rw [Int.pow_succ] at e1
      refine wa_ild4 dX6_power_5 ?_
      refine wa_ild1 dX6_power_7 ?_
      refine wa_icmp_ge 22 dX6_power_8 (by decide) (by omega) (by omega) (fun c8 => ?_) (fun c8 => ?_)
      · exact absurd c8 (by omega)
      · refine wa_lld2 dX6_power_11 ?_
        refine wa_ild0 dX6_power_12 ?_
        refine wa_i2l dX6_power_13 (by omega) ?_
        refine wa_lmul dX6_power_14 ?_
        refine wa_lst2 dX6_power_15 (by decide) rfl ?_
        refine wa_iinc4 dX6_power_16 (by decide) rfl ?_
        refine wa_goto 5 dX6_power_19 (by decide) ?_
        exact e1
  refine wa_lconst dX6_power_0 1 (by decide) ?_
  refine wa_lst2 dX6_power_1 (by decide) rfl ?_
  refine wa_iconst dX6_power_2 ?_
  refine wa_ist4 dX6_power_3 (by decide) rfl ?_
  have h9 := loop e 0 (by omega)
  rw [Int.pow_zero] at h9
  exact h9
def choF (m : Nat) : Nat → Int
  | 0 => 1
  | k + 1 => choF m k * ((m : Int) - k) / ((k : Int) + 1)
theorem choF_b {m : Nat} (hm : m ≤ 12) : ∀ k, k ≤ m → 0 ≤ choF m k ∧ choF m k ≤ 12 ^ k := by
  intro k
  induction k with
  | zero => intro _; unfold choF; decide
  | succ k ih =>
    intro hk
    obtain ⟨h1, h2⟩ := ih (by omega)
    have h3 : 0 ≤ choF m k * ((m : Int) - k) := Int.mul_nonneg h1 (by omega)
    have h4 : choF m k * ((m : Int) - k) ≤ 12 ^ k * 12 := Int.mul_le_mul h2 (by omega) (by omega) (Int.pow_nonneg (by decide))
    unfold choF
    refine ⟨Int.ediv_nonneg h3 (by omega), ?_⟩
    rw [Int.pow_succ]
    exact Int.le_trans (Int.ediv_le_self _ h3) h4
theorem p12 {k : Nat} (hk : k ≤ 12) : (12 : Int) ^ k ≤ 8916100448256 := by
  have h : ∀ k : Fin 13, (12 : Int) ^ k.val ≤ 8916100448256 := by decide +kernel
  exact h ⟨k, by omega⟩
def chF (t : Int) (m j : Nat) : Int := choF m j * t ^ j * (10 - t) ^ (m - j)
theorem ct_chanceOf {n : Nat} {S : zH} {Rf : zG} {V : zE} {t : Int} {m j : Nat} (ht : 0 ≤ t ∧ t ≤ 10) (hm : m ≤ 12) (hj : j ≤ m) : Cl 2 mX6_chanceOf [zI (j : Int), zI t, zI (m : Int)] n S Rf V (chF t m j) V := by
  refine ct_of (by decide) rfl (Nat.le_of_ble_eq_true rfl) ?_
  have loop : ∀ (q i : Nat), i + q = j → Wa zXn mX6_chanceOf (zrm 2 0 0) (zZm (qL (chF t m j) S Rf V) (n + 0) 0 0) 0 0 n S 5 [some (zI (j : Int)), some (zI t), some (zI (m : Int)), some (zL (choF m i)), none, some (zI ((i : Int) + 1))] [] Rf V := by
    intro q
    induction q with
    | zero =>
      intro i hi
      obtain rfl : i = j := by omega
      refine wa_ild5 dX6_chanceOf_5 ?_
      refine wa_ild0 dX6_chanceOf_7 ?_
      refine wa_icmp_gt 31 dX6_chanceOf_8 (by decide) (by omega) (by omega) (fun c8 => ?_) (fun c8 => ?_)
      · refine wa_lld3 dX6_chanceOf_31 ?_
        refine wa_ild1 dX6_chanceOf_32 ?_
        refine wa_ild0 dX6_chanceOf_33 ?_
        refine kX6_194 dX6_chanceOf_34 rfl (ct_power ht (by omega)) (by decide) (Nat.le_of_ble_eq_true rfl) ⟨Nat.le_refl _, Nat.le_refl _⟩ (zdL ?_)
        refine wa_lmul dX6_chanceOf_37 ?_
        refine wa_bipush dX6_chanceOf_38 (by decide) ?_
        refine wa_ild1 dX6_chanceOf_40 ?_
        refine wa_isub dX6_chanceOf_41 ?_
        refine wa_ild2 dX6_chanceOf_42 ?_
        refine wa_ild0 dX6_chanceOf_43 ?_
        refine wa_isub dX6_chanceOf_44 ?_
        rw [show (m : Int) - (i : Int) = ((m - i : Nat) : Int) by omega]
        refine kX6_194 dX6_chanceOf_45 rfl (ct_power (by omega) (by omega)) (by decide) (Nat.le_of_ble_eq_true rfl) ⟨Nat.le_refl _, Nat.le_refl _⟩ (zdL ?_)
        refine wa_lmul dX6_chanceOf_48 ?_
        exact wa_lreturn dX6_chanceOf_49 rfl rfl (Nat.le_refl _) (by exact ⟨rfl, rfl, rfl, rfl⟩)
      · exact absurd c8 (by omega)
    | succ q ih =>
      intro i hi
      have e1 := ih (i + 1) (by omega)
      obtain ⟨b1, b2⟩ := choF_b hm i (by omega)
      have b3 := p12 (k := i) (by omega)
      have b4 : 0 ≤ choF m i * ((m : Int) - ((i : Int) + 1) + 1) := Int.mul_nonneg b1 (by omega)
      have b5 : choF m i * ((m : Int) - ((i : Int) + 1) + 1) ≤ 8916100448256 * 12 := Int.mul_le_mul (by omega) (by omega) (by omega) (by decide)
      rw [choF, show (m : Int) - (i : Int) = (m : Int) - ((i : Int) + 1) + 1 by omega] at e1
      rw [show ((i + 1 : Nat) : Int) + 1 = (i : Int) + 1 + 1 by omega] at e1
      refine wa_ild5 dX6_chanceOf_5 ?_
      refine wa_ild0 dX6_chanceOf_7 ?_
      refine wa_icmp_gt 31 dX6_chanceOf_8 (by decide) (by omega) (by omega) (fun c8 => ?_) (fun c8 => ?_)
      · exact absurd c8 (by omega)
      · refine wa_lld3 dX6_chanceOf_11 ?_
        refine wa_ild2 dX6_chanceOf_12 ?_
        refine wa_ild5 dX6_chanceOf_13 ?_
        refine wa_isub dX6_chanceOf_15 ?_
        refine wa_iconst dX6_chanceOf_16 ?_
        refine wa_iadd dX6_chanceOf_17 ?_
        refine wa_i2l dX6_chanceOf_18 (by omega) ?_
        refine wa_lmul dX6_chanceOf_19 ?_
        refine wa_ild5 dX6_chanceOf_20 ?_
        refine wa_i2l dX6_chanceOf_22 (by omega) ?_
        refine wa_ldiv dX6_chanceOf_23 (by omega) (by omega) ?_
        refine wa_lst3 dX6_chanceOf_24 (by decide) rfl ?_
        refine wa_iinc5 dX6_chanceOf_25 (by decide) rfl ?_
        refine wa_goto 5 dX6_chanceOf_28 (by decide) ?_
        exact e1
  refine wa_lconst dX6_chanceOf_0 1 (by decide) ?_
  refine wa_lst3 dX6_chanceOf_1 (by decide) rfl ?_
  refine wa_iconst dX6_chanceOf_2 ?_
  refine wa_ist5 dX6_chanceOf_3 (by decide) rfl ?_
  exact loop j 0 (by omega)
/-- Euclid's steps -/
def euF : Nat → Int → Int → Int
  | 0, a, _ => a
  | f + 1, a, b => if b = 0 then a else euF f b (a % b)
theorem euF_b : ∀ (f : Nat) (a b : Int), 0 ≤ a → 0 ≤ b → 0 ≤ euF f a b := by
  intro f
  induction f with
  | zero => intro a b h _; exact h
  | succ f ih => intro a b ha hb; rw [euF]; split; exact ha; exact ih b (a % b) hb (Int.emod_nonneg _ (by omega))
theorem ct_commonDivisor {n : Nat} {S : zH} {Rf : zG} {V : zE} {a b : Int} (ha : 0 ≤ a ∧ a ≤ 9000000000000000000) (hb : 0 ≤ b ∧ b ≤ 9000000000000000000) : Cl 1 mX6_commonDivisor [zL a, zL b] n S Rf V (euF 100 a b) V := by
  refine ct_of (by decide) rfl (Nat.le_of_ble_eq_true rfl) ?_
  generalize hG : euF 100 a b = G
  have loop : ∀ (q i : Nat) (x y : Int), i + q = 100 → 0 ≤ x ∧ x ≤ 9000000000000000000 → 0 ≤ y ∧ y ≤ 9000000000000000000 → G = euF q x y → Wa zXn mX6_commonDivisor (zrm 1 0 0) (zZm (qL G S Rf V) (n + 0) 0 0) 0 0 n S 9 [some (zL a), none, some (zL b), none, some (zL x), none, some (zL y), none, some (zI (i : Int)), none, none] [] Rf V := by
    intro q
    induction q with
    | zero =>
      intro i x y hi hx hy he
      refine wa_ild8 dX6_commonDivisor_9 ?_
      refine wa_bipush dX6_commonDivisor_11 (by decide) ?_
      refine wa_icmp_ge 44 dX6_commonDivisor_13 (by decide) (by omega) (by omega) (fun c13 => ?_) (fun c13 => ?_)
      · refine wa_lld4 dX6_commonDivisor_44 ?_
        exact wa_lreturn dX6_commonDivisor_46 rfl rfl (Nat.le_refl _) (by exact ⟨by rw [he]; rfl, rfl, rfl, rfl⟩)
      · exact absurd c13 (by omega)
    | succ q ih =>
      intro i x y hi hx hy he
      have hcm : -2147483648 ≤ zcmp y 0 ∧ zcmp y 0 ≤ 2147483647 := by unfold zcmp; (repeat' split) <;> decide
      have hcz : zcmp y 0 = 0 ↔ y = 0 := by unfold zcmp; (repeat' split) <;> omega
      have hmod : y ≠ 0 → 0 ≤ x % y ∧ x % y < y := fun h => ⟨Int.emod_nonneg _ h, Int.emod_lt_of_pos _ (by omega)⟩
      rw [euF] at he
      refine wa_ild8 dX6_commonDivisor_9 ?_
      refine wa_bipush dX6_commonDivisor_11 (by decide) ?_
      refine wa_icmp_ge 44 dX6_commonDivisor_13 (by decide) (by first | omega | exact hcm | (have := fun h => c20 (hcz.mpr h); omega)) (by first | omega | exact hcm | (have := fun h => c20 (hcz.mpr h); omega)) (fun c13 => ?_) (fun c13 => ?_)
      · exact absurd c13 (by omega)
      · refine wa_lld6 dX6_commonDivisor_16 ?_
        refine wa_lconst dX6_commonDivisor_18 0 (by decide) ?_
        refine wa_lcmp dX6_commonDivisor_19 (by first | omega | exact hcm | (have := fun h => c20 (hcz.mpr h); omega)) (by first | omega | exact hcm | (have := fun h => c20 (hcz.mpr h); omega)) ?_
        refine wa_if_eq 44 dX6_commonDivisor_20 (by decide) (by first | omega | exact hcm | (have := fun h => c20 (hcz.mpr h); omega)) (fun c20 => ?_) (fun c20 => ?_)
        · refine wa_lld4 dX6_commonDivisor_44 ?_
          exact wa_lreturn dX6_commonDivisor_46 rfl rfl (Nat.le_refl _) (by exact ⟨by rw [he, if_pos (hcz.mp c20)], rfl, rfl, rfl⟩)
        · refine wa_lld4 dX6_commonDivisor_23 ?_
          refine wa_lld6 dX6_commonDivisor_25 ?_
          refine wa_lrem dX6_commonDivisor_27 (by first | omega | exact hcm | (have := fun h => c20 (hcz.mpr h); omega)) (by first | omega | exact hcm | (have := fun h => c20 (hcz.mpr h); omega)) ?_
          refine wa_lst9 dX6_commonDivisor_28 (by decide) rfl ?_
          refine wa_lld6 dX6_commonDivisor_30 ?_
          refine wa_lst4 dX6_commonDivisor_32 (by decide) rfl ?_
          refine wa_lld9 dX6_commonDivisor_34 ?_
          refine wa_lst6 dX6_commonDivisor_36 (by decide) rfl ?_
          refine wa_iinc8 dX6_commonDivisor_38 (by decide) rfl ?_
          refine wa_goto 9 dX6_commonDivisor_41 (by decide) ?_
          have hy0 : y ≠ 0 := fun h => c20 (hcz.mpr h)
          have hmd := hmod hy0
          refine wa_drop9 ?_
          rw [if_neg hy0] at he
          rw [show (i : Int) + 1 = ((i + 1 : Nat) : Int) by omega]
          exact ih (i + 1) y (x % y) (by omega) hy (by omega) he
  refine wa_lld0 dX6_commonDivisor_0 ?_
  refine wa_lst4 dX6_commonDivisor_1 (by decide) rfl ?_
  refine wa_lld2 dX6_commonDivisor_3 ?_
  refine wa_lst6 dX6_commonDivisor_4 (by decide) rfl ?_
  refine wa_iconst dX6_commonDivisor_6 ?_
  refine wa_ist8 dX6_commonDivisor_7 (by decide) rfl ?_
  exact loop 100 0 a b (by omega) ha hb hG.symm
/-- the sum of chances of those that a roof bears -/
def upF (ok : Nat → Prop) [DecidablePred ok] (t : Int) (m : Nat) : Nat → Int
  | 0 => 0
  | j + 1 => upF ok t m j + (if ok j then chF t m j else 0)
theorem pw_b {b : Int} {e : Nat} (hb : 0 ≤ b ∧ b ≤ 10) : 0 ≤ b ^ e ∧ b ^ e ≤ 10 ^ e := by
  induction e with
  | zero => simp
  | succ e ih => rw [Int.pow_succ, Int.pow_succ]; exact ⟨Int.mul_nonneg ih.1 hb.1, Int.mul_le_mul ih.2 hb.2 hb.1 (Int.pow_nonneg (by decide))⟩
theorem choS_b {m j : Nat} (hm : m ≤ 12) (hj : j ≤ m) : 0 ≤ choF m j ∧ choF m j ≤ 924 := by
  have h : ∀ m : Fin 13, ∀ j : Fin 13, j.val ≤ m.val → 0 ≤ choF m.val j.val ∧ choF m.val j.val ≤ 924 := by decide +kernel
  exact h ⟨m, by omega⟩ ⟨j, by omega⟩ hj
theorem p10 {k : Nat} (hk : k ≤ 12) : (10 : Int) ^ k ≤ 1000000000000 ∧ 1 ≤ (10 : Int) ^ k := by
  have h : ∀ k : Fin 13, (10 : Int) ^ k.val ≤ 1000000000000 ∧ 1 ≤ (10 : Int) ^ k.val := by decide +kernel
  exact h ⟨k, by omega⟩
theorem chF_b {t : Int} {m j : Nat} (ht : 0 ≤ t ∧ t ≤ 10) (hm : m ≤ 12) (hj : j ≤ m) : 0 ≤ chF t m j ∧ chF t m j ≤ 924000000000000 := by
  obtain ⟨a1, a2⟩ := choS_b hm hj
  obtain ⟨b1, b2⟩ := pw_b (b := t) (e := j) ht
  obtain ⟨d1, d2⟩ := pw_b (b := 10 - t) (e := m - j) (by omega)
  have e1 : (10 : Int) ^ j * (10 : Int) ^ (m - j) = 10 ^ m := by rw [← Int.pow_add]; congr 1; omega
  have e2 := (p10 hm).1
  unfold chF
  have h1 : 0 ≤ choF m j * t ^ j := Int.mul_nonneg a1 b1
  refine ⟨Int.mul_nonneg h1 d1, ?_⟩
  have h2 : choF m j * t ^ j * (10 - t) ^ (m - j) ≤ 924 * (10 ^ j * 10 ^ (m - j)) := by
    rw [Int.mul_assoc]
    exact Int.mul_le_mul a2 (Int.mul_le_mul b2 d2 d1 (Int.pow_nonneg (by decide))) (Int.mul_nonneg b1 d1) (by decide)
  rw [e1] at h2
  omega
theorem upF_b {ok : Nat → Prop} [DecidablePred ok] {t : Int} {m : Nat} (ht : 0 ≤ t ∧ t ≤ 10) (hm : m ≤ 12) : ∀ j, j ≤ m + 1 → 0 ≤ upF ok t m j ∧ upF ok t m j ≤ 924000000000000 * j := by
  intro j
  induction j with
  | zero => intro _; exact ⟨Int.le_refl _, Int.le_refl _⟩
  | succ j ih =>
    intro hj
    have h1 := ih (by omega)
    have h2 := chF_b (j := j) ht hm (by omega)
    unfold upF
    split <;> omega
def guU (g : Int) (t : Int) (m : Nat) (V : zE) : Int := upF (fun j => zbit (V 1 3) g = 0 ∧ V 2 g.toNat + (j : Int) * V 4 1 ≤ V 3 g.toNat) t m (m + 1)
def guX (c : Nat) (g t m p : Int) (V : zE) : Int := if ¬ (0 ≤ g ∧ g < c) then -1000000000000000001 else if (t < 0 ∨ 10 < t) ∨ (m < 0 ∨ 12 < m) ∨ (p < 0 ∨ 1 < p) then -1000000000000000002 else (if p = 0 then guU g t m.toNat V else 10 ^ m.toNat) / euF 100 (guU g t m.toNat V) (10 ^ m.toNat)
theorem euF_g : ∀ (f : Nat) (a b : Int), 0 ≤ a → 0 ≤ b → (1 ≤ a ∨ 1 ≤ b) → 1 ≤ f → 1 ≤ euF f a b := by
  intro f
  induction f with
  | zero => intro a b _ _ _ h; omega
  | succ f ih =>
    intro a b ha hb hab _
    rw [euF]
    split
    · omega
    · next h =>
      cases f with
      | zero => rw [euF]; omega
      | succ f => exact ih b (a % b) hb (Int.emod_nonneg _ h) (Or.inl (by omega)) (by omega)
theorem euF_u : ∀ (f : Nat) (a b B : Int), (0 ≤ a ∧ a ≤ B) → (0 ≤ b ∧ b ≤ B) → euF f a b ≤ B := by
  intro f
  induction f with
  | zero => intro a b B h _; exact h.2
  | succ f ih =>
    intro a b B ha hb
    rw [euF]
    split
    · exact ha.2
    · next h => exact ih b (a % b) B hb ⟨Int.emod_nonneg _ h, by have := Int.emod_lt_of_pos a (show 0 < b by omega); omega⟩
theorem guests_rest {n : Nat} {S : zH} {Rf : zG} {V : zE} {c m : Nat} {g t p : Int} (hL : Lay S Rf) (hc : V 1 0 = (c : Int)) (h2 : 2 ≤ c) (h8 : c ≤ 8) (hd : ∀ j, 0 ≤ V 2 j ∧ V 2 j ≤ 999) (hf : ∀ j, 0 ≤ V 3 j ∧ V 3 j ≤ 999) (hu : ∀ j, 0 ≤ V 4 j ∧ V 4 j ≤ 9) (hg : 0 ≤ g ∧ g < c) (ht : 0 ≤ t ∧ t ≤ 10) (hm : m ≤ 12) (hp : 0 ≤ p ∧ p ≤ 1) : ∀ (q j : Nat), j + q = m + 1 →
    Wa zXn mX6_guests (zrm 3 0 0) (zZm (qL ((if p = 0 then guU g t m V else 10 ^ m) / euF 100 (guU g t m V) (10 ^ m)) S Rf V) (n + 0) 0 0) 0 0 n S 55 [some (zR 0), some (zI g), some (zI t), some (zI (m : Int)), some (zI p), some (zL (upF (fun j => zbit (V 1 3) g = 0 ∧ V 2 g.toNat + (j : Int) * V 4 1 ≤ V 3 g.toNat) t m j)), none, some (zI (j : Int)), none, none, none] [] Rf V := by
  intro q
  induction q with
  | zero =>
    intro j hj
    obtain rfl : j = m + 1 := by omega
    have hub := upF_b (ok := fun j => zbit (V 1 3) g = 0 ∧ V 2 g.toNat + (j : Int) * V 4 1 ≤ V 3 g.toNat) ht hm (m + 1) (Nat.le_refl _)
    rw [show upF (fun j => zbit (V 1 3) g = 0 ∧ V 2 g.toNat + (j : Int) * V 4 1 ≤ V 3 g.toNat) t m (m + 1) = guU g t m V from rfl] at hub ⊢
    generalize guU g t m V = U at hub ⊢
    have hlo := p10 hm
    have he := euF_g 100 U (10 ^ m) (by omega) (by omega) (by omega) (by decide)
    have he2 : euF 100 U (10 ^ m) ≤ 9000000000000000000 := euF_u 100 U (10 ^ m) _ (by omega) (by omega)
    have hcm : ∀ z : Int, -2147483648 ≤ zcmp z 1 ∧ zcmp z 1 ≤ 2147483647 := fun z => by unfold zcmp; (repeat' split) <;> decide
    have hcz : ∀ z : Int, 1 ≤ z → 0 ≤ zcmp z 1 := fun z hz => by unfold zcmp; (repeat' split) <;> omega
    refine wa_ild7 dX6_guests_55 ?_
    refine wa_ild3 dX6_guests_57 ?_
    refine wa_icmp_gt 92 dX6_guests_58 (by decide) (by first | omega | exact hcm _) (by first | omega | exact hcm _) (fun c58 => ?_) (fun c58 => ?_)
    · refine wa_bipush dX6_guests_92 (by decide) ?_
      refine wa_ild3 dX6_guests_94 ?_
      refine kX6_194 dX6_guests_95 rfl (ct_power (by decide) hm) (by decide) (Nat.le_of_ble_eq_true rfl) ⟨Nat.le_refl _, Nat.le_refl _⟩ (zdL ?_)
      refine wa_lst7 dX6_guests_98 (by decide) rfl ?_
      refine wa_lld5 dX6_guests_100 ?_
      refine wa_lld7 dX6_guests_102 ?_
      refine kX6_198 dX6_guests_104 rfl (ct_commonDivisor (by omega) (by omega)) (by decide) (Nat.le_of_ble_eq_true rfl) ⟨Nat.le_refl _, Nat.le_refl _⟩ (zdL ?_)
      generalize hG : euF 100 U (10 ^ m) = G at he he2 ⊢
      refine wa_lst9 dX6_guests_107 (by decide) rfl ?_
      refine wa_lld9 dX6_guests_109 ?_
      refine wa_lconst dX6_guests_111 1 (by decide) ?_
      refine wa_lcmp dX6_guests_112 (by first | omega | exact hcm _) (by first | omega | exact hcm _) ?_
      refine wa_if_ge 120 dX6_guests_113 (by decide) (by first | omega | exact hcm _) (fun c113 => ?_) (fun c113 => ?_)
      · refine wa_ild4 dX6_guests_120 ?_
        refine wa_if_ne 130 dX6_guests_122 (by decide) (by first | omega | exact hcm _) (fun c122 => ?_) (fun c122 => ?_)
        · refine wa_lld7 dX6_guests_130 ?_
          refine wa_lld9 dX6_guests_132 ?_
          refine wa_ldiv dX6_guests_134 (by first | omega | exact hcm _) (by first | omega | exact hcm _) ?_
          exact wa_lreturn dX6_guests_135 rfl rfl (Nat.le_refl _) (by refine ⟨?_, rfl, rfl, rfl⟩; first | rw [if_pos c122] | rw [if_neg c122])
        · refine wa_lld5 dX6_guests_125 ?_
          refine wa_goto 132 dX6_guests_127 (by decide) ?_
          refine wa_lld9 dX6_guests_132 ?_
          refine wa_ldiv dX6_guests_134 (by first | omega | exact hcm _) (by first | omega | exact hcm _) ?_
          exact wa_lreturn dX6_guests_135 rfl rfl (Nat.le_refl _) (by refine ⟨?_, rfl, rfl, rfl⟩; first | rw [if_pos c122] | rw [if_neg c122])
      · exact absurd c113 (by have := hcz G he; omega)
    · exact absurd c58 (by omega)
  | succ q ih =>
    intro j hj
    have hub := upF_b (ok := fun j => zbit (V 1 3) g = 0 ∧ V 2 g.toNat + (j : Int) * V 4 1 ≤ V 3 g.toNat) ht hm j (by omega)
    have e1 := ih (j + 1) (by omega)
    rw [upF] at e1
    rw [show ((j + 1 : Nat) : Int) = (j : Int) + 1 by omega] at e1
    refine wa_ild7 dX6_guests_55 ?_
    refine wa_ild3 dX6_guests_57 ?_
    refine wa_icmp_gt 92 dX6_guests_58 (by decide) (by omega) (by omega) (fun c58 => ?_) (fun c58 => ?_)
    · exact absurd c58 (by omega)
    · refine wa_ald0 dX6_guests_61 ?_
      refine gX6_10 dX6_guests_62 rfl (by first | assumption | exact hL.1 _ (by decide)) (by first | assumption | exact hL.2 _ _ (by decide)) ?_
      refine wa_ild1 dX6_guests_65 ?_
      refine wa_ild7 dX6_guests_66 ?_
      refine kX6_186 dX6_guests_68 rfl (by first | assumption | exact hL.1 _ (by decide)) (ct_bears hL.s1 hc h2 h8 hg (by omega) (fun j => by show 0 ≤ V 2 j ∧ V 2 j ≤ 100000; have := hd j; omega) (fun j => by show 0 ≤ V 3 j ∧ V 3 j ≤ 100000; have := hf j; omega) (fun j => hu j)) (by decide) (Nat.le_of_ble_eq_true rfl) ⟨Nat.le_refl _, Nat.le_refl _⟩ (zdI ?_)
      refine wa_ifeq_B 86 dX6_guests_71 (by decide) (fun c71 => ?_) (fun c71 => ?_)
      · refine wa_iinc7 dX6_guests_86 (by decide) rfl ?_
        refine wa_goto 55 dX6_guests_89 (by decide) ?_
        rw [if_neg c71, Int.add_zero] at e1
        exact e1
      · refine wa_lld5 dX6_guests_74 ?_
        refine wa_ild7 dX6_guests_76 ?_
        refine wa_ild2 dX6_guests_78 ?_
        refine wa_ild3 dX6_guests_79 ?_
        refine kX6_190 dX6_guests_80 rfl (ct_chanceOf ht hm (by omega)) (by decide) (Nat.le_of_ble_eq_true rfl) ⟨Nat.le_refl _, Nat.le_refl _⟩ (zdL ?_)
        refine wa_ladd dX6_guests_83 ?_
        refine wa_lst5 dX6_guests_84 (by decide) rfl ?_
        refine wa_iinc7 dX6_guests_86 (by decide) rfl ?_
        refine wa_goto 55 dX6_guests_89 (by decide) ?_
        rw [if_pos c71] at e1
        exact e1
theorem ct_guests {n : Nat} {S : zH} {Rf : zG} {V : zE} {c k len : Nat} {F g t m p : Int} (hL : Lay S Rf) (hI : CI c k len F V) (hg : -2147483648 ≤ g ∧ g ≤ 2147483647) (ht : -2147483648 ≤ t ∧ t ≤ 2147483647) (hm : -2147483648 ≤ m ∧ m ≤ 2147483647) (hp0 : -2147483648 ≤ p ∧ p ≤ 2147483647) : Cl 3 mX6_guests [zR 0, zI g, zI t, zI m, zI p] n S Rf V (guX c g t m p V) V := by
  obtain ⟨hc, h2, h8, hd, hf, hu, hu3, hs, hfl, hF, hfa, hk, hk8, hsg, hsd, hl, h60, hp, hsc⟩ := hI
  refine ct_of (by decide) rfl (Nat.le_of_ble_eq_true rfl) ?_
  unfold guX
  refine wa_ald0 dX6_guests_0 ?_
  refine gX6_10 dX6_guests_1 rfl (by first | assumption | exact hL.1 _ (by decide)) (by first | assumption | exact hL.2 _ _ (by decide)) ?_
  refine wa_ild1 dX6_guests_4 ?_
  refine kX6_66 dX6_guests_5 rfl (by first | assumption | exact hL.1 _ (by decide)) (ct_has hL.s1 (by omega) hg) (by decide) (Nat.le_of_ble_eq_true rfl) ⟨Nat.le_refl _, Nat.le_refl _⟩ (zdI ?_)
  rw [hc]
  refine wa_ifne_B 15 dX6_guests_8 (by decide) (fun c8 => ?_) (fun c8 => ?_)
  · refine wa_ild2 dX6_guests_15 ?_
    refine wa_iconst dX6_guests_16 ?_
    refine wa_bipush dX6_guests_17 (by decide) ?_
    refine kX6_70 dX6_guests_19 rfl (ct_isOutside ht (by decide) (by decide)) (by decide) (Nat.le_of_ble_eq_true rfl) ⟨Nat.le_refl _, Nat.le_refl _⟩ (zdI ?_)
    refine wa_ifne_B 45 dX6_guests_22 (by decide) (fun c22 => ?_) (fun c22 => ?_)
    · refine wa_ldc2 dX6_guests_45 coX6_184 (-1000000000000000002) (by decide) ?_
      exact wa_lreturn dX6_guests_48 rfl rfl (Nat.le_refl _) (by refine ⟨?_, rfl, rfl, rfl⟩; rw [if_neg (show ¬ ¬ (0 ≤ g ∧ g < (c : Int)) by omega), if_pos (by omega)])
    · refine wa_ild3 dX6_guests_25 ?_
      refine wa_iconst dX6_guests_26 ?_
      refine wa_bipush dX6_guests_27 (by decide) ?_
      refine kX6_70 dX6_guests_29 rfl (ct_isOutside hm (by decide) (by decide)) (by decide) (Nat.le_of_ble_eq_true rfl) ⟨Nat.le_refl _, Nat.le_refl _⟩ (zdI ?_)
      refine wa_ifne_B 45 dX6_guests_32 (by decide) (fun c32 => ?_) (fun c32 => ?_)
      · refine wa_ldc2 dX6_guests_45 coX6_184 (-1000000000000000002) (by decide) ?_
        exact wa_lreturn dX6_guests_48 rfl rfl (Nat.le_refl _) (by refine ⟨?_, rfl, rfl, rfl⟩; rw [if_neg (show ¬ ¬ (0 ≤ g ∧ g < (c : Int)) by omega), if_pos (by omega)])
      · refine wa_ild4 dX6_guests_35 ?_
        refine wa_iconst dX6_guests_37 ?_
        refine wa_iconst dX6_guests_38 ?_
        refine kX6_70 dX6_guests_39 rfl (ct_isOutside hp0 (by decide) (by decide)) (by decide) (Nat.le_of_ble_eq_true rfl) ⟨Nat.le_refl _, Nat.le_refl _⟩ (zdI ?_)
        refine wa_ifeq_B 49 dX6_guests_42 (by decide) (fun c42 => ?_) (fun c42 => ?_)
        · refine wa_lconst dX6_guests_49 0 (by decide) ?_
          refine wa_lst5 dX6_guests_50 (by decide) rfl ?_
          refine wa_iconst dX6_guests_52 ?_
          refine wa_ist7 dX6_guests_53 (by decide) rfl ?_
          rw [if_neg (show ¬ ¬ (0 ≤ g ∧ g < (c : Int)) by omega), if_neg (by omega)]
          obtain ⟨m', rfl⟩ : ∃ m' : Nat, m = (m' : Int) := ⟨m.toNat, by omega⟩
          rw [Int.toNat_natCast]
          exact guests_rest hL hc h2 h8 hd hf hu (by omega) (by omega) (by omega) (by omega) (m' + 1) 0 (by omega)
        · refine wa_ldc2 dX6_guests_45 coX6_184 (-1000000000000000002) (by decide) ?_
          exact wa_lreturn dX6_guests_48 rfl rfl (Nat.le_refl _) (by refine ⟨?_, rfl, rfl, rfl⟩; rw [if_neg (show ¬ ¬ (0 ≤ g ∧ g < (c : Int)) by omega), if_pos (by omega)])
  · refine wa_ldc2 dX6_guests_11 coX6_182 (-1000000000000000001) (by decide) ?_
    exact wa_lreturn dX6_guests_14 rfl rfl (Nat.le_refl _) (by exact ⟨by rw [if_pos c8], rfl, rfl, rfl⟩)
def buF (d l t a b : Int) (m : Nat) : Nat → Nat → Int → Int
  | 0, _, _ => -6
  | q + 1, j, u => if a * 10 ^ m ≤ (u + chF t m j) * b then (if d + (j : Int) * l ≤ 999 then d + (j : Int) * l else -6) else buF d l t a b m q (j + 1) (u + chF t m j)
def buX (c : Nat) (g t m a b : Int) (V : zE) : Int := if ¬ (0 ≤ g ∧ g < c) then -1 else if (t < 0 ∨ 10 < t) ∨ (m < 0 ∨ 12 < m) ∨ (b < 1 ∨ 100 < b) ∨ (a < 0 ∨ b < a) then -2 else if a = 0 then 0 else buF (V 2 g.toNat) (V 4 1) t a b m.toNat (m.toNat + 1) 0 0
