/-! the reference: guests, build -/
section
variable {X : zXt} {μ : zM} {R : Room} {Z : zZt} {ce sl n : Nat} {S : zH} {pc : Nat} {L : List (Option zV)} {st : List zV} {Rf : zG} {V : zE}
theorem wa_lst11 {a0 a1 a2 a3 a4 a5 a6 a7 a8 a9 a10 o o2 : Option zV} {T : List (Option zV)} {x : Int} (hd : decode μ.2.1 pc = .ok (.lstore 11, 2)) (hn : 11 + 1 < μ.2.2.1) (hz : zok a10 = true) (kk : Wa X μ R Z ce sl n S (pc + 2) (a0 :: a1 :: a2 :: a3 :: a4 :: a5 :: a6 :: a7 :: a8 :: a9 :: a10 :: some (zL x) :: none :: T) st Rf V) : Wa X μ R Z ce sl n S (pc) (a0 :: a1 :: a2 :: a3 :: a4 :: a5 :: a6 :: a7 :: a8 :: a9 :: a10 :: o :: o2 :: T) (zL x :: st) Rf V := by
  intro p l e s m args below meth c D cy base b H locs ls C HH LL
  refine lv_lstore C.1 C.2.1 hd (zls_has LL) hn rfl (fun ls' h' => ?_)
  exact kk p l e s m args below meth c D cy base b H locs ls' C HH (zls_setL (x := x) LL (fun j hj v hv => by (obtain rfl : j = 10 := (by omega)); exact zok_spec hz hv) h')
theorem wa_lst13 {a0 a1 a2 a3 a4 a5 a6 a7 a8 a9 a10 a11 a12 o o2 : Option zV} {T : List (Option zV)} {x : Int} (hd : decode μ.2.1 pc = .ok (.lstore 13, 2)) (hn : 13 + 1 < μ.2.2.1) (hz : zok a12 = true) (kk : Wa X μ R Z ce sl n S (pc + 2) (a0 :: a1 :: a2 :: a3 :: a4 :: a5 :: a6 :: a7 :: a8 :: a9 :: a10 :: a11 :: a12 :: some (zL x) :: none :: T) st Rf V) : Wa X μ R Z ce sl n S (pc) (a0 :: a1 :: a2 :: a3 :: a4 :: a5 :: a6 :: a7 :: a8 :: a9 :: a10 :: a11 :: a12 :: o :: o2 :: T) (zL x :: st) Rf V := by
  intro p l e s m args below meth c D cy base b H locs ls C HH LL
  refine lv_lstore C.1 C.2.1 hd (zls_has LL) hn rfl (fun ls' h' => ?_)
  exact kk p l e s m args below meth c D cy base b H locs ls' C HH (zls_setL (x := x) LL (fun j hj v hv => by (obtain rfl : j = 12 := (by omega)); exact zok_spec hz hv) h')
theorem wa_lld13 {a0 a1 a2 a3 a4 a5 a6 a7 a8 a9 a10 a11 a12 : Option zV} {T : List (Option zV)} {x : Int} (hd : decode μ.2.1 pc = .ok (.lload 13, 2)) (kk : Wa X μ R Z ce sl n S (pc + 2) (a0 :: a1 :: a2 :: a3 :: a4 :: a5 :: a6 :: a7 :: a8 :: a9 :: a10 :: a11 :: a12 :: some (zL x) :: T) (zL x :: st) Rf V) : Wa X μ R Z ce sl n S (pc) (a0 :: a1 :: a2 :: a3 :: a4 :: a5 :: a6 :: a7 :: a8 :: a9 :: a10 :: a11 :: a12 :: some (zL x) :: T) st Rf V := by
  intro p l e s m args below meth c D cy base b H locs ls C HH LL
  exact lv_lload C.1 C.2.1 hd (LL.2.2 13 (zL x) rfl) (kk p l e s m args below meth c D cy base b H locs ls C HH LL)
end
theorem cm_tens {n : Nat} {S : zH} {Rf : zG} {V : zE} {m : Nat} (hm : m ≤ 12) : Cl 1 mX7_tens [zI (m : Int)] n S Rf V (10 ^ m) V := by
  refine ct_of (by decide) rfl (Nat.le_of_ble_eq_true rfl) ?_
  have loop : ∀ (q i : Nat), i + q = m → Wa zXn mX7_tens (zrm 1 0 0) (zZm (qL (10 ^ m) S Rf V) (n + 0) 0 0) 0 0 n S 4 [some (zI (m : Int)), some (zL (10 ^ i)), none, some (zI (i : Int))] [] Rf V := by
    intro q
    induction q with
    | zero =>
      intro i hi
      obtain rfl : i = m := by omega
      refine wa_ild3 dX7_tens_4 ?_
      refine wa_ild0 dX7_tens_5 ?_
      refine wa_icmp_ge 21 dX7_tens_6 (by decide) (by omega) (by omega) (fun c6 => ?_) (fun c6 => ?_)
      · refine wa_lld1 dX7_tens_21 ?_
        exact wa_lreturn dX7_tens_22 rfl rfl (Nat.le_refl _) (by exact ⟨rfl, rfl, rfl, rfl⟩)
      · exact absurd c6 (by omega)
    | succ q ih =>
      intro i hi
      have e1 := ih (i + 1) (by omega)
      rw [Int.pow_succ] at e1
      refine wa_ild3 dX7_tens_4 ?_
      refine wa_ild0 dX7_tens_5 ?_
      refine wa_icmp_ge 21 dX7_tens_6 (by decide) (by omega) (by omega) (fun c6 => ?_) (fun c6 => ?_)
      · exact absurd c6 (by omega)
      · refine wa_lld1 dX7_tens_9 ?_
        refine wa_ldc2 dX7_tens_10 coX7_216 (10) (by decide) ?_
        refine wa_lmul dX7_tens_13 ?_
        refine wa_lst1 dX7_tens_14 (by decide) rfl ?_
        refine wa_iinc3 dX7_tens_15 (by decide) rfl ?_
        refine wa_goto 4 dX7_tens_18 (by decide) ?_
        exact e1
  refine wa_lconst dX7_tens_0 1 (by decide) ?_
  refine wa_lst1 dX7_tens_1 (by decide) rfl ?_
  refine wa_iconst dX7_tens_2 ?_
  refine wa_ist3 dX7_tens_3 (by decide) rfl ?_
  exact loop m 0 (by omega)
def beF (d l v t : Int) (m : Nat) : Int := rsF (fun r => (if d + (pcF r m : Int) * l ≤ v then 1 else 0) * owF t r m) (2 ^ m)
theorem pcF_b (r : Nat) : ∀ k, pcF r k ≤ k := by
  intro k
  induction k with
  | zero => exact Nat.le_refl _
  | succ k ih => rw [pcF]; split <;> omega
theorem cm_bearing {n m : Nat} {S : zH} {Rf : zG} {V : zE} {g t v l : Int} (hL : Lay S Rf) (hl : V 37 8 = l) (hl9 : 0 ≤ l ∧ l ≤ 9) (hg : 0 ≤ g ∧ g < 8) (hd : 0 ≤ V 38 g.toNat ∧ V 38 g.toNat ≤ 999) (ht : 0 ≤ t ∧ t ≤ 10) (hm : m ≤ 12) (hv : 0 ≤ v ∧ v ≤ 100000) : Cl 2 mX7_bearing [zR 37, zI g, zI t, zI (m : Int), zI v] n S Rf V (beF (V 38 g.toNat) l v t m) V := by
  refine ct_of (by decide) rfl (Nat.le_of_ble_eq_true rfl) ?_
  have p2 : (2 : Nat) ^ m ≤ 4096 := by
    have : (2 : Nat) ^ m ≤ 2 ^ 12 := Nat.pow_le_pow_right (by decide) hm
    simpa using this
  have pz : ((2 : Int) ^ m) = ((2 ^ m : Nat) : Int) := by simp
  unfold beF
  generalize hN : (2 : Nat) ^ m = N at p2 pz ⊢
  generalize hX : rsF (fun r => (if V 38 g.toNat + (pcF r m : Int) * l ≤ v then 1 else 0) * owF t r m) N = X
  have inner : ∀ (q k r : Nat) (up : Int), r < N → k + q = m → (∀ o8 o9 o10 o11, Wa zXn mX7_bearing (zrm 2 0 0) (zZm (qL X S Rf V) (n + 0) 0 0) 0 0 n S 6 [some (zR 37), some (zI g), some (zI t), some (zI (m : Int)), some (zI v), some (zL (up + (if V 38 g.toNat + (pcF r m : Int) * l ≤ v then 1 else 0) * owF t r m)), none, some (zI ((r : Int) + 1)), o8, o9, o10, o11] [] Rf V) → Wa zXn mX7_bearing (zrm 2 0 0) (zZm (qL X S Rf V) (n + 0) 0 0) 0 0 n S 23 [some (zR 37), some (zI g), some (zI t), some (zI (m : Int)), some (zI v), some (zL up), none, some (zI (r : Int)), some (zL (owF t r k)), none, some (zI ((pcF r k : Int) * l)), some (zI (k : Int))] [] Rf V := by
    intro q
    induction q with
    | zero =>
      intro k r up hr hk hK
      obtain rfl : k = m := by omega
      have hb := pcF_b r k
      have hb2 : 0 ≤ (pcF r k : Int) * l ∧ (pcF r k : Int) * l ≤ 108 := ⟨Int.mul_nonneg (by omega) hl9.1, by
        have := Int.mul_le_mul (show (pcF r k : Int) ≤ 12 by omega) hl9.2 hl9.1 (by decide : (0 : Int) ≤ 12); omega⟩
      have hK1 := hK (some (zL (owF t r k))) none (some (zI ((pcF r k : Int) * l))) (some (zI (k : Int)))
      refine wa_ild11 dX7_bearing_23 ?_
      refine wa_ild3 dX7_bearing_25 ?_
      refine wa_icmp_ge 83 dX7_bearing_26 (by decide) (by omega) (by omega) (fun c26 => ?_) (fun c26 => ?_)
      · refine wa_lld5 dX7_bearing_83 ?_
        refine wa_ald0 dX7_bearing_85 ?_
        refine gX7_13 dX7_bearing_86 rfl (by first | assumption | exact hL.1 _ (by decide)) (by first | assumption | exact hL.2 _ _ (by decide)) ?_
        refine wa_ild1 dX7_bearing_89 ?_
        refine wa_iaload dX7_bearing_90 (by first | assumption | exact hL.1 _ (by decide)) (by omega) (by first | decide | omega) ?_
        refine wa_ild10 dX7_bearing_91 ?_
        refine wa_iadd dX7_bearing_93 ?_
        refine wa_ild4 dX7_bearing_94 ?_
        refine wa_icmp_gt 104 dX7_bearing_96 (by decide) (by omega) (by omega) (fun c96 => ?_) (fun c96 => ?_)
        · refine wa_lconst dX7_bearing_104 0 (by decide) ?_
          refine wa_ladd dX7_bearing_105 ?_
          refine wa_lst5 dX7_bearing_106 (by decide) rfl ?_
          refine wa_iinc7 dX7_bearing_108 (by decide) rfl ?_
          refine wa_goto 6 dX7_bearing_111 (by decide) ?_
          first
            | (rw [if_pos c96, Int.one_mul] at hK1; exact hK1)
            | (rw [if_neg (by omega), Int.zero_mul] at hK1; exact hK1)
        · refine wa_lld8 dX7_bearing_99 ?_
          refine wa_goto 105 dX7_bearing_101 (by decide) ?_
          refine wa_ladd dX7_bearing_105 ?_
          refine wa_lst5 dX7_bearing_106 (by decide) rfl ?_
          refine wa_iinc7 dX7_bearing_108 (by decide) rfl ?_
          refine wa_goto 6 dX7_bearing_111 (by decide) ?_
          first
            | (rw [if_pos c96, Int.one_mul] at hK1; exact hK1)
            | (rw [if_neg (by omega), Int.zero_mul] at hK1; exact hK1)
      · exact absurd c26 (by omega)
    | succ q ih =>
      intro k r up hr hk hK
      have hzb := zbit_n (r := r) (k := k) (by omega) (by omega)
      have e1 := ih (k + 1) r up hr (by omega) hK
      rw [owF, pcF] at e1
      refine wa_ild11 dX7_bearing_23 ?_
      refine wa_ild3 dX7_bearing_25 ?_
      refine wa_icmp_ge 83 dX7_bearing_26 (by decide) (by omega) (by omega) (fun c26 => ?_) (fun c26 => ?_)
      · exact absurd c26 (by omega)
      · refine wa_lld8 dX7_bearing_29 ?_
        refine wa_ild7 dX7_bearing_31 ?_
        refine wa_ild11 dX7_bearing_33 ?_
        refine kX7_121 dX7_bearing_35 rfl (cm_has) (by decide) (Nat.le_of_ble_eq_true rfl) ⟨Nat.le_refl _, Nat.le_refl _⟩ (zdI ?_)
        refine wa_ifeq_B 46 dX7_bearing_38 (by decide) (fun c38 => ?_) (fun c38 => ?_)
        · refine wa_bipush dX7_bearing_46 (by decide) ?_
          refine wa_ild2 dX7_bearing_48 ?_
          refine wa_isub dX7_bearing_49 ?_
          refine wa_i2l dX7_bearing_50 (by omega) ?_
          refine wa_lmul dX7_bearing_51 ?_
          refine wa_lst8 dX7_bearing_52 (by decide) rfl ?_
          refine wa_ild10 dX7_bearing_54 ?_
          refine wa_ild7 dX7_bearing_56 ?_
          refine wa_ild11 dX7_bearing_58 ?_
          refine kX7_121 dX7_bearing_60 rfl (cm_has) (by decide) (Nat.le_of_ble_eq_true rfl) ⟨Nat.le_refl _, Nat.le_refl _⟩ (zdI ?_)
          refine wa_ifeq_B 73 dX7_bearing_63 (by decide) (fun c63 => ?_) (fun c63 => ?_)
          · refine wa_iconst dX7_bearing_73 ?_
            refine wa_iadd dX7_bearing_74 ?_
            refine wa_ist10 dX7_bearing_75 (by decide) rfl ?_
            refine wa_iinc11 dX7_bearing_77 (by decide) rfl ?_
            refine wa_goto 23 dX7_bearing_80 (by decide) ?_
            rw [hzb] at c38 c63
            first
              | (exfalso; omega)
              | (rw [if_pos (show r / 2 ^ k % 2 = 1 by omega), if_pos (show r / 2 ^ k % 2 = 1 by omega)] at e1
                 simp only [hl]
                 rw [show ((pcF r k + 1 : Nat) : Int) * l = (pcF r k : Int) * l + l from by rw [Int.natCast_add, Int.add_mul]; simp] at e1
                 exact e1)
              | (rw [if_neg (show ¬ r / 2 ^ k % 2 = 1 by omega), if_neg (show ¬ r / 2 ^ k % 2 = 1 by omega)] at e1
                 rw [Nat.add_zero] at e1
                 rw [Int.add_zero]
                 exact e1)
          · refine wa_ald0 dX7_bearing_66 ?_
            refine gX7_29 dX7_bearing_67 rfl (by first | assumption | exact hL.1 _ (by decide)) ?_
            refine wa_goto 74 dX7_bearing_70 (by decide) ?_
            refine wa_iadd dX7_bearing_74 ?_
            refine wa_ist10 dX7_bearing_75 (by decide) rfl ?_
            refine wa_iinc11 dX7_bearing_77 (by decide) rfl ?_
            refine wa_goto 23 dX7_bearing_80 (by decide) ?_
            rw [hzb] at c38 c63
            first
              | (exfalso; omega)
              | (rw [if_pos (show r / 2 ^ k % 2 = 1 by omega), if_pos (show r / 2 ^ k % 2 = 1 by omega)] at e1
                 simp only [hl]
                 rw [show ((pcF r k + 1 : Nat) : Int) * l = (pcF r k : Int) * l + l from by rw [Int.natCast_add, Int.add_mul]; simp] at e1
                 exact e1)
              | (rw [if_neg (show ¬ r / 2 ^ k % 2 = 1 by omega), if_neg (show ¬ r / 2 ^ k % 2 = 1 by omega)] at e1
                 rw [Nat.add_zero] at e1
                 rw [Int.add_zero]
                 exact e1)
        · refine wa_ild2 dX7_bearing_41 ?_
          refine wa_i2l dX7_bearing_42 (by omega) ?_
          refine wa_goto 51 dX7_bearing_43 (by decide) ?_
          refine wa_lmul dX7_bearing_51 ?_
          refine wa_lst8 dX7_bearing_52 (by decide) rfl ?_
          refine wa_ild10 dX7_bearing_54 ?_
          refine wa_ild7 dX7_bearing_56 ?_
          refine wa_ild11 dX7_bearing_58 ?_
          refine kX7_121 dX7_bearing_60 rfl (cm_has) (by decide) (Nat.le_of_ble_eq_true rfl) ⟨Nat.le_refl _, Nat.le_refl _⟩ (zdI ?_)
          refine wa_ifeq_B 73 dX7_bearing_63 (by decide) (fun c63 => ?_) (fun c63 => ?_)
          · refine wa_iconst dX7_bearing_73 ?_
            refine wa_iadd dX7_bearing_74 ?_
            refine wa_ist10 dX7_bearing_75 (by decide) rfl ?_
            refine wa_iinc11 dX7_bearing_77 (by decide) rfl ?_
            refine wa_goto 23 dX7_bearing_80 (by decide) ?_
            rw [hzb] at c38 c63
            first
              | (exfalso; omega)
              | (rw [if_pos (show r / 2 ^ k % 2 = 1 by omega), if_pos (show r / 2 ^ k % 2 = 1 by omega)] at e1
                 simp only [hl]
                 rw [show ((pcF r k + 1 : Nat) : Int) * l = (pcF r k : Int) * l + l from by rw [Int.natCast_add, Int.add_mul]; simp] at e1
                 exact e1)
              | (rw [if_neg (show ¬ r / 2 ^ k % 2 = 1 by omega), if_neg (show ¬ r / 2 ^ k % 2 = 1 by omega)] at e1
                 rw [Nat.add_zero] at e1
                 rw [Int.add_zero]
                 exact e1)
          · refine wa_ald0 dX7_bearing_66 ?_
            refine gX7_29 dX7_bearing_67 rfl (by first | assumption | exact hL.1 _ (by decide)) ?_
            refine wa_goto 74 dX7_bearing_70 (by decide) ?_
            refine wa_iadd dX7_bearing_74 ?_
            refine wa_ist10 dX7_bearing_75 (by decide) rfl ?_
            refine wa_iinc11 dX7_bearing_77 (by decide) rfl ?_
            refine wa_goto 23 dX7_bearing_80 (by decide) ?_
            rw [hzb] at c38 c63
            first
              | (exfalso; omega)
              | (rw [if_pos (show r / 2 ^ k % 2 = 1 by omega), if_pos (show r / 2 ^ k % 2 = 1 by omega)] at e1
                 simp only [hl]
                 rw [show ((pcF r k + 1 : Nat) : Int) * l = (pcF r k : Int) * l + l from by rw [Int.natCast_add, Int.add_mul]; simp] at e1
                 exact e1)
              | (rw [if_neg (show ¬ r / 2 ^ k % 2 = 1 by omega), if_neg (show ¬ r / 2 ^ k % 2 = 1 by omega)] at e1
                 rw [Nat.add_zero] at e1
                 rw [Int.add_zero]
                 exact e1)
  have loop : ∀ (q r : Nat), r + q = N → ∀ o8 o9 o10 o11, Wa zXn mX7_bearing (zrm 2 0 0) (zZm (qL X S Rf V) (n + 0) 0 0) 0 0 n S 6 [some (zR 37), some (zI g), some (zI t), some (zI (m : Int)), some (zI v), some (zL (rsF (fun r => (if V 38 g.toNat + (pcF r m : Int) * l ≤ v then 1 else 0) * owF t r m) r)), none, some (zI (r : Int)), o8, o9, o10, o11] [] Rf V := by
    intro q
    induction q with
    | zero =>
      intro r hr o8 o9 o10 o11
      obtain rfl : r = N := by omega
      refine wa_ild7 dX7_bearing_6 ?_
      refine wa_iconst dX7_bearing_8 ?_
      refine wa_ild3 dX7_bearing_9 ?_
      refine wa_ishl1 dX7_bearing_10 (by first | omega | (simp only [Int.toNat_natCast, pz]; omega)) ?_
      refine wa_icmp_ge 114 dX7_bearing_11 (by decide) (by first | omega | (simp only [Int.toNat_natCast, pz]; omega)) (by first | omega | (simp only [Int.toNat_natCast, pz]; omega)) (fun c11 => ?_) (fun c11 => ?_)
      · refine wa_lld5 dX7_bearing_114 ?_
        exact wa_lreturn dX7_bearing_116 rfl rfl (Nat.le_refl _) (by exact ⟨by rw [← hX], rfl, rfl, rfl⟩)
      · simp only [Int.toNat_natCast, pz] at c11; omega
    | succ q ih =>
      intro r hr o8 o9 o10 o11
      have e1 := ih (r + 1) (by omega)
      refine wa_ild7 dX7_bearing_6 ?_
      refine wa_iconst dX7_bearing_8 ?_
      refine wa_ild3 dX7_bearing_9 ?_
      refine wa_ishl1 dX7_bearing_10 (by first | omega | (simp only [Int.toNat_natCast, pz]; omega)) ?_
      refine wa_icmp_ge 114 dX7_bearing_11 (by decide) (by first | omega | (simp only [Int.toNat_natCast, pz]; omega)) (by first | omega | (simp only [Int.toNat_natCast, pz]; omega)) (fun c11 => ?_) (fun c11 => ?_)
      · simp only [Int.toNat_natCast, pz] at c11; omega
      · refine wa_lconst dX7_bearing_14 1 (by decide) ?_
        refine wa_lst8 dX7_bearing_15 (by decide) rfl ?_
        refine wa_iconst dX7_bearing_17 ?_
        refine wa_ist10 dX7_bearing_18 (by decide) rfl ?_
        refine wa_iconst dX7_bearing_20 ?_
        refine wa_ist11 dX7_bearing_21 (by decide) rfl ?_
        have h5 := inner m 0 r _ (by omega) (by omega) e1
        rw [show ((pcF r 0 : Nat) : Int) * l = 0 from by simp [pcF]] at h5
        exact h5
  refine wa_lconst dX7_bearing_0 0 (by decide) ?_
  refine wa_lst5 dX7_bearing_1 (by decide) rfl ?_
  refine wa_iconst dX7_bearing_3 ?_
  refine wa_ist7 dX7_bearing_4 (by decide) rfl ?_
  exact loop N 0 (by omega) _ _ _ _
theorem be_up {d l v t : Int} {m : Nat} (ht : 0 ≤ t ∧ t ≤ 10) (hm : m ≤ 12) : beF d l v t m = upF (fun j => d + (j : Int) * l ≤ v) t m (m + 1) := by
  rw [up_ro ht hm]; rfl
theorem upF_c {p q : Nat → Prop} [DecidablePred p] [DecidablePred q] {t : Int} {m : Nat} : ∀ j, (∀ i, i < j → (p i ↔ q i)) → upF p t m j = upF q t m j := by
  intro j
  induction j with
  | zero => intro _; rfl
  | succ j ih =>
    intro h
    rw [upF, upF, ih (fun i hi => h i (by omega))]
    have := h j (by omega)
    by_cases hp : p j
    · rw [if_pos hp, if_pos (this.mp hp)]
    · rw [if_neg hp, if_neg (fun x => hp (this.mpr x))]
theorem upF_no {p : Nat → Prop} [DecidablePred p] {t : Int} {m : Nat} : ∀ j, (∀ i, i < j → ¬ p i) → upF p t m j = 0 := by
  intro j
  induction j with
  | zero => intro _; rfl
  | succ j ih =>
    intro h
    rw [upF, ih (fun i hi => h i (by omega)), if_neg (h j (by omega))]; rfl
theorem cm_guests {n c k len : Nat} {S : zH} {Rf : zG} {W V : zE} {F g t m p : Int} (hL : Lay S Rf) (hI : CI c k len F W) (hR : RI c k len W V) (hg : -2147483648 ≤ g ∧ g ≤ 2147483647) (ht : -2147483648 ≤ t ∧ t ≤ 2147483647) (hm : -2147483648 ≤ m ∧ m ≤ 2147483647) (hp : -2147483648 ≤ p ∧ p ≤ 2147483647) : Cl 3 mX7_guests [zR 37, zI g, zI t, zI m, zI p] n S Rf V (guX c g t m p W) V := by
  obtain ⟨hc, h2, h8, hd, hf, hu, hu3, hs, hflk, hF, hfa, hk, hk8, hsg, hsd, hl, h60, hpp, hsc⟩ := hI
  obtain ⟨r0, r38, r39, r40, r41, r3, r4, r7, r8, r9, r10, r11, r42, r13, r43⟩ := hR
  have hdg := hd g.toNat
  have hfg := hf g.toNat
  have hu1 := hu 1
  have hz1 := zbit_01 (W 1 3) g
  refine ct_of (by decide) rfl (Nat.le_of_ble_eq_true rfl) ?_
  unfold guX
  have rest : ∀ (M : Nat), m = (M : Int) → M ≤ 12 → (0 ≤ t ∧ t ≤ 10) → (0 ≤ p ∧ p ≤ 1) → Wa zXn mX7_guests (zrm 3 0 0) (zZm (qL ((if p = 0 then guU g t M W else 10 ^ M) / euF 100 (guU g t M W) (10 ^ M)) S Rf V) (n + 0) 0 0) 0 0 n S 74 [some (zR 37), some (zI g), some (zI t), some (zI m), some (zI p), none, none, none, none, none, none, none, none, none, none] [zL (guU g t M W)] Rf V := by
    intro M hM hM12 ht1 hp1
    subst hM
    have hub : 0 ≤ guU g t M W ∧ guU g t M W ≤ 924000000000000 * ((M + 1 : Nat) : Int) := upF_b ht1 hM12 (M + 1) (Nat.le_refl _)
    have h10 := p10 hM12
    generalize hU : guU g t M W = U at hub ⊢
    generalize hT : (10 : Int) ^ M = T at h10 ⊢
    have h240 : (2 : Int) ^ 40 = 1099511627776 := by decide
    have hT0 : euT 82 U T := euT_le 80 82 _ _ (by decide) (euT_n 40 U T hub.1 (by omega) (by rw [h240]; omega))
    have hE : euF 100 U T = euF 82 U T := euT_eu 82 100 U T (by decide) hT0
    have hEg := euF_g 82 U T hub.1 (by omega) (by omega) (by decide)
    have hEu := euF_u 82 U T 100000000000000000 (by omega) (by omega)
    rw [hE]
    generalize hG : euF 82 U T = G at hEg hEu hE ⊢
    have loop : ∀ (f : Nat) (x y : Int) (o13 o14 : Option zV), (0 ≤ x ∧ x ≤ 100000000000000000) → (0 ≤ y ∧ y ≤ 100000000000000000) → euT f x y → euF f x y = G → Wa zXn mX7_guests (zrm 3 0 0) (zZm (qL ((if p = 0 then U else T) / G) S Rf V) (n + 0) 0 0) 0 0 n S 90 [some (zR 37), some (zI g), some (zI t), some (zI (M : Int)), some (zI p), some (zL U), none, some (zL T), none, some (zL x), none, some (zL y), none, o13, o14] [] Rf V := by
      intro f
      induction f with
      | zero =>
        intro x y o13 o14 hx hy hT1 hG1
        have hy0 : y = 0 := hT1
        subst hy0
        have hG2 : x = G := hG1
        subst hG2
        have hcm : zcmp 0 0 = 0 := by decide
        refine wa_lld11 dX7_guests_90 ?_
        refine wa_lconst dX7_guests_92 0 (by decide) ?_
        refine wa_lcmp dX7_guests_93 (by first | omega | (rw [hcm]; decide)) (by first | omega | (rw [hcm]; decide)) ?_
        refine wa_if_eq 115 dX7_guests_94 (by decide) (by first | omega | (rw [hcm]; decide)) (fun c94 => ?_) (fun c94 => absurd c94 (by rw [hcm]; decide))
        refine wa_ild4 dX7_guests_115 ?_
        refine wa_if_ne 128 dX7_guests_117 (by decide) (by first | omega | (rw [hcm]; decide)) (fun c117 => ?_) (fun c117 => ?_)
        · refine wa_lld7 dX7_guests_128 ?_
          refine wa_lld9 dX7_guests_130 ?_
          refine wa_ldiv dX7_guests_132 (by first | omega | (rw [hcm]; decide)) (by first | omega | (rw [hcm]; decide)) ?_
          refine wa_lreturn dX7_guests_133 rfl rfl (Nat.le_refl _) ?_
          refine ⟨?_, rfl, rfl, rfl⟩
          first | rw [if_pos c117] | rw [if_neg c117]
        · refine wa_lld5 dX7_guests_120 ?_
          refine wa_lld9 dX7_guests_122 ?_
          refine wa_ldiv dX7_guests_124 (by first | omega | (rw [hcm]; decide)) (by first | omega | (rw [hcm]; decide)) ?_
          refine wa_goto 133 dX7_guests_125 (by decide) ?_
          refine wa_lreturn dX7_guests_133 rfl rfl (Nat.le_refl _) ?_
          refine ⟨?_, rfl, rfl, rfl⟩
          first | rw [if_pos c117] | rw [if_neg c117]
      | succ f ih =>
        intro x y o13 o14 hx hy hT1 hG1
        have hcm : -2147483648 ≤ zcmp y 0 ∧ zcmp y 0 ≤ 2147483647 := by unfold zcmp; (repeat' split) <;> decide
        have hcz : zcmp y 0 = 0 ↔ y = 0 := by unfold zcmp; (repeat' split) <;> omega
        by_cases hy0 : y = 0
        · have hG2 : x = G := by rw [← hG1, euF, if_pos hy0]
          subst hG2
          refine wa_lld11 dX7_guests_90 ?_
          refine wa_lconst dX7_guests_92 0 (by decide) ?_
          refine wa_lcmp dX7_guests_93 (by first | omega | exact hcm) (by first | omega | exact hcm) ?_
          refine wa_if_eq 115 dX7_guests_94 (by decide) (by first | omega | exact hcm) (fun c94 => ?_) (fun c94 => absurd c94 (fun h => h (hcz.mpr hy0)))
          refine wa_ild4 dX7_guests_115 ?_
          refine wa_if_ne 128 dX7_guests_117 (by decide) (by first | omega | exact hcm) (fun c117 => ?_) (fun c117 => ?_)
          · refine wa_lld7 dX7_guests_128 ?_
            refine wa_lld9 dX7_guests_130 ?_
            refine wa_ldiv dX7_guests_132 (by first | omega | exact hcm) (by first | omega | exact hcm) ?_
            refine wa_lreturn dX7_guests_133 rfl rfl (Nat.le_refl _) ?_
            refine ⟨?_, rfl, rfl, rfl⟩
            first | rw [if_pos c117] | rw [if_neg c117]
          · refine wa_lld5 dX7_guests_120 ?_
            refine wa_lld9 dX7_guests_122 ?_
            refine wa_ldiv dX7_guests_124 (by first | omega | exact hcm) (by first | omega | exact hcm) ?_
            refine wa_goto 133 dX7_guests_125 (by decide) ?_
            refine wa_lreturn dX7_guests_133 rfl rfl (Nat.le_refl _) ?_
            refine ⟨?_, rfl, rfl, rfl⟩
            first | rw [if_pos c117] | rw [if_neg c117]
        · have hT2 : euT f y (x % y) := hT1.resolve_left hy0
          rw [euF, if_neg hy0] at hG1
          have e1 := Int.emod_nonneg x hy0
          have e2 := Int.emod_lt_of_pos x (show 0 < y by omega)
          refine wa_lld11 dX7_guests_90 ?_
          refine wa_lconst dX7_guests_92 0 (by decide) ?_
          refine wa_lcmp dX7_guests_93 (by first | omega | exact hcm) (by first | omega | exact hcm) ?_
          refine wa_if_eq 115 dX7_guests_94 (by decide) (by first | omega | exact hcm) (fun c94 => absurd c94 (fun h => hy0 (hcz.mp h))) (fun c94 => ?_)
          refine wa_lld9 dX7_guests_97 ?_
          refine wa_lld11 dX7_guests_99 ?_
          refine wa_lrem dX7_guests_101 (by first | omega | exact hcm) (by first | omega | exact hcm) ?_
          refine wa_lst13 dX7_guests_102 (by decide) rfl ?_
          refine wa_lld11 dX7_guests_104 ?_
          refine wa_lst9 dX7_guests_106 (by decide) rfl ?_
          refine wa_lld13 dX7_guests_108 ?_
          refine wa_lst11 dX7_guests_110 (by decide) rfl ?_
          refine wa_goto 90 dX7_guests_112 (by decide) ?_
          exact ih y (x % y) _ _ hy (by omega) hT2 hG1
    refine wa_lst5 dX7_guests_74 (by decide) rfl ?_
    refine wa_ild3 dX7_guests_76 ?_
    refine kX7_226 dX7_guests_77 rfl (cm_tens hM12) (by decide) (Nat.le_of_ble_eq_true rfl) ⟨Nat.le_refl _, Nat.le_refl _⟩ (zdL ?_)
    rw [hT]
    refine wa_lst7 dX7_guests_80 (by decide) rfl ?_
    refine wa_lld5 dX7_guests_82 ?_
    refine wa_lst9 dX7_guests_84 (by decide) rfl ?_
    refine wa_lld7 dX7_guests_86 ?_
    refine wa_lst11 dX7_guests_88 (by decide) rfl ?_
    exact loop 82 U T _ _ (by omega) (by omega) hT0 hG
  have hup : ∀ M : Nat, M ≤ 12 → (0 ≤ t ∧ t ≤ 10) → zbit (W 1 3) g = 0 → beF (W 2 g.toNat) (W 4 1) (W 3 g.toNat) t M = guU g t M W := by
    intro M hM ht1 hz
    rw [be_up ht1 hM, guU]
    exact upF_c _ (fun i _ => ⟨fun h => ⟨hz, h⟩, fun h => h.2⟩)
  have hup0 : ∀ M : Nat, zbit (W 1 3) g = 1 → 0 = guU g t M W := by
    intro M hz
    rw [guU, upF_no _ (fun i _ h => by omega)]
  by_cases hm0 : 0 ≤ m
  · obtain ⟨M, rfl⟩ : ∃ M : Nat, m = M := ⟨m.toNat, by omega⟩
    rw [Int.toNat_natCast]
    refine wa_ald0 dX7_guests_0 ?_
    refine wa_ild1 dX7_guests_1 ?_
    refine kX7_95 dX7_guests_2 rfl (by first | assumption | exact hL.1 _ (by decide)) (cm_isGarden hL r0 h8 hg) (by decide) (Nat.le_of_ble_eq_true rfl) ⟨Nat.le_refl _, Nat.le_refl _⟩ (zdI ?_)
    refine wa_ifne_B 12 dX7_guests_5 (by decide) (fun c5 => ?_) (fun c5 => ?_)
    · refine wa_ild2 dX7_guests_12 ?_
      refine wa_iconst dX7_guests_13 ?_
      refine wa_bipush dX7_guests_14 (by decide) ?_
      refine kX7_91 dX7_guests_16 rfl (cm_in ht (by decide) (by decide)) (by decide) (Nat.le_of_ble_eq_true rfl) ⟨Nat.le_refl _, Nat.le_refl _⟩ (zdI ?_)
      refine wa_ifeq_B 42 dX7_guests_19 (by decide) (fun c19 => ?_) (fun c19 => ?_)
      · refine wa_ldc2 dX7_guests_42 coX7_220 (-1000000000000000002) (by decide) ?_
        exact wa_lreturn dX7_guests_45 rfl rfl (Nat.le_refl _) (by exact ⟨by rw [if_neg (fun q => q c5), if_pos (by omega)], rfl, rfl, rfl⟩)
      · refine wa_ild3 dX7_guests_22 ?_
        refine wa_iconst dX7_guests_23 ?_
        refine wa_bipush dX7_guests_24 (by decide) ?_
        refine kX7_91 dX7_guests_26 rfl (cm_in hm (by decide) (by decide)) (by decide) (Nat.le_of_ble_eq_true rfl) ⟨Nat.le_refl _, Nat.le_refl _⟩ (zdI ?_)
        refine wa_ifeq_B 42 dX7_guests_29 (by decide) (fun c29 => ?_) (fun c29 => ?_)
        · refine wa_ldc2 dX7_guests_42 coX7_220 (-1000000000000000002) (by decide) ?_
          exact wa_lreturn dX7_guests_45 rfl rfl (Nat.le_refl _) (by exact ⟨by rw [if_neg (fun q => q c5), if_pos (by omega)], rfl, rfl, rfl⟩)
        · refine wa_ild4 dX7_guests_32 ?_
          refine wa_iconst dX7_guests_34 ?_
          refine wa_iconst dX7_guests_35 ?_
          refine kX7_91 dX7_guests_36 rfl (cm_in hp (by decide) (by decide)) (by decide) (Nat.le_of_ble_eq_true rfl) ⟨Nat.le_refl _, Nat.le_refl _⟩ (zdI ?_)
          refine wa_ifne_B 46 dX7_guests_39 (by decide) (fun c39 => ?_) (fun c39 => ?_)
          · refine wa_ald0 dX7_guests_46 ?_
            refine gX7_82 dX7_guests_47 rfl (by first | assumption | exact hL.1 _ (by decide)) ?_
            refine wa_ild1 dX7_guests_50 ?_
            rw [r3]
            refine kX7_121 dX7_guests_51 rfl (cm_has) (by decide) (Nat.le_of_ble_eq_true rfl) ⟨Nat.le_refl _, Nat.le_refl _⟩ (zdI ?_)
            refine wa_ifeq_B 61 dX7_guests_54 (by decide) (fun c54 => ?_) (fun c54 => ?_)
            · refine wa_ald0 dX7_guests_61 ?_
              refine wa_ild1 dX7_guests_62 ?_
              refine wa_ild2 dX7_guests_63 ?_
              refine wa_ild3 dX7_guests_64 ?_
              refine wa_ald0 dX7_guests_65 ?_
              refine gX7_17 dX7_guests_66 rfl (by first | assumption | exact hL.1 _ (by decide)) (by first | assumption | exact hL.2 _ _ (by decide)) ?_
              refine wa_ild1 dX7_guests_69 ?_
              refine wa_iaload dX7_guests_70 (by first | assumption | exact hL.1 _ (by decide)) (by omega) (by first | decide | omega) ?_
              rw [r39]
              refine kX7_222 dX7_guests_71 rfl (by first | assumption | exact hL.1 _ (by decide)) (cm_bearing (l := W 4 1) hL r8 hu1 (by omega) (by rw [r38]; exact hdg) c19 (by omega) (by omega)) (by decide) (Nat.le_of_ble_eq_true rfl) ⟨Nat.le_refl _, Nat.le_refl _⟩ (zdL ?_)
              rw [r38]
              have n0 : ¬ ¬ (0 ≤ g ∧ g < (c : Int)) := fun q => q c5
              have n1 : ¬ ((t < 0 ∨ 10 < t) ∨ ((M : Int) < 0 ∨ 12 < (M : Int)) ∨ (p < 0 ∨ 1 < p)) := by omega
              rw [if_neg n0, if_neg n1]
              first
                | (rw [show (zL 0 : zV) = zL (guU g t M W) from by rw [← hup0 M c54]]; exact rest M rfl (by omega) c19 c39)
                | (rw [hup M (by omega) c19 (by omega)]; exact rest M rfl (by omega) c19 c39)
            · refine wa_lconst dX7_guests_57 0 (by decide) ?_
              refine wa_goto 74 dX7_guests_58 (by decide) ?_
              have n0 : ¬ ¬ (0 ≤ g ∧ g < (c : Int)) := fun q => q c5
              have n1 : ¬ ((t < 0 ∨ 10 < t) ∨ ((M : Int) < 0 ∨ 12 < (M : Int)) ∨ (p < 0 ∨ 1 < p)) := by omega
              rw [if_neg n0, if_neg n1]
              first
                | (rw [show (zL 0 : zV) = zL (guU g t M W) from by rw [← hup0 M c54]]; exact rest M rfl (by omega) c19 c39)
                | (rw [hup M (by omega) c19 (by omega)]; exact rest M rfl (by omega) c19 c39)
          · refine wa_ldc2 dX7_guests_42 coX7_220 (-1000000000000000002) (by decide) ?_
            exact wa_lreturn dX7_guests_45 rfl rfl (Nat.le_refl _) (by exact ⟨by rw [if_neg (fun q => q c5), if_pos (by omega)], rfl, rfl, rfl⟩)
    · refine wa_ldc2 dX7_guests_8 coX7_218 (-1000000000000000001) (by decide) ?_
      exact wa_lreturn dX7_guests_11 rfl rfl (Nat.le_refl _) (by exact ⟨by rw [if_pos c5], rfl, rfl, rfl⟩)
  · refine wa_ald0 dX7_guests_0 ?_
    refine wa_ild1 dX7_guests_1 ?_
    refine kX7_95 dX7_guests_2 rfl (by first | assumption | exact hL.1 _ (by decide)) (cm_isGarden hL r0 h8 hg) (by decide) (Nat.le_of_ble_eq_true rfl) ⟨Nat.le_refl _, Nat.le_refl _⟩ (zdI ?_)
    refine wa_ifne_B 12 dX7_guests_5 (by decide) (fun c5 => ?_) (fun c5 => ?_)
    · refine wa_ild2 dX7_guests_12 ?_
      refine wa_iconst dX7_guests_13 ?_
      refine wa_bipush dX7_guests_14 (by decide) ?_
      refine kX7_91 dX7_guests_16 rfl (cm_in ht (by decide) (by decide)) (by decide) (Nat.le_of_ble_eq_true rfl) ⟨Nat.le_refl _, Nat.le_refl _⟩ (zdI ?_)
      refine wa_ifeq_B 42 dX7_guests_19 (by decide) (fun c19 => ?_) (fun c19 => ?_)
      · refine wa_ldc2 dX7_guests_42 coX7_220 (-1000000000000000002) (by decide) ?_
        exact wa_lreturn dX7_guests_45 rfl rfl (Nat.le_refl _) (by exact ⟨by rw [if_neg (fun q => q c5), if_pos (by omega)], rfl, rfl, rfl⟩)
      · refine wa_ild3 dX7_guests_22 ?_
        refine wa_iconst dX7_guests_23 ?_
        refine wa_bipush dX7_guests_24 (by decide) ?_
        refine kX7_91 dX7_guests_26 rfl (cm_in hm (by decide) (by decide)) (by decide) (Nat.le_of_ble_eq_true rfl) ⟨Nat.le_refl _, Nat.le_refl _⟩ (zdI ?_)
        refine wa_ifeq_B 42 dX7_guests_29 (by decide) (fun c29 => ?_) (fun c29 => absurd c29 (by omega))
        refine wa_ldc2 dX7_guests_42 coX7_220 (-1000000000000000002) (by decide) ?_
        exact wa_lreturn dX7_guests_45 rfl rfl (Nat.le_refl _) (by exact ⟨by rw [if_neg (fun q => q c5), if_pos (by omega)], rfl, rfl, rfl⟩)
    · refine wa_ldc2 dX7_guests_8 coX7_218 (-1000000000000000001) (by decide) ?_
      exact wa_lreturn dX7_guests_11 rfl rfl (Nat.le_refl _) (by exact ⟨by rw [if_pos c5], rfl, rfl, rfl⟩)
