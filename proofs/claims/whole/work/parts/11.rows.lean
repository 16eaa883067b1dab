/-! rows: an instruction each, over Wa -/
theorem zi_to {a : Int} (h : -2147483648 ≤ a ∧ a ≤ 2147483647) : (Int32.ofInt a).toInt = a := Int32.toInt_ofInt_of_le (by omega) (by omega)
theorem zl_to {a : Int} (h : -9223372036854775808 ≤ a ∧ a ≤ 9223372036854775807) : (Int64.ofInt a).toInt = a := Int64.toInt_ofInt_of_le (by omega) (by omega)
theorem zi_le {a b : Int} (ha : -2147483648 ≤ a ∧ a ≤ 2147483647) (hb : -2147483648 ≤ b ∧ b ≤ 2147483647) : Int32.ofInt a ≤ Int32.ofInt b ↔ a ≤ b := by rw [Int32.le_iff_toInt_le, zi_to ha, zi_to hb]
theorem zi_lt {a b : Int} (ha : -2147483648 ≤ a ∧ a ≤ 2147483647) (hb : -2147483648 ≤ b ∧ b ≤ 2147483647) : Int32.ofInt a < Int32.ofInt b ↔ a < b := by rw [Int32.lt_iff_toInt_lt, zi_to ha, zi_to hb]
theorem zi_eq {a b : Int} (ha : -2147483648 ≤ a ∧ a ≤ 2147483647) (hb : -2147483648 ≤ b ∧ b ≤ 2147483647) : Int32.ofInt a = Int32.ofInt b ↔ a = b := by rw [← Int32.toInt_inj, zi_to ha, zi_to hb]
theorem zi_0 : (0 : Int32) = Int32.ofInt 0 := rfl
theorem zi_r0 : (-2147483648 : Int) ≤ 0 ∧ (0 : Int) ≤ 2147483647 := by omega
theorem zl_le {a b : Int} (ha : -9223372036854775808 ≤ a ∧ a ≤ 9223372036854775807) (hb : -9223372036854775808 ≤ b ∧ b ≤ 9223372036854775807) : Int64.ofInt a ≤ Int64.ofInt b ↔ a ≤ b := by rw [Int64.le_iff_toInt_le, zl_to ha, zl_to hb]
theorem zl_lt {a b : Int} (ha : -9223372036854775808 ≤ a ∧ a ≤ 9223372036854775807) (hb : -9223372036854775808 ≤ b ∧ b ≤ 9223372036854775807) : Int64.ofInt a < Int64.ofInt b ↔ a < b := by rw [Int64.lt_iff_toInt_lt, zl_to ha, zl_to hb]
theorem zl_eq {a b : Int} (ha : -9223372036854775808 ≤ a ∧ a ≤ 9223372036854775807) (hb : -9223372036854775808 ≤ b ∧ b ≤ 9223372036854775807) : Int64.ofInt a = Int64.ofInt b ↔ a = b := by rw [← Int64.toInt_inj, zl_to ha, zl_to hb]
theorem zi_m1 {b : Int} (h1 : 0 < b) (h2 : b ≤ 2147483647) : Int32.ofInt b ≠ -1 := fun h => by
  have h8 := congrArg Int32.toInt h
  rw [zi_to (by omega), show (-1 : Int32).toInt = -1 by decide] at h8
  omega
theorem zi_div {a b : Int} (ha : 0 ≤ a ∧ a ≤ 2147483647) (hb : 0 < b ∧ b ≤ 2147483647) : Int32.ofInt a / Int32.ofInt b = Int32.ofInt (a / b) := by
  have h1 : a / b ≤ a := Int.ediv_le_self b ha.1
  have h2 : 0 ≤ a / b := Int.ediv_nonneg ha.1 (by omega)
  rw [← Int32.toInt_inj, Int32.toInt_div_of_ne_right _ _ (zi_m1 hb.1 hb.2), zi_to (by omega), zi_to (by omega), zi_to (by omega), Int.tdiv_eq_ediv_of_nonneg ha.1]
theorem zi_rem {a b : Int} (ha : 0 ≤ a ∧ a ≤ 2147483647) (hb : 0 < b ∧ b ≤ 2147483647) : Int32.ofInt a - Int32.ofInt a / Int32.ofInt b * Int32.ofInt b = Int32.ofInt (a % b) := by
  rw [zi_div ha hb, ← Int32.ofInt_mul, ← Int32.ofInt_sub]
  congr 1
  have := Int.emod_def a b
  rw [Int.mul_comm] at this; omega
theorem zl_m1 {b : Int} (h1 : 0 < b) (h2 : b ≤ 9223372036854775807) : Int64.ofInt b ≠ -1 := fun h => by
  have h8 := congrArg Int64.toInt h
  rw [zl_to (by omega), show (-1 : Int64).toInt = -1 by decide] at h8
  omega
theorem zl_div {a b : Int} (ha : 0 ≤ a ∧ a ≤ 9223372036854775807) (hb : 0 < b ∧ b ≤ 9223372036854775807) : Int64.ofInt a / Int64.ofInt b = Int64.ofInt (a / b) := by
  have h1 : a / b ≤ a := Int.ediv_le_self b ha.1
  have h2 : 0 ≤ a / b := Int.ediv_nonneg ha.1 (by omega)
  rw [← Int64.toInt_inj, Int64.toInt_div_of_ne_right _ _ (zl_m1 hb.1 hb.2), zl_to (by omega), zl_to (by omega), zl_to (by omega), Int.tdiv_eq_ediv_of_nonneg ha.1]
theorem zl_rem {a b : Int} (ha : 0 ≤ a ∧ a ≤ 9223372036854775807) (hb : 0 < b ∧ b ≤ 9223372036854775807) : Int64.ofInt a - Int64.ofInt a / Int64.ofInt b * Int64.ofInt b = Int64.ofInt (a % b) := by
  rw [zl_div ha hb, ← Int64.ofInt_mul, ← Int64.ofInt_sub]
  congr 1
  have := Int.emod_def a b
  rw [Int.mul_comm] at this; omega
theorem zi_shl : ∀ k : Fin 31, (1 : Int32) <<< (Int32.ofInt (k.val : Int) &&& 31) = Int32.ofInt ((2 : Int) ^ k.val) := by decide +kernel
def zand (a b : Int) : Int := (Int32.ofInt a &&& Int32.ofInt b).toInt
def zor (a b : Int) : Int := (Int32.ofInt a ||| Int32.ofInt b).toInt
def zxor (a b : Int) : Int := (Int32.ofInt a ^^^ Int32.ofInt b).toInt
def zshr (a k : Int) : Int := (Int32.ofInt a >>> (Int32.ofInt k &&& 31)).toInt
def zcmp (a b : Int) : Int := if b < a then 1 else if a = b then 0 else -1
theorem zi_rg (x : Int32) : -2147483648 ≤ x.toInt ∧ x.toInt ≤ 2147483647 := by have := x.toInt_lt; have := x.le_toInt; omega
theorem zi_cl {i : Int} (h : 0 ≤ i ∧ i ≤ 2147483647) : (Int32.ofInt i).toNatClampNeg = i.toNat := by
  show (Int32.ofInt i).toInt.toNat = i.toNat
  rw [zi_to (by omega)]
theorem zi_in {i : Int} {n : Nat} (h : 0 ≤ i ∧ i < n) (hn : n ≤ 2147483647) : vp_in (Int32.ofInt i) n := by
  rw [vp_in_iff, zi_to (by omega)]; omega
section
variable {X : zXt} {μ : zM} {R : Room} {Z : zZt} {ce sl n : Nat} {S : zH} {pc : Nat} {L : List (Option zV)} {st : List zV} {Rf : zG} {V : zE}

theorem wa_iconst {k : Int} (hd : decode μ.2.1 pc = .ok (.iconst k, 1))  (kk : Wa X μ R Z ce sl n S (pc + 1) L (zI k :: st) Rf V) : Wa X μ R Z ce sl n S (pc) L st Rf V := by
  intro p l e s m args below meth c D cy base b H locs ls C HH LL
  have h := kk p l e s m args below meth c D cy base b H locs ls C HH LL
  refine lv_iconst C.1 C.2.1 hd rfl ?_
  exact h

theorem wa_bipush {k : Int} (hd : decode μ.2.1 pc = .ok (.bipush k, 2)) (hv : (Int8.ofInt k).toInt32 = Int32.ofInt k) (kk : Wa X μ R Z ce sl n S (pc + 2) L (zI k :: st) Rf V) : Wa X μ R Z ce sl n S (pc) L st Rf V := by
  intro p l e s m args below meth c D cy base b H locs ls C HH LL
  have h := kk p l e s m args below meth c D cy base b H locs ls C HH LL
  refine lv_bipush C.1 C.2.1 hd hv ?_
  exact h

theorem wa_sipush {k : Int} (hd : decode μ.2.1 pc = .ok (.sipush k, 3)) (hv : (Int16.ofInt k).toInt32 = Int32.ofInt k) (kk : Wa X μ R Z ce sl n S (pc + 3) L (zI k :: st) Rf V) : Wa X μ R Z ce sl n S (pc) L st Rf V := by
  intro p l e s m args below meth c D cy base b H locs ls C HH LL
  have h := kk p l e s m args below meth c D cy base b H locs ls C HH LL
  refine lv_sipush C.1 C.2.1 hd hv ?_
  exact h

theorem wa_ldc {k : Nat} (hd : decode μ.2.1 pc = .ok (.ldc k, 2)) {x : Int32} (hc : Cond.constant μ.1.cls k x ∈ lw_ok) (a : Int) (ha : x = Int32.ofInt a) (kk : Wa X μ R Z ce sl n S (pc + 2) L (zI a :: st) Rf V) : Wa X μ R Z ce sl n S (pc) L st Rf V := by
  intro p l e s m args below meth c D cy base b H locs ls C HH LL
  have h := kk p l e s m args below meth c D cy base b H locs ls C HH LL
  subst ha
  refine lv_ldc C.1 C.2.1 C.2.2.2.2.1 (C.2.2.2.2.2.1 _ hc) hd ?_
  exact h

theorem wa_ldc2 {k : Nat} (hd : decode μ.2.1 pc = .ok (.ldc2_w k, 3)) {x : Int64} (hc : Cond.constantLong μ.1.cls k x ∈ lw_ok) (a : Int) (ha : x = Int64.ofInt a) (kk : Wa X μ R Z ce sl n S (pc + 3) L (zL a :: st) Rf V) : Wa X μ R Z ce sl n S (pc) L st Rf V := by
  intro p l e s m args below meth c D cy base b H locs ls C HH LL
  have h := kk p l e s m args below meth c D cy base b H locs ls C HH LL
  subst ha
  refine lv_ldc2 C.1 C.2.1 C.2.2.2.2.1 (C.2.2.2.2.2.1 _ hc) hd ?_
  exact h

theorem wa_lconst {k : Fin 2} (hd : decode μ.2.1 pc = .ok (.lconst k, 1)) (a : Int) (ha : Int64.ofNat (k : Nat) = Int64.ofInt a) (kk : Wa X μ R Z ce sl n S (pc + 1) L (zL a :: st) Rf V) : Wa X μ R Z ce sl n S (pc) L st Rf V := by
  intro p l e s m args below meth c D cy base b H locs ls C HH LL
  have h := kk p l e s m args below meth c D cy base b H locs ls C HH LL
  refine lv_lconst C.1 C.2.1 hd ha ?_
  exact h

theorem wa_null  (hd : decode μ.2.1 pc = .ok (.aconst_null, 1))  (kk : Wa X μ R Z ce sl n S (pc + 1) L (zN :: st) Rf V) : Wa X μ R Z ce sl n S (pc) L st Rf V := by
  intro p l e s m args below meth c D cy base b H locs ls C HH LL
  have h := kk p l e s m args below meth c D cy base b H locs ls C HH LL
  refine lv_null C.1 C.2.1 hd ?_
  exact h

theorem wa_iadd {x y : Int} (hd : decode μ.2.1 pc = .ok (.iadd, 1))  (kk : Wa X μ R Z ce sl n S (pc + 1) L (zI (x + y) :: st) Rf V) : Wa X μ R Z ce sl n S (pc) L (zI y :: zI x :: st) Rf V := by
  intro p l e s m args below meth c D cy base b H locs ls C HH LL
  have h := kk p l e s m args below meth c D cy base b H locs ls C HH LL
  refine lv_iadd C.1 C.2.1 hd ?_
  rw [← Int32.ofInt_add]
  exact h

theorem wa_isub {x y : Int} (hd : decode μ.2.1 pc = .ok (.isub, 1))  (kk : Wa X μ R Z ce sl n S (pc + 1) L (zI (x - y) :: st) Rf V) : Wa X μ R Z ce sl n S (pc) L (zI y :: zI x :: st) Rf V := by
  intro p l e s m args below meth c D cy base b H locs ls C HH LL
  have h := kk p l e s m args below meth c D cy base b H locs ls C HH LL
  refine lv_isub C.1 C.2.1 hd ?_
  rw [← Int32.ofInt_sub]
  exact h

theorem wa_imul {x y : Int} (hd : decode μ.2.1 pc = .ok (.imul, 1))  (kk : Wa X μ R Z ce sl n S (pc + 1) L (zI (x * y) :: st) Rf V) : Wa X μ R Z ce sl n S (pc) L (zI y :: zI x :: st) Rf V := by
  intro p l e s m args below meth c D cy base b H locs ls C HH LL
  have h := kk p l e s m args below meth c D cy base b H locs ls C HH LL
  refine lv_imul C.1 C.2.1 hd ?_
  rw [← Int32.ofInt_mul]
  exact h

theorem wa_ladd {x y : Int} (hd : decode μ.2.1 pc = .ok (.ladd, 1))  (kk : Wa X μ R Z ce sl n S (pc + 1) L (zL (x + y) :: st) Rf V) : Wa X μ R Z ce sl n S (pc) L (zL y :: zL x :: st) Rf V := by
  intro p l e s m args below meth c D cy base b H locs ls C HH LL
  have h := kk p l e s m args below meth c D cy base b H locs ls C HH LL
  refine lv_ladd C.1 C.2.1 hd ?_
  rw [← Int64.ofInt_add]
  exact h

theorem wa_lsub {x y : Int} (hd : decode μ.2.1 pc = .ok (.lsub, 1))  (kk : Wa X μ R Z ce sl n S (pc + 1) L (zL (x - y) :: st) Rf V) : Wa X μ R Z ce sl n S (pc) L (zL y :: zL x :: st) Rf V := by
  intro p l e s m args below meth c D cy base b H locs ls C HH LL
  have h := kk p l e s m args below meth c D cy base b H locs ls C HH LL
  refine lv_lsub C.1 C.2.1 hd ?_
  rw [← Int64.ofInt_sub]
  exact h

theorem wa_lmul {x y : Int} (hd : decode μ.2.1 pc = .ok (.lmul, 1))  (kk : Wa X μ R Z ce sl n S (pc + 1) L (zL (x * y) :: st) Rf V) : Wa X μ R Z ce sl n S (pc) L (zL y :: zL x :: st) Rf V := by
  intro p l e s m args below meth c D cy base b H locs ls C HH LL
  have h := kk p l e s m args below meth c D cy base b H locs ls C HH LL
  refine lv_lmul C.1 C.2.1 hd ?_
  rw [← Int64.ofInt_mul]
  exact h

theorem wa_ineg {x : Int} (hd : decode μ.2.1 pc = .ok (.ineg, 1))  (kk : Wa X μ R Z ce sl n S (pc + 1) L (zI (-x) :: st) Rf V) : Wa X μ R Z ce sl n S (pc) L (zI x :: st) Rf V := by
  intro p l e s m args below meth c D cy base b H locs ls C HH LL
  have h := kk p l e s m args below meth c D cy base b H locs ls C HH LL
  refine lv_ineg C.1 C.2.1 hd ?_
  rw [← Int32.ofInt_neg]
  exact h

theorem wa_iand {x y : Int} (hd : decode μ.2.1 pc = .ok (.iand, 1))  (kk : Wa X μ R Z ce sl n S (pc + 1) L (zI (zand x y) :: st) Rf V) : Wa X μ R Z ce sl n S (pc) L (zI y :: zI x :: st) Rf V := by
  intro p l e s m args below meth c D cy base b H locs ls C HH LL
  have h := kk p l e s m args below meth c D cy base b H locs ls C HH LL
  rw [show (zI (zand x y) :: st).map (zu base b) = .int (Int32.ofInt x &&& Int32.ofInt y) :: st.map (zu base b) from by simp only [List.map_cons, zu, zand, Int32.ofInt_toInt]] at h
  refine lv_iand C.1 C.2.1 hd ?_
  exact h

theorem wa_ior {x y : Int} (hd : decode μ.2.1 pc = .ok (.ior, 1))  (kk : Wa X μ R Z ce sl n S (pc + 1) L (zI (zor x y) :: st) Rf V) : Wa X μ R Z ce sl n S (pc) L (zI y :: zI x :: st) Rf V := by
  intro p l e s m args below meth c D cy base b H locs ls C HH LL
  have h := kk p l e s m args below meth c D cy base b H locs ls C HH LL
  rw [show (zI (zor x y) :: st).map (zu base b) = .int (Int32.ofInt x ||| Int32.ofInt y) :: st.map (zu base b) from by simp only [List.map_cons, zu, zor, Int32.ofInt_toInt]] at h
  refine lv_ior C.1 C.2.1 hd ?_
  exact h

theorem wa_ixor {x y : Int} (hd : decode μ.2.1 pc = .ok (.ixor, 1))  (kk : Wa X μ R Z ce sl n S (pc + 1) L (zI (zxor x y) :: st) Rf V) : Wa X μ R Z ce sl n S (pc) L (zI y :: zI x :: st) Rf V := by
  intro p l e s m args below meth c D cy base b H locs ls C HH LL
  have h := kk p l e s m args below meth c D cy base b H locs ls C HH LL
  rw [show (zI (zxor x y) :: st).map (zu base b) = .int (Int32.ofInt x ^^^ Int32.ofInt y) :: st.map (zu base b) from by simp only [List.map_cons, zu, zxor, Int32.ofInt_toInt]] at h
  refine lv_ixor C.1 C.2.1 hd ?_
  exact h

theorem wa_ishr {x y : Int} (hd : decode μ.2.1 pc = .ok (.ishr, 1))  (kk : Wa X μ R Z ce sl n S (pc + 1) L (zI (zshr x y) :: st) Rf V) : Wa X μ R Z ce sl n S (pc) L (zI y :: zI x :: st) Rf V := by
  intro p l e s m args below meth c D cy base b H locs ls C HH LL
  have h := kk p l e s m args below meth c D cy base b H locs ls C HH LL
  rw [show (zI (zshr x y) :: st).map (zu base b) = .int (Int32.ofInt x >>> (Int32.ofInt y &&& 31)) :: st.map (zu base b) from by simp only [List.map_cons, zu, zshr, Int32.ofInt_toInt]] at h
  refine lv_ishr C.1 C.2.1 hd ?_
  exact h

theorem wa_ishl1 {k : Int} (hd : decode μ.2.1 pc = .ok (.ishl, 1)) (hk : 0 ≤ k ∧ k ≤ 30) (kk : Wa X μ R Z ce sl n S (pc + 1) L (zI (2 ^ k.toNat) :: st) Rf V) : Wa X μ R Z ce sl n S (pc) L (zI k :: zI 1 :: st) Rf V := by
  intro p l e s m args below meth c D cy base b H locs ls C HH LL
  have h := kk p l e s m args below meth c D cy base b H locs ls C HH LL
  refine lv_ishl C.1 C.2.1 hd ?_
  have e1 := zi_shl ⟨k.toNat, by omega⟩
  dsimp only at e1
  rw [Int.toNat_of_nonneg hk.1] at e1
  rw [show Int32.ofInt 1 = (1 : Int32) from rfl, e1]
  exact h

theorem wa_idiv {x y : Int} (hd : decode μ.2.1 pc = .ok (.idiv, 1)) (ha : 0 ≤ x ∧ x ≤ 2147483647) (hb : 0 < y ∧ y ≤ 2147483647) (kk : Wa X μ R Z ce sl n S (pc + 1) L (zI (x / y) :: st) Rf V) : Wa X μ R Z ce sl n S (pc) L (zI y :: zI x :: st) Rf V := by
  intro p l e s m args below meth c D cy base b H locs ls C HH LL
  have h := kk p l e s m args below meth c D cy base b H locs ls C HH LL
  refine lv_idiv C.1 C.2.1 hd (by rw [zi_0, zi_eq (by omega) zi_r0]; omega) ?_
  rw [zi_div ha hb]
  exact h

theorem wa_irem {x y : Int} (hd : decode μ.2.1 pc = .ok (.irem, 1)) (ha : 0 ≤ x ∧ x ≤ 2147483647) (hb : 0 < y ∧ y ≤ 2147483647) (kk : Wa X μ R Z ce sl n S (pc + 1) L (zI (x % y) :: st) Rf V) : Wa X μ R Z ce sl n S (pc) L (zI y :: zI x :: st) Rf V := by
  intro p l e s m args below meth c D cy base b H locs ls C HH LL
  have h := kk p l e s m args below meth c D cy base b H locs ls C HH LL
  refine lv_irem C.1 C.2.1 hd (by rw [zi_0, zi_eq (by omega) zi_r0]; omega) ?_
  rw [zi_rem ha hb]
  exact h

theorem wa_ldiv {x y : Int} (hd : decode μ.2.1 pc = .ok (.ldiv, 1)) (ha : 0 ≤ x ∧ x ≤ 9223372036854775807) (hb : 0 < y ∧ y ≤ 9223372036854775807) (kk : Wa X μ R Z ce sl n S (pc + 1) L (zL (x / y) :: st) Rf V) : Wa X μ R Z ce sl n S (pc) L (zL y :: zL x :: st) Rf V := by
  intro p l e s m args below meth c D cy base b H locs ls C HH LL
  have h := kk p l e s m args below meth c D cy base b H locs ls C HH LL
  refine lv_ldiv C.1 C.2.1 hd (by rw [show (0 : Int64) = Int64.ofInt 0 from rfl, zl_eq (by omega) (by omega)]; omega) ?_
  rw [zl_div ha hb]
  exact h

theorem wa_lrem {x y : Int} (hd : decode μ.2.1 pc = .ok (.lrem, 1)) (ha : 0 ≤ x ∧ x ≤ 9223372036854775807) (hb : 0 < y ∧ y ≤ 9223372036854775807) (kk : Wa X μ R Z ce sl n S (pc + 1) L (zL (x % y) :: st) Rf V) : Wa X μ R Z ce sl n S (pc) L (zL y :: zL x :: st) Rf V := by
  intro p l e s m args below meth c D cy base b H locs ls C HH LL
  have h := kk p l e s m args below meth c D cy base b H locs ls C HH LL
  refine lv_lrem C.1 C.2.1 hd (by rw [show (0 : Int64) = Int64.ofInt 0 from rfl, zl_eq (by omega) (by omega)]; omega) ?_
  rw [zl_rem ha hb]
  exact h

theorem wa_i2l {x : Int} (hd : decode μ.2.1 pc = .ok (.i2l, 1)) (hx : -2147483648 ≤ x ∧ x ≤ 2147483647) (kk : Wa X μ R Z ce sl n S (pc + 1) L (zL x :: st) Rf V) : Wa X μ R Z ce sl n S (pc) L (zI x :: st) Rf V := by
  intro p l e s m args below meth c D cy base b H locs ls C HH LL
  have h := kk p l e s m args below meth c D cy base b H locs ls C HH LL
  refine lv_i2l C.1 C.2.1 hd (v := Int64.ofInt x) (by rw [← Int64.toInt_inj, Int32.toInt_toInt64, zi_to hx, zl_to (by omega)]) ?_
  exact h

theorem wa_lcmp {x y : Int} (hd : decode μ.2.1 pc = .ok (.lcmp, 1)) (hx : -9223372036854775808 ≤ x ∧ x ≤ 9223372036854775807) (hy : -9223372036854775808 ≤ y ∧ y ≤ 9223372036854775807) (kk : Wa X μ R Z ce sl n S (pc + 1) L (zI (zcmp x y) :: st) Rf V) : Wa X μ R Z ce sl n S (pc) L (zL y :: zL x :: st) Rf V := by
  intro p l e s m args below meth c D cy base b H locs ls C HH LL
  have h := kk p l e s m args below meth c D cy base b H locs ls C HH LL
  refine W.lcmp C.1 C.2.1 hd ?_
  rw [show lg_cmp (Int64.ofInt x) (Int64.ofInt y) = Int32.ofInt (zcmp x y) from by
    unfold lg_cmp zcmp
    by_cases h1 : y < x
    · rw [if_pos ((zl_lt hy hx).mpr h1), if_pos h1]; rfl
    · rw [if_neg (fun q => h1 ((zl_lt hy hx).mp q)), if_neg h1]
      by_cases h2 : x = y
      · rw [if_pos ((zl_eq hx hy).mpr h2), if_pos h2]; rfl
      · rw [if_neg (fun q => h2 ((zl_eq hx hy).mp q)), if_neg h2]; rfl]
  exact h

theorem wa_pop {v : zV} (hd : decode μ.2.1 pc = .ok (.pop, 1)) (hc : zcat v = 1) (kk : Wa X μ R Z ce sl n S (pc + 1) L st Rf V) : Wa X μ R Z ce sl n S (pc) L (v :: st) Rf V := by
  intro p l e s m args below meth c D cy base b H locs ls C HH LL
  have h := kk p l e s m args below meth c D cy base b H locs ls C HH LL
  refine lv_pop C.1 C.2.1 hd ((zu_cat base b v).trans hc) ?_
  exact h

theorem wa_dup {v : zV} (hd : decode μ.2.1 pc = .ok (.dup, 1)) (hc : zcat v = 1) (kk : Wa X μ R Z ce sl n S (pc + 1) L (v :: v :: st) Rf V) : Wa X μ R Z ce sl n S (pc) L (v :: st) Rf V := by
  intro p l e s m args below meth c D cy base b H locs ls C HH LL
  have h := kk p l e s m args below meth c D cy base b H locs ls C HH LL
  refine lv_dup C.1 C.2.1 hd ((zu_cat base b v).trans hc) ?_
  exact h

theorem wa_dup2 {v u : zV} (hd : decode μ.2.1 pc = .ok (.dup2, 1)) (hc : zcat v = 1) (hc2 : zcat u = 1) (kk : Wa X μ R Z ce sl n S (pc + 1) L (v :: u :: v :: u :: st) Rf V) : Wa X μ R Z ce sl n S (pc) L (v :: u :: st) Rf V := by
  intro p l e s m args below meth c D cy base b H locs ls C HH LL
  have h := kk p l e s m args below meth c D cy base b H locs ls C HH LL
  refine lv_dup2_11 C.1 C.2.1 hd ((zu_cat base b v).trans hc) ((zu_cat base b u).trans hc2) ?_
  exact h

theorem wa_goto {off : Int} (tgt : Nat) (hd : decode μ.2.1 pc = .ok (.goto off, 3)) (ht : (pc : Int) + off = (tgt : Int)) (kk : Wa X μ R Z ce sl n S (tgt) L st Rf V) : Wa X μ R Z ce sl n S (pc) L st Rf V := by
  intro p l e s m args below meth c D cy base b H locs ls C HH LL
  exact lv_goto C.1 C.2.1 hd ht (kk p l e s m args below meth c D cy base b H locs ls C HH LL)

theorem wa_icmp_eq {off : Int} {x y : Int} (tgt : Nat) (hd : decode μ.2.1 pc = .ok (.if_icmp .eq off, 3)) (ht : (pc : Int) + off = (tgt : Int)) (hx : -2147483648 ≤ x ∧ x ≤ 2147483647) (hy : -2147483648 ≤ y ∧ y ≤ 2147483647) (kt : x = y → Wa X μ R Z ce sl n S (tgt) L st Rf V) (kf : x ≠ y → Wa X μ R Z ce sl n S (pc + 3) L st Rf V) : Wa X μ R Z ce sl n S (pc) L (zI y :: zI x :: st) Rf V := by
  intro p l e s m args below meth c D cy base b H locs ls C HH LL
  exact lv_icmp_eq C.1 C.2.1 hd ht (fun q => kt ((zi_eq hx hy).mp q) p l e s m args below meth c D cy base b H locs ls C HH LL) (fun q => kf (fun h9 => q ((zi_eq hx hy).mpr h9)) p l e s m args below meth c D cy base b H locs ls C HH LL)

theorem wa_if_eq {off : Int} {x : Int} (tgt : Nat) (hd : decode μ.2.1 pc = .ok (.ifCond .eq off, 3)) (ht : (pc : Int) + off = (tgt : Int)) (hx : -2147483648 ≤ x ∧ x ≤ 2147483647) (kt : x = 0 → Wa X μ R Z ce sl n S (tgt) L st Rf V) (kf : x ≠ 0 → Wa X μ R Z ce sl n S (pc + 3) L st Rf V) : Wa X μ R Z ce sl n S (pc) L (zI x :: st) Rf V := by
  intro p l e s m args below meth c D cy base b H locs ls C HH LL
  exact lv_if_eq C.1 C.2.1 hd ht (fun q => kt ((zi_eq hx zi_r0).mp q) p l e s m args below meth c D cy base b H locs ls C HH LL) (fun q => kf (fun h9 => q ((zi_eq hx zi_r0).mpr h9)) p l e s m args below meth c D cy base b H locs ls C HH LL)

theorem wa_icmp_ne {off : Int} {x y : Int} (tgt : Nat) (hd : decode μ.2.1 pc = .ok (.if_icmp .ne off, 3)) (ht : (pc : Int) + off = (tgt : Int)) (hx : -2147483648 ≤ x ∧ x ≤ 2147483647) (hy : -2147483648 ≤ y ∧ y ≤ 2147483647) (kt : x ≠ y → Wa X μ R Z ce sl n S (tgt) L st Rf V) (kf : x = y → Wa X μ R Z ce sl n S (pc + 3) L st Rf V) : Wa X μ R Z ce sl n S (pc) L (zI y :: zI x :: st) Rf V := by
  intro p l e s m args below meth c D cy base b H locs ls C HH LL
  exact lv_icmp_ne C.1 C.2.1 hd ht (fun q => kt (fun h9 => q ((zi_eq hx hy).mpr h9)) p l e s m args below meth c D cy base b H locs ls C HH LL) (fun q => kf ((zi_eq hx hy).mp q) p l e s m args below meth c D cy base b H locs ls C HH LL)

theorem wa_if_ne {off : Int} {x : Int} (tgt : Nat) (hd : decode μ.2.1 pc = .ok (.ifCond .ne off, 3)) (ht : (pc : Int) + off = (tgt : Int)) (hx : -2147483648 ≤ x ∧ x ≤ 2147483647) (kt : x ≠ 0 → Wa X μ R Z ce sl n S (tgt) L st Rf V) (kf : x = 0 → Wa X μ R Z ce sl n S (pc + 3) L st Rf V) : Wa X μ R Z ce sl n S (pc) L (zI x :: st) Rf V := by
  intro p l e s m args below meth c D cy base b H locs ls C HH LL
  exact lv_if_ne C.1 C.2.1 hd ht (fun q => kt (fun h9 => q ((zi_eq hx zi_r0).mpr h9)) p l e s m args below meth c D cy base b H locs ls C HH LL) (fun q => kf ((zi_eq hx zi_r0).mp q) p l e s m args below meth c D cy base b H locs ls C HH LL)

theorem wa_icmp_lt {off : Int} {x y : Int} (tgt : Nat) (hd : decode μ.2.1 pc = .ok (.if_icmp .lt off, 3)) (ht : (pc : Int) + off = (tgt : Int)) (hx : -2147483648 ≤ x ∧ x ≤ 2147483647) (hy : -2147483648 ≤ y ∧ y ≤ 2147483647) (kt : x < y → Wa X μ R Z ce sl n S (tgt) L st Rf V) (kf : y ≤ x → Wa X μ R Z ce sl n S (pc + 3) L st Rf V) : Wa X μ R Z ce sl n S (pc) L (zI y :: zI x :: st) Rf V := by
  intro p l e s m args below meth c D cy base b H locs ls C HH LL
  exact lv_icmp_lt C.1 C.2.1 hd ht (fun q => kt ((zi_lt hx hy).mp q) p l e s m args below meth c D cy base b H locs ls C HH LL) (fun q => kf (Int.not_lt.mp (fun h9 => q ((zi_lt hx hy).mpr h9))) p l e s m args below meth c D cy base b H locs ls C HH LL)

theorem wa_if_lt {off : Int} {x : Int} (tgt : Nat) (hd : decode μ.2.1 pc = .ok (.ifCond .lt off, 3)) (ht : (pc : Int) + off = (tgt : Int)) (hx : -2147483648 ≤ x ∧ x ≤ 2147483647) (kt : x < 0 → Wa X μ R Z ce sl n S (tgt) L st Rf V) (kf : 0 ≤ x → Wa X μ R Z ce sl n S (pc + 3) L st Rf V) : Wa X μ R Z ce sl n S (pc) L (zI x :: st) Rf V := by
  intro p l e s m args below meth c D cy base b H locs ls C HH LL
  exact lv_if_lt C.1 C.2.1 hd ht (fun q => kt ((zi_lt hx zi_r0).mp q) p l e s m args below meth c D cy base b H locs ls C HH LL) (fun q => kf (Int.not_lt.mp (fun h9 => q ((zi_lt hx zi_r0).mpr h9))) p l e s m args below meth c D cy base b H locs ls C HH LL)

theorem wa_icmp_ge {off : Int} {x y : Int} (tgt : Nat) (hd : decode μ.2.1 pc = .ok (.if_icmp .ge off, 3)) (ht : (pc : Int) + off = (tgt : Int)) (hx : -2147483648 ≤ x ∧ x ≤ 2147483647) (hy : -2147483648 ≤ y ∧ y ≤ 2147483647) (kt : y ≤ x → Wa X μ R Z ce sl n S (tgt) L st Rf V) (kf : x < y → Wa X μ R Z ce sl n S (pc + 3) L st Rf V) : Wa X μ R Z ce sl n S (pc) L (zI y :: zI x :: st) Rf V := by
  intro p l e s m args below meth c D cy base b H locs ls C HH LL
  exact lv_icmp_ge C.1 C.2.1 hd ht (fun q => kt ((zi_le hy hx).mp q) p l e s m args below meth c D cy base b H locs ls C HH LL) (fun q => kf (Int.not_le.mp (fun h9 => q ((zi_le hy hx).mpr h9))) p l e s m args below meth c D cy base b H locs ls C HH LL)

theorem wa_if_ge {off : Int} {x : Int} (tgt : Nat) (hd : decode μ.2.1 pc = .ok (.ifCond .ge off, 3)) (ht : (pc : Int) + off = (tgt : Int)) (hx : -2147483648 ≤ x ∧ x ≤ 2147483647) (kt : 0 ≤ x → Wa X μ R Z ce sl n S (tgt) L st Rf V) (kf : x < 0 → Wa X μ R Z ce sl n S (pc + 3) L st Rf V) : Wa X μ R Z ce sl n S (pc) L (zI x :: st) Rf V := by
  intro p l e s m args below meth c D cy base b H locs ls C HH LL
  exact lv_if_ge C.1 C.2.1 hd ht (fun q => kt ((zi_le zi_r0 hx).mp q) p l e s m args below meth c D cy base b H locs ls C HH LL) (fun q => kf (Int.not_le.mp (fun h9 => q ((zi_le zi_r0 hx).mpr h9))) p l e s m args below meth c D cy base b H locs ls C HH LL)

theorem wa_icmp_gt {off : Int} {x y : Int} (tgt : Nat) (hd : decode μ.2.1 pc = .ok (.if_icmp .gt off, 3)) (ht : (pc : Int) + off = (tgt : Int)) (hx : -2147483648 ≤ x ∧ x ≤ 2147483647) (hy : -2147483648 ≤ y ∧ y ≤ 2147483647) (kt : y < x → Wa X μ R Z ce sl n S (tgt) L st Rf V) (kf : x ≤ y → Wa X μ R Z ce sl n S (pc + 3) L st Rf V) : Wa X μ R Z ce sl n S (pc) L (zI y :: zI x :: st) Rf V := by
  intro p l e s m args below meth c D cy base b H locs ls C HH LL
  exact lv_icmp_gt C.1 C.2.1 hd ht (fun q => kt ((zi_lt hy hx).mp q) p l e s m args below meth c D cy base b H locs ls C HH LL) (fun q => kf (Int.not_lt.mp (fun h9 => q ((zi_lt hy hx).mpr h9))) p l e s m args below meth c D cy base b H locs ls C HH LL)

theorem wa_if_gt {off : Int} {x : Int} (tgt : Nat) (hd : decode μ.2.1 pc = .ok (.ifCond .gt off, 3)) (ht : (pc : Int) + off = (tgt : Int)) (hx : -2147483648 ≤ x ∧ x ≤ 2147483647) (kt : 0 < x → Wa X μ R Z ce sl n S (tgt) L st Rf V) (kf : x ≤ 0 → Wa X μ R Z ce sl n S (pc + 3) L st Rf V) : Wa X μ R Z ce sl n S (pc) L (zI x :: st) Rf V := by
  intro p l e s m args below meth c D cy base b H locs ls C HH LL
  exact lv_if_gt C.1 C.2.1 hd ht (fun q => kt ((zi_lt zi_r0 hx).mp q) p l e s m args below meth c D cy base b H locs ls C HH LL) (fun q => kf (Int.not_lt.mp (fun h9 => q ((zi_lt zi_r0 hx).mpr h9))) p l e s m args below meth c D cy base b H locs ls C HH LL)

theorem wa_icmp_le {off : Int} {x y : Int} (tgt : Nat) (hd : decode μ.2.1 pc = .ok (.if_icmp .le off, 3)) (ht : (pc : Int) + off = (tgt : Int)) (hx : -2147483648 ≤ x ∧ x ≤ 2147483647) (hy : -2147483648 ≤ y ∧ y ≤ 2147483647) (kt : x ≤ y → Wa X μ R Z ce sl n S (tgt) L st Rf V) (kf : y < x → Wa X μ R Z ce sl n S (pc + 3) L st Rf V) : Wa X μ R Z ce sl n S (pc) L (zI y :: zI x :: st) Rf V := by
  intro p l e s m args below meth c D cy base b H locs ls C HH LL
  exact lv_icmp_le C.1 C.2.1 hd ht (fun q => kt ((zi_le hx hy).mp q) p l e s m args below meth c D cy base b H locs ls C HH LL) (fun q => kf (Int.not_le.mp (fun h9 => q ((zi_le hx hy).mpr h9))) p l e s m args below meth c D cy base b H locs ls C HH LL)

theorem wa_if_le {off : Int} {x : Int} (tgt : Nat) (hd : decode μ.2.1 pc = .ok (.ifCond .le off, 3)) (ht : (pc : Int) + off = (tgt : Int)) (hx : -2147483648 ≤ x ∧ x ≤ 2147483647) (kt : x ≤ 0 → Wa X μ R Z ce sl n S (tgt) L st Rf V) (kf : 0 < x → Wa X μ R Z ce sl n S (pc + 3) L st Rf V) : Wa X μ R Z ce sl n S (pc) L (zI x :: st) Rf V := by
  intro p l e s m args below meth c D cy base b H locs ls C HH LL
  exact lv_if_le C.1 C.2.1 hd ht (fun q => kt ((zi_le hx zi_r0).mp q) p l e s m args below meth c D cy base b H locs ls C HH LL) (fun q => kf (Int.not_le.mp (fun h9 => q ((zi_le hx zi_r0).mpr h9))) p l e s m args below meth c D cy base b H locs ls C HH LL)

theorem wa_ifeq_B {off : Int} {P : Prop} [Decidable P] (tgt : Nat) (hd : decode μ.2.1 pc = .ok (.ifCond .eq off, 3)) (ht : (pc : Int) + off = (tgt : Int)) (kt : ¬ P → Wa X μ R Z ce sl n S (tgt) L st Rf V) (kf : P → Wa X μ R Z ce sl n S (pc + 3) L st Rf V) : Wa X μ R Z ce sl n S (pc) L (zB P :: st) Rf V :=
  wa_if_eq tgt hd ht (by split <;> omega) (fun q => kt (fun h => by rw [if_pos h] at q; omega)) (fun q => kf (Decidable.byContradiction fun h => by rw [if_neg h] at q; omega))
theorem wa_ifne_B {off : Int} {P : Prop} [Decidable P] (tgt : Nat) (hd : decode μ.2.1 pc = .ok (.ifCond .ne off, 3)) (ht : (pc : Int) + off = (tgt : Int)) (kt : P → Wa X μ R Z ce sl n S (tgt) L st Rf V) (kf : ¬ P → Wa X μ R Z ce sl n S (pc + 3) L st Rf V) : Wa X μ R Z ce sl n S (pc) L (zB P :: st) Rf V :=
  wa_if_ne tgt hd ht (by split <;> omega) (fun q => kt (Decidable.byContradiction fun h => by rw [if_neg h] at q; omega)) (fun q => kf (fun h => by rw [if_pos h] at q; omega))
theorem wa_icmp_eq_t {off : Int} {x y : Int} (tgt : Nat) (hd : decode μ.2.1 pc = .ok (.if_icmp .eq off, 3)) (ht : (pc : Int) + off = (tgt : Int)) (h : x = y) (kt : Wa X μ R Z ce sl n S (tgt) L st Rf V) : Wa X μ R Z ce sl n S (pc) L (zI y :: zI x :: st) Rf V := by
  intro p l e s m args below meth c D cy base b H locs ls C HH LL
  exact lv_icmp_eq C.1 C.2.1 hd ht (fun q => kt p l e s m args below meth c D cy base b H locs ls C HH LL) (fun q => absurd (by rw [h]) q)
theorem wa_ifnull_r {off : Int} {k : Nat} (hd : decode μ.2.1 pc = .ok (.ifnull off, 3)) (kk : Wa X μ R Z ce sl n S (pc + 3) L st Rf V) : Wa X μ R Z ce sl n S (pc) L (zR k :: st) Rf V := by
  intro p l e s m args below meth c D cy base b H locs ls C HH LL
  exact lv_ifnull C.1 C.2.1 hd (kk p l e s m args below meth c D cy base b H locs ls C HH LL)
theorem wa_ifnonnull_r {off : Int} {k : Nat} (tgt : Nat) (hd : decode μ.2.1 pc = .ok (.ifnonnull off, 3)) (ht : (pc : Int) + off = (tgt : Int)) (kk : Wa X μ R Z ce sl n S (tgt) L st Rf V) : Wa X μ R Z ce sl n S (pc) L (zR k :: st) Rf V := by
  intro p l e s m args below meth c D cy base b H locs ls C HH LL
  exact lv_ifnonnull C.1 C.2.1 hd ht (kk p l e s m args below meth c D cy base b H locs ls C HH LL)
theorem wa_ifnull_n {off : Int} (tgt : Nat) (hd : decode μ.2.1 pc = .ok (.ifnull off, 3)) (ht : (pc : Int) + off = (tgt : Int)) (kk : Wa X μ R Z ce sl n S (tgt) L st Rf V) : Wa X μ R Z ce sl n S (pc) L (zN :: st) Rf V := by
  intro p l e s m args below meth c D cy base b H locs ls C HH LL
  exact lv_ifnullN C.1 C.2.1 hd ht (kk p l e s m args below meth c D cy base b H locs ls C HH LL)
theorem wa_ifnonnull_n {off : Int} (hd : decode μ.2.1 pc = .ok (.ifnonnull off, 3)) (kk : Wa X μ R Z ce sl n S (pc + 3) L st Rf V) : Wa X μ R Z ce sl n S (pc) L (zN :: st) Rf V := by
  intro p l e s m args below meth c D cy base b H locs ls C HH LL
  exact lv_ifnonnullN C.1 C.2.1 hd (kk p l e s m args below meth c D cy base b H locs ls C HH LL)
theorem wa_table {dflt lo hi : Int} {offs : Array Int} {len : Nat} {x : Int} {off : Int} (tgt : Nat) (hd : decode μ.2.1 pc = .ok (.tableswitch dflt lo hi offs, len)) (hx : -2147483648 ≤ x ∧ x ≤ 2147483647) (h1 : lo ≤ x ∧ x ≤ hi) (ho : offs[(x - lo).toNat]? = some off) (ht : (pc : Int) + off = (tgt : Int)) (kk : Wa X μ R Z ce sl n S (tgt) L st Rf V) : Wa X μ R Z ce sl n S (pc) L (zI x :: st) Rf V := by
  intro p l e s m args below meth c D cy base b H locs ls C HH LL
  exact lv_tableIn C.1 C.2.1 hd (by rw [zi_to hx]; omega) (by rw [zi_to hx]; omega) (by rw [zi_to hx]; exact ho) ht (kk p l e s m args below meth c D cy base b H locs ls C HH LL)
theorem wa_tabled {dflt lo hi : Int} {offs : Array Int} {len : Nat} {x : Int} (tgt : Nat) (hd : decode μ.2.1 pc = .ok (.tableswitch dflt lo hi offs, len)) (hx : -2147483648 ≤ x ∧ x ≤ 2147483647) (h1 : x < lo ∨ hi < x) (ht : (pc : Int) + dflt = (tgt : Int)) (kk : Wa X μ R Z ce sl n S (tgt) L st Rf V) : Wa X μ R Z ce sl n S (pc) L (zI x :: st) Rf V := by
  intro p l e s m args below meth c D cy base b H locs ls C HH LL
  exact lv_tableOut C.1 C.2.1 hd (by rw [zi_to hx]; exact h1) ht (kk p l e s m args below meth c D cy base b H locs ls C HH LL)
theorem wa_lookup {dflt : Int} {ps : Array (Int × Int)} {len : Nat} {x : Int} {off : Int} (tgt : Nat) (hd : decode μ.2.1 pc = .ok (.lookupswitch dflt ps, len)) (hp : (ps.toList.zip (ps.toList.drop 1)).all (fun (a, next) => a.1 < next.1) = true) (hx : -2147483648 ≤ x ∧ x ≤ 2147483647) (ho : Op.lookupswitch.offset ps.toList dflt x = off) (ht : (pc : Int) + off = (tgt : Int)) (kk : Wa X μ R Z ce sl n S (tgt) L st Rf V) : Wa X μ R Z ce sl n S (pc) L (zI x :: st) Rf V := by
  intro p l e s m args below meth c D cy base b H locs ls C HH LL
  exact lv_lookup C.1 C.2.1 hd hp (by rw [zi_to hx]; exact ho) ht (kk p l e s m args below meth c D cy base b H locs ls C HH LL)

theorem wa_ild0  {T : List (Option zV)} {x : Int} (hd : decode μ.2.1 pc = .ok (.iload_n 0, 1)) (kk : Wa X μ R Z ce sl n S (pc + 1) (some (zI x) :: T) (zI x :: st) Rf V) : Wa X μ R Z ce sl n S (pc) (some (zI x) :: T) st Rf V := by
  intro p l e s m args below meth c D cy base b H locs ls C HH LL
  exact lv_iload_n C.1 C.2.1 hd rfl (LL.2.2 0 (zI x) rfl) (kk p l e s m args below meth c D cy base b H locs ls C HH LL)

theorem wa_lld0  {T : List (Option zV)} {x : Int} (hd : decode μ.2.1 pc = .ok (.lload_n 0, 1)) (kk : Wa X μ R Z ce sl n S (pc + 1) (some (zL x) :: T) (zL x :: st) Rf V) : Wa X μ R Z ce sl n S (pc) (some (zL x) :: T) st Rf V := by
  intro p l e s m args below meth c D cy base b H locs ls C HH LL
  exact lv_lload_n C.1 C.2.1 hd rfl (LL.2.2 0 (zL x) rfl) (kk p l e s m args below meth c D cy base b H locs ls C HH LL)

theorem wa_ald0  {T : List (Option zV)} {x : Nat} (hd : decode μ.2.1 pc = .ok (.aload_n 0, 1)) (kk : Wa X μ R Z ce sl n S (pc + 1) (some (zR x) :: T) (zR x :: st) Rf V) : Wa X μ R Z ce sl n S (pc) (some (zR x) :: T) st Rf V := by
  intro p l e s m args below meth c D cy base b H locs ls C HH LL
  exact lv_aload_n C.1 C.2.1 hd rfl (LL.2.2 0 (zR x) rfl) (kk p l e s m args below meth c D cy base b H locs ls C HH LL)

theorem wa_ild1 {a0 : Option zV} {T : List (Option zV)} {x : Int} (hd : decode μ.2.1 pc = .ok (.iload_n 1, 1)) (kk : Wa X μ R Z ce sl n S (pc + 1) (a0 :: some (zI x) :: T) (zI x :: st) Rf V) : Wa X μ R Z ce sl n S (pc) (a0 :: some (zI x) :: T) st Rf V := by
  intro p l e s m args below meth c D cy base b H locs ls C HH LL
  exact lv_iload_n C.1 C.2.1 hd rfl (LL.2.2 1 (zI x) rfl) (kk p l e s m args below meth c D cy base b H locs ls C HH LL)

theorem wa_lld1 {a0 : Option zV} {T : List (Option zV)} {x : Int} (hd : decode μ.2.1 pc = .ok (.lload_n 1, 1)) (kk : Wa X μ R Z ce sl n S (pc + 1) (a0 :: some (zL x) :: T) (zL x :: st) Rf V) : Wa X μ R Z ce sl n S (pc) (a0 :: some (zL x) :: T) st Rf V := by
  intro p l e s m args below meth c D cy base b H locs ls C HH LL
  exact lv_lload_n C.1 C.2.1 hd rfl (LL.2.2 1 (zL x) rfl) (kk p l e s m args below meth c D cy base b H locs ls C HH LL)

theorem wa_ald1 {a0 : Option zV} {T : List (Option zV)} {x : Nat} (hd : decode μ.2.1 pc = .ok (.aload_n 1, 1)) (kk : Wa X μ R Z ce sl n S (pc + 1) (a0 :: some (zR x) :: T) (zR x :: st) Rf V) : Wa X μ R Z ce sl n S (pc) (a0 :: some (zR x) :: T) st Rf V := by
  intro p l e s m args below meth c D cy base b H locs ls C HH LL
  exact lv_aload_n C.1 C.2.1 hd rfl (LL.2.2 1 (zR x) rfl) (kk p l e s m args below meth c D cy base b H locs ls C HH LL)

theorem wa_ild2 {a0 a1 : Option zV} {T : List (Option zV)} {x : Int} (hd : decode μ.2.1 pc = .ok (.iload_n 2, 1)) (kk : Wa X μ R Z ce sl n S (pc + 1) (a0 :: a1 :: some (zI x) :: T) (zI x :: st) Rf V) : Wa X μ R Z ce sl n S (pc) (a0 :: a1 :: some (zI x) :: T) st Rf V := by
  intro p l e s m args below meth c D cy base b H locs ls C HH LL
  exact lv_iload_n C.1 C.2.1 hd rfl (LL.2.2 2 (zI x) rfl) (kk p l e s m args below meth c D cy base b H locs ls C HH LL)

theorem wa_lld2 {a0 a1 : Option zV} {T : List (Option zV)} {x : Int} (hd : decode μ.2.1 pc = .ok (.lload_n 2, 1)) (kk : Wa X μ R Z ce sl n S (pc + 1) (a0 :: a1 :: some (zL x) :: T) (zL x :: st) Rf V) : Wa X μ R Z ce sl n S (pc) (a0 :: a1 :: some (zL x) :: T) st Rf V := by
  intro p l e s m args below meth c D cy base b H locs ls C HH LL
  exact lv_lload_n C.1 C.2.1 hd rfl (LL.2.2 2 (zL x) rfl) (kk p l e s m args below meth c D cy base b H locs ls C HH LL)

theorem wa_ald2 {a0 a1 : Option zV} {T : List (Option zV)} {x : Nat} (hd : decode μ.2.1 pc = .ok (.aload_n 2, 1)) (kk : Wa X μ R Z ce sl n S (pc + 1) (a0 :: a1 :: some (zR x) :: T) (zR x :: st) Rf V) : Wa X μ R Z ce sl n S (pc) (a0 :: a1 :: some (zR x) :: T) st Rf V := by
  intro p l e s m args below meth c D cy base b H locs ls C HH LL
  exact lv_aload_n C.1 C.2.1 hd rfl (LL.2.2 2 (zR x) rfl) (kk p l e s m args below meth c D cy base b H locs ls C HH LL)

theorem wa_ild3 {a0 a1 a2 : Option zV} {T : List (Option zV)} {x : Int} (hd : decode μ.2.1 pc = .ok (.iload_n 3, 1)) (kk : Wa X μ R Z ce sl n S (pc + 1) (a0 :: a1 :: a2 :: some (zI x) :: T) (zI x :: st) Rf V) : Wa X μ R Z ce sl n S (pc) (a0 :: a1 :: a2 :: some (zI x) :: T) st Rf V := by
  intro p l e s m args below meth c D cy base b H locs ls C HH LL
  exact lv_iload_n C.1 C.2.1 hd rfl (LL.2.2 3 (zI x) rfl) (kk p l e s m args below meth c D cy base b H locs ls C HH LL)

theorem wa_lld3 {a0 a1 a2 : Option zV} {T : List (Option zV)} {x : Int} (hd : decode μ.2.1 pc = .ok (.lload_n 3, 1)) (kk : Wa X μ R Z ce sl n S (pc + 1) (a0 :: a1 :: a2 :: some (zL x) :: T) (zL x :: st) Rf V) : Wa X μ R Z ce sl n S (pc) (a0 :: a1 :: a2 :: some (zL x) :: T) st Rf V := by
  intro p l e s m args below meth c D cy base b H locs ls C HH LL
  exact lv_lload_n C.1 C.2.1 hd rfl (LL.2.2 3 (zL x) rfl) (kk p l e s m args below meth c D cy base b H locs ls C HH LL)

theorem wa_ald3 {a0 a1 a2 : Option zV} {T : List (Option zV)} {x : Nat} (hd : decode μ.2.1 pc = .ok (.aload_n 3, 1)) (kk : Wa X μ R Z ce sl n S (pc + 1) (a0 :: a1 :: a2 :: some (zR x) :: T) (zR x :: st) Rf V) : Wa X μ R Z ce sl n S (pc) (a0 :: a1 :: a2 :: some (zR x) :: T) st Rf V := by
  intro p l e s m args below meth c D cy base b H locs ls C HH LL
  exact lv_aload_n C.1 C.2.1 hd rfl (LL.2.2 3 (zR x) rfl) (kk p l e s m args below meth c D cy base b H locs ls C HH LL)

theorem wa_ild4 {a0 a1 a2 a3 : Option zV} {T : List (Option zV)} {x : Int} (hd : decode μ.2.1 pc = .ok (.iload 4, 2)) (kk : Wa X μ R Z ce sl n S (pc + 2) (a0 :: a1 :: a2 :: a3 :: some (zI x) :: T) (zI x :: st) Rf V) : Wa X μ R Z ce sl n S (pc) (a0 :: a1 :: a2 :: a3 :: some (zI x) :: T) st Rf V := by
  intro p l e s m args below meth c D cy base b H locs ls C HH LL
  exact lv_iload C.1 C.2.1 hd (LL.2.2 4 (zI x) rfl) (kk p l e s m args below meth c D cy base b H locs ls C HH LL)

theorem wa_lld4 {a0 a1 a2 a3 : Option zV} {T : List (Option zV)} {x : Int} (hd : decode μ.2.1 pc = .ok (.lload 4, 2)) (kk : Wa X μ R Z ce sl n S (pc + 2) (a0 :: a1 :: a2 :: a3 :: some (zL x) :: T) (zL x :: st) Rf V) : Wa X μ R Z ce sl n S (pc) (a0 :: a1 :: a2 :: a3 :: some (zL x) :: T) st Rf V := by
  intro p l e s m args below meth c D cy base b H locs ls C HH LL
  exact lv_lload C.1 C.2.1 hd (LL.2.2 4 (zL x) rfl) (kk p l e s m args below meth c D cy base b H locs ls C HH LL)

theorem wa_ald4 {a0 a1 a2 a3 : Option zV} {T : List (Option zV)} {x : Nat} (hd : decode μ.2.1 pc = .ok (.aload 4, 2)) (kk : Wa X μ R Z ce sl n S (pc + 2) (a0 :: a1 :: a2 :: a3 :: some (zR x) :: T) (zR x :: st) Rf V) : Wa X μ R Z ce sl n S (pc) (a0 :: a1 :: a2 :: a3 :: some (zR x) :: T) st Rf V := by
  intro p l e s m args below meth c D cy base b H locs ls C HH LL
  exact lv_aload C.1 C.2.1 hd (LL.2.2 4 (zR x) rfl) (kk p l e s m args below meth c D cy base b H locs ls C HH LL)

theorem wa_ild5 {a0 a1 a2 a3 a4 : Option zV} {T : List (Option zV)} {x : Int} (hd : decode μ.2.1 pc = .ok (.iload 5, 2)) (kk : Wa X μ R Z ce sl n S (pc + 2) (a0 :: a1 :: a2 :: a3 :: a4 :: some (zI x) :: T) (zI x :: st) Rf V) : Wa X μ R Z ce sl n S (pc) (a0 :: a1 :: a2 :: a3 :: a4 :: some (zI x) :: T) st Rf V := by
  intro p l e s m args below meth c D cy base b H locs ls C HH LL
  exact lv_iload C.1 C.2.1 hd (LL.2.2 5 (zI x) rfl) (kk p l e s m args below meth c D cy base b H locs ls C HH LL)

theorem wa_lld5 {a0 a1 a2 a3 a4 : Option zV} {T : List (Option zV)} {x : Int} (hd : decode μ.2.1 pc = .ok (.lload 5, 2)) (kk : Wa X μ R Z ce sl n S (pc + 2) (a0 :: a1 :: a2 :: a3 :: a4 :: some (zL x) :: T) (zL x :: st) Rf V) : Wa X μ R Z ce sl n S (pc) (a0 :: a1 :: a2 :: a3 :: a4 :: some (zL x) :: T) st Rf V := by
  intro p l e s m args below meth c D cy base b H locs ls C HH LL
  exact lv_lload C.1 C.2.1 hd (LL.2.2 5 (zL x) rfl) (kk p l e s m args below meth c D cy base b H locs ls C HH LL)

theorem wa_ald5 {a0 a1 a2 a3 a4 : Option zV} {T : List (Option zV)} {x : Nat} (hd : decode μ.2.1 pc = .ok (.aload 5, 2)) (kk : Wa X μ R Z ce sl n S (pc + 2) (a0 :: a1 :: a2 :: a3 :: a4 :: some (zR x) :: T) (zR x :: st) Rf V) : Wa X μ R Z ce sl n S (pc) (a0 :: a1 :: a2 :: a3 :: a4 :: some (zR x) :: T) st Rf V := by
  intro p l e s m args below meth c D cy base b H locs ls C HH LL
  exact lv_aload C.1 C.2.1 hd (LL.2.2 5 (zR x) rfl) (kk p l e s m args below meth c D cy base b H locs ls C HH LL)

theorem wa_ild6 {a0 a1 a2 a3 a4 a5 : Option zV} {T : List (Option zV)} {x : Int} (hd : decode μ.2.1 pc = .ok (.iload 6, 2)) (kk : Wa X μ R Z ce sl n S (pc + 2) (a0 :: a1 :: a2 :: a3 :: a4 :: a5 :: some (zI x) :: T) (zI x :: st) Rf V) : Wa X μ R Z ce sl n S (pc) (a0 :: a1 :: a2 :: a3 :: a4 :: a5 :: some (zI x) :: T) st Rf V := by
  intro p l e s m args below meth c D cy base b H locs ls C HH LL
  exact lv_iload C.1 C.2.1 hd (LL.2.2 6 (zI x) rfl) (kk p l e s m args below meth c D cy base b H locs ls C HH LL)

theorem wa_lld6 {a0 a1 a2 a3 a4 a5 : Option zV} {T : List (Option zV)} {x : Int} (hd : decode μ.2.1 pc = .ok (.lload 6, 2)) (kk : Wa X μ R Z ce sl n S (pc + 2) (a0 :: a1 :: a2 :: a3 :: a4 :: a5 :: some (zL x) :: T) (zL x :: st) Rf V) : Wa X μ R Z ce sl n S (pc) (a0 :: a1 :: a2 :: a3 :: a4 :: a5 :: some (zL x) :: T) st Rf V := by
  intro p l e s m args below meth c D cy base b H locs ls C HH LL
  exact lv_lload C.1 C.2.1 hd (LL.2.2 6 (zL x) rfl) (kk p l e s m args below meth c D cy base b H locs ls C HH LL)

theorem wa_ald6 {a0 a1 a2 a3 a4 a5 : Option zV} {T : List (Option zV)} {x : Nat} (hd : decode μ.2.1 pc = .ok (.aload 6, 2)) (kk : Wa X μ R Z ce sl n S (pc + 2) (a0 :: a1 :: a2 :: a3 :: a4 :: a5 :: some (zR x) :: T) (zR x :: st) Rf V) : Wa X μ R Z ce sl n S (pc) (a0 :: a1 :: a2 :: a3 :: a4 :: a5 :: some (zR x) :: T) st Rf V := by
  intro p l e s m args below meth c D cy base b H locs ls C HH LL
  exact lv_aload C.1 C.2.1 hd (LL.2.2 6 (zR x) rfl) (kk p l e s m args below meth c D cy base b H locs ls C HH LL)

theorem wa_ild7 {a0 a1 a2 a3 a4 a5 a6 : Option zV} {T : List (Option zV)} {x : Int} (hd : decode μ.2.1 pc = .ok (.iload 7, 2)) (kk : Wa X μ R Z ce sl n S (pc + 2) (a0 :: a1 :: a2 :: a3 :: a4 :: a5 :: a6 :: some (zI x) :: T) (zI x :: st) Rf V) : Wa X μ R Z ce sl n S (pc) (a0 :: a1 :: a2 :: a3 :: a4 :: a5 :: a6 :: some (zI x) :: T) st Rf V := by
  intro p l e s m args below meth c D cy base b H locs ls C HH LL
  exact lv_iload C.1 C.2.1 hd (LL.2.2 7 (zI x) rfl) (kk p l e s m args below meth c D cy base b H locs ls C HH LL)

theorem wa_lld7 {a0 a1 a2 a3 a4 a5 a6 : Option zV} {T : List (Option zV)} {x : Int} (hd : decode μ.2.1 pc = .ok (.lload 7, 2)) (kk : Wa X μ R Z ce sl n S (pc + 2) (a0 :: a1 :: a2 :: a3 :: a4 :: a5 :: a6 :: some (zL x) :: T) (zL x :: st) Rf V) : Wa X μ R Z ce sl n S (pc) (a0 :: a1 :: a2 :: a3 :: a4 :: a5 :: a6 :: some (zL x) :: T) st Rf V := by
  intro p l e s m args below meth c D cy base b H locs ls C HH LL
  exact lv_lload C.1 C.2.1 hd (LL.2.2 7 (zL x) rfl) (kk p l e s m args below meth c D cy base b H locs ls C HH LL)

theorem wa_ald7 {a0 a1 a2 a3 a4 a5 a6 : Option zV} {T : List (Option zV)} {x : Nat} (hd : decode μ.2.1 pc = .ok (.aload 7, 2)) (kk : Wa X μ R Z ce sl n S (pc + 2) (a0 :: a1 :: a2 :: a3 :: a4 :: a5 :: a6 :: some (zR x) :: T) (zR x :: st) Rf V) : Wa X μ R Z ce sl n S (pc) (a0 :: a1 :: a2 :: a3 :: a4 :: a5 :: a6 :: some (zR x) :: T) st Rf V := by
  intro p l e s m args below meth c D cy base b H locs ls C HH LL
  exact lv_aload C.1 C.2.1 hd (LL.2.2 7 (zR x) rfl) (kk p l e s m args below meth c D cy base b H locs ls C HH LL)

theorem wa_ild8 {a0 a1 a2 a3 a4 a5 a6 a7 : Option zV} {T : List (Option zV)} {x : Int} (hd : decode μ.2.1 pc = .ok (.iload 8, 2)) (kk : Wa X μ R Z ce sl n S (pc + 2) (a0 :: a1 :: a2 :: a3 :: a4 :: a5 :: a6 :: a7 :: some (zI x) :: T) (zI x :: st) Rf V) : Wa X μ R Z ce sl n S (pc) (a0 :: a1 :: a2 :: a3 :: a4 :: a5 :: a6 :: a7 :: some (zI x) :: T) st Rf V := by
  intro p l e s m args below meth c D cy base b H locs ls C HH LL
  exact lv_iload C.1 C.2.1 hd (LL.2.2 8 (zI x) rfl) (kk p l e s m args below meth c D cy base b H locs ls C HH LL)

theorem wa_lld8 {a0 a1 a2 a3 a4 a5 a6 a7 : Option zV} {T : List (Option zV)} {x : Int} (hd : decode μ.2.1 pc = .ok (.lload 8, 2)) (kk : Wa X μ R Z ce sl n S (pc + 2) (a0 :: a1 :: a2 :: a3 :: a4 :: a5 :: a6 :: a7 :: some (zL x) :: T) (zL x :: st) Rf V) : Wa X μ R Z ce sl n S (pc) (a0 :: a1 :: a2 :: a3 :: a4 :: a5 :: a6 :: a7 :: some (zL x) :: T) st Rf V := by
  intro p l e s m args below meth c D cy base b H locs ls C HH LL
  exact lv_lload C.1 C.2.1 hd (LL.2.2 8 (zL x) rfl) (kk p l e s m args below meth c D cy base b H locs ls C HH LL)

theorem wa_ald8 {a0 a1 a2 a3 a4 a5 a6 a7 : Option zV} {T : List (Option zV)} {x : Nat} (hd : decode μ.2.1 pc = .ok (.aload 8, 2)) (kk : Wa X μ R Z ce sl n S (pc + 2) (a0 :: a1 :: a2 :: a3 :: a4 :: a5 :: a6 :: a7 :: some (zR x) :: T) (zR x :: st) Rf V) : Wa X μ R Z ce sl n S (pc) (a0 :: a1 :: a2 :: a3 :: a4 :: a5 :: a6 :: a7 :: some (zR x) :: T) st Rf V := by
  intro p l e s m args below meth c D cy base b H locs ls C HH LL
  exact lv_aload C.1 C.2.1 hd (LL.2.2 8 (zR x) rfl) (kk p l e s m args below meth c D cy base b H locs ls C HH LL)

theorem wa_ild9 {a0 a1 a2 a3 a4 a5 a6 a7 a8 : Option zV} {T : List (Option zV)} {x : Int} (hd : decode μ.2.1 pc = .ok (.iload 9, 2)) (kk : Wa X μ R Z ce sl n S (pc + 2) (a0 :: a1 :: a2 :: a3 :: a4 :: a5 :: a6 :: a7 :: a8 :: some (zI x) :: T) (zI x :: st) Rf V) : Wa X μ R Z ce sl n S (pc) (a0 :: a1 :: a2 :: a3 :: a4 :: a5 :: a6 :: a7 :: a8 :: some (zI x) :: T) st Rf V := by
  intro p l e s m args below meth c D cy base b H locs ls C HH LL
  exact lv_iload C.1 C.2.1 hd (LL.2.2 9 (zI x) rfl) (kk p l e s m args below meth c D cy base b H locs ls C HH LL)

theorem wa_lld9 {a0 a1 a2 a3 a4 a5 a6 a7 a8 : Option zV} {T : List (Option zV)} {x : Int} (hd : decode μ.2.1 pc = .ok (.lload 9, 2)) (kk : Wa X μ R Z ce sl n S (pc + 2) (a0 :: a1 :: a2 :: a3 :: a4 :: a5 :: a6 :: a7 :: a8 :: some (zL x) :: T) (zL x :: st) Rf V) : Wa X μ R Z ce sl n S (pc) (a0 :: a1 :: a2 :: a3 :: a4 :: a5 :: a6 :: a7 :: a8 :: some (zL x) :: T) st Rf V := by
  intro p l e s m args below meth c D cy base b H locs ls C HH LL
  exact lv_lload C.1 C.2.1 hd (LL.2.2 9 (zL x) rfl) (kk p l e s m args below meth c D cy base b H locs ls C HH LL)

theorem wa_ald9 {a0 a1 a2 a3 a4 a5 a6 a7 a8 : Option zV} {T : List (Option zV)} {x : Nat} (hd : decode μ.2.1 pc = .ok (.aload 9, 2)) (kk : Wa X μ R Z ce sl n S (pc + 2) (a0 :: a1 :: a2 :: a3 :: a4 :: a5 :: a6 :: a7 :: a8 :: some (zR x) :: T) (zR x :: st) Rf V) : Wa X μ R Z ce sl n S (pc) (a0 :: a1 :: a2 :: a3 :: a4 :: a5 :: a6 :: a7 :: a8 :: some (zR x) :: T) st Rf V := by
  intro p l e s m args below meth c D cy base b H locs ls C HH LL
  exact lv_aload C.1 C.2.1 hd (LL.2.2 9 (zR x) rfl) (kk p l e s m args below meth c D cy base b H locs ls C HH LL)

theorem wa_ild10 {a0 a1 a2 a3 a4 a5 a6 a7 a8 a9 : Option zV} {T : List (Option zV)} {x : Int} (hd : decode μ.2.1 pc = .ok (.iload 10, 2)) (kk : Wa X μ R Z ce sl n S (pc + 2) (a0 :: a1 :: a2 :: a3 :: a4 :: a5 :: a6 :: a7 :: a8 :: a9 :: some (zI x) :: T) (zI x :: st) Rf V) : Wa X μ R Z ce sl n S (pc) (a0 :: a1 :: a2 :: a3 :: a4 :: a5 :: a6 :: a7 :: a8 :: a9 :: some (zI x) :: T) st Rf V := by
  intro p l e s m args below meth c D cy base b H locs ls C HH LL
  exact lv_iload C.1 C.2.1 hd (LL.2.2 10 (zI x) rfl) (kk p l e s m args below meth c D cy base b H locs ls C HH LL)

theorem wa_lld10 {a0 a1 a2 a3 a4 a5 a6 a7 a8 a9 : Option zV} {T : List (Option zV)} {x : Int} (hd : decode μ.2.1 pc = .ok (.lload 10, 2)) (kk : Wa X μ R Z ce sl n S (pc + 2) (a0 :: a1 :: a2 :: a3 :: a4 :: a5 :: a6 :: a7 :: a8 :: a9 :: some (zL x) :: T) (zL x :: st) Rf V) : Wa X μ R Z ce sl n S (pc) (a0 :: a1 :: a2 :: a3 :: a4 :: a5 :: a6 :: a7 :: a8 :: a9 :: some (zL x) :: T) st Rf V := by
  intro p l e s m args below meth c D cy base b H locs ls C HH LL
  exact lv_lload C.1 C.2.1 hd (LL.2.2 10 (zL x) rfl) (kk p l e s m args below meth c D cy base b H locs ls C HH LL)

theorem wa_ald10 {a0 a1 a2 a3 a4 a5 a6 a7 a8 a9 : Option zV} {T : List (Option zV)} {x : Nat} (hd : decode μ.2.1 pc = .ok (.aload 10, 2)) (kk : Wa X μ R Z ce sl n S (pc + 2) (a0 :: a1 :: a2 :: a3 :: a4 :: a5 :: a6 :: a7 :: a8 :: a9 :: some (zR x) :: T) (zR x :: st) Rf V) : Wa X μ R Z ce sl n S (pc) (a0 :: a1 :: a2 :: a3 :: a4 :: a5 :: a6 :: a7 :: a8 :: a9 :: some (zR x) :: T) st Rf V := by
  intro p l e s m args below meth c D cy base b H locs ls C HH LL
  exact lv_aload C.1 C.2.1 hd (LL.2.2 10 (zR x) rfl) (kk p l e s m args below meth c D cy base b H locs ls C HH LL)

theorem wa_ild11 {a0 a1 a2 a3 a4 a5 a6 a7 a8 a9 a10 : Option zV} {T : List (Option zV)} {x : Int} (hd : decode μ.2.1 pc = .ok (.iload 11, 2)) (kk : Wa X μ R Z ce sl n S (pc + 2) (a0 :: a1 :: a2 :: a3 :: a4 :: a5 :: a6 :: a7 :: a8 :: a9 :: a10 :: some (zI x) :: T) (zI x :: st) Rf V) : Wa X μ R Z ce sl n S (pc) (a0 :: a1 :: a2 :: a3 :: a4 :: a5 :: a6 :: a7 :: a8 :: a9 :: a10 :: some (zI x) :: T) st Rf V := by
  intro p l e s m args below meth c D cy base b H locs ls C HH LL
  exact lv_iload C.1 C.2.1 hd (LL.2.2 11 (zI x) rfl) (kk p l e s m args below meth c D cy base b H locs ls C HH LL)

theorem wa_lld11 {a0 a1 a2 a3 a4 a5 a6 a7 a8 a9 a10 : Option zV} {T : List (Option zV)} {x : Int} (hd : decode μ.2.1 pc = .ok (.lload 11, 2)) (kk : Wa X μ R Z ce sl n S (pc + 2) (a0 :: a1 :: a2 :: a3 :: a4 :: a5 :: a6 :: a7 :: a8 :: a9 :: a10 :: some (zL x) :: T) (zL x :: st) Rf V) : Wa X μ R Z ce sl n S (pc) (a0 :: a1 :: a2 :: a3 :: a4 :: a5 :: a6 :: a7 :: a8 :: a9 :: a10 :: some (zL x) :: T) st Rf V := by
  intro p l e s m args below meth c D cy base b H locs ls C HH LL
  exact lv_lload C.1 C.2.1 hd (LL.2.2 11 (zL x) rfl) (kk p l e s m args below meth c D cy base b H locs ls C HH LL)

theorem wa_ald11 {a0 a1 a2 a3 a4 a5 a6 a7 a8 a9 a10 : Option zV} {T : List (Option zV)} {x : Nat} (hd : decode μ.2.1 pc = .ok (.aload 11, 2)) (kk : Wa X μ R Z ce sl n S (pc + 2) (a0 :: a1 :: a2 :: a3 :: a4 :: a5 :: a6 :: a7 :: a8 :: a9 :: a10 :: some (zR x) :: T) (zR x :: st) Rf V) : Wa X μ R Z ce sl n S (pc) (a0 :: a1 :: a2 :: a3 :: a4 :: a5 :: a6 :: a7 :: a8 :: a9 :: a10 :: some (zR x) :: T) st Rf V := by
  intro p l e s m args below meth c D cy base b H locs ls C HH LL
  exact lv_aload C.1 C.2.1 hd (LL.2.2 11 (zR x) rfl) (kk p l e s m args below meth c D cy base b H locs ls C HH LL)

/-- the listed locals -/
def zlv (base b : Nat) (L : List (Option zV)) (nL : Nat) : List (Nat × Value) := (List.range nL).filterMap (fun i => match L[i]? with
  | some (some v) => some (i, zu base b v)
  | _ => none)
theorem zlv_mem {base b : Nat} {L : List (Option zV)} {nL : Nat} {q : Nat × Value} : q ∈ zlv base b L nL ↔ ∃ (i : Nat) (v : zV), i < nL ∧ L[i]? = some (some v) ∧ q = (i, zu base b v) := by
  unfold zlv
  rw [List.mem_filterMap]
  constructor
  · rintro ⟨i, hi, hq⟩
    rw [List.mem_range] at hi
    cases h : L[i]? with
    | none => rw [h] at hq; cases hq
    | some o =>
      cases o with
      | none => rw [h] at hq; cases hq
      | some v => rw [h] at hq; exact ⟨i, v, hi, h, (Option.some.inj hq).symm⟩
  · rintro ⟨i, v, hi, h, rfl⟩
    exact ⟨i, List.mem_range.mpr hi, by rw [h]⟩
theorem zls_has {base b nL : Nat} {L : List (Option zV)} {ls : Array Slot} (h : zLs base b nL L ls) : lv_has ls nL (zlv base b L nL) := by
  refine ⟨h.1, h.2.1, fun q hq => ?_⟩
  obtain ⟨i, v, -, hv, rfl⟩ := zlv_mem.mp hq
  exact h.2.2 i v hv
theorem zls_set {base b nL i : Nat} {x : zV} {L : List (Option zV)} {ls ls' : Array Slot} (h : zLs base b nL L ls) (hp : ∀ j, j + 1 = i → ∀ v, L[j]? = some (some v) → zcat v = 1)
    (h' : lv_has ls' nL ((i, zu base b x) :: (zlv base b L nL).filter (fun q => !(q.1 == i) && !(q.1 + 1 == i && q.2.category == 2)))) : zLs base b nL (L.set i (some x)) ls' := by
  refine ⟨h'.1, h'.2.1, fun j v hv => ?_⟩
  rw [List.getElem?_set] at hv
  by_cases hij : i = j
  · subst hij
    rw [if_pos rfl] at hv
    split at hv
    · cases hv; exact h'.2.2 _ List.mem_cons_self
    · cases hv
  · rw [if_neg hij] at hv
    have hj : j < nL := by have := lv_lt (h.2.2 j v hv); rw [h.1] at this; exact this
    refine h'.2.2 (j, zu base b v) (List.mem_cons_of_mem _ (List.mem_filter.mpr ⟨zlv_mem.mpr ⟨j, v, hj, hv, rfl⟩, ?_⟩))
    have h1 : (j == i) = false := by simp; omega
    by_cases h2 : j + 1 = i
    · have h3 := hp j h2 v hv
      simp [h1, zu_cat, h3]
    · have h3 : (j + 1 == i) = false := by simp; omega
      simp [h1, h3]
theorem zls_setL {base b nL i : Nat} {x : Int} {L : List (Option zV)} {ls ls' : Array Slot} (h : zLs base b nL L ls) (hp : ∀ j, j + 1 = i → ∀ v, L[j]? = some (some v) → zcat v = 1)
    (h' : lv_has ls' nL ((i, zu base b (zL x)) :: (zlv base b L nL).filter (fun q => !(q.1 == i) && (!(q.1 == i + 1) && !(q.1 + 1 == i && q.2.category == 2))))) : zLs base b nL ((L.set i (some (zL x))).set (i + 1) none) ls' := by
  refine ⟨h'.1, h'.2.1, fun j v hv => ?_⟩
  rw [List.getElem?_set] at hv
  by_cases hi1 : i + 1 = j
  · rw [if_pos hi1] at hv
    split at hv <;> cases hv
  · rw [if_neg hi1, List.getElem?_set] at hv
    by_cases hij : i = j
    · subst hij
      rw [if_pos rfl] at hv
      split at hv
      · cases hv; exact h'.2.2 _ List.mem_cons_self
      · cases hv
    · rw [if_neg hij] at hv
      have hj : j < nL := by have := lv_lt (h.2.2 j v hv); rw [h.1] at this; exact this
      refine h'.2.2 (j, zu base b v) (List.mem_cons_of_mem _ (List.mem_filter.mpr ⟨zlv_mem.mpr ⟨j, v, hj, hv, rfl⟩, ?_⟩))
      have h1 : (j == i) = false := by simp; omega
      have h0 : (j == i + 1) = false := by simp; omega
      by_cases h2 : j + 1 = i
      · have h3 := hp j h2 v hv
        simp [h1, h0, zu_cat, h3]
      · have h3 : (j + 1 == i) = false := by simp; omega
        simp [h1, h0, h3]
theorem zok_spec {o : Option zV} {v : zV} (h : zok o = true) (hv : some o = some (some v)) : zcat v = 1 := by
  cases hv; simpa [zok] using h

theorem wa_ist0 {o : Option zV} {T : List (Option zV)} {x : Int} (hd : decode μ.2.1 pc = .ok (.istore_n 0, 1)) (hn : 0 < μ.2.2.1)  (kk : Wa X μ R Z ce sl n S (pc + 1) (some (zI x) :: T) st Rf V) : Wa X μ R Z ce sl n S (pc) (o :: T) (zI x :: st) Rf V := by
  intro p l e s m args below meth c D cy base b H locs ls C HH LL
  refine lv_istore_n C.1 C.2.1 hd rfl (zls_has LL) hn rfl (fun ls' h' => ?_)
  exact kk p l e s m args below meth c D cy base b H locs ls' C HH (zls_set (x := zI x) LL (fun j hj => by omega) h')

theorem wa_ast0 {o : Option zV} {T : List (Option zV)} {x : Nat} (hd : decode μ.2.1 pc = .ok (.astore_n 0, 1)) (hn : 0 < μ.2.2.1)  (kk : Wa X μ R Z ce sl n S (pc + 1) (some (zR x) :: T) st Rf V) : Wa X μ R Z ce sl n S (pc) (o :: T) (zR x :: st) Rf V := by
  intro p l e s m args below meth c D cy base b H locs ls C HH LL
  refine lv_astore_n C.1 C.2.1 hd rfl (zls_has LL) hn rfl (fun ls' h' => ?_)
  exact kk p l e s m args below meth c D cy base b H locs ls' C HH (zls_set (x := zR x) LL (fun j hj => by omega) h')

theorem wa_iinc0  {T : List (Option zV)} {x k : Int} (hd : decode μ.2.1 pc = .ok (.iinc 0 k, 3)) (hn : 0 < μ.2.2.1)  (kk : Wa X μ R Z ce sl n S (pc + 3) (some (zI (x + k)) :: T) st Rf V) : Wa X μ R Z ce sl n S (pc) (some (zI x) :: T) st Rf V := by
  intro p l e s m args below meth c D cy base b H locs ls C HH LL
  have hm : (0, zu base b (zI x)) ∈ zlv base b (some (zI x) :: T) μ.2.2.1 := zlv_mem.mpr ⟨0, zI x, hn, rfl, rfl⟩
  obtain ⟨q, hq⟩ := List.getElem?_of_mem hm
  refine lv_iinc C.1 C.2.1 hd (zls_has LL) hq (Int32.ofInt_add x k).symm hn rfl (fun ls' h' => ?_)
  exact kk p l e s m args below meth c D cy base b H locs ls' C HH (zls_set (x := zI (x + k)) LL (fun j hj => by omega) h')

theorem wa_ist1 {a0 o : Option zV} {T : List (Option zV)} {x : Int} (hd : decode μ.2.1 pc = .ok (.istore_n 1, 1)) (hn : 1 < μ.2.2.1) (hz : zok a0 = true) (kk : Wa X μ R Z ce sl n S (pc + 1) (a0 :: some (zI x) :: T) st Rf V) : Wa X μ R Z ce sl n S (pc) (a0 :: o :: T) (zI x :: st) Rf V := by
  intro p l e s m args below meth c D cy base b H locs ls C HH LL
  refine lv_istore_n C.1 C.2.1 hd rfl (zls_has LL) hn rfl (fun ls' h' => ?_)
  exact kk p l e s m args below meth c D cy base b H locs ls' C HH (zls_set (x := zI x) LL (fun j hj v hv => by (obtain rfl : j = 0 := (by omega)); exact zok_spec hz hv) h')

theorem wa_ast1 {a0 o : Option zV} {T : List (Option zV)} {x : Nat} (hd : decode μ.2.1 pc = .ok (.astore_n 1, 1)) (hn : 1 < μ.2.2.1) (hz : zok a0 = true) (kk : Wa X μ R Z ce sl n S (pc + 1) (a0 :: some (zR x) :: T) st Rf V) : Wa X μ R Z ce sl n S (pc) (a0 :: o :: T) (zR x :: st) Rf V := by
  intro p l e s m args below meth c D cy base b H locs ls C HH LL
  refine lv_astore_n C.1 C.2.1 hd rfl (zls_has LL) hn rfl (fun ls' h' => ?_)
  exact kk p l e s m args below meth c D cy base b H locs ls' C HH (zls_set (x := zR x) LL (fun j hj v hv => by (obtain rfl : j = 0 := (by omega)); exact zok_spec hz hv) h')

theorem wa_iinc1 {a0 : Option zV} {T : List (Option zV)} {x k : Int} (hd : decode μ.2.1 pc = .ok (.iinc 1 k, 3)) (hn : 1 < μ.2.2.1) (hz : zok a0 = true) (kk : Wa X μ R Z ce sl n S (pc + 3) (a0 :: some (zI (x + k)) :: T) st Rf V) : Wa X μ R Z ce sl n S (pc) (a0 :: some (zI x) :: T) st Rf V := by
  intro p l e s m args below meth c D cy base b H locs ls C HH LL
  have hm : (1, zu base b (zI x)) ∈ zlv base b (a0 :: some (zI x) :: T) μ.2.2.1 := zlv_mem.mpr ⟨1, zI x, hn, rfl, rfl⟩
  obtain ⟨q, hq⟩ := List.getElem?_of_mem hm
  refine lv_iinc C.1 C.2.1 hd (zls_has LL) hq (Int32.ofInt_add x k).symm hn rfl (fun ls' h' => ?_)
  exact kk p l e s m args below meth c D cy base b H locs ls' C HH (zls_set (x := zI (x + k)) LL (fun j hj v hv => by (obtain rfl : j = 0 := (by omega)); exact zok_spec hz hv) h')

theorem wa_ist2 {a0 a1 o : Option zV} {T : List (Option zV)} {x : Int} (hd : decode μ.2.1 pc = .ok (.istore_n 2, 1)) (hn : 2 < μ.2.2.1) (hz : zok a1 = true) (kk : Wa X μ R Z ce sl n S (pc + 1) (a0 :: a1 :: some (zI x) :: T) st Rf V) : Wa X μ R Z ce sl n S (pc) (a0 :: a1 :: o :: T) (zI x :: st) Rf V := by
  intro p l e s m args below meth c D cy base b H locs ls C HH LL
  refine lv_istore_n C.1 C.2.1 hd rfl (zls_has LL) hn rfl (fun ls' h' => ?_)
  exact kk p l e s m args below meth c D cy base b H locs ls' C HH (zls_set (x := zI x) LL (fun j hj v hv => by (obtain rfl : j = 1 := (by omega)); exact zok_spec hz hv) h')

theorem wa_ast2 {a0 a1 o : Option zV} {T : List (Option zV)} {x : Nat} (hd : decode μ.2.1 pc = .ok (.astore_n 2, 1)) (hn : 2 < μ.2.2.1) (hz : zok a1 = true) (kk : Wa X μ R Z ce sl n S (pc + 1) (a0 :: a1 :: some (zR x) :: T) st Rf V) : Wa X μ R Z ce sl n S (pc) (a0 :: a1 :: o :: T) (zR x :: st) Rf V := by
  intro p l e s m args below meth c D cy base b H locs ls C HH LL
  refine lv_astore_n C.1 C.2.1 hd rfl (zls_has LL) hn rfl (fun ls' h' => ?_)
  exact kk p l e s m args below meth c D cy base b H locs ls' C HH (zls_set (x := zR x) LL (fun j hj v hv => by (obtain rfl : j = 1 := (by omega)); exact zok_spec hz hv) h')

theorem wa_iinc2 {a0 a1 : Option zV} {T : List (Option zV)} {x k : Int} (hd : decode μ.2.1 pc = .ok (.iinc 2 k, 3)) (hn : 2 < μ.2.2.1) (hz : zok a1 = true) (kk : Wa X μ R Z ce sl n S (pc + 3) (a0 :: a1 :: some (zI (x + k)) :: T) st Rf V) : Wa X μ R Z ce sl n S (pc) (a0 :: a1 :: some (zI x) :: T) st Rf V := by
  intro p l e s m args below meth c D cy base b H locs ls C HH LL
  have hm : (2, zu base b (zI x)) ∈ zlv base b (a0 :: a1 :: some (zI x) :: T) μ.2.2.1 := zlv_mem.mpr ⟨2, zI x, hn, rfl, rfl⟩
  obtain ⟨q, hq⟩ := List.getElem?_of_mem hm
  refine lv_iinc C.1 C.2.1 hd (zls_has LL) hq (Int32.ofInt_add x k).symm hn rfl (fun ls' h' => ?_)
  exact kk p l e s m args below meth c D cy base b H locs ls' C HH (zls_set (x := zI (x + k)) LL (fun j hj v hv => by (obtain rfl : j = 1 := (by omega)); exact zok_spec hz hv) h')

theorem wa_ist3 {a0 a1 a2 o : Option zV} {T : List (Option zV)} {x : Int} (hd : decode μ.2.1 pc = .ok (.istore_n 3, 1)) (hn : 3 < μ.2.2.1) (hz : zok a2 = true) (kk : Wa X μ R Z ce sl n S (pc + 1) (a0 :: a1 :: a2 :: some (zI x) :: T) st Rf V) : Wa X μ R Z ce sl n S (pc) (a0 :: a1 :: a2 :: o :: T) (zI x :: st) Rf V := by
  intro p l e s m args below meth c D cy base b H locs ls C HH LL
  refine lv_istore_n C.1 C.2.1 hd rfl (zls_has LL) hn rfl (fun ls' h' => ?_)
  exact kk p l e s m args below meth c D cy base b H locs ls' C HH (zls_set (x := zI x) LL (fun j hj v hv => by (obtain rfl : j = 2 := (by omega)); exact zok_spec hz hv) h')

theorem wa_ast3 {a0 a1 a2 o : Option zV} {T : List (Option zV)} {x : Nat} (hd : decode μ.2.1 pc = .ok (.astore_n 3, 1)) (hn : 3 < μ.2.2.1) (hz : zok a2 = true) (kk : Wa X μ R Z ce sl n S (pc + 1) (a0 :: a1 :: a2 :: some (zR x) :: T) st Rf V) : Wa X μ R Z ce sl n S (pc) (a0 :: a1 :: a2 :: o :: T) (zR x :: st) Rf V := by
  intro p l e s m args below meth c D cy base b H locs ls C HH LL
  refine lv_astore_n C.1 C.2.1 hd rfl (zls_has LL) hn rfl (fun ls' h' => ?_)
  exact kk p l e s m args below meth c D cy base b H locs ls' C HH (zls_set (x := zR x) LL (fun j hj v hv => by (obtain rfl : j = 2 := (by omega)); exact zok_spec hz hv) h')

theorem wa_iinc3 {a0 a1 a2 : Option zV} {T : List (Option zV)} {x k : Int} (hd : decode μ.2.1 pc = .ok (.iinc 3 k, 3)) (hn : 3 < μ.2.2.1) (hz : zok a2 = true) (kk : Wa X μ R Z ce sl n S (pc + 3) (a0 :: a1 :: a2 :: some (zI (x + k)) :: T) st Rf V) : Wa X μ R Z ce sl n S (pc) (a0 :: a1 :: a2 :: some (zI x) :: T) st Rf V := by
  intro p l e s m args below meth c D cy base b H locs ls C HH LL
  have hm : (3, zu base b (zI x)) ∈ zlv base b (a0 :: a1 :: a2 :: some (zI x) :: T) μ.2.2.1 := zlv_mem.mpr ⟨3, zI x, hn, rfl, rfl⟩
  obtain ⟨q, hq⟩ := List.getElem?_of_mem hm
  refine lv_iinc C.1 C.2.1 hd (zls_has LL) hq (Int32.ofInt_add x k).symm hn rfl (fun ls' h' => ?_)
  exact kk p l e s m args below meth c D cy base b H locs ls' C HH (zls_set (x := zI (x + k)) LL (fun j hj v hv => by (obtain rfl : j = 2 := (by omega)); exact zok_spec hz hv) h')

theorem wa_ist4 {a0 a1 a2 a3 o : Option zV} {T : List (Option zV)} {x : Int} (hd : decode μ.2.1 pc = .ok (.istore 4, 2)) (hn : 4 < μ.2.2.1) (hz : zok a3 = true) (kk : Wa X μ R Z ce sl n S (pc + 2) (a0 :: a1 :: a2 :: a3 :: some (zI x) :: T) st Rf V) : Wa X μ R Z ce sl n S (pc) (a0 :: a1 :: a2 :: a3 :: o :: T) (zI x :: st) Rf V := by
  intro p l e s m args below meth c D cy base b H locs ls C HH LL
  refine lv_istore C.1 C.2.1 hd (zls_has LL) hn rfl (fun ls' h' => ?_)
  exact kk p l e s m args below meth c D cy base b H locs ls' C HH (zls_set (x := zI x) LL (fun j hj v hv => by (obtain rfl : j = 3 := (by omega)); exact zok_spec hz hv) h')

theorem wa_ast4 {a0 a1 a2 a3 o : Option zV} {T : List (Option zV)} {x : Nat} (hd : decode μ.2.1 pc = .ok (.astore 4, 2)) (hn : 4 < μ.2.2.1) (hz : zok a3 = true) (kk : Wa X μ R Z ce sl n S (pc + 2) (a0 :: a1 :: a2 :: a3 :: some (zR x) :: T) st Rf V) : Wa X μ R Z ce sl n S (pc) (a0 :: a1 :: a2 :: a3 :: o :: T) (zR x :: st) Rf V := by
  intro p l e s m args below meth c D cy base b H locs ls C HH LL
  refine lv_astore C.1 C.2.1 hd (zls_has LL) hn rfl (fun ls' h' => ?_)
  exact kk p l e s m args below meth c D cy base b H locs ls' C HH (zls_set (x := zR x) LL (fun j hj v hv => by (obtain rfl : j = 3 := (by omega)); exact zok_spec hz hv) h')

theorem wa_iinc4 {a0 a1 a2 a3 : Option zV} {T : List (Option zV)} {x k : Int} (hd : decode μ.2.1 pc = .ok (.iinc 4 k, 3)) (hn : 4 < μ.2.2.1) (hz : zok a3 = true) (kk : Wa X μ R Z ce sl n S (pc + 3) (a0 :: a1 :: a2 :: a3 :: some (zI (x + k)) :: T) st Rf V) : Wa X μ R Z ce sl n S (pc) (a0 :: a1 :: a2 :: a3 :: some (zI x) :: T) st Rf V := by
  intro p l e s m args below meth c D cy base b H locs ls C HH LL
  have hm : (4, zu base b (zI x)) ∈ zlv base b (a0 :: a1 :: a2 :: a3 :: some (zI x) :: T) μ.2.2.1 := zlv_mem.mpr ⟨4, zI x, hn, rfl, rfl⟩
  obtain ⟨q, hq⟩ := List.getElem?_of_mem hm
  refine lv_iinc C.1 C.2.1 hd (zls_has LL) hq (Int32.ofInt_add x k).symm hn rfl (fun ls' h' => ?_)
  exact kk p l e s m args below meth c D cy base b H locs ls' C HH (zls_set (x := zI (x + k)) LL (fun j hj v hv => by (obtain rfl : j = 3 := (by omega)); exact zok_spec hz hv) h')

theorem wa_ist5 {a0 a1 a2 a3 a4 o : Option zV} {T : List (Option zV)} {x : Int} (hd : decode μ.2.1 pc = .ok (.istore 5, 2)) (hn : 5 < μ.2.2.1) (hz : zok a4 = true) (kk : Wa X μ R Z ce sl n S (pc + 2) (a0 :: a1 :: a2 :: a3 :: a4 :: some (zI x) :: T) st Rf V) : Wa X μ R Z ce sl n S (pc) (a0 :: a1 :: a2 :: a3 :: a4 :: o :: T) (zI x :: st) Rf V := by
  intro p l e s m args below meth c D cy base b H locs ls C HH LL
  refine lv_istore C.1 C.2.1 hd (zls_has LL) hn rfl (fun ls' h' => ?_)
  exact kk p l e s m args below meth c D cy base b H locs ls' C HH (zls_set (x := zI x) LL (fun j hj v hv => by (obtain rfl : j = 4 := (by omega)); exact zok_spec hz hv) h')

theorem wa_ast5 {a0 a1 a2 a3 a4 o : Option zV} {T : List (Option zV)} {x : Nat} (hd : decode μ.2.1 pc = .ok (.astore 5, 2)) (hn : 5 < μ.2.2.1) (hz : zok a4 = true) (kk : Wa X μ R Z ce sl n S (pc + 2) (a0 :: a1 :: a2 :: a3 :: a4 :: some (zR x) :: T) st Rf V) : Wa X μ R Z ce sl n S (pc) (a0 :: a1 :: a2 :: a3 :: a4 :: o :: T) (zR x :: st) Rf V := by
  intro p l e s m args below meth c D cy base b H locs ls C HH LL
  refine lv_astore C.1 C.2.1 hd (zls_has LL) hn rfl (fun ls' h' => ?_)
  exact kk p l e s m args below meth c D cy base b H locs ls' C HH (zls_set (x := zR x) LL (fun j hj v hv => by (obtain rfl : j = 4 := (by omega)); exact zok_spec hz hv) h')

theorem wa_iinc5 {a0 a1 a2 a3 a4 : Option zV} {T : List (Option zV)} {x k : Int} (hd : decode μ.2.1 pc = .ok (.iinc 5 k, 3)) (hn : 5 < μ.2.2.1) (hz : zok a4 = true) (kk : Wa X μ R Z ce sl n S (pc + 3) (a0 :: a1 :: a2 :: a3 :: a4 :: some (zI (x + k)) :: T) st Rf V) : Wa X μ R Z ce sl n S (pc) (a0 :: a1 :: a2 :: a3 :: a4 :: some (zI x) :: T) st Rf V := by
  intro p l e s m args below meth c D cy base b H locs ls C HH LL
  have hm : (5, zu base b (zI x)) ∈ zlv base b (a0 :: a1 :: a2 :: a3 :: a4 :: some (zI x) :: T) μ.2.2.1 := zlv_mem.mpr ⟨5, zI x, hn, rfl, rfl⟩
  obtain ⟨q, hq⟩ := List.getElem?_of_mem hm
  refine lv_iinc C.1 C.2.1 hd (zls_has LL) hq (Int32.ofInt_add x k).symm hn rfl (fun ls' h' => ?_)
  exact kk p l e s m args below meth c D cy base b H locs ls' C HH (zls_set (x := zI (x + k)) LL (fun j hj v hv => by (obtain rfl : j = 4 := (by omega)); exact zok_spec hz hv) h')

theorem wa_ist6 {a0 a1 a2 a3 a4 a5 o : Option zV} {T : List (Option zV)} {x : Int} (hd : decode μ.2.1 pc = .ok (.istore 6, 2)) (hn : 6 < μ.2.2.1) (hz : zok a5 = true) (kk : Wa X μ R Z ce sl n S (pc + 2) (a0 :: a1 :: a2 :: a3 :: a4 :: a5 :: some (zI x) :: T) st Rf V) : Wa X μ R Z ce sl n S (pc) (a0 :: a1 :: a2 :: a3 :: a4 :: a5 :: o :: T) (zI x :: st) Rf V := by
  intro p l e s m args below meth c D cy base b H locs ls C HH LL
  refine lv_istore C.1 C.2.1 hd (zls_has LL) hn rfl (fun ls' h' => ?_)
  exact kk p l e s m args below meth c D cy base b H locs ls' C HH (zls_set (x := zI x) LL (fun j hj v hv => by (obtain rfl : j = 5 := (by omega)); exact zok_spec hz hv) h')

theorem wa_ast6 {a0 a1 a2 a3 a4 a5 o : Option zV} {T : List (Option zV)} {x : Nat} (hd : decode μ.2.1 pc = .ok (.astore 6, 2)) (hn : 6 < μ.2.2.1) (hz : zok a5 = true) (kk : Wa X μ R Z ce sl n S (pc + 2) (a0 :: a1 :: a2 :: a3 :: a4 :: a5 :: some (zR x) :: T) st Rf V) : Wa X μ R Z ce sl n S (pc) (a0 :: a1 :: a2 :: a3 :: a4 :: a5 :: o :: T) (zR x :: st) Rf V := by
  intro p l e s m args below meth c D cy base b H locs ls C HH LL
  refine lv_astore C.1 C.2.1 hd (zls_has LL) hn rfl (fun ls' h' => ?_)
  exact kk p l e s m args below meth c D cy base b H locs ls' C HH (zls_set (x := zR x) LL (fun j hj v hv => by (obtain rfl : j = 5 := (by omega)); exact zok_spec hz hv) h')

theorem wa_iinc6 {a0 a1 a2 a3 a4 a5 : Option zV} {T : List (Option zV)} {x k : Int} (hd : decode μ.2.1 pc = .ok (.iinc 6 k, 3)) (hn : 6 < μ.2.2.1) (hz : zok a5 = true) (kk : Wa X μ R Z ce sl n S (pc + 3) (a0 :: a1 :: a2 :: a3 :: a4 :: a5 :: some (zI (x + k)) :: T) st Rf V) : Wa X μ R Z ce sl n S (pc) (a0 :: a1 :: a2 :: a3 :: a4 :: a5 :: some (zI x) :: T) st Rf V := by
  intro p l e s m args below meth c D cy base b H locs ls C HH LL
  have hm : (6, zu base b (zI x)) ∈ zlv base b (a0 :: a1 :: a2 :: a3 :: a4 :: a5 :: some (zI x) :: T) μ.2.2.1 := zlv_mem.mpr ⟨6, zI x, hn, rfl, rfl⟩
  obtain ⟨q, hq⟩ := List.getElem?_of_mem hm
  refine lv_iinc C.1 C.2.1 hd (zls_has LL) hq (Int32.ofInt_add x k).symm hn rfl (fun ls' h' => ?_)
  exact kk p l e s m args below meth c D cy base b H locs ls' C HH (zls_set (x := zI (x + k)) LL (fun j hj v hv => by (obtain rfl : j = 5 := (by omega)); exact zok_spec hz hv) h')

theorem wa_ist7 {a0 a1 a2 a3 a4 a5 a6 o : Option zV} {T : List (Option zV)} {x : Int} (hd : decode μ.2.1 pc = .ok (.istore 7, 2)) (hn : 7 < μ.2.2.1) (hz : zok a6 = true) (kk : Wa X μ R Z ce sl n S (pc + 2) (a0 :: a1 :: a2 :: a3 :: a4 :: a5 :: a6 :: some (zI x) :: T) st Rf V) : Wa X μ R Z ce sl n S (pc) (a0 :: a1 :: a2 :: a3 :: a4 :: a5 :: a6 :: o :: T) (zI x :: st) Rf V := by
  intro p l e s m args below meth c D cy base b H locs ls C HH LL
  refine lv_istore C.1 C.2.1 hd (zls_has LL) hn rfl (fun ls' h' => ?_)
  exact kk p l e s m args below meth c D cy base b H locs ls' C HH (zls_set (x := zI x) LL (fun j hj v hv => by (obtain rfl : j = 6 := (by omega)); exact zok_spec hz hv) h')

theorem wa_ast7 {a0 a1 a2 a3 a4 a5 a6 o : Option zV} {T : List (Option zV)} {x : Nat} (hd : decode μ.2.1 pc = .ok (.astore 7, 2)) (hn : 7 < μ.2.2.1) (hz : zok a6 = true) (kk : Wa X μ R Z ce sl n S (pc + 2) (a0 :: a1 :: a2 :: a3 :: a4 :: a5 :: a6 :: some (zR x) :: T) st Rf V) : Wa X μ R Z ce sl n S (pc) (a0 :: a1 :: a2 :: a3 :: a4 :: a5 :: a6 :: o :: T) (zR x :: st) Rf V := by
  intro p l e s m args below meth c D cy base b H locs ls C HH LL
  refine lv_astore C.1 C.2.1 hd (zls_has LL) hn rfl (fun ls' h' => ?_)
  exact kk p l e s m args below meth c D cy base b H locs ls' C HH (zls_set (x := zR x) LL (fun j hj v hv => by (obtain rfl : j = 6 := (by omega)); exact zok_spec hz hv) h')

theorem wa_iinc7 {a0 a1 a2 a3 a4 a5 a6 : Option zV} {T : List (Option zV)} {x k : Int} (hd : decode μ.2.1 pc = .ok (.iinc 7 k, 3)) (hn : 7 < μ.2.2.1) (hz : zok a6 = true) (kk : Wa X μ R Z ce sl n S (pc + 3) (a0 :: a1 :: a2 :: a3 :: a4 :: a5 :: a6 :: some (zI (x + k)) :: T) st Rf V) : Wa X μ R Z ce sl n S (pc) (a0 :: a1 :: a2 :: a3 :: a4 :: a5 :: a6 :: some (zI x) :: T) st Rf V := by
  intro p l e s m args below meth c D cy base b H locs ls C HH LL
  have hm : (7, zu base b (zI x)) ∈ zlv base b (a0 :: a1 :: a2 :: a3 :: a4 :: a5 :: a6 :: some (zI x) :: T) μ.2.2.1 := zlv_mem.mpr ⟨7, zI x, hn, rfl, rfl⟩
  obtain ⟨q, hq⟩ := List.getElem?_of_mem hm
  refine lv_iinc C.1 C.2.1 hd (zls_has LL) hq (Int32.ofInt_add x k).symm hn rfl (fun ls' h' => ?_)
  exact kk p l e s m args below meth c D cy base b H locs ls' C HH (zls_set (x := zI (x + k)) LL (fun j hj v hv => by (obtain rfl : j = 6 := (by omega)); exact zok_spec hz hv) h')

theorem wa_ist8 {a0 a1 a2 a3 a4 a5 a6 a7 o : Option zV} {T : List (Option zV)} {x : Int} (hd : decode μ.2.1 pc = .ok (.istore 8, 2)) (hn : 8 < μ.2.2.1) (hz : zok a7 = true) (kk : Wa X μ R Z ce sl n S (pc + 2) (a0 :: a1 :: a2 :: a3 :: a4 :: a5 :: a6 :: a7 :: some (zI x) :: T) st Rf V) : Wa X μ R Z ce sl n S (pc) (a0 :: a1 :: a2 :: a3 :: a4 :: a5 :: a6 :: a7 :: o :: T) (zI x :: st) Rf V := by
  intro p l e s m args below meth c D cy base b H locs ls C HH LL
  refine lv_istore C.1 C.2.1 hd (zls_has LL) hn rfl (fun ls' h' => ?_)
  exact kk p l e s m args below meth c D cy base b H locs ls' C HH (zls_set (x := zI x) LL (fun j hj v hv => by (obtain rfl : j = 7 := (by omega)); exact zok_spec hz hv) h')

theorem wa_ast8 {a0 a1 a2 a3 a4 a5 a6 a7 o : Option zV} {T : List (Option zV)} {x : Nat} (hd : decode μ.2.1 pc = .ok (.astore 8, 2)) (hn : 8 < μ.2.2.1) (hz : zok a7 = true) (kk : Wa X μ R Z ce sl n S (pc + 2) (a0 :: a1 :: a2 :: a3 :: a4 :: a5 :: a6 :: a7 :: some (zR x) :: T) st Rf V) : Wa X μ R Z ce sl n S (pc) (a0 :: a1 :: a2 :: a3 :: a4 :: a5 :: a6 :: a7 :: o :: T) (zR x :: st) Rf V := by
  intro p l e s m args below meth c D cy base b H locs ls C HH LL
  refine lv_astore C.1 C.2.1 hd (zls_has LL) hn rfl (fun ls' h' => ?_)
  exact kk p l e s m args below meth c D cy base b H locs ls' C HH (zls_set (x := zR x) LL (fun j hj v hv => by (obtain rfl : j = 7 := (by omega)); exact zok_spec hz hv) h')

theorem wa_iinc8 {a0 a1 a2 a3 a4 a5 a6 a7 : Option zV} {T : List (Option zV)} {x k : Int} (hd : decode μ.2.1 pc = .ok (.iinc 8 k, 3)) (hn : 8 < μ.2.2.1) (hz : zok a7 = true) (kk : Wa X μ R Z ce sl n S (pc + 3) (a0 :: a1 :: a2 :: a3 :: a4 :: a5 :: a6 :: a7 :: some (zI (x + k)) :: T) st Rf V) : Wa X μ R Z ce sl n S (pc) (a0 :: a1 :: a2 :: a3 :: a4 :: a5 :: a6 :: a7 :: some (zI x) :: T) st Rf V := by
  intro p l e s m args below meth c D cy base b H locs ls C HH LL
  have hm : (8, zu base b (zI x)) ∈ zlv base b (a0 :: a1 :: a2 :: a3 :: a4 :: a5 :: a6 :: a7 :: some (zI x) :: T) μ.2.2.1 := zlv_mem.mpr ⟨8, zI x, hn, rfl, rfl⟩
  obtain ⟨q, hq⟩ := List.getElem?_of_mem hm
  refine lv_iinc C.1 C.2.1 hd (zls_has LL) hq (Int32.ofInt_add x k).symm hn rfl (fun ls' h' => ?_)
  exact kk p l e s m args below meth c D cy base b H locs ls' C HH (zls_set (x := zI (x + k)) LL (fun j hj v hv => by (obtain rfl : j = 7 := (by omega)); exact zok_spec hz hv) h')

theorem wa_ist9 {a0 a1 a2 a3 a4 a5 a6 a7 a8 o : Option zV} {T : List (Option zV)} {x : Int} (hd : decode μ.2.1 pc = .ok (.istore 9, 2)) (hn : 9 < μ.2.2.1) (hz : zok a8 = true) (kk : Wa X μ R Z ce sl n S (pc + 2) (a0 :: a1 :: a2 :: a3 :: a4 :: a5 :: a6 :: a7 :: a8 :: some (zI x) :: T) st Rf V) : Wa X μ R Z ce sl n S (pc) (a0 :: a1 :: a2 :: a3 :: a4 :: a5 :: a6 :: a7 :: a8 :: o :: T) (zI x :: st) Rf V := by
  intro p l e s m args below meth c D cy base b H locs ls C HH LL
  refine lv_istore C.1 C.2.1 hd (zls_has LL) hn rfl (fun ls' h' => ?_)
  exact kk p l e s m args below meth c D cy base b H locs ls' C HH (zls_set (x := zI x) LL (fun j hj v hv => by (obtain rfl : j = 8 := (by omega)); exact zok_spec hz hv) h')

theorem wa_ast9 {a0 a1 a2 a3 a4 a5 a6 a7 a8 o : Option zV} {T : List (Option zV)} {x : Nat} (hd : decode μ.2.1 pc = .ok (.astore 9, 2)) (hn : 9 < μ.2.2.1) (hz : zok a8 = true) (kk : Wa X μ R Z ce sl n S (pc + 2) (a0 :: a1 :: a2 :: a3 :: a4 :: a5 :: a6 :: a7 :: a8 :: some (zR x) :: T) st Rf V) : Wa X μ R Z ce sl n S (pc) (a0 :: a1 :: a2 :: a3 :: a4 :: a5 :: a6 :: a7 :: a8 :: o :: T) (zR x :: st) Rf V := by
  intro p l e s m args below meth c D cy base b H locs ls C HH LL
  refine lv_astore C.1 C.2.1 hd (zls_has LL) hn rfl (fun ls' h' => ?_)
  exact kk p l e s m args below meth c D cy base b H locs ls' C HH (zls_set (x := zR x) LL (fun j hj v hv => by (obtain rfl : j = 8 := (by omega)); exact zok_spec hz hv) h')

theorem wa_iinc9 {a0 a1 a2 a3 a4 a5 a6 a7 a8 : Option zV} {T : List (Option zV)} {x k : Int} (hd : decode μ.2.1 pc = .ok (.iinc 9 k, 3)) (hn : 9 < μ.2.2.1) (hz : zok a8 = true) (kk : Wa X μ R Z ce sl n S (pc + 3) (a0 :: a1 :: a2 :: a3 :: a4 :: a5 :: a6 :: a7 :: a8 :: some (zI (x + k)) :: T) st Rf V) : Wa X μ R Z ce sl n S (pc) (a0 :: a1 :: a2 :: a3 :: a4 :: a5 :: a6 :: a7 :: a8 :: some (zI x) :: T) st Rf V := by
  intro p l e s m args below meth c D cy base b H locs ls C HH LL
  have hm : (9, zu base b (zI x)) ∈ zlv base b (a0 :: a1 :: a2 :: a3 :: a4 :: a5 :: a6 :: a7 :: a8 :: some (zI x) :: T) μ.2.2.1 := zlv_mem.mpr ⟨9, zI x, hn, rfl, rfl⟩
  obtain ⟨q, hq⟩ := List.getElem?_of_mem hm
  refine lv_iinc C.1 C.2.1 hd (zls_has LL) hq (Int32.ofInt_add x k).symm hn rfl (fun ls' h' => ?_)
  exact kk p l e s m args below meth c D cy base b H locs ls' C HH (zls_set (x := zI (x + k)) LL (fun j hj v hv => by (obtain rfl : j = 8 := (by omega)); exact zok_spec hz hv) h')

theorem wa_ist10 {a0 a1 a2 a3 a4 a5 a6 a7 a8 a9 o : Option zV} {T : List (Option zV)} {x : Int} (hd : decode μ.2.1 pc = .ok (.istore 10, 2)) (hn : 10 < μ.2.2.1) (hz : zok a9 = true) (kk : Wa X μ R Z ce sl n S (pc + 2) (a0 :: a1 :: a2 :: a3 :: a4 :: a5 :: a6 :: a7 :: a8 :: a9 :: some (zI x) :: T) st Rf V) : Wa X μ R Z ce sl n S (pc) (a0 :: a1 :: a2 :: a3 :: a4 :: a5 :: a6 :: a7 :: a8 :: a9 :: o :: T) (zI x :: st) Rf V := by
  intro p l e s m args below meth c D cy base b H locs ls C HH LL
  refine lv_istore C.1 C.2.1 hd (zls_has LL) hn rfl (fun ls' h' => ?_)
  exact kk p l e s m args below meth c D cy base b H locs ls' C HH (zls_set (x := zI x) LL (fun j hj v hv => by (obtain rfl : j = 9 := (by omega)); exact zok_spec hz hv) h')

theorem wa_ast10 {a0 a1 a2 a3 a4 a5 a6 a7 a8 a9 o : Option zV} {T : List (Option zV)} {x : Nat} (hd : decode μ.2.1 pc = .ok (.astore 10, 2)) (hn : 10 < μ.2.2.1) (hz : zok a9 = true) (kk : Wa X μ R Z ce sl n S (pc + 2) (a0 :: a1 :: a2 :: a3 :: a4 :: a5 :: a6 :: a7 :: a8 :: a9 :: some (zR x) :: T) st Rf V) : Wa X μ R Z ce sl n S (pc) (a0 :: a1 :: a2 :: a3 :: a4 :: a5 :: a6 :: a7 :: a8 :: a9 :: o :: T) (zR x :: st) Rf V := by
  intro p l e s m args below meth c D cy base b H locs ls C HH LL
  refine lv_astore C.1 C.2.1 hd (zls_has LL) hn rfl (fun ls' h' => ?_)
  exact kk p l e s m args below meth c D cy base b H locs ls' C HH (zls_set (x := zR x) LL (fun j hj v hv => by (obtain rfl : j = 9 := (by omega)); exact zok_spec hz hv) h')

theorem wa_iinc10 {a0 a1 a2 a3 a4 a5 a6 a7 a8 a9 : Option zV} {T : List (Option zV)} {x k : Int} (hd : decode μ.2.1 pc = .ok (.iinc 10 k, 3)) (hn : 10 < μ.2.2.1) (hz : zok a9 = true) (kk : Wa X μ R Z ce sl n S (pc + 3) (a0 :: a1 :: a2 :: a3 :: a4 :: a5 :: a6 :: a7 :: a8 :: a9 :: some (zI (x + k)) :: T) st Rf V) : Wa X μ R Z ce sl n S (pc) (a0 :: a1 :: a2 :: a3 :: a4 :: a5 :: a6 :: a7 :: a8 :: a9 :: some (zI x) :: T) st Rf V := by
  intro p l e s m args below meth c D cy base b H locs ls C HH LL
  have hm : (10, zu base b (zI x)) ∈ zlv base b (a0 :: a1 :: a2 :: a3 :: a4 :: a5 :: a6 :: a7 :: a8 :: a9 :: some (zI x) :: T) μ.2.2.1 := zlv_mem.mpr ⟨10, zI x, hn, rfl, rfl⟩
  obtain ⟨q, hq⟩ := List.getElem?_of_mem hm
  refine lv_iinc C.1 C.2.1 hd (zls_has LL) hq (Int32.ofInt_add x k).symm hn rfl (fun ls' h' => ?_)
  exact kk p l e s m args below meth c D cy base b H locs ls' C HH (zls_set (x := zI (x + k)) LL (fun j hj v hv => by (obtain rfl : j = 9 := (by omega)); exact zok_spec hz hv) h')

theorem wa_ist11 {a0 a1 a2 a3 a4 a5 a6 a7 a8 a9 a10 o : Option zV} {T : List (Option zV)} {x : Int} (hd : decode μ.2.1 pc = .ok (.istore 11, 2)) (hn : 11 < μ.2.2.1) (hz : zok a10 = true) (kk : Wa X μ R Z ce sl n S (pc + 2) (a0 :: a1 :: a2 :: a3 :: a4 :: a5 :: a6 :: a7 :: a8 :: a9 :: a10 :: some (zI x) :: T) st Rf V) : Wa X μ R Z ce sl n S (pc) (a0 :: a1 :: a2 :: a3 :: a4 :: a5 :: a6 :: a7 :: a8 :: a9 :: a10 :: o :: T) (zI x :: st) Rf V := by
  intro p l e s m args below meth c D cy base b H locs ls C HH LL
  refine lv_istore C.1 C.2.1 hd (zls_has LL) hn rfl (fun ls' h' => ?_)
  exact kk p l e s m args below meth c D cy base b H locs ls' C HH (zls_set (x := zI x) LL (fun j hj v hv => by (obtain rfl : j = 10 := (by omega)); exact zok_spec hz hv) h')

theorem wa_ast11 {a0 a1 a2 a3 a4 a5 a6 a7 a8 a9 a10 o : Option zV} {T : List (Option zV)} {x : Nat} (hd : decode μ.2.1 pc = .ok (.astore 11, 2)) (hn : 11 < μ.2.2.1) (hz : zok a10 = true) (kk : Wa X μ R Z ce sl n S (pc + 2) (a0 :: a1 :: a2 :: a3 :: a4 :: a5 :: a6 :: a7 :: a8 :: a9 :: a10 :: some (zR x) :: T) st Rf V) : Wa X μ R Z ce sl n S (pc) (a0 :: a1 :: a2 :: a3 :: a4 :: a5 :: a6 :: a7 :: a8 :: a9 :: a10 :: o :: T) (zR x :: st) Rf V := by
  intro p l e s m args below meth c D cy base b H locs ls C HH LL
  refine lv_astore C.1 C.2.1 hd (zls_has LL) hn rfl (fun ls' h' => ?_)
  exact kk p l e s m args below meth c D cy base b H locs ls' C HH (zls_set (x := zR x) LL (fun j hj v hv => by (obtain rfl : j = 10 := (by omega)); exact zok_spec hz hv) h')

theorem wa_iinc11 {a0 a1 a2 a3 a4 a5 a6 a7 a8 a9 a10 : Option zV} {T : List (Option zV)} {x k : Int} (hd : decode μ.2.1 pc = .ok (.iinc 11 k, 3)) (hn : 11 < μ.2.2.1) (hz : zok a10 = true) (kk : Wa X μ R Z ce sl n S (pc + 3) (a0 :: a1 :: a2 :: a3 :: a4 :: a5 :: a6 :: a7 :: a8 :: a9 :: a10 :: some (zI (x + k)) :: T) st Rf V) : Wa X μ R Z ce sl n S (pc) (a0 :: a1 :: a2 :: a3 :: a4 :: a5 :: a6 :: a7 :: a8 :: a9 :: a10 :: some (zI x) :: T) st Rf V := by
  intro p l e s m args below meth c D cy base b H locs ls C HH LL
  have hm : (11, zu base b (zI x)) ∈ zlv base b (a0 :: a1 :: a2 :: a3 :: a4 :: a5 :: a6 :: a7 :: a8 :: a9 :: a10 :: some (zI x) :: T) μ.2.2.1 := zlv_mem.mpr ⟨11, zI x, hn, rfl, rfl⟩
  obtain ⟨q, hq⟩ := List.getElem?_of_mem hm
  refine lv_iinc C.1 C.2.1 hd (zls_has LL) hq (Int32.ofInt_add x k).symm hn rfl (fun ls' h' => ?_)
  exact kk p l e s m args below meth c D cy base b H locs ls' C HH (zls_set (x := zI (x + k)) LL (fun j hj v hv => by (obtain rfl : j = 10 := (by omega)); exact zok_spec hz hv) h')

theorem wa_lst0 {o o2 : Option zV} {T : List (Option zV)} {x : Int} (hd : decode μ.2.1 pc = .ok (.lstore_n 0, 1)) (hn : 0 + 1 < μ.2.2.1)  (kk : Wa X μ R Z ce sl n S (pc + 1) (some (zL x) :: none :: T) st Rf V) : Wa X μ R Z ce sl n S (pc) (o :: o2 :: T) (zL x :: st) Rf V := by
  intro p l e s m args below meth c D cy base b H locs ls C HH LL
  refine lv_lstore_n C.1 C.2.1 hd rfl (zls_has LL) hn rfl (fun ls' h' => ?_)
  exact kk p l e s m args below meth c D cy base b H locs ls' C HH (zls_setL (x := x) LL (fun j hj => by omega) h')

theorem wa_lst1 {a0 o o2 : Option zV} {T : List (Option zV)} {x : Int} (hd : decode μ.2.1 pc = .ok (.lstore_n 1, 1)) (hn : 1 + 1 < μ.2.2.1) (hz : zok a0 = true) (kk : Wa X μ R Z ce sl n S (pc + 1) (a0 :: some (zL x) :: none :: T) st Rf V) : Wa X μ R Z ce sl n S (pc) (a0 :: o :: o2 :: T) (zL x :: st) Rf V := by
  intro p l e s m args below meth c D cy base b H locs ls C HH LL
  refine lv_lstore_n C.1 C.2.1 hd rfl (zls_has LL) hn rfl (fun ls' h' => ?_)
  exact kk p l e s m args below meth c D cy base b H locs ls' C HH (zls_setL (x := x) LL (fun j hj v hv => by (obtain rfl : j = 0 := (by omega)); exact zok_spec hz hv) h')

theorem wa_lst2 {a0 a1 o o2 : Option zV} {T : List (Option zV)} {x : Int} (hd : decode μ.2.1 pc = .ok (.lstore_n 2, 1)) (hn : 2 + 1 < μ.2.2.1) (hz : zok a1 = true) (kk : Wa X μ R Z ce sl n S (pc + 1) (a0 :: a1 :: some (zL x) :: none :: T) st Rf V) : Wa X μ R Z ce sl n S (pc) (a0 :: a1 :: o :: o2 :: T) (zL x :: st) Rf V := by
  intro p l e s m args below meth c D cy base b H locs ls C HH LL
  refine lv_lstore_n C.1 C.2.1 hd rfl (zls_has LL) hn rfl (fun ls' h' => ?_)
  exact kk p l e s m args below meth c D cy base b H locs ls' C HH (zls_setL (x := x) LL (fun j hj v hv => by (obtain rfl : j = 1 := (by omega)); exact zok_spec hz hv) h')

theorem wa_lst3 {a0 a1 a2 o o2 : Option zV} {T : List (Option zV)} {x : Int} (hd : decode μ.2.1 pc = .ok (.lstore_n 3, 1)) (hn : 3 + 1 < μ.2.2.1) (hz : zok a2 = true) (kk : Wa X μ R Z ce sl n S (pc + 1) (a0 :: a1 :: a2 :: some (zL x) :: none :: T) st Rf V) : Wa X μ R Z ce sl n S (pc) (a0 :: a1 :: a2 :: o :: o2 :: T) (zL x :: st) Rf V := by
  intro p l e s m args below meth c D cy base b H locs ls C HH LL
  refine lv_lstore_n C.1 C.2.1 hd rfl (zls_has LL) hn rfl (fun ls' h' => ?_)
  exact kk p l e s m args below meth c D cy base b H locs ls' C HH (zls_setL (x := x) LL (fun j hj v hv => by (obtain rfl : j = 2 := (by omega)); exact zok_spec hz hv) h')

theorem wa_lst4 {a0 a1 a2 a3 o o2 : Option zV} {T : List (Option zV)} {x : Int} (hd : decode μ.2.1 pc = .ok (.lstore 4, 2)) (hn : 4 + 1 < μ.2.2.1) (hz : zok a3 = true) (kk : Wa X μ R Z ce sl n S (pc + 2) (a0 :: a1 :: a2 :: a3 :: some (zL x) :: none :: T) st Rf V) : Wa X μ R Z ce sl n S (pc) (a0 :: a1 :: a2 :: a3 :: o :: o2 :: T) (zL x :: st) Rf V := by
  intro p l e s m args below meth c D cy base b H locs ls C HH LL
  refine lv_lstore C.1 C.2.1 hd (zls_has LL) hn rfl (fun ls' h' => ?_)
  exact kk p l e s m args below meth c D cy base b H locs ls' C HH (zls_setL (x := x) LL (fun j hj v hv => by (obtain rfl : j = 3 := (by omega)); exact zok_spec hz hv) h')

theorem wa_lst5 {a0 a1 a2 a3 a4 o o2 : Option zV} {T : List (Option zV)} {x : Int} (hd : decode μ.2.1 pc = .ok (.lstore 5, 2)) (hn : 5 + 1 < μ.2.2.1) (hz : zok a4 = true) (kk : Wa X μ R Z ce sl n S (pc + 2) (a0 :: a1 :: a2 :: a3 :: a4 :: some (zL x) :: none :: T) st Rf V) : Wa X μ R Z ce sl n S (pc) (a0 :: a1 :: a2 :: a3 :: a4 :: o :: o2 :: T) (zL x :: st) Rf V := by
  intro p l e s m args below meth c D cy base b H locs ls C HH LL
  refine lv_lstore C.1 C.2.1 hd (zls_has LL) hn rfl (fun ls' h' => ?_)
  exact kk p l e s m args below meth c D cy base b H locs ls' C HH (zls_setL (x := x) LL (fun j hj v hv => by (obtain rfl : j = 4 := (by omega)); exact zok_spec hz hv) h')

theorem wa_lst6 {a0 a1 a2 a3 a4 a5 o o2 : Option zV} {T : List (Option zV)} {x : Int} (hd : decode μ.2.1 pc = .ok (.lstore 6, 2)) (hn : 6 + 1 < μ.2.2.1) (hz : zok a5 = true) (kk : Wa X μ R Z ce sl n S (pc + 2) (a0 :: a1 :: a2 :: a3 :: a4 :: a5 :: some (zL x) :: none :: T) st Rf V) : Wa X μ R Z ce sl n S (pc) (a0 :: a1 :: a2 :: a3 :: a4 :: a5 :: o :: o2 :: T) (zL x :: st) Rf V := by
  intro p l e s m args below meth c D cy base b H locs ls C HH LL
  refine lv_lstore C.1 C.2.1 hd (zls_has LL) hn rfl (fun ls' h' => ?_)
  exact kk p l e s m args below meth c D cy base b H locs ls' C HH (zls_setL (x := x) LL (fun j hj v hv => by (obtain rfl : j = 5 := (by omega)); exact zok_spec hz hv) h')

theorem wa_lst7 {a0 a1 a2 a3 a4 a5 a6 o o2 : Option zV} {T : List (Option zV)} {x : Int} (hd : decode μ.2.1 pc = .ok (.lstore 7, 2)) (hn : 7 + 1 < μ.2.2.1) (hz : zok a6 = true) (kk : Wa X μ R Z ce sl n S (pc + 2) (a0 :: a1 :: a2 :: a3 :: a4 :: a5 :: a6 :: some (zL x) :: none :: T) st Rf V) : Wa X μ R Z ce sl n S (pc) (a0 :: a1 :: a2 :: a3 :: a4 :: a5 :: a6 :: o :: o2 :: T) (zL x :: st) Rf V := by
  intro p l e s m args below meth c D cy base b H locs ls C HH LL
  refine lv_lstore C.1 C.2.1 hd (zls_has LL) hn rfl (fun ls' h' => ?_)
  exact kk p l e s m args below meth c D cy base b H locs ls' C HH (zls_setL (x := x) LL (fun j hj v hv => by (obtain rfl : j = 6 := (by omega)); exact zok_spec hz hv) h')

theorem wa_lst8 {a0 a1 a2 a3 a4 a5 a6 a7 o o2 : Option zV} {T : List (Option zV)} {x : Int} (hd : decode μ.2.1 pc = .ok (.lstore 8, 2)) (hn : 8 + 1 < μ.2.2.1) (hz : zok a7 = true) (kk : Wa X μ R Z ce sl n S (pc + 2) (a0 :: a1 :: a2 :: a3 :: a4 :: a5 :: a6 :: a7 :: some (zL x) :: none :: T) st Rf V) : Wa X μ R Z ce sl n S (pc) (a0 :: a1 :: a2 :: a3 :: a4 :: a5 :: a6 :: a7 :: o :: o2 :: T) (zL x :: st) Rf V := by
  intro p l e s m args below meth c D cy base b H locs ls C HH LL
  refine lv_lstore C.1 C.2.1 hd (zls_has LL) hn rfl (fun ls' h' => ?_)
  exact kk p l e s m args below meth c D cy base b H locs ls' C HH (zls_setL (x := x) LL (fun j hj v hv => by (obtain rfl : j = 7 := (by omega)); exact zok_spec hz hv) h')

theorem wa_lst9 {a0 a1 a2 a3 a4 a5 a6 a7 a8 o o2 : Option zV} {T : List (Option zV)} {x : Int} (hd : decode μ.2.1 pc = .ok (.lstore 9, 2)) (hn : 9 + 1 < μ.2.2.1) (hz : zok a8 = true) (kk : Wa X μ R Z ce sl n S (pc + 2) (a0 :: a1 :: a2 :: a3 :: a4 :: a5 :: a6 :: a7 :: a8 :: some (zL x) :: none :: T) st Rf V) : Wa X μ R Z ce sl n S (pc) (a0 :: a1 :: a2 :: a3 :: a4 :: a5 :: a6 :: a7 :: a8 :: o :: o2 :: T) (zL x :: st) Rf V := by
  intro p l e s m args below meth c D cy base b H locs ls C HH LL
  refine lv_lstore C.1 C.2.1 hd (zls_has LL) hn rfl (fun ls' h' => ?_)
  exact kk p l e s m args below meth c D cy base b H locs ls' C HH (zls_setL (x := x) LL (fun j hj v hv => by (obtain rfl : j = 8 := (by omega)); exact zok_spec hz hv) h')

theorem wa_lst10 {a0 a1 a2 a3 a4 a5 a6 a7 a8 a9 o o2 : Option zV} {T : List (Option zV)} {x : Int} (hd : decode μ.2.1 pc = .ok (.lstore 10, 2)) (hn : 10 + 1 < μ.2.2.1) (hz : zok a9 = true) (kk : Wa X μ R Z ce sl n S (pc + 2) (a0 :: a1 :: a2 :: a3 :: a4 :: a5 :: a6 :: a7 :: a8 :: a9 :: some (zL x) :: none :: T) st Rf V) : Wa X μ R Z ce sl n S (pc) (a0 :: a1 :: a2 :: a3 :: a4 :: a5 :: a6 :: a7 :: a8 :: a9 :: o :: o2 :: T) (zL x :: st) Rf V := by
  intro p l e s m args below meth c D cy base b H locs ls C HH LL
  refine lv_lstore C.1 C.2.1 hd (zls_has LL) hn rfl (fun ls' h' => ?_)
  exact kk p l e s m args below meth c D cy base b H locs ls' C HH (zls_setL (x := x) LL (fun j hj v hv => by (obtain rfl : j = 9 := (by omega)); exact zok_spec hz hv) h')

theorem wa_weak {L' : List (Option zV)} (h : ∀ (i : Nat) (v : zV), L'[i]? = some (some v) → L[i]? = some (some v)) (kk : Wa X μ R Z ce sl n S (pc) L' st Rf V) : Wa X μ R Z ce sl n S (pc) L st Rf V := by
  intro p l e s m args below meth c D cy base b H locs ls C HH LL
  exact kk p l e s m args below meth c D cy base b H locs ls C HH ⟨LL.1, LL.2.1, fun i v hv => LL.2.2 i v (h i v hv)⟩
theorem wa_eqV {V' : zE} (h : V = V') (kk : Wa X μ R Z ce sl n S (pc) L st Rf V') : Wa X μ R Z ce sl n S (pc) L st Rf V := h ▸ kk
theorem wa_eqS {st' : List zV} (h : st = st') (kk : Wa X μ R Z ce sl n S (pc) L st' Rf V) : Wa X μ R Z ce sl n S (pc) L st Rf V := h ▸ kk
theorem wa_eqL {L' : List (Option zV)} (h : L = L') (kk : Wa X μ R Z ce sl n S (pc) L' st Rf V) : Wa X μ R Z ce sl n S (pc) L st Rf V := h ▸ kk
/-- another picture of the same cells -/
theorem wa_cells {Rf' : zG} {V' : zE} (h : ∀ (cy : zY) (base k : Nat), k < n → zc cy base (S k) (Rf k) (V k) = zc cy base (S k) (Rf' k) (V' k)) (kk : Wa X μ R Z ce sl n S (pc) L st Rf' V') : Wa X μ R Z ce sl n S (pc) L st Rf V := by
  intro p l e s m args below meth c D cy base b H locs ls C HH LL
  refine kk p l e s m args below meth c D cy base b H locs ls C ⟨?_, HH.2⟩ LL
  rw [show zw cy base n S Rf' V' = zw cy base n S Rf V from List.map_congr_left (fun k hk => by rw [h cy base k (List.mem_range.mp hk)])]
  exact HH.1

end
