/-! rows on cells: fields, arrays, makings, ends, calls -/
theorem zsize {p : Program} {l : Launch} {e : Env} {R : Room} {s : State} {m : MethodId} {args : Array Value} {below : List Frame} {meth : Method} {c : Code} {T : State} {locs : List Loc} {ce sl : Nat} {D : va_G} {cy : zY} {base n : Nat} {S : zH} {Rf : zG} {V : zE} (X : Stand p l e R s m args below meth c T locs ce sl) (HH : zHp D cy base n S Rf V T.heap s locs ce) (hb : base ≤ s.heap.size) : T.heap.size = base + n := by
  have h1 := X.heapSize
  have h2 := HH.2.1
  rcases Nat.eq_zero_or_pos n with h0 | h0
  · have := HH.2.2.1.1; omega
  · have := (HH.1 (n - 1) _ (zw_at (by omega))).lt
    dsimp only at this; omega
section
variable {X : zXt} {μ : zM} {R : Room} {Z : zZt} {ce sl n : Nat} {S : zH} {pc : Nat} {L : List (Option zV)} {st : List zV} {Rf : zG} {V : zE}
theorem zin {D : va_G} {cy : zY} {base k : Nat} {H : Heap} {s : State} {locs : List Loc} {sh : zS} (HH : zHp D cy base n S Rf V H s locs ce) (hS : S k = some sh) : k < n := HH.2.2.2 k (by rw [hS]; exact fun h => by cases h)
theorem wa_getI {idx k j ci N : Nat} {ref Cn : String} {T : u_T} (hd : decode μ.2.1 pc = .ok (.getfield idx, 3)) (hl : Cond.fieldLink μ.1.cls idx ref (T j).2.1 (T j).2.2.1 ∈ lw_ok) (hr : (T j).1 = ref) (hin : ∀ w ∈ u_ws Cn T N, w ∈ lw_ok) (hc : vwCl[ci]? = some (Cn, T, N)) (hN : zNf ci = N) (hj : j < N)
    (hty : ∀ base r x, zf base ci j r x = .int (Int32.ofInt x)) (hS : S k = some (.inr ci)) (kk : Wa X μ R Z ce sl n S (pc + 3) L (zI (V k j) :: st) Rf V) : Wa X μ R Z ce sl n S pc L (zR k :: st) Rf V := by
  intro p l e s m args below meth c D cy base b H locs ls C HH LL
  have hk := zin HH hS
  have he : (zw cy base n S Rf V)[k]? = some (base + k, .inr (ci, (List.range (zNf ci)).map (fun j => zf base ci j (Rf k j) (V k j)))) := by rw [zw_at hk, hS]; rfl
  exact va_get (v := .int (Int32.ofInt (V k j))) C.1 C.2.1 C.2.2.2.2.2.1 hin C.2.2.2.2.1 C.2.2.2.2.2.2.2.1.1 HH.1 k he hc j hj (C.2.2.2.2.2.1 _ hl) (fun x h => by rw [← hr]; exact h) (by simp [hN, hj, hty]) hd (kk p l e s m args below meth c D cy base b H locs ls C HH LL)
theorem wa_getO {idx k j ci N : Nat} {ref Cn : String} {T : u_T} (hd : decode μ.2.1 pc = .ok (.getfield idx, 3)) (hl : Cond.fieldLink μ.1.cls idx ref (T j).2.1 (T j).2.2.1 ∈ lw_ok) (hr : (T j).1 = ref) (hin : ∀ w ∈ u_ws Cn T N, w ∈ lw_ok) (hc : vwCl[ci]? = some (Cn, T, N)) (hN : zNf ci = N) (hj : j < N)
    (hty : ∀ base r x, zf base ci j r x = va_rf (r.map (fun k => base + k))) (hS : S k = some (.inr ci)) {a : Option Nat} (ha : Rf k j = a) (kk : Wa X μ R Z ce sl n S (pc + 3) L (zO a :: st) Rf V) : Wa X μ R Z ce sl n S pc L (zR k :: st) Rf V := by
  subst ha
  intro p l e s m args below meth c D cy base b H locs ls C HH LL
  have hk := zin HH hS
  have he : (zw cy base n S Rf V)[k]? = some (base + k, .inr (ci, (List.range (zNf ci)).map (fun j => zf base ci j (Rf k j) (V k j)))) := by rw [zw_at hk, hS]; rfl
  exact va_get (v := va_rf ((Rf k j).map (fun k => base + k))) C.1 C.2.1 C.2.2.2.2.2.1 hin C.2.2.2.2.1 C.2.2.2.2.2.2.2.1.1 HH.1 k he hc j hj (C.2.2.2.2.2.1 _ hl) (fun x h => by rw [← hr]; exact h) (by simp [hN, hj, hty]) hd (kk p l e s m args below meth c D cy base b H locs ls C HH LL)
theorem zcI {cy : zY} {base ci k j : Nat} {x : Int} (hS : S k = some (.inr ci)) (hty : ∀ base r x, zf base ci j r x = .int (Int32.ofInt x)) : zc cy base (S k) (Rf k) (zp V k (za (V k) j x) k) = .inr (ci, ((List.range (zNf ci)).map (fun j => zf base ci j (Rf k j) (V k j))).set j (.int (Int32.ofInt x))) := by
  rw [hS, zp_s, zmap_set (g' := fun i => zf base ci i (Rf k i) (za (V k) j x i)) (by rw [hty, za_s]) (fun i hi => by rw [za_n _ _ hi])]
  rfl
theorem zcO {cy : zY} {base ci k j : Nat} {r : Option Nat} (hS : S k = some (.inr ci)) (hty : ∀ base r x, zf base ci j r x = va_rf (r.map (fun k => base + k))) : zc cy base (S k) (zp Rf k (za (Rf k) j r) k) (V k) = .inr (ci, ((List.range (zNf ci)).map (fun j => zf base ci j (Rf k j) (V k j))).set j (va_rf (r.map (fun k => base + k)))) := by
  rw [hS, zp_s, zmap_set (g' := fun i => zf base ci i (za (Rf k) j r i) (V k i)) (by rw [hty, za_s]) (fun i hi => by rw [za_n _ _ hi])]
  rfl
theorem wa_putI {idx k j ci N : Nat} {ref Cn : String} {T : u_T} {ty0 : Nat → FieldType} {x : Int} (hd : decode μ.2.1 pc = .ok (.putfield idx, 3)) (hl : Cond.fieldLink μ.1.cls idx ref (T j).2.1 (T j).2.2.1 ∈ lw_ok) (hr : (T j).1 = ref) (hin : ∀ w ∈ u_ws Cn T N, w ∈ lw_ok) (hc : vwCl[ci]? = some (Cn, T, N)) (hN : zNf ci = N) (hj : j < N)
    (hty0 : ∀ k, k < N → parseFieldDescriptor (T k).2.2.1 = some (ty0 k)) (hnm : ∀ a, a < N → ∀ b, b < N → a ≠ b → (T a).2.1 ≠ (T b).2.1) (hfin : (T j).2.2.2 = false) (hpd : parseFieldDescriptor (T j).2.2.1 = some .int)
    (hty : ∀ base r x, zf base ci j r x = .int (Int32.ofInt x)) (hS : S k = some (.inr ci)) (kk : Wa X μ R Z ce sl n S (pc + 3) L st Rf (zp V k (za (V k) j x))) : Wa X μ R Z ce sl n S pc L (zI x :: zR k :: st) Rf V := by
  intro p l e s m args below meth c D cy base b H locs ls C HH LL
  have hk := zin HH hS
  have he : (zw cy base n S Rf V)[k]? = some (base + k, .inr (ci, (List.range (zNf ci)).map (fun j => zf base ci j (Rf k j) (V k j)))) := by rw [zw_at hk, hS]; rfl
  refine va_put (v := .int (Int32.ofInt x)) (ty := .int) C.1 C.2.1 C.2.2.2.2.2.1 hin ty0 hty0 hnm C.2.2.2.2.1 C.2.2.2.2.2.2.2.1.1 HH.1 zw_D HH.2.2.1 k he hc j hj (C.2.2.2.2.2.1 _ hl) (fun x h => by rw [← hr]; exact h) hfin hpd rfl rfl (by simp [hN, hj]) hd (fun H1 locs1 hP _ hS1 => ?_)
  rw [zw_set (Rf' := Rf) (V' := zp V k (za (V k) j x)) hk (zcI hS hty) (fun i hi => ⟨rfl, zp_n _ _ hi⟩)] at hP
  exact kk p l e s m args below meth c D cy base b H1 locs1 ls C ⟨hP, HH.2.1, hS1, HH.2.2.2⟩ LL
theorem wa_putO {idx k j ci N : Nat} {ref Cn : String} {T : u_T} {ty0 : Nat → FieldType} {ty : FieldType} {r : Option Nat} (hd : decode μ.2.1 pc = .ok (.putfield idx, 3)) (hl : Cond.fieldLink μ.1.cls idx ref (T j).2.1 (T j).2.2.1 ∈ lw_ok) (hr : (T j).1 = ref) (hin : ∀ w ∈ u_ws Cn T N, w ∈ lw_ok) (hc : vwCl[ci]? = some (Cn, T, N)) (hN : zNf ci = N) (hj : j < N)
    (hty0 : ∀ k, k < N → parseFieldDescriptor (T k).2.2.1 = some (ty0 k)) (hnm : ∀ a, a < N → ∀ b, b < N → a ≠ b → (T a).2.1 ≠ (T b).2.1) (hfin : (T j).2.2.2 = false) (hpd : parseFieldDescriptor (T j).2.2.1 = some ty) (hnar : ∀ r : Option Nat, narrow ty (va_rf r) = va_rf r ∧ fits ty (va_rf r) = true)
    (hty : ∀ base r x, zf base ci j r x = va_rf (r.map (fun k => base + k))) (hS : S k = some (.inr ci)) (kk : Wa X μ R Z ce sl n S (pc + 3) L st (zp Rf k (za (Rf k) j r)) V) : Wa X μ R Z ce sl n S pc L (zO r :: zR k :: st) Rf V := by
  intro p l e s m args below meth c D cy base b H locs ls C HH LL
  have hk := zin HH hS
  have he : (zw cy base n S Rf V)[k]? = some (base + k, .inr (ci, (List.range (zNf ci)).map (fun j => zf base ci j (Rf k j) (V k j)))) := by rw [zw_at hk, hS]; rfl
  refine va_put (v := va_rf (r.map (fun k => base + k))) (ty := ty) C.1 C.2.1 C.2.2.2.2.2.1 hin ty0 hty0 hnm C.2.2.2.2.1 C.2.2.2.2.2.2.2.1.1 HH.1 zw_D HH.2.2.1 k he hc j hj (C.2.2.2.2.2.1 _ hl) (fun x h => by rw [← hr]; exact h) hfin hpd (hnar _).1 (hnar _).2 (by simp [hN, hj]) hd (fun H1 locs1 hP _ hS1 => ?_)
  rw [zw_set (Rf' := zp Rf k (za (Rf k) j r)) (V' := V) hk (zcO hS hty) (fun i hi => ⟨zp_n _ _ hi, rfl⟩)] at hP
  exact kk p l e s m args below meth c D cy base b H1 locs1 ls C ⟨hP, HH.2.1, hS1, HH.2.2.2⟩ LL
theorem wa_putOF {idx k j ci N : Nat} {ref Cn : String} {T : u_T} {ty0 : Nat → FieldType} {ty : FieldType} {r : Option Nat} (hd : decode μ.2.1 pc = .ok (.putfield idx, 3)) (hl : Cond.fieldLink μ.1.cls idx ref (T j).2.1 (T j).2.2.1 ∈ lw_ok) (hr : (T j).1 = ref) (hin : ∀ w ∈ u_ws Cn T N, w ∈ lw_ok) (hc : vwCl[ci]? = some (Cn, T, N)) (hN : zNf ci = N) (hj : j < N)
    (hty0 : ∀ k, k < N → parseFieldDescriptor (T k).2.2.1 = some (ty0 k)) (hnm : ∀ a, a < N → ∀ b, b < N → a ≠ b → (T a).2.1 ≠ (T b).2.1) (hfin : (T j).2.2.2 = true) (hin2 : μ.1.name = "<init>") (hdecl : (T j).1 = μ.1.cls) (hpd : parseFieldDescriptor (T j).2.2.1 = some ty) (hnar : ∀ r : Option Nat, narrow ty (va_rf r) = va_rf r ∧ fits ty (va_rf r) = true)
    (hty : ∀ base r x, zf base ci j r x = va_rf (r.map (fun k => base + k))) (hS : S k = some (.inr ci)) (kk : Wa X μ R Z ce sl n S (pc + 3) L st (zp Rf k (za (Rf k) j r)) V) : Wa X μ R Z ce sl n S pc L (zO r :: zR k :: st) Rf V := by
  intro p l e s m args below meth c D cy base b H locs ls C HH LL
  have hk := zin HH hS
  have he : (zw cy base n S Rf V)[k]? = some (base + k, .inr (ci, (List.range (zNf ci)).map (fun j => zf base ci j (Rf k j) (V k j)))) := by rw [zw_at hk, hS]; rfl
  refine va_putF (v := va_rf (r.map (fun k => base + k))) (ty := ty) C.1 C.2.1 C.2.2.2.2.2.1 hin ty0 hty0 hnm C.2.2.2.2.1 C.2.2.2.2.2.2.2.1.1 HH.1 zw_D HH.2.2.1 k he hc j hj (C.2.2.2.2.2.1 _ hl) (fun x h => by rw [← hr]; exact h) hfin (C.2.2.2.2.2.2.2.2.2.1.trans hin2) hdecl hpd (hnar _).1 (hnar _).2 (by simp [hN, hj]) hd (fun H1 locs1 hP _ hS1 => ?_)
  rw [zw_set (Rf' := zp Rf k (za (Rf k) j r)) (V' := V) hk (zcO hS hty) (fun i hi => ⟨zp_n _ _ hi, rfl⟩)] at hP
  exact kk p l e s m args below meth c D cy base b H1 locs1 ls C ⟨hP, HH.2.1, hS1, HH.2.2.2⟩ LL
theorem wa_iaload {k N : Nat} {i : Int} (hd : decode μ.2.1 pc = .ok (.iaload, 1)) (hS : S k = some (.inl (0, N))) (hi : 0 ≤ i ∧ i < N) (hN : N ≤ 2147483647) (kk : Wa X μ R Z ce sl n S (pc + 1) L (zI (V k i.toNat) :: st) Rf V) : Wa X μ R Z ce sl n S pc L (zI i :: zR k :: st) Rf V := by
  intro p l e s m args below meth c D cy base b H locs ls C HH LL
  have he : (zw cy base n S Rf V)[k]? = some (base + k, .inl (cy.1, N, .inl (fun j => Int32.ofInt (V k j)))) := by rw [zw_at (zin HH hS), hS]; rfl
  refine va_iald C.1 C.2.1 C.2.2.2.2.2.2.2.1.1 HH.1 k 0 he rfl (zi_in hi hN) hd ?_
  rw [zi_cl (by omega)]
  exact kk p l e s m args below meth c D cy base b H locs ls C HH LL
theorem wa_baload {k N : Nat} {i : Int} (hd : decode μ.2.1 pc = .ok (.baload, 1)) (hS : S k = some (.inl (1, N))) (hi : 0 ≤ i ∧ i < N) (hN : N ≤ 2147483647) (kk : Wa X μ R Z ce sl n S (pc + 1) L (zI (V k i.toNat) :: st) Rf V) : Wa X μ R Z ce sl n S pc L (zI i :: zR k :: st) Rf V := by
  intro p l e s m args below meth c D cy base b H locs ls C HH LL
  have he : (zw cy base n S Rf V)[k]? = some (base + k, .inl (cy.2.1, N, .inl (fun j => Int32.ofInt (V k j)))) := by rw [zw_at (zin HH hS), hS]; rfl
  refine va_zald C.1 C.2.1 C.2.2.2.2.2.2.2.1.1 HH.1 k 1 he rfl (zi_in hi hN) hd ?_
  rw [zi_cl (by omega)]
  exact kk p l e s m args below meth c D cy base b H locs ls C HH LL
theorem wa_aaload {k N : Nat} {i : Int} {a : Option Nat} (hd : decode μ.2.1 pc = .ok (.aaload, 1)) (hS : S k = some (.inl (2, N))) (hi : 0 ≤ i ∧ i < N) (hN : N ≤ 2147483647) (ha : Rf k i.toNat = a) (kk : Wa X μ R Z ce sl n S (pc + 1) L (zO a :: st) Rf V) : Wa X μ R Z ce sl n S pc L (zI i :: zR k :: st) Rf V := by
  subst ha
  intro p l e s m args below meth c D cy base b H locs ls C HH LL
  have he : (zw cy base n S Rf V)[k]? = some (base + k, .inl (cy.2.2, N, .inr (.inr (.inr (.inr (fun j => (Rf k j).map (fun k => base + k))))))) := by rw [zw_at (zin HH hS), hS]; rfl
  refine va_aldq C.1 C.2.1 C.2.2.2.2.2.2.2.1.1 HH.1 k 2 he rfl (zi_in hi hN) hd ?_
  rw [zi_cl (by omega)]
  exact kk p l e s m args below meth c D cy base b H locs ls C HH LL
theorem zupd {f : Nat → Int} {i : Nat} {x : Int} : upd (fun j => Int32.ofInt (f j)) i (Int32.ofInt x) = fun j => Int32.ofInt (za f i x j) := by
  funext j
  simp only [upd, za]
  split <;> rfl
theorem wa_iastore {k N : Nat} {i x : Int} (hd : decode μ.2.1 pc = .ok (.iastore, 1)) (hS : S k = some (.inl (0, N))) (hi : 0 ≤ i ∧ i < N) (hN : N ≤ 2147483647) (kk : Wa X μ R Z ce sl n S (pc + 1) L st Rf (zp V k (za (V k) i.toNat x))) : Wa X μ R Z ce sl n S pc L (zI x :: zI i :: zR k :: st) Rf V := by
  intro p l e s m args below meth c D cy base b H locs ls C HH LL
  have hk := zin HH hS
  have he : (zw cy base n S Rf V)[k]? = some (base + k, .inl (cy.1, N, .inl (fun j => Int32.ofInt (V k j)))) := by rw [zw_at hk, hS]; rfl
  refine va_iast C.1 C.2.1 C.2.2.2.2.2.2.2.1.1 HH.1 zw_D HH.2.2.1 k 0 he rfl (zi_in hi hN) hd (fun H1 locs1 hP _ hS1 => ?_)
  rw [zi_cl (by omega), zupd, zw_set (Rf' := Rf) (V' := zp V k (za (V k) i.toNat x)) hk (by rw [hS, zp_s]; rfl) (fun i hi => ⟨rfl, zp_n _ _ hi⟩)] at hP
  exact kk p l e s m args below meth c D cy base b H1 locs1 ls C ⟨hP, HH.2.1, hS1, HH.2.2.2⟩ LL
theorem wa_bastore {k N : Nat} {i x : Int} (hd : decode μ.2.1 pc = .ok (.bastore, 1)) (hS : S k = some (.inl (1, N))) (hi : 0 ≤ i ∧ i < N) (hN : N ≤ 2147483647) (hx : x = 0 ∨ x = 1) (kk : Wa X μ R Z ce sl n S (pc + 1) L st Rf (zp V k (za (V k) i.toNat x))) : Wa X μ R Z ce sl n S pc L (zI x :: zI i :: zR k :: st) Rf V := by
  intro p l e s m args below meth c D cy base b H locs ls C HH LL
  have hk := zin HH hS
  have he : (zw cy base n S Rf V)[k]? = some (base + k, .inl (cy.2.1, N, .inl (fun j => Int32.ofInt (V k j)))) := by rw [zw_at hk, hS]; rfl
  refine va_zast C.1 C.2.1 C.2.2.2.2.2.2.2.1.1 HH.1 zw_D HH.2.2.1 k 1 he rfl (zi_in hi hN) hd (fun H1 locs1 hP _ hS1 => ?_)
  have hv : vp_nar .boolean (Int32.ofInt x) = Int32.ofInt x := by rcases hx with rfl | rfl <;> decide
  rw [hv, zi_cl (by omega), zupd, zw_set (Rf' := Rf) (V' := zp V k (za (V k) i.toNat x)) hk (by rw [hS, zp_s]; rfl) (fun i hi => ⟨rfl, zp_n _ _ hi⟩)] at hP
  exact kk p l e s m args below meth c D cy base b H1 locs1 ls C ⟨hP, HH.2.1, hS1, HH.2.2.2⟩ LL
theorem wa_aastore {k N a : Nat} {i : Int} (hd : decode μ.2.1 pc = .ok (.aastore, 1)) (hS : S k = some (.inl (2, N))) (hi : 0 ≤ i ∧ i < N) (hN : N ≤ 2147483647) (ha : S a = some (.inr 4)) (kk : Wa X μ R Z ce sl n S (pc + 1) L st (zp Rf k (za (Rf k) i.toNat (some a))) V) : Wa X μ R Z ce sl n S pc L (zR a :: zI i :: zR k :: st) Rf V := by
  intro p l e s m args below meth c D cy base b H locs ls C HH LL
  have hk := zin HH hS
  have he : (zw cy base n S Rf V)[k]? = some (base + k, .inl (cy.2.2, N, .inr (.inr (.inr (.inr (fun j => (Rf k j).map (fun k => base + k))))))) := by rw [zw_at hk, hS]; rfl
  have hv : (zw cy base n S Rf V)[a]? = some (base + a, .inr (4, (List.range (zNf 4)).map (fun j => zf base 4 j (Rf a j) (V a j)))) := by rw [zw_at (zin HH ha), ha]; rfl
  refine va_astq (r := (RX4, TX4, 11)) C.1 C.2.1 C.2.2.2.2.2.2.2.1.1 HH.1 zw_D HH.2.2.1 k 2 a 4 he rfl hv rfl (zi_in hi hN) hd (fun H1 locs1 hP _ hS1 => ?_)
  have hv2 : va_up (fun j => (Rf k j).map (fun k => base + k)) i.toNat (some (base + a)) = fun j => (za (Rf k) i.toNat (some a) j).map (fun k => base + k) := by
    funext j
    simp only [va_up, za]
    split <;> rfl
  rw [zi_cl (by omega), hv2, zw_set (Rf' := zp Rf k (za (Rf k) i.toNat (some a))) (V' := V) hk (by rw [hS, zp_s]; rfl) (fun i hi => ⟨zp_n _ _ hi, rfl⟩)] at hP
  exact kk p l e s m args below meth c D cy base b H1 locs1 ls C ⟨hP, HH.2.1, hS1, HH.2.2.2⟩ LL
theorem wa_alen {k t N : Nat} (hd : decode μ.2.1 pc = .ok (.arraylength, 1)) (hS : S k = some (.inl (t, N))) (ht : t ≤ 1) (kk : Wa X μ R Z ce sl n S (pc + 1) L (zI N :: st) Rf V) : Wa X μ R Z ce sl n S pc L (zR k :: st) Rf V := by
  intro p l e s m args below meth c D cy base b H locs ls C HH LL
  have hk := zin HH hS
  obtain rfl | rfl : t = 0 ∨ t = 1 := by omega
  · have he : (zw cy base n S Rf V)[k]? = some (base + k, .inl (cy.1, N, .inl (fun j => Int32.ofInt (V k j)))) := by rw [zw_at hk, hS]; rfl
    exact va_alen C.1 C.2.1 C.2.2.2.2.2.2.2.1.1 HH.1 k 0 he rfl rfl hd (kk p l e s m args below meth c D cy base b H locs ls C HH LL)
  · have he : (zw cy base n S Rf V)[k]? = some (base + k, .inl (cy.2.1, N, .inl (fun j => Int32.ofInt (V k j)))) := by rw [zw_at hk, hS]; rfl
    exact va_alen C.1 C.2.1 C.2.2.2.2.2.2.2.1.1 HH.1 k 1 he rfl rfl hd (kk p l e s m args below meth c D cy base b H locs ls C HH LL)
end
