/-! makings, copies, the library's own -/
theorem zw_push {D : va_G} {cy : zY} {base n : Nat} {S : zH} {Rf : zG} {V : zE} {sh : zS} {H H1 : Heap} (hP : va_P D vwCl (zw cy base n S Rf V) H) (ho : ∀ q, q < H.size → H1[q]? = H[q]?)
    (hn : va_at D vwCl (base + n, zc cy base (some sh) (fun _ => none) (fun _ => 0)) H1) : va_P D vwCl (zw cy base (n + 1) (za S n (some sh)) (zp Rf n (fun _ => none)) (zp V n (fun _ => 0))) H1 := by
  intro k q hq
  obtain ⟨hk, rfl⟩ := zw_lt hq
  by_cases h : k = n
  · subst h
    rw [za_s, zp_s, zp_s]
    exact hn
  · have hk' : k < n := by omega
    rw [za_n _ _ h, zp_n _ _ h, zp_n _ _ h]
    have h1 := hP k _ (zw_at hk')
    exact h1.kept (ho _ h1.lt)
theorem zHp_push {D : va_G} {cy : zY} {base n ce : Nat} {S : zH} {Rf : zG} {V : zE} {sh : zS} {H H1 : Heap} {s : State} {locs : List Loc} (HH : zHp D cy base n S Rf V H s locs ce) (hb : base ≤ s.heap.size) (hz : H1.size = H.size + 1) (ho : ∀ q, q < H.size → H1[q]? = H[q]?)
    (hn : va_at D vwCl (base + n, zc cy base (some sh) (fun _ => none) (fun _ => 0)) H1) : zHp D cy base (n + 1) (za S n (some sh)) (zp Rf n (fun _ => none)) (zp V n (fun _ => 0)) H1 s locs (ce + 1) := by
  refine ⟨zw_push HH.1 ho hn, by have := HH.2.1; omega, ⟨by have := HH.2.2.1.1; omega, fun q h1 h2 => ?_, HH.2.2.1.2.2⟩, fun k hk => ?_⟩
  · rw [ho q (Nat.lt_of_lt_of_le h1 HH.2.2.1.1)]; exact HH.2.2.1.2.1 q h1 h2
  · by_cases h : k = n
    · omega
    · rw [za_n _ _ h] at hk
      have := HH.2.2.2 k hk; omega
/-- the heap's size, known ahead of an instruction -/
theorem zwith {p : Program} {l : Launch} {e : Env} {R : Room} {s : State} {m : MethodId} {args : Array Value} {below : List Frame} {meth : Method} {c : Code} {H : Heap} {locs : List Loc} {ce sl : Nat} {Qf : State → Prop} {g : JFrame} {D : va_G} {cy : zY} {base n : Nat} {S : zH} {Rf : zG} {V : zE} (HH : zHp D cy base n S Rf V H s locs ce) (hb : base ≤ s.heap.size)
    (k : H.size = base + n → W p l e R s m args below meth c H locs ce sl Qf g) : W p l e R s m args below meth c H locs ce sl Qf g := by
  intro T hT XX
  exact k (by subst hT; exact zsize XX HH hb) T hT XX
section
variable {X : zXt} {μ : zM} {R : Room} {Z : zZt} {ce sl n n1 ms : Nat} {S : zH} {pc : Nat} {L : List (Option zV)} {st : List zV} {Rf : zG} {V : zE} {Q : zQ}
theorem wa_new {idx ci N : Nat} {Cn : String} {T : u_T} {ty0 : Nat → FieldType} (hd : decode μ.2.1 pc = .ok (.new idx, 3)) (hl : Cond.classLink μ.1.cls idx Cn ∈ lw_ok) (hi : Cond.instantiable Cn N ∈ lw_ok) (hini : Cond.initialized Cn ∈ lw_ok) (hin : ∀ w ∈ u_ws Cn T N, w ∈ lw_ok) (hc : vwCl[ci]? = some (Cn, T, N)) (hN : zNf ci = N)
    (hty0 : ∀ k, k < N → parseFieldDescriptor (T k).2.2.1 = some (ty0 k)) (hdf : ∀ (base j : Nat), j < N → defaultValue (ty0 j) = zf base ci j none 0) (hf : ce + 1 ≤ R.cells ∧ sl + N ≤ R.slots)
    (kk : Wa X μ R Z (ce + 1) (sl + N) (n + 1) (za S n (some (.inr ci))) (pc + 3) L (zR n :: st) (zp Rf n (fun _ => none)) (zp V n (fun _ => 0))) : Wa X μ R Z ce sl n S pc L st Rf V := by
  intro p l e s m args below meth c D cy base b H locs ls C HH LL
  refine zwith HH C.2.2.2.2.2.2.2.2.1 (fun hsz => ?_)
  have hKn := C.2.2.2.2.2.2.2.1.1.1 ci _ hc
  have hts := C.2.2.2.2.2.1
  refine W.newcK C.1 C.2.1 C.2.2.2.2.1 (hts _ hl) (hts _ hi) (hts _ hini) rfl hd hf.1 hf.2 hKn.2.1 hsz (fun H1 kC hkC e1 z1 o1 => ?_)
  refine kk p l e s m args below meth c D cy base b H1 locs ls C (zHp_push HH C.2.2.2.2.2.2.2.2.1 (by omega) (fun q hq => o1 q (by omega)) ?_) LL
  refine ⟨_, hc, (u_born ty0 hts hin hKn hkC e1 hty0).to (fun j hj => ?_)⟩
  rw [hdf base j hj, vp_V]
  simp [hN, hj]
theorem wa_newI {i : Int} {N : Nat} (hd : decode μ.2.1 pc = .ok (.newarray .int, 2)) (hl : Cond.arrayClass (newarray.typeOf .int) ∈ lw_ok) (hi : i = N) (hN : N ≤ 100000000) (hf : ce + 1 ≤ R.cells ∧ sl + N ≤ R.slots)
    (kk : Wa X μ R Z (ce + 1) (sl + N) (n + 1) (za S n (some (.inl (0, N)))) (pc + 2) L (zR n :: st) (zp Rf n (fun _ => none)) (zp V n (fun _ => 0))) : Wa X μ R Z ce sl n S pc L (zI i :: st) Rf V := by
  subst hi
  intro p l e s m args below meth c D cy base b H locs ls C HH LL
  refine zwith HH C.2.2.2.2.2.2.2.2.1 (fun hsz => ?_)
  have hts := C.2.2.2.2.2.1
  refine va_newaK C.1 C.2.1 (hts _ hl) rfl hd rfl (by rw [zi_0, zi_lt (by omega) zi_r0]; omega) (N := N) (by rw [zi_cl (by omega)]; rfl) (by show N * 4 ≤ _; omega) hf.1 hf.2 hsz (fun H1 cA e1 z1 o1 hAr hNm => ?_)
  refine kk p l e s m args below meth c D cy base b H1 locs ls C (zHp_push HH C.2.2.2.2.2.2.2.2.1 (by omega) (fun q hq => o1 q (by omega)) ?_) LL
  have hcy : s.vm.findClass ("[" ++ (newarray.typeOf .int).toString) = some cy.1 := (C.2.2.2.2.2.2.2.1.1.2 0 _ rfl).2
  rw [hNm] at hcy
  obtain rfl := Option.some.inj hcy
  exact e1
theorem wa_newZ {i : Int} {N : Nat} (hd : decode μ.2.1 pc = .ok (.newarray .boolean, 2)) (hl : Cond.arrayClass (newarray.typeOf .boolean) ∈ lw_ok) (hi : i = N) (hN : N ≤ 100000000) (hf : ce + 1 ≤ R.cells ∧ sl + N ≤ R.slots)
    (kk : Wa X μ R Z (ce + 1) (sl + N) (n + 1) (za S n (some (.inl (1, N)))) (pc + 2) L (zR n :: st) (zp Rf n (fun _ => none)) (zp V n (fun _ => 0))) : Wa X μ R Z ce sl n S pc L (zI i :: st) Rf V := by
  subst hi
  intro p l e s m args below meth c D cy base b H locs ls C HH LL
  refine zwith HH C.2.2.2.2.2.2.2.2.1 (fun hsz => ?_)
  have hts := C.2.2.2.2.2.1
  refine va_newaK C.1 C.2.1 (hts _ hl) rfl hd rfl (by rw [zi_0, zi_lt (by omega) zi_r0]; omega) (N := N) (by rw [zi_cl (by omega)]; rfl) (by show N * 1 ≤ _; omega) hf.1 hf.2 hsz (fun H1 cA e1 z1 o1 hAr hNm => ?_)
  refine kk p l e s m args below meth c D cy base b H1 locs ls C (zHp_push HH C.2.2.2.2.2.2.2.2.1 (by omega) (fun q hq => o1 q (by omega)) ?_) LL
  have hcy : s.vm.findClass ("[" ++ (newarray.typeOf .boolean).toString) = some cy.2.1 := (C.2.2.2.2.2.2.2.1.1.2 1 _ rfl).2
  rw [hNm] at hcy
  obtain rfl := Option.some.inj hcy
  exact e1
theorem wa_newO {i : Int} {N idx : Nat} (hd : decode μ.2.1 pc = .ok (.anewarray idx, 3)) (hl : Cond.classLink μ.1.cls idx "SnowTalk$Street" ∈ lw_ok) (hi : i = N) (hN : N ≤ 100000000) (hf : ce + 1 ≤ R.cells ∧ sl + N ≤ R.slots)
    (kk : Wa X μ R Z (ce + 1) (sl + N) (n + 1) (za S n (some (.inl (2, N)))) (pc + 3) L (zR n :: st) (zp Rf n (fun _ => none)) (zp V n (fun _ => 0))) : Wa X μ R Z ce sl n S pc L (zI i :: st) Rf V := by
  subst hi
  intro p l e s m args below meth c D cy base b H locs ls C HH LL
  refine zwith HH C.2.2.2.2.2.2.2.2.1 (fun hsz => ?_)
  have hts := C.2.2.2.2.2.1
  have hcl : (Int32.ofInt (N : Int)).toNatClampNeg = N := by rw [zi_cl (by omega)]; rfl
  refine W.anew C.1 C.2.1 C.2.2.2.2.1 (hts _ hl) (va_AO.use C.2.2.2.2.2.2.2.1.2.1) rfl hd rfl (by rw [zi_0, zi_lt (by omega) zi_r0]; omega) (by rw [hcl]; omega) hf.1 (by rw [hcl]; exact hf.2) (fun cA kA comp f1 f2 f3 f4 => ?_)
  rw [hcl, hsz]
  generalize hH1 : H.push ({ cls := cA, slots := Array.replicate N .null, vm := .none } : Cell) = H1
  have z1 : H1.size = H.size + 1 := by rw [← hH1, Array.size_push]
  have e1 : H1[base + n]? = some (arrV cA N (fun _ => .null)) := by rw [← hH1, ← hsz, Array.getElem?_push_size, ← arrV_new]
  have o1 : ∀ q : Nat, q < H.size → H1[q]? = H[q]? := fun q hq => by rw [← hH1, Array.getElem?_push, if_neg (Nat.ne_of_lt hq)]
  refine kk p l e s m args below meth c D cy base b H1 locs ls C (zHp_push HH C.2.2.2.2.2.2.2.2.1 z1 o1 ?_) LL
  obtain ⟨_, _, _, _, _, hcy⟩ := (C.2.2.2.2.2.2.2.1.1.2 2 _ rfl).2
  rw [f1] at hcy
  obtain rfl := Option.some.inj hcy
  exact e1
theorem wa_objInit {idx r : Nat} (hd : decode μ.2.1 pc = .ok (.invokespecial idx, 3)) (hl : Cond.methodLink μ.1.cls idx Lib.objectInit ∈ lw_ok) (hi : Cond.instanceMethod Lib.objectInit ∈ lw_ok) (hcode : Cond.code Lib.objectInit ⟨#[0xb1]⟩ 1 none ∈ lw_ok) (hR : 1 ≤ R.frames ∧ (st.map zcat).sum + 12 ≤ R.locals)
    (kk : Wa X μ R Z ce sl n S (pc + 3) L st Rf V) : Wa X μ R Z ce sl n S pc L (zR r :: st) Rf V := by
  intro p l e s m args below meth c D cy base b H locs ls C HH LL
  have hts := C.2.2.2.2.2.1
  exact W.objInit C.1 C.2.1 C.2.2.2.2.1 (hts _ hl) (hts _ hi) (hts _ hcode) rfl (LL.1.trans C.2.2.2.1.symm) rfl hd hR.1 (by show 2 * 0 + _ + 12 ≤ _; rw [zsum]; omega) (kk p l e s m args below meth c D cy base b H locs ls C HH LL)
theorem wa_max {idx : Nat} {x y : Int} (hd : decode μ.2.1 pc = .ok (.invokestatic idx, 3)) (hl : Cond.methodLink μ.1.cls idx Lib.Math.max.name ∈ lw_ok) (hi : Cond.static Lib.Math.max.name ∈ lw_ok) (hini : Cond.initialized "java/lang/Math" ∈ lw_ok) (hcode : Cond.code Lib.Math.max.name Lib.Math.max.code 2 (some .int) ∈ lw_ok) (hR : 1 ≤ R.frames ∧ (st.map zcat).sum + 13 ≤ R.locals) (hc : ce ≤ R.cells ∧ sl ≤ R.slots)
    (hx : -2147483648 ≤ x ∧ x ≤ 2147483647) (hy : -2147483648 ≤ y ∧ y ≤ 2147483647) (kk : Wa X μ R Z ce sl n S (pc + 3) L (zI (max x y) :: st) Rf V) : Wa X μ R Z ce sl n S pc L (zI y :: zI x :: st) Rf V := by
  intro p l e s m args below meth c D cy base b H locs ls C HH LL
  have hts := C.2.2.2.2.2.1
  refine va_mmax C.1 C.2.1 (C.2.2.2.1.trans LL.1.symm) C.2.2.2.2.1 (hts _ hl) (hts _ hi) (hts _ hini) (hts _ hcode) hR.1 (by rw [zsum]; exact hR.2) hc.1 hc.2 hd ?_
  rw [show (if Int32.ofInt x < Int32.ofInt y then Int32.ofInt y else Int32.ofInt x) = Int32.ofInt (max x y) from by
    by_cases h : x < y
    · rw [if_pos ((zi_lt hx hy).mpr h), Int.max_eq_right (by omega)]
    · rw [if_neg (fun q => h ((zi_lt hx hy).mp q)), Int.max_eq_left (by omega)]]
  exact kk p l e s m args below meth c D cy base b H locs ls C HH LL
theorem wa_min {idx : Nat} {x y : Int} (hd : decode μ.2.1 pc = .ok (.invokestatic idx, 3)) (hl : Cond.methodLink μ.1.cls idx Lib.Math.min.name ∈ lw_ok) (hi : Cond.static Lib.Math.min.name ∈ lw_ok) (hini : Cond.initialized "java/lang/Math" ∈ lw_ok) (hcode : Cond.code Lib.Math.min.name Lib.Math.min.code 2 (some .int) ∈ lw_ok) (hR : 1 ≤ R.frames ∧ (st.map zcat).sum + 13 ≤ R.locals) (hc : ce ≤ R.cells ∧ sl ≤ R.slots)
    (hx : -2147483648 ≤ x ∧ x ≤ 2147483647) (hy : -2147483648 ≤ y ∧ y ≤ 2147483647) (kk : Wa X μ R Z ce sl n S (pc + 3) L (zI (min x y) :: st) Rf V) : Wa X μ R Z ce sl n S pc L (zI y :: zI x :: st) Rf V := by
  intro p l e s m args below meth c D cy base b H locs ls C HH LL
  have hts := C.2.2.2.2.2.1
  refine va_mmin C.1 C.2.1 (C.2.2.2.1.trans LL.1.symm) C.2.2.2.2.1 (hts _ hl) (hts _ hi) (hts _ hini) (hts _ hcode) hR.1 (by rw [zsum]; exact hR.2) hc.1 hc.2 hd ?_
  rw [show (if Int32.ofInt y < Int32.ofInt x then Int32.ofInt y else Int32.ofInt x) = Int32.ofInt (min x y) from by
    by_cases h : y < x
    · rw [if_pos ((zi_lt hy hx).mpr h), Int.min_eq_right (by omega)]
    · rw [if_neg (fun q => h ((zi_lt hy hx).mp q)), Int.min_eq_left (by omega)]]
  exact kk p l e s m args below meth c D cy base b H locs ls C HH LL
/-- a whole row copied onto another of the same length -/
theorem wa_copy {idx k0 k1 N : Nat} {len : Int} (hd : decode μ.2.1 pc = .ok (.invokestatic idx, 3)) (hl : Cond.methodLink μ.1.cls idx arraycopyName ∈ lw_ok) (hnat : Cond.native arraycopyName ∈ lw_ok) (hi : Cond.static arraycopyName ∈ lw_ok) (hini : Cond.initialized "java/lang/System" ∈ lw_ok) (hR : 1 ≤ R.frames ∧ (st.map zcat).sum + 30 ≤ R.locals)
    (hN : N ≤ 2147483647) (hlen : len = N) (h0 : S k0 = some (.inl (0, N))) (h1 : S k1 = some (.inl (0, N))) (kk : Wa X μ R Z ce sl n S (pc + 3) L st Rf (zp V k1 (V k0))) : Wa X μ R Z ce sl n S pc L (zI len :: zI 0 :: zR k1 :: zI 0 :: zR k0 :: st) Rf V := by
  subst hlen
  intro p l e s m args below meth c D cy base b H locs ls C HH LL
  have hts := C.2.2.2.2.2.1
  have hk := zin HH h1
  have e0 : (zw cy base n S Rf V)[k0]? = some (base + k0, .inl (cy.1, N, .inl (fun j => Int32.ofInt (V k0 j)))) := by rw [zw_at (zin HH h0), h0]; rfl
  have e1 : (zw cy base n S Rf V)[k1]? = some (base + k1, .inl (cy.1, N, .inl (fun j => Int32.ofInt (V k1 j)))) := by rw [zw_at hk, h1]; rfl
  have c0 : (Int32.ofInt 0).toNatClampNeg = 0 := by decide
  have cN : (Int32.ofInt (N : Int)).toNatClampNeg = N := by rw [zi_cl (by omega)]; rfl
  refine va_copyi C.1 C.2.1 (C.2.2.2.1.trans LL.1.symm) C.2.2.2.2.1 (hts _ hl) (hts _ hnat) (hts _ hi) (hts _ hini) C.2.2.2.2.2.2.2.1.1 HH.1 zw_D HH.2.2.1 k0 k1 0 0 e0 e1 rfl rfl rfl (by decide) (by decide) (by rw [zi_0, zi_lt (by omega) zi_r0]; omega) (by rw [c0, cN]; omega) (by rw [c0, cN]; omega) (fun i hi => rfl) hR.1 (by rw [zsum, show nativeFrameWords "java/lang/System" "arraycopy" 5 + 11 = nativeFrameWords "java/lang/System" "arraycopy" 5 + 11 from rfl]; exact Nat.le_trans (Nat.add_le_add_left (by decide) _) hR.2) hd (fun H1 locs1 hP _ hS1 => ?_)
  rw [c0, cN] at hP
  refine kk p l e s m args below meth c D cy base b H1 locs1 ls C ⟨?_, HH.2.1, hS1, HH.2.2.2⟩ LL
  intro k q hq
  obtain ⟨hk2, rfl⟩ := zw_lt hq
  by_cases h : k = k1
  · subst h
    have h5 := hP k (base + k, .inl (cy.1, N, .inl (va_cpy (fun j => Int32.ofInt (V k0 j)) (fun j => Int32.ofInt (V k j)) 0 0 N))) (by rw [List.getElem?_set, if_pos rfl, if_pos (by simp [zw, hk])])
    rw [zp_s, h1]
    show H1[base + k]? = some (vp_cell cy.1 (N, .inl (fun j => Int32.ofInt (V k0 j))))
    have h6 : H1[base + k]? = some (vp_cell cy.1 (N, .inl (va_cpy (fun j => Int32.ofInt (V k0 j)) (fun j => Int32.ofInt (V k j)) 0 0 N))) := h5
    rw [h6, vp_cell_i, vp_cell_i]
    unfold arrV
    congr 2
    apply Array.ext
    · simp
    · intro i hi1 hi2
      simp at hi1
      simp [va_cpy, hi1]
  · rw [zp_n _ _ h]
    exact hP k _ (by rw [List.getElem?_set, if_neg (fun q => h q.symm)]; exact zw_at hk2)
end
