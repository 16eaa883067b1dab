/-! ends, calls, makings, copies -/
theorem lw_good {w : Cond} (h : w ∈ lw_ok) : goodWord w = true := (List.mem_filter.mp h).2
theorem zgood {μ : zM} (h : Cond.code μ.1 μ.2.1 μ.2.2.1 μ.2.2.2 ∈ lw_ok) : GoodIn lw_ok (zwd μ) := by
  intro w hw
  have hm : w ∈ lw_ok := by
    rcases List.mem_cons.mp hw with h1 | h1
    · rw [h1]; exact h
    · exact h1
  exact ⟨hm, good_of_word (lw_good hm)⟩
theorem zblind {as : List zV} {n : Nat} {S : zH} {Rf : zG} {V : zE} {D : va_G} {cy : zY} {base b : Nat} : FrameBlind (zpc as n S Rf V D cy base b) := fun a U g mk q => by
  obtain ⟨q1, q2, q3, q4, q5⟩ := q
  exact ⟨q1, zK.moved (u := U) (U := U.calling g mk a) (State.WarmedH.refl U) q2, q3, q4, q5⟩
section
variable {X : zXt} {μ : zM} {R : Room} {Z : zZt} {ce sl n n1 ms : Nat} {S : zH} {pc : Nat} {L : List (Option zV)} {st : List zV} {Rf : zG} {V : zE} {Q : zQ}
theorem wa_ireturn {a : Int} (hd : decode μ.2.1 pc = .ok (.ireturn, 1)) (hr : μ.2.2.2 = some .int) (hn : n = n1) (hs : sl ≤ ms) (hQ : Q (some (zI a)) S Rf V) : Wa X μ R (zZm Q n1 ce ms) ce sl n S pc L [zI a] Rf V := by
  subst hn
  intro p l e s m args below meth c D cy base b H locs ls C HH LL
  refine W.widen (Nat.le_refl _) hs ?_
  intro T hT XX
  subst hT
  have hsz := zsize XX HH C.2.2.2.2.2.2.2.2.1
  exact W.iret C.1 C.2.1 (C.2.2.1.trans hr) (fun t ht hW => ⟨some (zI a), S, Rf, V, hQ, rfl, by rw [ht]; exact HH.1, by rw [ht]; exact hsz, HH.2.2.2, HH.2.2.1.F ht⟩) HH.2.2.1.2.2 hd (hlocks := C.2.2.2.2.2.2.1) T rfl XX
theorem wa_breturn {a : Int} (hd : decode μ.2.1 pc = .ok (.ireturn, 1)) (hr : μ.2.2.2 = some .boolean) (hn : n = n1) (hs : sl ≤ ms) (ha : a = 0 ∨ a = 1) (hQ : Q (some (zI a)) S Rf V) : Wa X μ R (zZm Q n1 ce ms) ce sl n S pc L [zI a] Rf V := by
  subst hn
  intro p l e s m args below meth c D cy base b H locs ls C HH LL
  refine W.widen (Nat.le_refl _) hs ?_
  intro T hT XX
  subst hT
  have hsz := zsize XX HH C.2.2.2.2.2.2.2.2.1
  exact W.zret C.1 C.2.1 (C.2.2.1.trans hr) (by rcases ha with rfl | rfl <;> decide) (fun t ht hW => ⟨some (zI a), S, Rf, V, hQ, rfl, by rw [ht]; exact HH.1, by rw [ht]; exact hsz, HH.2.2.2, HH.2.2.1.F ht⟩) HH.2.2.1.2.2 hd (hlocks := C.2.2.2.2.2.2.1) T rfl XX
theorem wa_lreturn {a : Int} (hd : decode μ.2.1 pc = .ok (.lreturn, 1)) (hr : μ.2.2.2 = some .long) (hn : n = n1) (hs : sl ≤ ms) (hQ : Q (some (zL a)) S Rf V) : Wa X μ R (zZm Q n1 ce ms) ce sl n S pc L [zL a] Rf V := by
  subst hn
  intro p l e s m args below meth c D cy base b H locs ls C HH LL
  refine W.widen (Nat.le_refl _) hs ?_
  intro T hT XX
  subst hT
  have hsz := zsize XX HH C.2.2.2.2.2.2.2.2.1
  exact W.lret C.1 C.2.1 (C.2.2.1.trans hr) (fun t ht hW => ⟨some (zL a), S, Rf, V, hQ, rfl, by rw [ht]; exact HH.1, by rw [ht]; exact hsz, HH.2.2.2, HH.2.2.1.F ht⟩) HH.2.2.1.2.2 hd (hlocks := C.2.2.2.2.2.2.1) T rfl XX
theorem wa_return (hd : decode μ.2.1 pc = .ok (.return_, 1)) (hr : μ.2.2.2 = none) (hn : n = n1) (hs : sl ≤ ms) (hQ : Q none S Rf V) : Wa X μ R (zZm Q n1 ce ms) ce sl n S pc L [] Rf V := by
  subst hn
  intro p l e s m args below meth c D cy base b H locs ls C HH LL
  refine W.widen (Nat.le_refl _) hs ?_
  intro T hT XX
  subst hT
  have hsz := zsize XX HH C.2.2.2.2.2.2.2.2.1
  exact W.vret C.1 C.2.1 (C.2.2.1.trans hr) (fun t ht hW => ⟨none, S, Rf, V, hQ, rfl, by rw [ht]; exact HH.1, by rw [ht]; exact hsz, HH.2.2.2, HH.2.2.1.F ht⟩) HH.2.2.1.2.2 hd (hlocks := C.2.2.2.2.2.2.1) T rfl XX
theorem zafter {p : Program} {l : Launch} {e : Env} {s : State} {m : MethodId} {args a : Array Value} {below : List Frame} {meth : Method} {c : Code} {D : va_G} {cy : zY} {base b mc ms' : Nat} {H : Heap} {locs : List Loc} {ls : Array Slot} {Qf : State → Prop} {st0 : List Value} {rest : List zV} {Qc : zQ} {T : State} (hT : T.heap = H) (XX : Stand p l e R s m args below meth c T locs ce sl)
    (hr : va_Run p l e R s m args below meth c H locs ce sl mc ms' (F0 m pc ls st0) (rest.map (zu base b)) (zqc Qc (n + mc) D cy base b a) (zA base)) (HH : zHp D cy base n S Rf V H s locs ce)
    (kk : ∀ (v : Option zV) (S' : zH) (Rf' : zG) (V' : zE) (H1 : Heap) (locs1 : List Loc), Qc v S' Rf' V' → zHp D cy base (n + mc) S' Rf' V' H1 s locs1 (ce + mc) → W p l e R s m args below meth c H1 locs1 (ce + mc) (sl + ms') Qf (F0 m (pc + 3) ls ((v.toList ++ rest).map (zu base b)))) :
    ∃ t, Steps p.tables e below (T.setTop (F0 m pc ls st0)) t ∧ Qf t := by
  obtain ⟨v, st₀, t, T', L', h0, X', hL, e1, e2, ⟨r, S', Rf', V', hQ, ho, hP', hsz, hSn, hF⟩, stp⟩ := hr T hT XX
  cases ho
  have hF1 := hF.1
  have hF2 := hF.2
  rw [h0] at hF1 hF2
  have HH' : zHp D cy base (n + mc) S' Rf' V' T'.heap s (locs ++ L') (ce + mc) := by
    refine ⟨by rw [e1]; exact hP', by have := HH.2.1; omega, ⟨Nat.le_trans HH.2.2.1.1 (by rw [e1]; exact hF1), fun q h1 h2 => by rw [e1, hF2 q (Nat.lt_of_lt_of_le h1 HH.2.2.1.1) h2]; exact HH.2.2.1.2.1 q h1 h2, fun q hq => ?_⟩, hSn⟩
    rcases List.mem_append.mp hq with h | h
    · exact HH.2.2.1.2.2 q h
    · exact hL q h
  obtain ⟨t2, a1, b1⟩ := kk r S' Rf' V' T'.heap (locs ++ L') hQ HH' T' rfl X'
  refine ⟨t2, stp t2 ?_, b1⟩
  cases r <;> exact a1
theorem zsum (base b : Nat) (rest : List zV) : ((rest.map (zu base b)).map (fun v => v.category)).sum = (rest.map zcat).sum := by
  rw [List.map_map]
  congr 1
  exact List.map_congr_left (fun v _ => zu_cat base b v)
theorem wa_callV {d mc idx ci r N k1 : Nat} {μ' : zM} {as rest : List zV} {Qc : zQ} {Cn : String} {T : u_T} (hd : decode μ.2.1 pc = .ok (.invokevirtual idx, 3)) (hl : Cond.methodLink μ.1.cls idx μ'.1 ∈ lw_ok) (hi : Cond.instanceMethod μ'.1 ∈ lw_ok) (hsel : Cond.selects Cn μ'.1 μ'.1 ∈ lw_ok) (hini : Cond.initialized μ'.1.cls ∈ lw_ok) (hcode : Cond.code μ'.1 μ'.2.1 μ'.2.2.1 μ'.2.2.2 ∈ lw_ok)
    (hdy : μ'.1.cls ≠ "java/lang/invoke/MethodHandle" ∧ μ'.1.cls ≠ "java/lang/invoke/VarHandle" ∧ (parseMethodDescriptor μ'.1.desc).map (fun d => d.parameters.length) = some k1) (hc : vwCl[ci]? = some (Cn, T, N)) (hlen : as.length = k1) (hS : S r = some (.inr ci)) (hst : st = as.reverse ++ zR r :: rest) (hC : Ct d mc ms μ' (zR r :: as) n S Rf V Qc) (hR : d + 1 ≤ R.frames ∧ 8 + (μ'.2.2.1 + 11) + 40 * d ≤ R.locals) (hw : (rest.map zcat).sum ≤ 8) (hf : ce + mc ≤ R.cells ∧ sl + ms ≤ R.slots)
    (kk : ∀ (v : Option zV) (S' : zH) (Rf' : zG) (V' : zE), Qc v S' Rf' V' → Wa X μ R Z (ce + mc) (sl + ms) (n + mc) S' (pc + 3) L (v.toList ++ rest) Rf' V') : Wa X μ R Z ce sl n S pc L st Rf V := by
  intro p l e s m args below meth c D cy base b H locs ls C HH LL T hT XX
  have hsz : H.size = base + n := by subst hT; exact zsize XX HH C.2.2.2.2.2.2.2.2.1
  have hK := C.2.2.2.2.2.2.2.1
  have hts := C.2.2.2.2.2.1
  subst hst
  have he : (zw cy base n S Rf V)[r]? = some (base + r, .inr (ci, (List.range (zNf ci)).map (fun j => zf base ci j (Rf r j) (V r j)))) := by rw [zw_at (zin HH hS), hS]; rfl
  refine zafter hT XX (va_runV (b := base + r) (As := as.map (zu base b)) (rest := rest.map (zu base b)) ⟨C.1, C.2.1, C.2.2.2.1, C.2.2.2.2.1, hts⟩ (hC l D cy base b)
    ⟨callB_of k1 hts (zgood hcode) rfl rfl rfl (hts _ hini) (hts _ hl) hdy hR, hts _ hi, hts _ hsel⟩ ⟨zblind, va_recv hK.1 HH.1 hc he, fun U hU hW => ⟨rfl, zK.moved hW hK, by rw [hU]; exact HH.1, by rw [hU]; exact hsz, HH.2.2.2⟩⟩ rfl (by rw [List.length_map]; exact hlen) LL.1 ?_ ?_ hd hf) HH
    (fun v S' Rf' V' H1 locs1 hQ HH' => kk v S' Rf' V' hQ p l e s m args below meth c D cy base b H1 locs1 ls C HH' LL)
  · rw [List.map_append, List.map_reverse]; rfl
  · show 2 * 0 + _ ≤ 8
    rw [zsum]; omega
theorem wa_callS {d mc idx k1 : Nat} {μ' : zM} {as rest : List zV} {Qc : zQ} (hd : decode μ.2.1 pc = .ok (.invokestatic idx, 3)) (hl : Cond.methodLink μ.1.cls idx μ'.1 ∈ lw_ok) (hi : Cond.static μ'.1 ∈ lw_ok) (hini : Cond.initialized μ'.1.cls ∈ lw_ok) (hcode : Cond.code μ'.1 μ'.2.1 μ'.2.2.1 μ'.2.2.2 ∈ lw_ok)
    (hdy : μ'.1.cls ≠ "java/lang/invoke/MethodHandle" ∧ μ'.1.cls ≠ "java/lang/invoke/VarHandle" ∧ (parseMethodDescriptor μ'.1.desc).map (fun d => d.parameters.length) = some k1) (hlen : as.length = k1) (hst : st = as.reverse ++ rest) (hC : Ct d mc ms μ' as n S Rf V Qc) (hR : d + 1 ≤ R.frames ∧ 8 + (μ'.2.2.1 + 11) + 40 * d ≤ R.locals) (hw : (rest.map zcat).sum ≤ 8) (hf : ce + mc ≤ R.cells ∧ sl + ms ≤ R.slots)
    (kk : ∀ (v : Option zV) (S' : zH) (Rf' : zG) (V' : zE), Qc v S' Rf' V' → Wa X μ R Z (ce + mc) (sl + ms) (n + mc) S' (pc + 3) L (v.toList ++ rest) Rf' V') : Wa X μ R Z ce sl n S pc L st Rf V := by
  intro p l e s m args below meth c D cy base b H locs ls C HH LL T hT XX
  have hsz : H.size = base + n := by subst hT; exact zsize XX HH C.2.2.2.2.2.2.2.2.1
  have hK := C.2.2.2.2.2.2.2.1
  have hts := C.2.2.2.2.2.1
  subst hst
  refine zafter hT XX (va_runS (As := as.map (zu base b)) (rest := rest.map (zu base b)) ⟨C.1, C.2.1, C.2.2.2.1, C.2.2.2.2.1, hts⟩ (hC l D cy base b)
    ⟨callB_of k1 hts (zgood hcode) rfl rfl rfl (hts _ hini) (hts _ hl) hdy hR, hts _ hi⟩ ⟨zblind, fun U hU hW => ⟨rfl, zK.moved hW hK, by rw [hU]; exact HH.1, by rw [hU]; exact hsz, HH.2.2.2⟩⟩ rfl (by rw [List.length_map]; exact hlen) LL.1 ?_ ?_ hd hf) HH
    (fun v S' Rf' V' H1 locs1 hQ HH' => kk v S' Rf' V' hQ p l e s m args below meth c D cy base b H1 locs1 ls C HH' LL)
  · rw [List.map_append, List.map_reverse]
  · show 2 * 0 + _ ≤ 8
    rw [zsum]; omega
theorem wa_callSN {d mc idx k1 : Nat} {μ' : zM} {as rest : List zV} {Qc : zQ} (hd : decode μ.2.1 pc = .ok (.invokestatic idx, 3)) (hl : (μ.1.cls, idx, μ'.1) ∈ zNest) (hi : Cond.static μ'.1 ∈ lw_ok) (hini : Cond.initialized μ'.1.cls ∈ lw_ok) (hcode : Cond.code μ'.1 μ'.2.1 μ'.2.2.1 μ'.2.2.2 ∈ lw_ok)
    (hdy : μ'.1.cls ≠ "java/lang/invoke/MethodHandle" ∧ μ'.1.cls ≠ "java/lang/invoke/VarHandle" ∧ (parseMethodDescriptor μ'.1.desc).map (fun d => d.parameters.length) = some k1) (hlen : as.length = k1) (hst : st = as.reverse ++ rest) (hC : Ct d mc ms μ' as n S Rf V Qc) (hR : d + 1 ≤ R.frames ∧ 8 + (μ'.2.2.1 + 11) + 40 * d ≤ R.locals) (hw : (rest.map zcat).sum ≤ 8) (hf : ce + mc ≤ R.cells ∧ sl + ms ≤ R.slots)
    (kk : ∀ (v : Option zV) (S' : zH) (Rf' : zG) (V' : zE), Qc v S' Rf' V' → Wa X μ R Z (ce + mc) (sl + ms) (n + mc) S' (pc + 3) L (v.toList ++ rest) Rf' V') : Wa X μ R Z ce sl n S pc L st Rf V := by
  intro p l e s m args below meth c D cy base b H locs ls C HH LL T hT XX
  have hsz : H.size = base + n := by subst hT; exact zsize XX HH C.2.2.2.2.2.2.2.2.1
  have hK := C.2.2.2.2.2.2.2.1
  have hts := C.2.2.2.2.2.1
  subst hst
  refine zafter hT XX (va_runSN (As := as.map (zu base b)) (rest := rest.map (zu base b)) ⟨C.1, C.2.1, C.2.2.2.1, C.2.2.2.2.1, hts⟩ (hC l D cy base b)
    ⟨va_cnB k1 hts (zgood hcode) rfl rfl rfl (hK.2.2 _ hl) (hts _ hini) hdy hR, hts _ hi, trivial⟩ ⟨zblind, fun U hU hW => ⟨rfl, zK.moved hW hK, by rw [hU]; exact HH.1, by rw [hU]; exact hsz, HH.2.2.2⟩⟩ rfl (by rw [List.length_map]; exact hlen) LL.1 ?_ ?_ hd hf) HH
    (fun v S' Rf' V' H1 locs1 hQ HH' => kk v S' Rf' V' hQ p l e s m args below meth c D cy base b H1 locs1 ls C HH' LL)
  · rw [List.map_append, List.map_reverse]
  · show 2 * 0 + _ ≤ 8
    rw [zsum]; omega
theorem wa_callI {d mc idx r k1 : Nat} {μ' : zM} {as rest : List zV} {Qc : zQ} (hd : decode μ.2.1 pc = .ok (.invokespecial idx, 3)) (hl : Cond.methodLink μ.1.cls idx μ'.1 ∈ lw_ok) (hi : Cond.instanceMethod μ'.1 ∈ lw_ok) (hini : Cond.initialized μ'.1.cls ∈ lw_ok) (hcode : Cond.code μ'.1 μ'.2.1 μ'.2.2.1 none ∈ lw_ok) (hret : μ'.2.2.2 = none) (hnm : μ'.1.name = "<init>")
    (hdy : μ'.1.cls ≠ "java/lang/invoke/MethodHandle" ∧ μ'.1.cls ≠ "java/lang/invoke/VarHandle" ∧ (parseMethodDescriptor μ'.1.desc).map (fun d => d.parameters.length) = some k1) (hlen : as.length = k1) (hst : st = as.reverse ++ zR r :: rest) (hC : Ct d mc ms μ' (zR r :: as) n S Rf V Qc) (hR : d + 1 ≤ R.frames ∧ 8 + (μ'.2.2.1 + 11) + 40 * d ≤ R.locals) (hw : (rest.map zcat).sum ≤ 8) (hf : ce + mc ≤ R.cells ∧ sl + ms ≤ R.slots)
    (kk : ∀ (v : Option zV) (S' : zH) (Rf' : zG) (V' : zE), Qc v S' Rf' V' → Wa X μ R Z (ce + mc) (sl + ms) (n + mc) S' (pc + 3) L (v.toList ++ rest) Rf' V') : Wa X μ R Z ce sl n S pc L st Rf V := by
  obtain ⟨y', c', nL', r'⟩ := μ'
  dsimp only at hret
  subst hret
  intro p l e s m args below meth c D cy base b H locs ls C HH LL T hT XX
  have hsz : H.size = base + n := by subst hT; exact zsize XX HH C.2.2.2.2.2.2.2.2.1
  have hK := C.2.2.2.2.2.2.2.1
  have hts := C.2.2.2.2.2.1
  subst hst
  refine zafter hT XX (va_runI (b := base + r) (As := as.map (zu base b)) (rest := rest.map (zu base b)) (bytes := c') (maxL := nL') ⟨C.1, C.2.1, C.2.2.2.1, C.2.2.2.2.1, hts⟩ (hC l D cy base b)
    ⟨callB_of k1 hts (zgood hcode) rfl rfl rfl (hts _ hini) (hts _ hl) hdy hR, hnm, hts _ hi⟩ ⟨zblind, fun U hU hW => ⟨rfl, zK.moved hW hK, by rw [hU]; exact HH.1, by rw [hU]; exact hsz, HH.2.2.2⟩⟩ rfl (by rw [List.length_map]; exact hlen) LL.1 ?_ ?_ hd hf) HH
    (fun v S' Rf' V' H1 locs1 hQ HH' => kk v S' Rf' V' hQ p l e s m args below meth c D cy base b H1 locs1 ls C HH' LL)
  · rw [List.map_append, List.map_reverse]; rfl
  · show 2 * 0 + _ ≤ 8
    rw [zsum]; omega
end
