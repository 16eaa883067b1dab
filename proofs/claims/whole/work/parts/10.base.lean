/-! the machine seen through whole numbers: values, cells, worlds; the judgement Wa; contracts Ct -/
/-- the words of the tables that hold at every call -/
def lw_ok : List Cond := lw_tbl.filter goodWord
theorem lw_in (i : Nat) {w : Cond} (h : lw_tbl[i]? = some w) (hg : goodWord w = true) : w ∈ lw_ok := List.mem_filter.mpr ⟨List.mem_of_getElem? h, hg⟩
abbrev zV : Type := Int ⊕ (Int ⊕ (Option Nat ⊕ Unit))
abbrev zI (a : Int) : zV := Sum.inl a
abbrev zL (a : Int) : zV := Sum.inr (Sum.inl a)
abbrev zO (r : Option Nat) : zV := Sum.inr (Sum.inr (Sum.inl r))
abbrev zR (k : Nat) : zV := zO (some k)
abbrev zN : zV := zO none
abbrev zX : zV := Sum.inr (Sum.inr (Sum.inr ()))
abbrev zB (P : Prop) [Decidable P] : zV := zI (if P then 1 else 0)
def zu (base b : Nat) (v : zV) : Value := match v with
  | Sum.inl a => .int (Int32.ofInt a)
  | Sum.inr (Sum.inl a) => .long (Int64.ofInt a)
  | Sum.inr (Sum.inr (Sum.inl r)) => va_rf (r.map (fun k => base + k))
  | Sum.inr (Sum.inr (Sum.inr _)) => .ref b
def zcat (v : zV) : Nat := match v with
  | Sum.inr (Sum.inl _) => 2
  | _ => 1
theorem zu_cat (base b : Nat) (v : zV) : (zu base b v).category = zcat v := by
  rcases v with a | a | r | u
  · rfl
  · rfl
  · cases r <;> rfl
  · rfl
def zok (a : Option zV) : Bool := match a with
  | some v => zcat v == 1
  | none => true
abbrev zS : Type := (Nat × Nat) ⊕ Nat
def zT (ci : Nat) (j : Nat) : FieldType := match ci with
  | 0 => tyX0 j
  | 1 => tyX1 j
  | 2 => tyX2 j
  | 3 => tyX3 j
  | 4 => tyX4 j
  | 5 => tyX5 j
  | 6 => tyX6 j
  | _ => tyX7 j
def zNf (ci : Nat) : Nat := match ci with
  | 0 => 2
  | 1 => 3
  | 2 => 8
  | 3 => 4
  | 4 => 11
  | 5 => 8
  | 6 => 8
  | _ => 39
def zf (base ci j : Nat) (r : Option Nat) (x : Int) : Value := match zT ci j with
  | .int => .int (Int32.ofInt x)
  | _ => va_rf (r.map (fun k => base + k))
abbrev zY : Type := ClassId × ClassId × ClassId
def zc (cy : zY) (base : Nat) (sh : Option zS) (r : Nat → Option Nat) (f : Nat → Int) : va_E := match sh with
  | some (Sum.inl (0, n)) => .inl (cy.1, n, .inl (fun j => Int32.ofInt (f j)))
  | some (Sum.inl (1, n)) => .inl (cy.2.1, n, .inl (fun j => Int32.ofInt (f j)))
  | some (Sum.inl (_, n)) => .inl (cy.2.2, n, .inr (.inr (.inr (.inr (fun j => (r j).map (fun k => base + k))))))
  | some (Sum.inr ci) => .inr (ci, (List.range (zNf ci)).map (fun j => zf base ci j (r j) (f j)))
  | none => .inl (cy.1, 0, .inl (fun _ => 0))
abbrev zH : Type := Nat → Option zS
abbrev zG : Type := Nat → Nat → Option Nat
abbrev zE : Type := Nat → Nat → Int
def zw (cy : zY) (base n : Nat) (S : zH) (Rf : zG) (V : zE) : va_W := (List.range n).map (fun k => (base + k, zc cy base (S k) (Rf k) (V k)))
theorem zw_at {cy : zY} {base n : Nat} {S : zH} {Rf : zG} {V : zE} {k : Nat} (h : k < n) : (zw cy base n S Rf V)[k]? = some (base + k, zc cy base (S k) (Rf k) (V k)) := by
  simp [zw, h]
theorem zw_lt {cy : zY} {base n : Nat} {S : zH} {Rf : zG} {V : zE} {k : Nat} {q : Nat × va_E} (h : (zw cy base n S Rf V)[k]? = some q) : k < n ∧ q = (base + k, zc cy base (S k) (Rf k) (V k)) := by
  by_cases hk : k < n
  · rw [zw_at hk] at h; exact ⟨hk, (Option.some.inj h).symm⟩
  · simp [zw, hk] at h
abbrev zA (base : Nat) : Nat → Prop := fun q => base ≤ q
theorem zw_D {cy : zY} {base n : Nat} {S : zH} {Rf : zG} {V : zE} : va_D (zA base) (zw cy base n S Rf V) := by
  refine ⟨fun i j p q hi hj he => ?_, fun k q hk => ?_⟩
  · obtain ⟨_, rfl⟩ := zw_lt hi
    obtain ⟨_, rfl⟩ := zw_lt hj
    dsimp only at he; omega
  · obtain ⟨_, rfl⟩ := zw_lt hk
    exact Nat.le_add_right _ _
/-- a row put, a place put -/
def zp {α : Type} (V : Nat → Nat → α) (k : Nat) (f : Nat → α) : Nat → Nat → α := fun a => if a = k then f else V a
def za {α : Type} (f : Nat → α) (j : Nat) (x : α) : Nat → α := fun i => if i = j then x else f i
theorem zp_s {α : Type} (V : Nat → Nat → α) (k : Nat) (f : Nat → α) : zp V k f k = f := by simp [zp]
theorem zp_n {α : Type} (V : Nat → Nat → α) {k a : Nat} (f : Nat → α) (h : a ≠ k) : zp V k f a = V a := by simp [zp, h]
theorem za_s {α : Type} (f : Nat → α) (j : Nat) (x : α) : za f j x j = x := by simp [za]
theorem za_n {α : Type} (f : Nat → α) {j i : Nat} (x : α) (h : i ≠ j) : za f j x i = f i := by simp [za, h]
theorem zw_set {cy : zY} {base n : Nat} {S : zH} {Rf Rf' : zG} {V V' : zE} {k : Nat} {e : va_E} (hk : k < n) (he : zc cy base (S k) (Rf' k) (V' k) = e) (ho : ∀ i, i ≠ k → Rf' i = Rf i ∧ V' i = V i) :
    (zw cy base n S Rf V).set k (base + k, e) = zw cy base n S Rf' V' := by
  subst he
  apply List.ext_getElem?
  intro i
  rw [List.getElem?_set]
  by_cases hi : k = i
  · subst hi
    rw [if_pos rfl, zw_at hk, if_pos (by simp [zw, hk])]
  · rw [if_neg hi]
    by_cases hin : i < n
    · rw [zw_at hin, zw_at hin, (ho i (fun h => hi h.symm)).1, (ho i (fun h => hi h.symm)).2]
    · simp [zw, hin]
theorem zmap_set {α : Type} {N j : Nat} {g g' : Nat → α} {v : α} (hj : g' j = v) (ho : ∀ i, i ≠ j → g' i = g i) : ((List.range N).map g).set j v = (List.range N).map g' := by
  apply List.ext_getElem?
  intro i
  rw [List.getElem?_set]
  by_cases hi : j = i
  · subst hi
    by_cases hN : j < N <;> simp [hN, hj]
  · rw [if_neg hi]
    by_cases hN : i < N
    · simp [hN, ho i (fun h => hi h.symm)]
    · simp [hN]
abbrev ztys (cy : zY) : List (ClassId × FieldType) := [(cy.1, .int), (cy.2.1, .boolean), (cy.2.2, .object "SnowTalk$Street")]
/-- the links to a nest mate's own methods -/
def zNest : List (String × Nat × MethodName) := [(RX4, 90, yX6_passNight), (RX5, 61, yX6_isOutside), (RX2, 37, yX6_isOutside), (RX2, 78, yX6_passNight), (RX0, 34, yX6_isOutside)]
def zK (D : va_G) (cy : zY) (s : State) : Prop := va_K D vwCl (ztys cy) s ∧ va_AO "SnowTalk$Street" s ∧ ∀ q ∈ zNest, va_Nw (.methodLinkNest q.1 q.2.1 q.2.2 "SnowTalk") s
theorem zK.moved {D : va_G} {cy : zY} {u U : State} (hW : u.WarmedH U.vm) (h : zK D cy u) : zK D cy U := ⟨va_K.moved hW.alike h.1, h.2.1.moved hW.alike, fun q hq => va_Nw.warmM hW (h.2.2 q hq)⟩
abbrev zM : Type := MethodName × ByteArray × Nat × Option FieldType
abbrev zQ : Type := Option zV → zH → zG → zE → Prop
abbrev zXt : Type := State → Array Value → Nat → Nat → Prop
abbrev zZt : Type := State → Array Value → List Frame → va_G → zY → Nat → Nat → State → Prop
def zC (X : zXt) (μ : zM) (p : Program) (s : State) (m : MethodId) (args : Array Value) (meth : Method) (c : Code) (D : va_G) (cy : zY) (base b : Nat) : Prop :=
  p.tables.exec = Jvm.exec ∧ c.code = μ.2.1 ∧ meth.sig.returnType = μ.2.2.2 ∧ c.maxLocals = μ.2.2.1 ∧ s.vm.findClass μ.1.cls = some m.cls ∧ (∀ w ∈ lw_ok, w.before args s = true) ∧ meth.locks = false ∧ zK D cy s ∧ base ≤ s.heap.size ∧ meth.name = μ.1.name ∧ X s args base b
def zHp (D : va_G) (cy : zY) (base n : Nat) (S : zH) (Rf : zG) (V : zE) (H : Heap) (s : State) (locs : List Loc) (ce : Nat) : Prop :=
  va_P D vwCl (zw cy base n S Rf V) H ∧ s.heap.size + ce = base + n ∧ va_S (zA base) s.heap H locs ∧ ∀ k, S k ≠ none → k < n
def zLs (base b nL : Nat) (L : List (Option zV)) (ls : Array Slot) : Prop := ls.size = nL ∧ lv_wf ls ∧ ∀ (i : Nat) (v : zV), L[i]? = some (some v) → ls[i]? = some (.val (zu base b v))
def Wa (X : zXt) (μ : zM) (R : Room) (Z : zZt) (ce sl n : Nat) (S : zH) (pc : Nat) (L : List (Option zV)) (st : List zV) (Rf : zG) (V : zE) : Prop :=
  ∀ (p : Program) (l : Launch) (e : Env) (s : State) (m : MethodId) (args : Array Value) (below : List Frame) (meth : Method) (c : Code) (D : va_G) (cy : zY) (base b : Nat) (H : Heap) (locs : List Loc) (ls : Array Slot),
    zC X μ p s m args meth c D cy base b → zHp D cy base n S Rf V H s locs ce → zLs base b μ.2.2.1 L ls →
    W p l e R s m args below meth c H locs ce sl (Z s args below D cy base b) (F0 m pc ls (st.map (zu base b)))
def zqc (Q : zQ) (n1 : Nat) (D : va_G) (cy : zY) (base b : Nat) : Array Value → State → Outcome → State → Prop := fun _ st o t =>
  ∃ (r : Option zV) (S' : zH) (Rf' : zG) (V' : zE), Q r S' Rf' V' ∧ o = .returned (r.map (zu base b)) ∧ va_P D vwCl (zw cy base n1 S' Rf' V') t.heap ∧ t.heap.size = base + n1 ∧ (∀ k, S' k ≠ none → k < n1) ∧ va_F (zA base) st t
abbrev zrm (d mc ms : Nat) : Room := { frames := d, cells := mc, slots := ms, locals := 40 * d }
def zpc (as : List zV) (n : Nat) (S : zH) (Rf : zG) (V : zE) (D : va_G) (cy : zY) (base b : Nat) : Array Value → State → Prop := fun v U =>
  v = (as.map (zu base b)).toArray ∧ zK D cy U ∧ va_P D vwCl (zw cy base n S Rf V) U.heap ∧ U.heap.size = base + n ∧ ∀ k, S k ≠ none → k < n
abbrev zwd (μ : zM) : List Cond := Cond.code μ.1 μ.2.1 μ.2.2.1 μ.2.2.2 :: lw_ok
def Ct (d mc ms : Nat) (μ : zM) (as : List zV) (n : Nat) (S : zH) (Rf : zG) (V : zE) (Q : zQ) : Prop :=
  ∀ (l : Launch) (D : va_G) (cy : zY) (base b : Nat), Met l μ.1 (zwd μ) (zrm d mc ms) (zpc as n S Rf V D cy base b) (zqc Q (n + mc) D cy base b) mc ms (zA base)
abbrev zXn : zXt := fun _ _ _ _ => True
abbrev zZm (Q : zQ) (n1 mc ms : Nat) : zZt := fun s args below D cy base b => MQ below (zqc Q n1 D cy base b) args s mc ms (zA base)
/-- the locals of a method's entry -/
def zlo (as : List zV) : List (Option zV) := as.flatMap (fun v => if zcat v = 2 then [some v, none] else [some v])
theorem zlo_ok (base b : Nat) (as : List zV) : ∀ (i : Nat) (v : zV), (zlo as)[i]? = some (some v) → (lg_sl (as.map (zu base b)))[i]? = some (.val (zu base b v)) := by
  induction as with
  | nil => intro i v h; simp [zlo] at h
  | cons a as ih =>
    intro i v h
    have e1 : zlo (a :: as) = (if zcat a = 2 then [some a, none] else [some a]) ++ zlo as := by simp [zlo]
    have e2 : lg_sl ((a :: as).map (zu base b)) = (if zcat a = 2 then [Slot.val (zu base b a), Slot.second] else [Slot.val (zu base b a)]) ++ lg_sl (as.map (zu base b)) := by
      simp [lg_sl, zu_cat]
    rw [e1] at h
    rw [e2]
    by_cases hc : zcat a = 2
    · rw [if_pos hc] at h ⊢
      rcases i with _ | _ | i
      · simp at h ⊢; rw [h]
      · simp at h
      · simp at h ⊢; exact ih i v h
    · rw [if_neg hc] at h ⊢
      rcases i with _ | i
      · simp at h ⊢; rw [h]
      · simp at h ⊢; exact ih i v h
theorem zlo_len (base b : Nat) (as : List zV) : (lg_sl (as.map (zu base b))).length = (zlo as).length := by
  induction as with
  | nil => rfl
  | cons a as ih =>
    have e1 : zlo (a :: as) = (if zcat a = 2 then [some a, none] else [some a]) ++ zlo as := by simp [zlo]
    have e2 : lg_sl ((a :: as).map (zu base b)) = (if zcat a = 2 then [Slot.val (zu base b a), Slot.second] else [Slot.val (zu base b a)]) ++ lg_sl (as.map (zu base b)) := by
      simp [lg_sl, zu_cat]
    rw [e1, e2, List.length_append, List.length_append, ih]
    by_cases hc : zcat a = 2 <;> simp [hc]
/-- the locals at a method's entry, filled up with nothing -/
theorem zls_entry {base b : Nat} {as : List zV} {nL : Nat} (h : (zlo as).length ≤ nL) : zLs base b nL (zlo as ++ List.replicate (nL - (zlo as).length) none) ((lg_sl (as.map (zu base b)) ++ List.replicate (nL - (lg_sl (as.map (zu base b))).length) Slot.unset).toArray) := by
  obtain ⟨h1, h2, -⟩ := lv_entry (as.map (zu base b)) (n := nL) (by rw [zlo_len]; exact h)
  refine ⟨h1, h2, fun i v hv => ?_⟩
  by_cases hi : i < (zlo as).length
  · rw [List.getElem?_append_left hi] at hv
    have := zlo_ok base b as i v hv
    rw [List.getElem?_toArray, List.getElem?_append_left (by rw [zlo_len]; exact hi)]
    exact this
  · rw [List.getElem?_append_right (by omega)] at hv
    rw [List.getElem?_replicate] at hv
    split at hv <;> simp at hv
theorem ct_of {d mc ms : Nat} {μ : zM} {as : List zV} {n : Nat} {S : zH} {Rf : zG} {V : zE} {Q : zQ} {L : List (Option zV)} (hy : plainName μ.1.cls = true) (hL : zlo as ++ List.replicate (μ.2.2.1 - (zlo as).length) none = L) (hlen : (zlo as).length ≤ μ.2.2.1)
    (k : Wa zXn μ (zrm d mc ms) (zZm Q (n + mc) mc ms) 0 0 n S 0 L [] Rf V) : Ct d mc ms μ as n S Rf V Q := by
  intro l D cy base b
  refine Met.ofW (cc := μ.2.1) (maxL := μ.2.2.1) (ret := μ.2.2.2) hy rfl ?_
  intro p e s m args below meth c s₁ B hml hv
  obtain ⟨rfl, hK, hP, hsz, hSn⟩ := hv
  have hts := atoms_spec (ws := zwd μ) B.pre
  subst hL
  have h := k p l e s m (as.map (zu base b)).toArray below meth c D cy base b s.heap [] _ ⟨B.exec, B.bytes, B.returns, hml, findClass_of_methodNamed B.named, fun w hw => hts w (List.mem_cons_of_mem _ hw), B.notSynchronized, hK, by omega, (name_of_methodNamed B.named B.method).1, trivial⟩ ⟨hP, hsz, va_S.rf, hSn⟩ (zls_entry hlen)
  rw [lg_entry_eq]
  exact h
