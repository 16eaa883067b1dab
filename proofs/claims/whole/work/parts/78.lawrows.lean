/-! the law: its script, its ends -/
def R_law : String := "SnowTalkLaw"
def lw_P (b : Addr) (xs : List Int32) (args : Array Value) (s : State) : Prop := args = #[.ref b] ∧ s.IntsAt b xs ∧ xs.length ≤ 3072 ∧ (Jvm.Cond.and given_1 narrow_1).before args s = true
def lw_Q (_ : Array Value) (s : State) (o : Outcome) (t : State) : Prop := o = .returned (some (.int 1)) ∧ Framed s o t [] 600000 7302250
def lw_Z (below : List Frame) (a : Array Value) (s : State) : State → Prop := fun t => ∃ o, t.status = .running ∧ Ended t below o ∧ lw_Q a s o t
/-- the law's own end, with 1 on the stack, nothing written that was there before, its room as the claim has it -/
theorem lw_ret {p : Program} {l : Launch} {e : Env} {s : State} {m : MethodId} {below : List Frame} {meth : Method} {c : Code} {b : Nat} (hx : p.tables.exec = Jvm.exec) (hb : c.code = code) (hr : meth.sig.returnType = ret) (hlocks : meth.locks = false) {pc : Nat} {H : Heap} {ls : Array Slot} (hdg : decode code pc = .ok (.ireturn, 1)) : W p l e room_1 s m #[Value.ref b] below meth c H [] 600000 7302250 (lw_Z below #[Value.ref b] s) (F0 m pc ls [.int 1]) := by
  intro T hT X
  obtain ⟨fs, hret, hrun, hended, hW, hframe⟩ := X.leave (v := some (.int 1)) (hlocks := hlocks) (fun h => by rw [hr] at h; cases h)
  have hmeth' : T.vm.method? m = some meth := X.method'
  refine ⟨T.setFrames fs, ?_, .returned (some (.int 1)), hrun, hended, rfl, ⟨_, rfl⟩, hW, hframe⟩
  jvm_step X.here [X.here.top, hx, hb, hdg, hmeth', hr, ret, narrow_b1]
  (try refine ⟨rfl, ?_⟩); (try refine ⟨rfl, ?_⟩)
  first | (intro acts; rw [hret _ acts rfl rfl rfl]) | rw [hret _ _ rfl rfl rfl]
  exact Steps.refl _
abbrev zXl (L : Nat) (xs : Nat → Int32) : zXt := fun s args base b => va_X b L xs s s.heap ∧ b < s.heap.size ∧ base = s.heap.size ∧ args = #[Value.ref b]
abbrev zZl : zZt := fun s args below _ _ _ _ => lw_Z below args s
abbrev mL_law : zM := (yL_law, cL_law, 4, some .boolean)
section
variable {LL : Nat} {xs : Nat → Int32} {μ : zM} {R : Room} {Z : zZt} {ce sl n : Nat} {S : zH} {pc : Nat} {L : List (Option zV)} {st : List zV} {Rf : zG} {V : zE}
theorem wa_sld {i : Int} (hd : decode μ.2.1 pc = .ok (.iaload, 1)) (hi : 0 ≤ i ∧ i < LL) (hL3 : LL ≤ 3072) (kk : Wa (zXl LL xs) μ R Z ce sl n S (pc + 1) L (zI (xs i.toNat).toInt :: st) Rf V) : Wa (zXl LL xs) μ R Z ce sl n S pc L (zI i :: zX :: st) Rf V := by
  intro p l e s m args below meth c D cy base b H locs ls C HH LS
  obtain ⟨x1, x2, x3, x4⟩ := C.2.2.2.2.2.2.2.2.2.2
  refine va_sld C.1 C.2.1 x1 x2 (A := zA base) (by show ¬ base ≤ b; omega) HH.2.2.1 (zi_in hi (by omega)) hd ?_
  rw [zi_cl (by omega)]
  have h := kk p l e s m args below meth c D cy base b H locs ls C HH LS
  have e9 : (zI (xs i.toNat).toInt :: st).map (zu base b) = .int (xs i.toNat) :: st.map (zu base b) := by
    show Value.int (Int32.ofInt (xs i.toNat).toInt) :: _ = _
    rw [Int32.ofInt_toInt]
  rw [e9] at h
  exact h
theorem wa_aldX {X : zXt} {T : List (Option zV)} (hd : decode μ.2.1 pc = .ok (.aload_n 0, 1)) (kk : Wa X μ R Z ce sl n S (pc + 1) (some zX :: T) (zX :: st) Rf V) : Wa X μ R Z ce sl n S pc (some zX :: T) st Rf V := by
  intro p l e s m args below meth c D cy base b H locs ls C HH LS
  exact lv_aload_n C.1 C.2.1 hd rfl (LS.2.2 0 zX rfl) (kk p l e s m args below meth c D cy base b H locs ls C HH LS)
theorem wa_slen (hd : decode μ.2.1 pc = .ok (.arraylength, 1)) (hL3 : LL ≤ 3072) (kk : Wa (zXl LL xs) μ R Z ce sl n S (pc + 1) L (zI (LL : Int) :: st) Rf V) : Wa (zXl LL xs) μ R Z ce sl n S pc L (zX :: st) Rf V := by
  intro p l e s m args below meth c D cy base b H locs ls C HH LS
  obtain ⟨x1, x2, x3, x4⟩ := C.2.2.2.2.2.2.2.2.2.2
  exact va_slen C.1 C.2.1 x1 x2 (A := zA base) (by show ¬ base ≤ b; omega) HH.2.2.1 hd (kk p l e s m args below meth c D cy base b H locs ls C HH LS)
theorem wa_lcmp_s {X : zXt} {x : Int} (hd : decode μ.2.1 pc = .ok (.lcmp, 1)) (kk : Wa X μ R Z ce sl n S (pc + 1) L (zI 0 :: st) Rf V) : Wa X μ R Z ce sl n S pc L (zL x :: zL x :: st) Rf V := by
  intro p l e s m args below meth c D cy base b H locs ls C HH LS
  have h := kk p l e s m args below meth c D cy base b H locs ls C HH LS
  refine W.lcmp C.1 C.2.1 hd ?_
  rw [(lg_cmp_eq (Int64.ofInt x) (Int64.ofInt x)).mpr rfl]
  exact h
theorem wa_lend (hd : decode code pc = .ok (.ireturn, 1)) (hce : ce ≤ 600000) (hsl : sl ≤ 7302250) : Wa (zXl LL xs) mL_law room_1 zZl ce sl n S pc L [zI 1] Rf V := by
  intro p l e s m args below meth c D cy base b H locs ls C HH LS
  obtain ⟨x1, x2, x3, x4⟩ := C.2.2.2.2.2.2.2.2.2.2
  subst x4
  refine va_forget (fun q hq => by have := HH.2.2.1.2.2 q hq; show s.heap.size ≤ q.base; omega) ?_
  refine W.widen hce hsl ?_
  exact lw_ret C.1 C.2.1 C.2.2.1 C.2.2.2.2.2.2.1 hd
end
theorem CI.up {c k len : Nat} {F F' : Int} {V : zE} (h : CI c k len F V ∧ flI c (vw 1 V)) (hF : F ≤ F') (hF6 : F' ≤ 1000000) : CI c k len F' V ∧ flI c (vw 1 V) := h.1.go h.2 hF hF6 (fun _ _ => rfl) rfl rfl h.1.2.2.2.2.2.2.2.2.2.2.2.2.2.2.2.2.2.2
section
variable {V : zE} {j : Nat}
theorem gn_o {m : Int} (h : 37 ≤ j) : gnV m V j = V j := by
  unfold gnV begV forgV
  split
  · rfl
  · repeat rw [zp_n _ _ (by omega)]
theorem gd_o {c : Nat} {g w v : Int} (h : 37 ≤ j) : gdV c g w v V j = V j := by
  unfold gdV
  (repeat' split) <;> first | rfl | ((repeat rw [zp_n _ _ (by omega)]); done)
theorem se_o {w v : Int} (h : 37 ≤ j) : seV w v V j = V j := by
  unfold seV
  by_cases hno : (w < 0 ∨ 3 < w) ∨ (v < (if w = 3 then 1 else 0) ∨ 9 < v)
  · rw [if_pos hno]
  · rw [if_neg hno, zp_n _ _ (by omega)]
theorem say_o {s : Int} (h : 37 ≤ j) : sayV s V j = V j := by
  unfold sayV
  (repeat' split) <;> first | rfl | ((repeat rw [zp_n _ _ (by omega)]); done)
theorem sn_o {c : Nat} {g v : Int} (h : 37 ≤ j) : snV c g v V j = V j := by
  unfold snV
  (repeat' split) <;> first | rfl | ((repeat rw [zp_n _ _ (by omega)]); done)
theorem dn_o {c len : Nat} {V' : zE} (hd : dnP c len V V') (h : 37 ≤ j) : V' j = V j := by
  by_cases hy : (wdF c len V).2 = -6 ∧ (hdF c len V).1 = -6
  · obtain ⟨d1, d2, d3, d4, d5, d6, d7, d8, d9, d10⟩ := hd.1 hy
    exact d10 j (by unfold scr; omega) (by omega)
  · exact (hd.2 hy).1 j (by unfold scr; omega)
end
