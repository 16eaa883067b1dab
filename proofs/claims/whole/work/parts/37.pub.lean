/-! SnowTalk's public methods: what holds between calls, what a call that only asks leaves -/
def scrI (V : zE) : Prop := (∀ j, -1000 ≤ V 27 j ∧ V 27 j ≤ 1000) ∧ (∀ j, V 28 j = 0) ∧ ∀ j, 0 ≤ V 30 j ∧ V 30 j < 16
def scr (k : Nat) : Prop := 9 ≤ k ∧ k ≤ 36 ∧ k ≠ 17 ∧ k ≠ 19
def CI (c k len : Nat) (F : Int) (V : zE) : Prop := V 1 0 = (c : Int) ∧ 2 ≤ c ∧ c ≤ 8 ∧ (∀ j, 0 ≤ V 2 j ∧ V 2 j ≤ 999) ∧ (∀ j, 0 ≤ V 3 j ∧ V 3 j ≤ 999) ∧ (∀ j, 0 ≤ V 4 j ∧ V 4 j ≤ 9) ∧ 1 ≤ V 4 3 ∧ (∀ j, -2147483648 ≤ V 5 j ∧ V 5 j ≤ 2147483647) ∧ (∀ j, 0 ≤ V 6 j ∧ V 6 j ≤ F) ∧ F ≤ 1000000 ∧ (-2147483648 ≤ V 1 3 ∧ V 1 3 ≤ 2147483647) ∧ V 1 8 = (k : Int) ∧ k ≤ 8 ∧ (∀ j, 0 ≤ V 7 j ∧ V 7 j < 8) ∧ (∀ j, 0 ≤ V 8 j ∧ V 8 j ≤ 999) ∧ V 18 1 = (len : Int) ∧ len ≤ 60 ∧ (∀ j, 0 ≤ V 19 j ∧ V 19 j ≤ 126) ∧ scrI V
/-- a call that only asks -/
def qry (V V' : zE) : Prop := (∀ k, ¬ scr k → V' k = V k) ∧ V' 18 1 = V 18 1 ∧ scrI V'
def rfe (Rf Rf' : zG) : Prop := Rf' = Rf
theorem rfe_rf {Rf : zG} : rfe Rf Rf := rfl
theorem qry_rf {V : zE} (h : scrI V) : qry V V := ⟨fun _ _ => rfl, rfl, h⟩
/-- a call that asks, and answers x -/
abbrev qQ (S : zH) (Rf : zG) (V : zE) (x : Int) : zQ := fun v S' Rf' V' => v = some (zI x) ∧ S' = S ∧ rfe Rf Rf' ∧ qry V V'
theorem pwF_ok {c : Nat} {s : Int → Int} {a : Int} (h2 : 2 ≤ c) (h : ¬ (pwF c s a).1 < 1) : (0 ≤ (pwF c s a).2.1 ∧ (pwF c s a).2.1 ≤ 5) ∧ (0 ≤ (pwF c s a).2.2.1 ∧ (pwF c s a).2.2.1 < (c : Int)) ∧ (0 ≤ (pwF c s a).2.2.2 ∧ (pwF c s a).2.2.2 < (c : Int)) := by
  have hk := kdF_rg (s (a + 2))
  unfold pwF at h ⊢
  (repeat' split) <;> dsimp only <;> omega
theorem prs_ok {c : Nat} {s : Int → Int} {len : Nat} (h2 : 2 ≤ c) : ∀ (f a : Nat), okW c (prs c s len f a).1 := by
  intro f
  induction f with
  | zero => intro a q hq; simp [prs] at hq
  | succ f ih =>
    intro a q hq
    rw [prs] at hq
    split at hq
    · split at hq
      · simp at hq
      · next h1 =>
        rcases List.mem_cons.mp hq with h | h
        · subst h; exact pwF_ok h2 h1
        · exact ih _ q h
    · simp at hq
theorem prs_len {c : Nat} {s : Int → Int} {len : Nat} : ∀ (f a : Nat), (prs c s len f a).1.length ≤ f := by
  intro f
  induction f with
  | zero => intro a; simp [prs]
  | succ f ih =>
    intro a
    rw [prs]
    split
    · split
      · simp
      · have := ih (a + (pwF c s a).1.toNat); simp; omega
    · simp
/-- the fault lies among the signs -/
theorem prs_rg {c : Nat} {s : Int → Int} {len : Nat} : ∀ (f a : Nat), -6 ≤ (prs c s len f a).2 ∧ (prs c s len f a).2 ≤ (len : Int) + 2 := by
  intro f
  induction f with
  | zero => intro a; simp [prs]; omega
  | succ f ih =>
    intro a
    have hq := pwF_rg (c := c) (s := s) (a := (a : Int)) (by omega)
    rw [prs]
    split
    · split
      · dsimp only; omega
      · exact ih _
    · dsimp only; omega
abbrev wdF (c len : Nat) (V : zE) : List (Int × Int × Int) × Int := prs c (sgF (V 19) len) len 60 0
theorem ct_wipe {n : Nat} {S : zH} {Rf : zG} {V : zE} (hL : Lay S Rf) : Ci 1 mX6_wipe [zR 0] n S Rf V (V 18 1) (zp V 18 (za (V 18) 1 0)) := by
  refine ct_of (by decide) rfl (Nat.le_of_ble_eq_true rfl) ?_
  refine wa_ald0 dX6_wipe_0 ?_
  refine gX6_26 dX6_wipe_1 rfl (by first | assumption | exact hL.1 _ (by decide)) (by first | assumption | exact hL.2 _ _ (by decide)) ?_
  refine gX6_87 dX6_wipe_4 rfl (by first | assumption | exact hL.1 _ (by decide)) ?_
  refine wa_ist1 dX6_wipe_7 (by decide) rfl ?_
  refine wa_ald0 dX6_wipe_8 ?_
  refine gX6_26 dX6_wipe_9 rfl (by first | assumption | exact hL.1 _ (by decide)) (by first | assumption | exact hL.2 _ _ (by decide)) ?_
  refine wa_iconst dX6_wipe_12 ?_
  refine pX6_87 dX6_wipe_13 rfl (by first | assumption | exact hL.1 _ (by decide)) ?_
  refine wa_ild1 dX6_wipe_16 ?_
  exact wa_ireturn dX6_wipe_17 rfl rfl (Nat.le_refl _) (by exact ⟨rfl, rfl, rfl, rfl⟩)
def sayX (s : Int) (V : zE) : Int := if s < 33 ∨ 126 < s then -2 else if 60 ≤ V 18 1 then -4 else V 18 1 + 1
def sayV (s : Int) (V : zE) : zE := if s < 33 ∨ 126 < s then V else if 60 ≤ V 18 1 then V else zp (zp V 19 (za (V 19) (V 18 1).toNat s)) 18 (za (V 18) 1 (V 18 1 + 1))
theorem ct_say {n : Nat} {S : zH} {Rf : zG} {V : zE} {c k len : Nat} {F s : Int} (hL : Lay S Rf) (hI : CI c k len F V) (hv : -2147483648 ≤ s ∧ s ≤ 2147483647) : Ci 2 mX6_say [zR 0, zI s] n S Rf V (sayX s V) (sayV s V) := by
  obtain ⟨hc, h2, h8, hd, hf, hu, hu3, hs, hfl, hF, hfa, hk, hk8, hsg, hsd, hl, h60, hp, hsc⟩ := hI
  refine ct_of (by decide) rfl (Nat.le_of_ble_eq_true rfl) ?_
  unfold sayX sayV
  refine wa_ild1 dX6_say_0 ?_
  refine wa_bipush dX6_say_1 (by decide) ?_
  refine wa_bipush dX6_say_3 (by decide) ?_
  refine kX6_70 dX6_say_5 rfl (ct_isOutside hv (by decide) (by decide)) (by decide) (Nat.le_of_ble_eq_true rfl) ⟨Nat.le_refl _, Nat.le_refl _⟩ (zdI ?_)
  refine wa_ifeq_B 14 dX6_say_8 (by decide) (fun c8 => ?_) (fun c8 => ?_)
  · refine wa_ald0 dX6_say_14 ?_
    refine gX6_26 dX6_say_15 rfl (by first | assumption | exact hL.1 _ (by decide)) (by first | assumption | exact hL.2 _ _ (by decide)) ?_
    refine gX6_87 dX6_say_18 rfl (by first | assumption | exact hL.1 _ (by decide)) ?_
    refine wa_bipush dX6_say_21 (by decide) ?_
    refine wa_icmp_lt 29 dX6_say_23 (by decide) (by first | omega | (simp only [zp_n _ _ (show 18 ≠ 19 by decide)]; omega)) (by first | omega | (simp only [zp_n _ _ (show 18 ≠ 19 by decide)]; omega)) (fun c23 => ?_) (fun c23 => ?_)
    · refine wa_ald0 dX6_say_29 ?_
      refine gX6_26 dX6_say_30 rfl (by first | assumption | exact hL.1 _ (by decide)) (by first | assumption | exact hL.2 _ _ (by decide)) ?_
      refine gX6_90 dX6_say_33 rfl (by first | assumption | exact hL.1 _ (by decide)) (by first | assumption | exact hL.2 _ _ (by decide)) ?_
      refine wa_ald0 dX6_say_36 ?_
      refine gX6_26 dX6_say_37 rfl (by first | assumption | exact hL.1 _ (by decide)) (by first | assumption | exact hL.2 _ _ (by decide)) ?_
      refine gX6_87 dX6_say_40 rfl (by first | assumption | exact hL.1 _ (by decide)) ?_
      refine wa_ild1 dX6_say_43 ?_
      refine wa_iastore dX6_say_44 (by first | assumption | exact hL.1 _ (by decide)) (by first | omega | (simp only [zp_n _ _ (show 18 ≠ 19 by decide)]; omega)) (by first | decide | omega) ?_
      refine wa_ald0 dX6_say_45 ?_
      refine gX6_26 dX6_say_46 rfl (by first | assumption | exact hL.1 _ (by decide)) (by first | assumption | exact hL.2 _ _ (by decide)) ?_
      refine wa_dup dX6_say_49 rfl ?_
      refine gX6_87 dX6_say_50 rfl (by first | assumption | exact hL.1 _ (by decide)) ?_
      refine wa_iconst dX6_say_53 ?_
      refine wa_iadd dX6_say_54 ?_
      refine pX6_87 dX6_say_55 rfl (by first | assumption | exact hL.1 _ (by decide)) ?_
      refine wa_ald0 dX6_say_58 ?_
      refine gX6_26 dX6_say_59 rfl (by first | assumption | exact hL.1 _ (by decide)) (by first | assumption | exact hL.2 _ _ (by decide)) ?_
      refine gX6_87 dX6_say_62 rfl (by first | assumption | exact hL.1 _ (by decide)) ?_
      exact wa_ireturn dX6_say_65 rfl rfl (Nat.le_refl _) (by refine ⟨?_, rfl, rfl, ?_⟩ <;> rw [if_neg c8, if_neg (by omega)]; simp only [zp_s, za_s, zp_n _ _ (show 18 ≠ 19 by decide)]; rw [zp_n _ _ (show 18 ≠ 19 by decide)])
    · refine wa_bipush dX6_say_26 (by decide) ?_
      exact wa_ireturn dX6_say_28 rfl rfl (Nat.le_refl _) (by exact ⟨by rw [if_neg c8, if_pos c23], rfl, rfl, by rw [if_neg c8, if_pos c23]⟩)
  · refine wa_bipush dX6_say_11 (by decide) ?_
    exact wa_ireturn dX6_say_13 rfl rfl (Nat.le_refl _) (by exact ⟨by rw [if_pos c8], rfl, rfl, by rw [if_pos c8]⟩)
theorem rd_qry {V V' : zE} {m : Int} (hsc : scrI V) (h18 : V' 18 = za (V 18) 2 m) (ho : ∀ k, k ≠ 18 → k ≠ 20 → k ≠ 21 → k ≠ 22 → V' k = V k) : qry V V' := by
  refine ⟨fun k hk => ?_, by rw [h18, za_n _ _ (by decide)], ?_⟩
  · unfold scr at hk
    exact ho k (by omega) (by omega) (by omega) (by omega)
  · refine ⟨fun j => ?_, fun j => ?_, fun j => ?_⟩
    · rw [ho 27 (by decide) (by decide) (by decide) (by decide)]; exact hsc.1 j
    · rw [ho 28 (by decide) (by decide) (by decide) (by decide)]; exact hsc.2.1 j
    · rw [ho 30 (by decide) (by decide) (by decide) (by decide)]; exact hsc.2.2 j
theorem ct_fault {n : Nat} {S : zH} {Rf : zG} {V : zE} {c k len : Nat} {F : Int} (hL : Lay S Rf) (hI : CI c k len F V) : Ct 4 0 0 mX6_fault [zR 0] n S Rf V (qQ S Rf V (wdF c len V).2) := by
  obtain ⟨hc, h2, h8, hd, hf, hu, hu3, hs, hfl, hF, hfa, hk, hk8, hsg, hsd, hl, h60, hp, hsc⟩ := hI
  refine ct_of (by decide) rfl (Nat.le_of_ble_eq_true rfl) ?_
  refine wa_ald0 dX6_fault_0 ?_
  refine gX6_26 dX6_fault_1 rfl (by first | assumption | exact hL.1 _ (by decide)) (by first | assumption | exact hL.2 _ _ (by decide)) ?_
  refine wa_ald0 dX6_fault_4 ?_
  refine gX6_10 dX6_fault_5 rfl (by first | assumption | exact hL.1 _ (by decide)) (by first | assumption | exact hL.2 _ _ (by decide)) ?_
  refine gX6_58 dX6_fault_8 rfl (by first | assumption | exact hL.1 _ (by decide)) ?_
  rw [hc]
  refine kX6_93 dX6_fault_11 rfl (by first | assumption | exact hL.1 _ (by decide)) (ct_read hL hl h60 (fun j => by have := hp j; omega) h2 h8) (by decide) (Nat.le_of_ble_eq_true rfl) ⟨Nat.le_refl _, Nat.le_refl _⟩ (zpI fun x V1 hp1 => ?_)
  obtain ⟨p1, p2, p3, p4⟩ := hp1
  exact wa_ireturn dX6_fault_14 rfl rfl (Nat.le_refl _) (by exact ⟨by rw [p1], rfl, rfe_rf, rd_qry hsc p2 p4⟩)
