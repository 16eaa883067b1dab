/-! Talk.fitsLaw -/
abbrev zDs : Type := (Nat → Int) × (Nat → Int)
def spkD (c : Nat) (rule : Nat → Int) (x : Int × Int × Int) (q : zDs) : zDs :=
  ((spkS c rule x.1 x.2.1 x.2.2 (q.1, q.2, fun _ => 0, 0, 0)).1, (spkS c rule x.1 x.2.1 x.2.2 (q.1, q.2, fun _ => 0, 0, 0)).2.1)
theorem spkD_of {c : Nat} {rule : Nat → Int} {x : Int × Int × Int} {q : zSt} : ((spkS c rule x.1 x.2.1 x.2.2 q).1, (spkS c rule x.1 x.2.1 x.2.2 q).2.1) = spkD c rule x (q.1, q.2.1) := by
  unfold spkD spkS
  (repeat' split) <;> rfl
def runD (c : Nat) (rule : Nat → Int) (ws : List (Int × Int × Int)) (q : zDs) : zDs := ws.foldl (fun q x => spkD c rule x q) q
def flP (c k : Nat) (ws : List (Int × Int × Int)) (t l a : Int) (V : zE) (x : Int) (V' : zE) : Prop :=
  x = (if allB (fun i => (runD c (za (za (za (V 12) 0 t) 1 l) 2 a) ws (fun _ => 0, fun _ => 0)).1 (V 15 i).toNat == V 16 i) k = true then 1 else 0) ∧ V' 12 = za (za (za (V 12) 0 t) 1 l) 2 a ∧ (∀ j, -2147483648 ≤ V' 13 j ∧ V' 13 j ≤ 2147483647) ∧ V' 9 0 = V 9 0 ∧ V' 9 8 = V 9 8 ∧ ∀ k, k ≠ 9 → k ≠ 10 → k ≠ 12 → k ≠ 13 → k ≠ 14 → V' k = V k
theorem ct_fitsLaw {n : Nat} {S : zH} {Rf : zG} {V : zE} {c k : Nat} {ws : List (Int × Int × Int)} {t l a : Int} (hL : Lay S Rf) (hc : V 9 0 = (c : Int)) (h2 : 2 ≤ c) (h8 : c ≤ 8) (hk : V 9 8 = (k : Int)) (hk8 : k ≤ 8) (hsg : ∀ j, 0 ≤ V 15 j ∧ V 15 j < 8) (hsd : ∀ j, 0 ≤ V 16 j ∧ V 16 j ≤ 100000) (hu : ∀ j, 0 ≤ V 12 j ∧ V 12 j ≤ 9) (hs : ∀ j, -2147483648 ≤ V 13 j ∧ V 13 j ≤ 2147483647) (ht : 0 ≤ t ∧ t ≤ 9) (hl : 0 ≤ l ∧ l ≤ 9) (ha : 0 ≤ a ∧ a ≤ 9)
    (hw : V 18 2 = (ws.length : Int)) (hw60 : ws.length ≤ 60) (hh : hasW V ws) (hok : okW c ws) :
    Cpi 5 mX5_fitsLaw [zR 18, zR 9, zI t, zI l, zI a] n S Rf V (flP c k ws t l a V) := by
  have hu' : ∀ j, 0 ≤ za (za (za (V 12) 0 t) 1 l) 2 a j ∧ za (za (za (V 12) 0 t) 1 l) 2 a j ≤ 9 := by
    intro j; have := hu j; simp only [za]; (repeat' split) <;> omega
  refine ct_of (by decide) rfl (Nat.le_of_ble_eq_true rfl) ?_
  have loop : ∀ (us : List (Int × Int × Int)) (i : Nat) (V' : zE), (∀ j, us[j]? = ws[i + j]?) → i + us.length = ws.length → runD c (za (za (za (V 12) 0 t) 1 l) 2 a) ws (fun _ => 0, fun _ => 0) = runD c (za (za (za (V 12) 0 t) 1 l) 2 a) us (V' 10, V' 13) → (∀ j, 0 ≤ V' 10 j ∧ V' 10 j ≤ 18 * i) → (∀ j, -2147483648 ≤ V' 13 j ∧ V' 13 j ≤ 2147483647) → V' 12 = za (za (za (V 12) 0 t) 1 l) 2 a → V' 9 0 = V 9 0 → V' 9 8 = V 9 8 → (∀ k, k ≠ 9 → k ≠ 10 → k ≠ 12 → k ≠ 13 → k ≠ 14 → V' k = V k) → Wa zXn mX5_fitsLaw (zrm 5 0 0) (zZm (qPI S Rf (flP c k ws t l a V)) (n + 0) 0 0) 0 0 n S 29 [some (zR 18), some (zR 9), some (zI t), some (zI l), some (zI a), some (zI (i : Int))] [] Rf V' := by
    intro us
    induction us with
    | nil =>
      intro i V' hus hi hpr hd hs' h12 h90 h98 ho
      have hi' : i = ws.length := by simpa using hi
      have e18 := ho 18 (by decide) (by decide) (by decide) (by decide) (by decide)
      have e15 := ho 15 (by decide) (by decide) (by decide) (by decide) (by decide)
      have e16 := ho 16 (by decide) (by decide) (by decide) (by decide) (by decide)
      have e2 : V' 18 2 = (ws.length : Int) := by rw [e18]; exact hw
      refine wa_ild5 dX5_fitsLaw_29 ?_
      refine wa_ald0 dX5_fitsLaw_31 ?_
      refine gX5_28 dX5_fitsLaw_32 rfl (by first | assumption | exact hL.1 _ (by decide)) ?_
      refine wa_icmp_ge 76 dX5_fitsLaw_35 (by decide) (by omega) (by omega) (fun c35 => ?_) (fun c35 => ?_)
      · refine wa_ald1 dX5_fitsLaw_76 ?_
        refine wa_ald1 dX5_fitsLaw_77 ?_
        refine gX5_75 dX5_fitsLaw_78 rfl (by first | assumption | exact hL.1 _ (by decide)) (by first | assumption | exact hL.2 _ _ (by decide)) ?_
        refine kX5_78 dX5_fitsLaw_81 rfl (by first | assumption | exact hL.1 _ (by decide)) (ct_sightsHold (k := k) hL.s9 (by exact hL.1 10 (by decide)) (by rw [h98]; exact hk) hk8 (fun j => by rw [e15]; exact hsg j) (fun j => by rw [e16]; exact hsd j) (fun j => by have := hd j; omega)) (by decide) (Nat.le_of_ble_eq_true rfl) ⟨Nat.le_refl _, Nat.le_refl _⟩ (zdI ?_)
        exact wa_breturn dX5_fitsLaw_84 rfl rfl (Nat.le_refl _) (by first | exact Or.inl rfl | exact Or.inr rfl | (split <;> simp)) (by refine ⟨_, rfl, rfl, rfl, ?_, h12, hs', h90, h98, ho⟩; rw [hpr, ← e15, ← e16]; rfl)
      · exact absurd c35 (by omega)
    | cons u us ih =>
      intro i V' hus hi hpr hd hs' h12 h90 h98 ho
      have hil : i < ws.length := by simp at hi; omega
      have hu0 : ws[i]? = some u := by rw [← Nat.add_zero i, ← hus 0]; rfl
      have e18 := ho 18 (by decide) (by decide) (by decide) (by decide) (by decide)
      have e20 := ho 20 (by decide) (by decide) (by decide) (by decide) (by decide)
      have e21 := ho 21 (by decide) (by decide) (by decide) (by decide) (by decide)
      have e22 := ho 22 (by decide) (by decide) (by decide) (by decide) (by decide)
      have e2 : V' 18 2 = (ws.length : Int) := by rw [e18]; exact hw
      obtain ⟨w1, w2, w3⟩ := hh i u hu0
      obtain ⟨k1, k2, k3⟩ := hok u (List.mem_of_getElem? hu0)
      have hT := ct_speak (n := n) (S := S) (Rf := Rf) (V := V') (r := 9) (c := c) (k := u.1) (g := u.2.1) (w := u.2.2) hL.s9 (h90.trans hc) h2 h8 k1 k2 k3 (fun j => by show 0 ≤ V' 10 j ∧ V' 10 j ≤ 100000; have := hd j; omega) (fun j => by rw [h12]; exact hu' j) (fun j => hs' j)
      have hvt := vw_spk (r := 9) (c := c) (k := u.1) (g := u.2.1) (w := u.2.2) (V := V')
      have hvd := spkD_of (c := c) (rule := V' (9 + 3)) (x := u) (q := vw 9 V')
      rw [← hvt] at hvd
      have hb1 := spkS_d (c := c) (rule := V' (9 + 3)) (k := u.1) (g := u.2.1) (w := u.2.2) (q := vw 9 V') (B := 18 * i) (fun j => hd j) (fun j => by rw [h12]; exact hu' j)
      have hb2 := spkS_s (c := c) (rule := V' (9 + 3)) (k := u.1) (g := u.2.1) (w := u.2.2) (q := vw 9 V') (fun j => hs' j)
      rw [← hvt] at hb1 hb2
      simp only [Nat.reduceAdd] at hb1 hb2
      refine wa_ild5 dX5_fitsLaw_29 ?_
      refine wa_ald0 dX5_fitsLaw_31 ?_
      refine gX5_28 dX5_fitsLaw_32 rfl (by first | assumption | exact hL.1 _ (by decide)) ?_
      refine wa_icmp_ge 76 dX5_fitsLaw_35 (by decide) (by omega) (by omega) (fun c35 => ?_) (fun c35 => ?_)
      · exact absurd c35 (by omega)
      · refine wa_ild5 dX5_fitsLaw_38 ?_
        refine wa_bipush dX5_fitsLaw_40 (by decide) ?_
        refine wa_icmp_ge 76 dX5_fitsLaw_42 (by decide) (by omega) (by omega) (fun c42 => ?_) (fun c42 => ?_)
        · exact absurd c42 (by omega)
        · refine wa_ald1 dX5_fitsLaw_45 ?_
          refine wa_ald0 dX5_fitsLaw_46 ?_
          refine gX5_15 dX5_fitsLaw_47 rfl (by first | assumption | exact hL.1 _ (by decide)) (by first | assumption | exact hL.2 _ _ (by decide)) ?_
          refine wa_ild5 dX5_fitsLaw_50 ?_
          refine wa_iaload dX5_fitsLaw_52 (by first | assumption | exact hL.1 _ (by decide)) (by omega) (by first | decide | omega) ?_
          refine wa_ald0 dX5_fitsLaw_53 ?_
          refine gX5_18 dX5_fitsLaw_54 rfl (by first | assumption | exact hL.1 _ (by decide)) (by first | assumption | exact hL.2 _ _ (by decide)) ?_
          refine wa_ild5 dX5_fitsLaw_57 ?_
          refine wa_iaload dX5_fitsLaw_59 (by first | assumption | exact hL.1 _ (by decide)) (by omega) (by first | decide | omega) ?_
          refine wa_ald0 dX5_fitsLaw_60 ?_
          refine gX5_21 dX5_fitsLaw_61 rfl (by first | assumption | exact hL.1 _ (by decide)) (by first | assumption | exact hL.2 _ _ (by decide)) ?_
          refine wa_ild5 dX5_fitsLaw_64 ?_
          refine wa_iaload dX5_fitsLaw_66 (by first | assumption | exact hL.1 _ (by decide)) (by omega) (by first | decide | omega) ?_
          simp only [Int.toNat_natCast, e20, e21, e22, w1, w2, w3]
          refine kX5_71 dX5_fitsLaw_67 rfl (by first | assumption | exact hL.1 _ (by decide)) (hT) (by decide) (Nat.le_of_ble_eq_true rfl) ⟨Nat.le_refl _, Nat.le_refl _⟩ (zdN ?_)
          refine wa_iinc5 dX5_fitsLaw_70 (by decide) rfl ?_
          refine wa_goto 29 dX5_fitsLaw_73 (by decide) ?_
          rw [show (i : Int) + 1 = ((i + 1 : Nat) : Int) by omega]
          refine ih (i + 1) _ (fun j => ?_) (by simp at hi; omega) ?_ (fun j => by have := hb1 j; omega) (fun j => hb2 j) ?_ ?_ ?_ (fun k a1 a2 a3 a4 a5 => ?_)
          · have := hus (j + 1); rw [List.getElem?_cons_succ] at this; rw [this]; congr 1; omega
          · rw [hpr]
            have h9 : (spkV 9 c u.1 u.2.1 u.2.2 V' 10, spkV 9 c u.1 u.2.1 u.2.2 V' 13) = spkD c (za (za (za (V 12) 0 t) 1 l) 2 a) u (V' 10, V' 13) := by rw [← h12]; exact hvd
            rw [h9]; rfl
          · rw [spkV_o (by decide) (by decide) (by decide) (by decide)]; exact h12
          · rw [spkV_r (by decide)]; exact h90
          · rw [spkV_r (by decide)]; exact h98
          · rw [spkV_o a1 a2 a4 a5]; exact ho k a1 a2 a3 a4 a5
  refine wa_ald1 dX5_fitsLaw_0 ?_
  refine kX5_65 dX5_fitsLaw_1 rfl (by first | assumption | exact hL.1 _ (by decide)) (ct_clearSnow hL.s9 hs) (by decide) (Nat.le_of_ble_eq_true rfl) ⟨Nat.le_refl _, Nat.le_refl _⟩ (zdN ?_)
  refine wa_ald1 dX5_fitsLaw_4 ?_
  refine gX5_68 dX5_fitsLaw_5 rfl (by first | assumption | exact hL.1 _ (by decide)) (by first | assumption | exact hL.2 _ _ (by decide)) ?_
  refine wa_iconst dX5_fitsLaw_8 ?_
  refine wa_ild2 dX5_fitsLaw_9 ?_
  refine wa_iastore dX5_fitsLaw_10 (by first | assumption | exact hL.1 _ (by decide)) (by omega) (by first | decide | omega) ?_
  refine wa_ald1 dX5_fitsLaw_11 ?_
  refine gX5_68 dX5_fitsLaw_12 rfl (by first | assumption | exact hL.1 _ (by decide)) (by first | assumption | exact hL.2 _ _ (by decide)) ?_
  refine wa_iconst dX5_fitsLaw_15 ?_
  refine wa_ild3 dX5_fitsLaw_16 ?_
  refine wa_iastore dX5_fitsLaw_17 (by first | assumption | exact hL.1 _ (by decide)) (by omega) (by first | decide | omega) ?_
  refine wa_ald1 dX5_fitsLaw_18 ?_
  refine gX5_68 dX5_fitsLaw_19 rfl (by first | assumption | exact hL.1 _ (by decide)) (by first | assumption | exact hL.2 _ _ (by decide)) ?_
  refine wa_iconst dX5_fitsLaw_22 ?_
  refine wa_ild4 dX5_fitsLaw_23 ?_
  refine wa_iastore dX5_fitsLaw_25 (by first | assumption | exact hL.1 _ (by decide)) (by omega) (by first | decide | omega) ?_
  refine wa_iconst dX5_fitsLaw_26 ?_
  refine wa_ist5 dX5_fitsLaw_27 (by decide) rfl ?_
  have hfo : ∀ k, k ≠ 10 → k ≠ 13 → k ≠ 14 → forgV 9 (zp V (9 + 1) (fun _ => 0)) k = V k := fun k a1 a2 a3 => by unfold forgV; rw [zp_n _ _ a3, zp_n _ _ a2, zp_n _ _ a1]
  refine loop ws 0 _ (fun j => by rw [Nat.zero_add]) (by omega) ?_ (fun j => ?_) (fun j => ?_) ?_ ?_ ?_ (fun k a1 a2 a3 a4 a5 => ?_)
  · simp [zp_n, zp_s, forgV]
  · simp [zp_n, zp_s, forgV]
  · simp [zp_n, zp_s, forgV]
  · simp [zp_s, hfo]
  · simp [zp_n, hfo]
  · simp [zp_n, hfo]
  · rw [zp_n _ _ a3, zp_n _ _ a3, zp_n _ _ a3, hfo k a2 a4 a5]
