/-! SnowTalk: build, laws -/
theorem ct_build {n : Nat} {S : zH} {Rf : zG} {V : zE} {c k len : Nat} {F g t m a b : Int} (hL : Lay S Rf) (hI : CI c k len F V) (hg : -2147483648 ≤ g ∧ g ≤ 2147483647) (ht : -2147483648 ≤ t ∧ t ≤ 2147483647) (hm : -2147483648 ≤ m ∧ m ≤ 2147483647) (ha : -2147483648 ≤ a ∧ a ≤ 2147483647) (hb : -2147483648 ≤ b ∧ b ≤ 2147483647) : Ci 3 mX6_build [zR 0, zI g, zI t, zI m, zI a, zI b] n S Rf V (buX c g t m a b V) V := by
  obtain ⟨hc, h2, h8, hd, hf, hu, hu3, hs, hfl, hF, hfa, hk, hk8, hsg, hsd, hl, h60, hp, hsc⟩ := hI
  refine ct_of (by decide) rfl (Nat.le_of_ble_eq_true rfl) ?_
  have loop : ∀ (M : Nat) (q j : Nat) (u : Int), m = (M : Int) → M ≤ 12 → 0 ≤ g ∧ g < c → 0 ≤ t ∧ t ≤ 10 → 1 ≤ b ∧ b ≤ 100 → 0 ≤ a ∧ a ≤ b → j + q = M + 1 → (0 ≤ u ∧ u ≤ 924000000000000 * j) → Wa zXn mX6_build (zrm 3 0 0) (zZm (qI (buF (V 2 g.toNat) (V 4 1) t a b M q j u) S Rf V) (n + 0) 0 0) 0 0 n S 83 [some (zR 0), some (zI g), some (zI t), some (zI (M : Int)), some (zI a), some (zI b), some (zL (a * 10 ^ M)), none, some (zL u), none, some (zI (j : Int)), none] [] Rf V := by
    intro M q
    induction q with
    | zero =>
      intro j u hmM hM hg' ht' hb' ha' hj hu'
      refine wa_ild10 dX6_build_83 ?_
      refine wa_ild3 dX6_build_85 ?_
      refine wa_icmp_gt 159 dX6_build_86 (by decide) (by omega) (by omega) (fun c86 => ?_) (fun c86 => ?_)
      · refine wa_bipush dX6_build_159 (by decide) ?_
        exact wa_ireturn dX6_build_161 rfl rfl (Nat.le_refl _) (by exact ⟨rfl, rfl, rfl, rfl⟩)
      · exact absurd c86 (by omega)
    | succ q ih =>
      intro j u hmM hM hg' ht' hb' ha' hj hu'
      have hch := chF_b (j := j) ht' hM (by omega)
      have hlo := p10 hM
      have hak : 0 ≤ a * 10 ^ M ∧ a * 10 ^ M ≤ 100 * 1000000000000 := ⟨Int.mul_nonneg ha'.1 (by omega), Int.mul_le_mul (by omega) hlo.1 (by omega) (by decide)⟩
      have huk : 0 ≤ (u + chF t M j) * b ∧ (u + chF t M j) * b ≤ (924000000000000 * 13) * 100 := ⟨Int.mul_nonneg (by omega) (by omega), Int.mul_le_mul (by omega) hb'.2 (by omega) (by decide)⟩
      have hdg := hd g.toNat
      have hu1 := hu 1
      have hjl : 0 ≤ (j : Int) * V 4 1 ∧ (j : Int) * V 4 1 ≤ 12 * 9 := ⟨Int.mul_nonneg (by omega) hu1.1, Int.mul_le_mul (by omega) hu1.2 hu1.1 (by decide)⟩
      have h41 : (j : Int) * V 4 (Int.toNat 1) = (j : Int) * V 4 1 := rfl
      have e1 := ih (j + 1) (u + chF t M j) hmM hM hg' ht' hb' ha' (by omega) (by omega)
      generalize hP : (u + chF t M j) * b = P at huk
      generalize hQ : a * 10 ^ M = Q at hak e1 ⊢
      have hcm : -2147483648 ≤ zcmp P Q ∧ zcmp P Q ≤ 2147483647 := by unfold zcmp; (repeat' split) <;> decide
      have hcz : zcmp P Q < 0 ↔ P < Q := by unfold zcmp; (repeat' split) <;> omega
      rw [buF, hP, hQ]
      refine wa_ild10 dX6_build_83 ?_
      refine wa_ild3 dX6_build_85 ?_
      refine wa_icmp_gt 159 dX6_build_86 (by decide) (by first | omega | exact hcm) (by first | omega | exact hcm) (fun c86 => ?_) (fun c86 => ?_)
      · exact absurd c86 (by omega)
      · refine wa_lld8 dX6_build_89 ?_
        refine wa_ild10 dX6_build_91 ?_
        refine wa_ild2 dX6_build_93 ?_
        refine wa_ild3 dX6_build_94 ?_
        refine kX6_190 dX6_build_95 rfl (ct_chanceOf ht' hM (by omega)) (by decide) (Nat.le_of_ble_eq_true rfl) ⟨Nat.le_refl _, Nat.le_refl _⟩ (zdL ?_)
        refine wa_ladd dX6_build_98 ?_
        refine wa_lst8 dX6_build_99 (by decide) rfl ?_
        refine wa_lld8 dX6_build_101 ?_
        refine wa_ild5 dX6_build_103 ?_
        refine wa_i2l dX6_build_105 (by first | omega | exact hcm) ?_
        refine wa_lmul dX6_build_106 ?_
        rw [hP]
        refine wa_lld6 dX6_build_107 ?_
        refine wa_lcmp dX6_build_109 (by first | omega | exact hcm) (by first | omega | exact hcm) ?_
        refine wa_if_lt 153 dX6_build_110 (by decide) (by first | omega | exact hcm) (fun c110 => ?_) (fun c110 => ?_)
        · refine wa_iinc10 dX6_build_153 (by decide) rfl ?_
          refine wa_goto 83 dX6_build_156 (by decide) ?_
          rw [if_neg (by have := hcz.mp c110; omega)]
          rw [show (j : Int) + 1 = ((j + 1 : Nat) : Int) by omega]
          exact e1
        · have hge : Q ≤ P := by (by_cases h : P < Q); (exact absurd (hcz.mpr h) (by omega)); omega
          rw [if_pos hge]
          refine wa_ald0 dX6_build_113 ?_
          refine gX6_10 dX6_build_114 rfl (by first | assumption | exact hL.1 _ (by decide)) (by first | assumption | exact hL.2 _ _ (by decide)) ?_
          refine gX6_74 dX6_build_117 rfl (by first | assumption | exact hL.1 _ (by decide)) (by first | assumption | exact hL.2 _ _ (by decide)) ?_
          refine wa_ild1 dX6_build_120 ?_
          refine wa_iaload dX6_build_121 (by first | assumption | exact hL.1 _ (by decide)) (by first | omega | exact hcm) (by first | decide | omega) ?_
          refine wa_ild10 dX6_build_122 ?_
          refine wa_ald0 dX6_build_124 ?_
          refine gX6_10 dX6_build_125 rfl (by first | assumption | exact hL.1 _ (by decide)) (by first | assumption | exact hL.2 _ _ (by decide)) ?_
          refine gX6_84 dX6_build_128 rfl (by first | assumption | exact hL.1 _ (by decide)) (by first | assumption | exact hL.2 _ _ (by decide)) ?_
          refine wa_iconst dX6_build_131 ?_
          refine wa_iaload dX6_build_132 (by first | assumption | exact hL.1 _ (by decide)) (by first | omega | exact hcm) (by first | decide | omega) ?_
          refine wa_imul dX6_build_133 ?_
          refine wa_iadd dX6_build_134 ?_
          refine wa_ist11 dX6_build_135 (by decide) rfl ?_
          refine wa_ild11 dX6_build_137 ?_
          refine wa_sipush dX6_build_139 (by decide) ?_
          refine wa_icmp_gt 150 dX6_build_142 (by decide) (by first | omega | exact hcm) (by first | omega | exact hcm) (fun c142 => ?_) (fun c142 => ?_)
          · refine wa_bipush dX6_build_150 (by decide) ?_
            exact wa_ireturn dX6_build_152 rfl rfl (Nat.le_refl _) (by refine ⟨?_, rfl, rfl, rfl⟩; first | (rw [if_pos (by omega)]; rfl) | rw [if_neg (by omega)])
          · refine wa_ild11 dX6_build_145 ?_
            refine wa_goto 152 dX6_build_147 (by decide) ?_
            exact wa_ireturn dX6_build_152 rfl rfl (Nat.le_refl _) (by refine ⟨?_, rfl, rfl, rfl⟩; first | (rw [if_pos (by omega)]; rfl) | rw [if_neg (by omega)])
  unfold buX
  refine wa_ald0 dX6_build_0 ?_
  refine gX6_10 dX6_build_1 rfl (by first | assumption | exact hL.1 _ (by decide)) (by first | assumption | exact hL.2 _ _ (by decide)) ?_
  refine wa_ild1 dX6_build_4 ?_
  refine kX6_66 dX6_build_5 rfl (by first | assumption | exact hL.1 _ (by decide)) (ct_has hL.s1 (by omega) hg) (by decide) (Nat.le_of_ble_eq_true rfl) ⟨Nat.le_refl _, Nat.le_refl _⟩ (zdI ?_)
  rw [hc]
  refine wa_ifne_B 13 dX6_build_8 (by decide) (fun c8 => ?_) (fun c8 => ?_)
  · refine wa_ild2 dX6_build_13 ?_
    refine wa_iconst dX6_build_14 ?_
    refine wa_bipush dX6_build_15 (by decide) ?_
    refine kX6_70 dX6_build_17 rfl (ct_isOutside ht (by decide) (by decide)) (by decide) (Nat.le_of_ble_eq_true rfl) ⟨Nat.le_refl _, Nat.le_refl _⟩ (zdI ?_)
    refine wa_ifne_B 55 dX6_build_20 (by decide) (fun c20 => ?_) (fun c20 => ?_)
    · refine wa_bipush dX6_build_55 (by decide) ?_
      exact wa_ireturn dX6_build_57 rfl rfl (Nat.le_refl _) (by refine ⟨?_, rfl, rfl, rfl⟩; rw [if_neg (show ¬ ¬ (0 ≤ g ∧ g < (c : Int)) by omega), if_pos (by omega)])
    · refine wa_ild3 dX6_build_23 ?_
      refine wa_iconst dX6_build_24 ?_
      refine wa_bipush dX6_build_25 (by decide) ?_
      refine kX6_70 dX6_build_27 rfl (ct_isOutside hm (by decide) (by decide)) (by decide) (Nat.le_of_ble_eq_true rfl) ⟨Nat.le_refl _, Nat.le_refl _⟩ (zdI ?_)
      refine wa_ifne_B 55 dX6_build_30 (by decide) (fun c30 => ?_) (fun c30 => ?_)
      · refine wa_bipush dX6_build_55 (by decide) ?_
        exact wa_ireturn dX6_build_57 rfl rfl (Nat.le_refl _) (by refine ⟨?_, rfl, rfl, rfl⟩; rw [if_neg (show ¬ ¬ (0 ≤ g ∧ g < (c : Int)) by omega), if_pos (by omega)])
      · refine wa_ild5 dX6_build_33 ?_
        refine wa_iconst dX6_build_35 ?_
        refine wa_bipush dX6_build_36 (by decide) ?_
        refine kX6_70 dX6_build_38 rfl (ct_isOutside hb (by decide) (by decide)) (by decide) (Nat.le_of_ble_eq_true rfl) ⟨Nat.le_refl _, Nat.le_refl _⟩ (zdI ?_)
        refine wa_ifne_B 55 dX6_build_41 (by decide) (fun c41 => ?_) (fun c41 => ?_)
        · refine wa_bipush dX6_build_55 (by decide) ?_
          exact wa_ireturn dX6_build_57 rfl rfl (Nat.le_refl _) (by refine ⟨?_, rfl, rfl, rfl⟩; rw [if_neg (show ¬ ¬ (0 ≤ g ∧ g < (c : Int)) by omega), if_pos (by omega)])
        · refine wa_ild4 dX6_build_44 ?_
          refine wa_iconst dX6_build_46 ?_
          refine wa_ild5 dX6_build_47 ?_
          refine kX6_70 dX6_build_49 rfl (ct_isOutside ha (by decide) hb) (by decide) (Nat.le_of_ble_eq_true rfl) ⟨Nat.le_refl _, Nat.le_refl _⟩ (zdI ?_)
          refine wa_ifeq_B 58 dX6_build_52 (by decide) (fun c52 => ?_) (fun c52 => ?_)
          · refine wa_ild4 dX6_build_58 ?_
            refine wa_if_ne 65 dX6_build_60 (by decide) (by omega) (fun c60 => ?_) (fun c60 => ?_)
            · refine wa_ild4 dX6_build_65 ?_
              refine wa_i2l dX6_build_67 (by omega) ?_
              refine wa_bipush dX6_build_68 (by decide) ?_
              refine wa_ild3 dX6_build_70 ?_
              obtain ⟨M, rfl⟩ : ∃ M : Nat, m = (M : Int) := ⟨m.toNat, by omega⟩
              refine kX6_194 dX6_build_71 rfl (ct_power (by decide) (by omega)) (by decide) (Nat.le_of_ble_eq_true rfl) ⟨Nat.le_refl _, Nat.le_refl _⟩ (zdL ?_)
              refine wa_lmul dX6_build_74 ?_
              refine wa_lst6 dX6_build_75 (by decide) rfl ?_
              refine wa_lconst dX6_build_77 0 (by decide) ?_
              refine wa_lst8 dX6_build_78 (by decide) rfl ?_
              refine wa_iconst dX6_build_80 ?_
              refine wa_ist10 dX6_build_81 (by decide) rfl ?_
              rw [if_neg (show ¬ ¬ (0 ≤ g ∧ g < (c : Int)) by omega), if_neg (by omega), if_neg c60, Int.toNat_natCast]
              exact loop M (M + 1) 0 0 rfl (by omega) (by omega) (by omega) (by omega) (by omega) (by omega) (by omega)
            · refine wa_iconst dX6_build_63 ?_
              exact wa_ireturn dX6_build_64 rfl rfl (Nat.le_refl _) (by refine ⟨?_, rfl, rfl, rfl⟩; rw [if_neg (show ¬ ¬ (0 ≤ g ∧ g < (c : Int)) by omega), if_neg (by omega), if_pos c60])
          · refine wa_bipush dX6_build_55 (by decide) ?_
            exact wa_ireturn dX6_build_57 rfl rfl (Nat.le_refl _) (by refine ⟨?_, rfl, rfl, rfl⟩; rw [if_neg (show ¬ ¬ (0 ≤ g ∧ g < (c : Int)) by omega), if_pos (by omega)])
  · refine wa_iconst dX6_build_11 ?_
    exact wa_ireturn dX6_build_12 rfl rfl (Nat.le_refl _) (by exact ⟨by rw [if_pos c8], rfl, rfl, rfl⟩)
/-- which numbers fit, in rising order -/
def fitB (c k len : Nat) (V : zE) (p : Nat) : Bool := allB (fun i => (runD c (za (za (za (V 4) 0 ((p / 36 : Nat) : Int)) 1 ((p / 6 % 6 : Nat) : Int)) 2 ((p % 6 : Nat) : Int)) (wdF c len V).1 (fun _ => 0, fun _ => 0)).1 (V 7 i).toNat == V 8 i) k
def lwG (fit : Nat → Bool) (i : Int) : Nat → Nat → Int → Int
  | 0, _, f => if i = -1 then f else -6
  | q + 1, p, f => if fit p = true then (if f = i then 100 * ((p / 36 : Nat) : Int) + 10 * ((p / 6 % 6 : Nat) : Int) + ((p % 6 : Nat) : Int) else lwG fit i q (p + 1) (f + 1)) else lwG fit i q (p + 1) f
def lwX (c k len : Nat) (i : Int) (V : zE) : Int := if (wdF c len V).2 ≠ -6 then -5 else lwG (fitB c k len V) i 216 0 0
theorem runD_r {c : Nat} {r1 r2 : Nat → Int} {ws : List (Int × Int × Int)} {q : zDs} (h : ∀ j, j ≤ 3 → r1 j = r2 j) (hok : okW c ws) : runD c r1 ws q = runD c r2 ws q := by
  induction ws generalizing q with
  | nil => rfl
  | cons x ws ih =>
    have hx := hok x List.mem_cons_self
    have e : spkD c r1 x q = spkD c r2 x q := by
      unfold spkD spkS wtF
      rw [h 3 (by decide), h 2 (by decide)]
      split
      · rw [h x.1.toNat (by omega)]
      · rfl
    show runD c r1 ws (spkD c r1 x q) = runD c r2 ws (spkD c r2 x q)
    rw [e]
    exact ih (fun q hq => hok q (List.mem_cons_of_mem _ hq))
theorem ct_laws {n : Nat} {S : zH} {Rf : zG} {V : zE} {c k len : Nat} {F i : Int} (hL : Lay S Rf) (hI : CI c k len F V) (hi : -2147483648 ≤ i ∧ i ≤ 2147483647) : Ct 7 0 0 mX6_laws [zR 0, zI i] n S Rf V (qQ S Rf V (lwX c k len i V)) := by
  obtain ⟨hc, h2, h8, hd, hf, hu, hu3, hs, hfl, hF, hfa, hk, hk8, hsg, hsd, hl, h60, hp, hsc⟩ := hI
  have hrg : -6 ≤ (wdF c len V).2 ∧ (wdF c len V).2 ≤ (len : Int) + 2 := prs_rg (c := c) (s := sgF (V 19) len) (len := len) 60 0
  have hln : (wdF c len V).1.length ≤ 60 := prs_len (c := c) (s := sgF (V 19) len) (len := len) 60 0
  have hok : okW c (wdF c len V).1 := prs_ok h2 _ _
  refine ct_of (by decide) rfl (Nat.le_of_ble_eq_true rfl) ?_
  have loop : ∀ (q p t l a : Nat) (f : Int) (V' : zE), p + q = 216 → p = 36 * t + 6 * l + a → t < 6 → l < 6 → a < 6 → (0 ≤ f ∧ f ≤ p) → V' 9 0 = (c : Int) → V' 9 8 = (k : Int) → V' 15 = V 7 → V' 16 = V 8 → (∀ j, 0 ≤ V' 12 j ∧ V' 12 j ≤ 9) → (∀ j, 3 ≤ j → V' 12 j = V 4 j) → (∀ j, -2147483648 ≤ V' 13 j ∧ V' 13 j ≤ 2147483647) → V' 18 2 = ((wdF c len V).1.length : Int) → hasW V' (wdF c len V).1 → qry V V' → Wa zXn mX6_laws (zrm 7 0 0) (zZm (qQ S Rf V (lwG (fitB c k len V) i q p f)) (n + 0) 0 0) 0 0 n S 54 [some (zR 0), some (zI i), some (zI f), some (zI (t : Int)), some (zI (l : Int)), some (zI (a : Int))] [] Rf V' := by
    intro q
    induction q with
    | zero => intro p t l a f V' h1 h2; omega
    | succ q ih =>
      intro p t l a f V' hq hpp ht hl' ha hf' h90 h98 h15 h16 hu' hu4 hs' h182 hh hqy
      have e36 : p / 36 = t := by omega
      have e6 : p / 6 % 6 = l := by omega
      have e1 : p % 6 = a := by omega
      have hFit := ct_fitsLaw (n := n) (S := S) (Rf := Rf) (V := V') (c := c) (k := k) (ws := (wdF c len V).1) (t := (t : Int)) (l := (l : Int)) (a := (a : Int)) hL h90 h2 h8 h98 hk8 (fun j => by rw [h15]; exact hsg j) (fun j => by rw [h16]; have := hsd j; omega) hu' hs' (by omega) (by omega) (by omega) h182 hln hh hok
      have hrr : runD c (za (za (za (V' 12) 0 (t : Int)) 1 (l : Int)) 2 (a : Int)) (wdF c len V).1 (fun _ => 0, fun _ => 0) = runD c (za (za (za (V 4) 0 (t : Int)) 1 (l : Int)) 2 (a : Int)) (wdF c len V).1 (fun _ => 0, fun _ => 0) := by
        refine runD_r (fun j hj => ?_) hok
        obtain rfl | rfl | rfl | rfl : j = 0 ∨ j = 1 ∨ j = 2 ∨ j = 3 := by omega
        · simp [za]
        · simp [za]
        · simp [za]
        · simp only [za]; exact hu4 3 (by decide)
      have hfb : allB (fun i => (runD c (za (za (za (V' 12) 0 (t : Int)) 1 (l : Int)) 2 (a : Int)) (wdF c len V).1 (fun _ => 0, fun _ => 0)).1 (V' 15 i).toNat == V' 16 i) k = fitB c k len V p := by
        unfold fitB; rw [hrr, h15, h16, e36, e6, e1]
      /- what comes behind a try -/
      have nxt : ∀ (f' : Int) (V2 : zE), (0 ≤ f' ∧ f' ≤ (p + 1 : Nat)) → V2 9 0 = (c : Int) → V2 9 8 = (k : Int) → V2 15 = V 7 → V2 16 = V 8 → (∀ j, 0 ≤ V2 12 j ∧ V2 12 j ≤ 9) → (∀ j, 3 ≤ j → V2 12 j = V 4 j) → (∀ j, -2147483648 ≤ V2 13 j ∧ V2 13 j ≤ 2147483647) → V2 18 2 = ((wdF c len V).1.length : Int) → hasW V2 (wdF c len V).1 → qry V V2 → Wa zXn mX6_laws (zrm 7 0 0) (zZm (qQ S Rf V (lwG (fitB c k len V) i q (p + 1) f')) (n + 0) 0 0) 0 0 n S 101 [some (zR 0), some (zI i), some (zI f'), some (zI (t : Int)), some (zI (l : Int)), some (zI (a : Int))] [] Rf V2 := by
        intro f' V2 g1 g2 g3 g4 g5 g6 g7 g8 g9 g10 g11
        refine wa_iinc5 dX6_laws_101 (by decide) rfl ?_
        refine wa_goto 54 dX6_laws_104 (by decide) ?_
        rw [show (a : Int) + 1 = ((a + 1 : Nat) : Int) by omega]
        by_cases ha5 : a + 1 < 6
        · exact ih (p + 1) t l (a + 1) f' V2 (by omega) (by omega) ht hl' ha5 g1 g2 g3 g4 g5 g6 g7 g8 g9 g10 g11
        · refine wa_ild5 dX6_laws_54 ?_
          refine wa_iconst dX6_laws_56 ?_
          refine wa_icmp_gt 107 dX6_laws_57 (by decide) (by omega) (by decide) (fun _ => ?_) (fun h => absurd h (by omega))
          refine wa_drop5 ?_
          refine wa_iinc4 dX6_laws_107 (by decide) rfl ?_
          refine wa_goto 45 dX6_laws_110 (by decide) ?_
          rw [show (l : Int) + 1 = ((l + 1 : Nat) : Int) by omega]
          refine wa_ild4 dX6_laws_45 ?_
          refine wa_iconst dX6_laws_47 ?_
          by_cases hl5 : l + 1 < 6
          · refine wa_icmp_gt 113 dX6_laws_48 (by decide) (by omega) (by decide) (fun h => absurd h (by omega)) (fun _ => ?_)
            refine wa_iconst dX6_laws_51 ?_
            refine wa_ist5 dX6_laws_52 (by decide) rfl ?_
            exact ih (p + 1) t (l + 1) 0 f' V2 (by omega) (by omega) ht hl5 (by decide) g1 g2 g3 g4 g5 g6 g7 g8 g9 g10 g11
          · refine wa_icmp_gt 113 dX6_laws_48 (by decide) (by omega) (by decide) (fun _ => ?_) (fun h => absurd h (by omega))
            refine wa_drop4 ?_
            refine wa_iinc3 dX6_laws_113 (by decide) rfl ?_
            refine wa_goto 37 dX6_laws_116 (by decide) ?_
            rw [show (t : Int) + 1 = ((t + 1 : Nat) : Int) by omega]
            refine wa_ild3 dX6_laws_37 ?_
            refine wa_iconst dX6_laws_38 ?_
            by_cases ht5 : t + 1 < 6
            · refine wa_icmp_gt 119 dX6_laws_39 (by decide) (by omega) (by decide) (fun h => absurd h (by omega)) (fun _ => ?_)
              refine wa_iconst dX6_laws_42 ?_
              refine wa_ist4 dX6_laws_43 (by decide) rfl ?_
              refine wa_ild4 dX6_laws_45 ?_
              refine wa_iconst dX6_laws_47 ?_
              refine wa_icmp_gt 113 dX6_laws_48 (by decide) (by decide) (by decide) (fun h => absurd h (by decide)) (fun _ => ?_)
              refine wa_iconst dX6_laws_51 ?_
              refine wa_ist5 dX6_laws_52 (by decide) rfl ?_
              exact ih (p + 1) (t + 1) 0 0 f' V2 (by omega) (by omega) ht5 (by decide) (by decide) g1 g2 g3 g4 g5 g6 g7 g8 g9 g10 g11
            · refine wa_icmp_gt 119 dX6_laws_39 (by decide) (by omega) (by decide) (fun _ => ?_) (fun h => absurd h (by omega))
              obtain rfl : q = 0 := by omega
              rw [lwG]
              refine wa_ild1 dX6_laws_119 ?_
              refine wa_iconst dX6_laws_120 ?_
              refine wa_icmp_ne 128 dX6_laws_121 (by decide) (by omega) (by omega) (fun c121 => ?_) (fun c121 => ?_)
              · refine wa_bipush dX6_laws_128 (by decide) ?_
                exact wa_ireturn dX6_laws_130 rfl rfl (Nat.le_refl _) (by refine ⟨?_, rfl, rfe_rf, g11⟩; first | rw [if_pos c121] | rw [if_neg c121])
              · refine wa_ild2 dX6_laws_124 ?_
                refine wa_goto 130 dX6_laws_125 (by decide) ?_
                exact wa_ireturn dX6_laws_130 rfl rfl (Nat.le_refl _) (by refine ⟨?_, rfl, rfe_rf, g11⟩; first | rw [if_pos c121] | rw [if_neg c121])
      refine wa_ild5 dX6_laws_54 ?_
      refine wa_iconst dX6_laws_56 ?_
      refine wa_icmp_gt 107 dX6_laws_57 (by decide) (by omega) (by omega) (fun c57 => ?_) (fun c57 => ?_)
      · exact absurd c57 (by omega)
      · refine wa_ald0 dX6_laws_60 ?_
        refine gX6_26 dX6_laws_61 rfl (by first | assumption | exact hL.1 _ (by decide)) (by first | assumption | exact hL.2 _ _ (by decide)) ?_
        refine wa_ald0 dX6_laws_64 ?_
        refine gX6_16 dX6_laws_65 rfl (by first | assumption | exact hL.1 _ (by decide)) (by first | assumption | exact hL.2 _ _ (by decide)) ?_
        refine wa_ild3 dX6_laws_68 ?_
        refine wa_ild4 dX6_laws_69 ?_
        refine wa_ild5 dX6_laws_71 ?_
        refine kX6_178 dX6_laws_73 rfl (by first | assumption | exact hL.1 _ (by decide)) (hFit) (by decide) (Nat.le_of_ble_eq_true rfl) ⟨Nat.le_refl _, Nat.le_refl _⟩ (zpI fun x V2 hp2 => ?_)
        obtain ⟨p1, p2, p3, p4, p5, p6⟩ := hp2
        rw [hfb] at p1
        have o15 : V2 15 = V 7 := by rw [p6 15 (by decide) (by decide) (by decide) (by decide) (by decide)]; exact h15
        have o16 : V2 16 = V 8 := by rw [p6 16 (by decide) (by decide) (by decide) (by decide) (by decide)]; exact h16
        have o12 : ∀ j, 0 ≤ V2 12 j ∧ V2 12 j ≤ 9 := by intro j; have := hu' j; rw [p2]; simp only [za]; (repeat' split) <;> omega
        have o12' : ∀ j, 3 ≤ j → V2 12 j = V 4 j := by intro j hj; rw [p2, za_n _ _ (by omega), za_n _ _ (by omega), za_n _ _ (by omega)]; exact hu4 j hj
        have o18 : V2 18 = V' 18 := p6 18 (by decide) (by decide) (by decide) (by decide) (by decide)
        have oh : hasW V2 (wdF c len V).1 := hasW_c hh (p6 20 (by decide) (by decide) (by decide) (by decide) (by decide)) (p6 21 (by decide) (by decide) (by decide) (by decide) (by decide)) (p6 22 (by decide) (by decide) (by decide) (by decide) (by decide))
        have oq : qry V V2 := ⟨fun k hk => by unfold scr at hk; rw [p6 k (by omega) (by omega) (by omega) (by omega) (by omega)]; exact hqy.1 k hk, by rw [o18]; exact hqy.2.1, fun j => by rw [p6 27 (by decide) (by decide) (by decide) (by decide) (by decide)]; exact hqy.2.2.1 j, fun j => by rw [p6 28 (by decide) (by decide) (by decide) (by decide) (by decide)]; exact hqy.2.2.2.1 j, fun j => by rw [p6 30 (by decide) (by decide) (by decide) (by decide) (by decide)]; exact hqy.2.2.2.2 j⟩
        have hN := nxt
        rw [lwG]
        by_cases hb : fitB c k len V p = true
        · rw [if_pos hb] at p1 ⊢
          subst p1
          refine wa_if_eq 101 dX6_laws_76 (by decide) (by decide) (fun h => absurd h (by decide)) (fun _ => ?_)
          refine wa_ild2 dX6_laws_79 ?_
          refine wa_ild1 dX6_laws_80 ?_
          refine wa_icmp_ne 98 dX6_laws_81 (by decide) (by omega) hi (fun c81 => ?_) (fun c81 => ?_)
          · rw [if_neg c81]
            refine wa_iinc2 dX6_laws_98 (by decide) rfl ?_
            exact hN (f + 1) V2 (by omega) (p4.trans h90) (p5.trans h98) o15 o16 o12 o12' p3 (by rw [o18]; exact h182) oh oq
          · rw [if_pos c81, e36, e6, e1]
            refine wa_bipush dX6_laws_84 (by decide) ?_
            refine wa_ild3 dX6_laws_86 ?_
            refine wa_imul dX6_laws_87 ?_
            refine wa_bipush dX6_laws_88 (by decide) ?_
            refine wa_ild4 dX6_laws_90 ?_
            refine wa_imul dX6_laws_92 ?_
            refine wa_iadd dX6_laws_93 ?_
            refine wa_ild5 dX6_laws_94 ?_
            refine wa_iadd dX6_laws_96 ?_
            exact wa_ireturn dX6_laws_97 rfl rfl (Nat.le_refl _) (by exact ⟨rfl, rfl, rfe_rf, oq⟩)
        · rw [if_neg hb] at p1 ⊢
          subst p1
          refine wa_if_eq 101 dX6_laws_76 (by decide) (by decide) (fun _ => ?_) (fun h => absurd rfl h)
          exact hN f V2 (by omega) (p4.trans h90) (p5.trans h98) o15 o16 o12 o12' p3 (by rw [o18]; exact h182) oh oq
  unfold lwX
  refine wa_ald0 dX6_laws_0 ?_
  refine gX6_26 dX6_laws_1 rfl (by first | assumption | exact hL.1 _ (by decide)) (by first | assumption | exact hL.2 _ _ (by decide)) ?_
  refine wa_ald0 dX6_laws_4 ?_
  refine gX6_10 dX6_laws_5 rfl (by first | assumption | exact hL.1 _ (by decide)) (by first | assumption | exact hL.2 _ _ (by decide)) ?_
  refine gX6_58 dX6_laws_8 rfl (by first | assumption | exact hL.1 _ (by decide)) ?_
  rw [hc]
  refine kX6_93 dX6_laws_11 rfl (by first | assumption | exact hL.1 _ (by decide)) (ct_read hL hl h60 (fun j => by have := hp j; omega) h2 h8) (by decide) (Nat.le_of_ble_eq_true rfl) ⟨Nat.le_refl _, Nat.le_refl _⟩ (zpI fun x V1 hp1 => ?_)
  obtain ⟨p1, p2, p3, p4⟩ := hp1
  change x = (wdF c len V).2 at p1
  change _ = za (V 18) 2 ((wdF c len V).1.length : Int) at p2
  change hasW V1 (wdF c len V).1 at p3
  subst p1
  refine wa_bipush dX6_laws_14 (by decide) ?_
  refine wa_icmp_eq 22 dX6_laws_16 (by decide) (by omega) (by omega) (fun c16 => ?_) (fun c16 => ?_)
  · refine wa_ald0 dX6_laws_22 ?_
    refine gX6_16 dX6_laws_23 rfl (by first | assumption | exact hL.1 _ (by decide)) (by first | assumption | exact hL.2 _ _ (by decide)) ?_
    refine wa_ald0 dX6_laws_26 ?_
    refine gX6_10 dX6_laws_27 rfl (by first | assumption | exact hL.1 _ (by decide)) (by first | assumption | exact hL.2 _ _ (by decide)) ?_
    refine kX6_97 dX6_laws_30 rfl (by first | assumption | exact hL.1 _ (by decide)) (ct_copy hL.s9 hL.s1 (by decide)) (by decide) (Nat.le_of_ble_eq_true rfl) ⟨Nat.le_refl _, Nat.le_refl _⟩ (zdN ?_)
    refine wa_iconst dX6_laws_33 ?_
    refine wa_ist2 dX6_laws_34 (by decide) rfl ?_
    refine wa_iconst dX6_laws_35 ?_
    refine wa_ist3 dX6_laws_36 (by decide) rfl ?_
    refine wa_ild3 dX6_laws_37 ?_
    refine wa_iconst dX6_laws_38 ?_
    refine wa_icmp_gt 119 dX6_laws_39 (by decide) (by decide) (by decide) (fun c39 => absurd c39 (by decide)) (fun c39 => ?_)
    refine wa_iconst dX6_laws_42 ?_
    refine wa_ist4 dX6_laws_43 (by decide) rfl ?_
    refine wa_ild4 dX6_laws_45 ?_
    refine wa_iconst dX6_laws_47 ?_
    refine wa_icmp_gt 113 dX6_laws_48 (by decide) (by decide) (by decide) (fun c48 => absurd c48 (by decide)) (fun c48 => ?_)
    refine wa_iconst dX6_laws_51 ?_
    refine wa_ist5 dX6_laws_52 (by decide) rfl ?_
    rw [if_neg (fun h => h c16)]
    refine loop 216 0 0 0 0 0 _ (by decide) (by decide) (by decide) (by decide) (by decide) (by decide) ?_ ?_ ?_ ?_ (fun j => ?_) (fun j _ => ?_) (fun j => ?_) ?_ (hasW_c p3 (cp_out (by omega)) (cp_out (by omega)) (cp_out (by omega))) ⟨fun k hk => ?_, ?_, fun j => ?_, fun j => ?_, fun j => ?_⟩
    · rw [cp_in (i := 0) (by decide) p4]; exact hc
    · rw [cp_in (i := 0) (by decide) p4]; exact hk
    · exact cp_in (i := 6) (by decide) p4
    · exact cp_in (i := 7) (by decide) p4
    · rw [cp_in (i := 3) (by decide) p4]; exact hu j
    · rw [cp_in (i := 3) (by decide) p4]
    · rw [cp_in (i := 4) (by decide) p4]; exact hs j
    · rw [cp_out (by omega), p2, za_s]
    · unfold scr at hk; rw [cp_out (by omega)]; exact p4 k (by omega) (by omega) (by omega) (by omega)
    · rw [cp_out (by omega), p2, za_n _ _ (by decide)]
    · rw [cp_out (by omega), p4 27 (by decide) (by decide) (by decide) (by decide)]; exact hsc.1 j
    · rw [cp_out (by omega), p4 28 (by decide) (by decide) (by decide) (by decide)]; exact hsc.2.1 j
    · rw [cp_out (by omega), p4 30 (by decide) (by decide) (by decide) (by decide)]; exact hsc.2.2 j
  · refine wa_bipush dX6_laws_19 (by decide) ?_
    exact wa_ireturn dX6_laws_21 rfl rfl (Nat.le_refl _) (by exact ⟨by rw [if_pos c16], rfl, rfe_rf, rd_qry hsc p2 p4⟩)
