/-! SnowTalk: elsewhere, winter, told, where, laws -/
def elX (c : Nat) (s : Nat → Int) (g : Int) : Int := if g = -1 then (rdsF c 50 1 (s, cn0 c c)).1 else if 0 ≤ g ∧ g < c then (rdsF c 50 1 (s, cn0 c c)).2.2 g.toNat else -1
theorem ct_elsewhere {n : Nat} {S : zH} {Rf : zG} {V : zE} {c k len : Nat} {F g : Int} (hL : Lay S Rf) (hI : CI c k len F V) (hg : -2147483648 ≤ g ∧ g ≤ 2147483647) : Ct 4 0 0 mX6_elsewhere [zR 0, zI g] n S Rf V (fun v S' Rf' V' => ∃ s : Nat → Int, (∀ j, j < c → s j = st0 c j) ∧ qQ S Rf V (elX c s g) v S' Rf' V') := by
  obtain ⟨hc, h2, h8, hd, hf, hu, hu3, hs, hfl, hF, hfa, hk, hk8, hsg, hsd, hl, h60, hp, hsc⟩ := hI
  refine ct_of (by decide) rfl (Nat.le_of_ble_eq_true rfl) ?_
  refine wa_ild1 dX6_elsewhere_0 ?_
  refine wa_iconst dX6_elsewhere_1 ?_
  refine wa_icmp_eq 18 dX6_elsewhere_2 (by decide) (by omega) (by omega) (fun c2 => ?_) (fun c2 => ?_)
  · refine wa_ald0 dX6_elsewhere_18 ?_
    refine gX6_54 dX6_elsewhere_19 rfl (by first | assumption | exact hL.1 _ (by decide)) (by first | assumption | exact hL.2 _ _ (by decide)) ?_
    refine wa_ald0 dX6_elsewhere_22 ?_
    refine gX6_10 dX6_elsewhere_23 rfl (by first | assumption | exact hL.1 _ (by decide)) (by first | assumption | exact hL.2 _ _ (by decide)) ?_
    refine gX6_58 dX6_elsewhere_26 rfl (by first | assumption | exact hL.1 _ (by decide)) ?_
    rw [hc]
    refine kX6_202 dX6_elsewhere_29 rfl (by first | assumption | exact hL.1 _ (by decide)) (ct_settle hL h2 h8) (by decide) (Nat.le_of_ble_eq_true rfl) ⟨Nat.le_refl _, Nat.le_refl _⟩ (zpI fun x V1 hp1 => ?_)
    obtain ⟨⟨s, hs1, hx, h36⟩, ho⟩ := hp1
    have hq : qry V V1 := ⟨fun k hk => ho k (by unfold scr at hk; omega) (by unfold scr at hk; omega), by rw [ho 18 (by decide) (by decide)], fun j => by rw [ho 27 (by decide) (by decide)]; exact hsc.1 j, fun j => by rw [ho 28 (by decide) (by decide)]; exact hsc.2.1 j, fun j => by rw [ho 30 (by decide) (by decide)]; exact hsc.2.2 j⟩
    refine wa_ist2 dX6_elsewhere_32 (by decide) rfl ?_
    refine wa_ild1 dX6_elsewhere_33 ?_
    refine wa_iconst dX6_elsewhere_34 ?_
    refine wa_icmp_ne 42 dX6_elsewhere_35 (by decide) (by omega) (by omega) (fun c35 => ?_) (fun c35 => ?_)
    · by_cases hno : g = -1
      · exact absurd hno c35
      refine wa_ald0 dX6_elsewhere_42 ?_
      refine gX6_54 dX6_elsewhere_43 rfl (hL.1 _ (by decide)) (hL.2 _ _ (by decide)) ?_
      refine gX6_205 dX6_elsewhere_46 rfl (hL.1 _ (by decide)) (hL.2 _ _ (by decide)) ?_
      refine wa_ild1 dX6_elsewhere_49 ?_
      refine wa_iaload dX6_elsewhere_50 (hL.1 _ (by decide)) (by omega) (by decide) ?_
      exact wa_ireturn dX6_elsewhere_51 rfl rfl (Nat.le_refl _) ⟨s, hs1, by unfold elX; rw [if_neg c35, if_pos (by omega), h36], rfl, rfe_rf, hq⟩
    · refine wa_ild2 dX6_elsewhere_38 ?_
      refine wa_goto 51 dX6_elsewhere_39 (by decide) ?_
      exact wa_ireturn dX6_elsewhere_51 rfl rfl (Nat.le_refl _) ⟨s, hs1, by unfold elX; rw [if_pos c35, hx], rfl, rfe_rf, hq⟩
  · refine wa_ald0 dX6_elsewhere_5 ?_
    refine gX6_10 dX6_elsewhere_6 rfl (by first | assumption | exact hL.1 _ (by decide)) (by first | assumption | exact hL.2 _ _ (by decide)) ?_
    refine wa_ild1 dX6_elsewhere_9 ?_
    refine kX6_66 dX6_elsewhere_10 rfl (by first | assumption | exact hL.1 _ (by decide)) (ct_has hL.s1 (by omega) hg) (by decide) (Nat.le_of_ble_eq_true rfl) ⟨Nat.le_refl _, Nat.le_refl _⟩ (zdI ?_)
    rw [hc]
    refine wa_ifne_B 18 dX6_elsewhere_13 (by decide) (fun c13 => ?_) (fun c13 => ?_)
    · refine wa_ald0 dX6_elsewhere_18 ?_
      refine gX6_54 dX6_elsewhere_19 rfl (by first | assumption | exact hL.1 _ (by decide)) (by first | assumption | exact hL.2 _ _ (by decide)) ?_
      refine wa_ald0 dX6_elsewhere_22 ?_
      refine gX6_10 dX6_elsewhere_23 rfl (by first | assumption | exact hL.1 _ (by decide)) (by first | assumption | exact hL.2 _ _ (by decide)) ?_
      refine gX6_58 dX6_elsewhere_26 rfl (by first | assumption | exact hL.1 _ (by decide)) ?_
      rw [hc]
      refine kX6_202 dX6_elsewhere_29 rfl (by first | assumption | exact hL.1 _ (by decide)) (ct_settle hL h2 h8) (by decide) (Nat.le_of_ble_eq_true rfl) ⟨Nat.le_refl _, Nat.le_refl _⟩ (zpI fun x V1 hp1 => ?_)
      obtain ⟨⟨s, hs1, hx, h36⟩, ho⟩ := hp1
      have hq : qry V V1 := ⟨fun k hk => ho k (by unfold scr at hk; omega) (by unfold scr at hk; omega), by rw [ho 18 (by decide) (by decide)], fun j => by rw [ho 27 (by decide) (by decide)]; exact hsc.1 j, fun j => by rw [ho 28 (by decide) (by decide)]; exact hsc.2.1 j, fun j => by rw [ho 30 (by decide) (by decide)]; exact hsc.2.2 j⟩
      refine wa_ist2 dX6_elsewhere_32 (by decide) rfl ?_
      refine wa_ild1 dX6_elsewhere_33 ?_
      refine wa_iconst dX6_elsewhere_34 ?_
      refine wa_icmp_ne 42 dX6_elsewhere_35 (by decide) (by omega) (by omega) (fun c35 => ?_) (fun c35 => ?_)
      · by_cases hno : g = -1
        · exact absurd hno c35
        refine wa_ald0 dX6_elsewhere_42 ?_
        refine gX6_54 dX6_elsewhere_43 rfl (hL.1 _ (by decide)) (hL.2 _ _ (by decide)) ?_
        refine gX6_205 dX6_elsewhere_46 rfl (hL.1 _ (by decide)) (hL.2 _ _ (by decide)) ?_
        refine wa_ild1 dX6_elsewhere_49 ?_
        refine wa_iaload dX6_elsewhere_50 (hL.1 _ (by decide)) (by omega) (by decide) ?_
        exact wa_ireturn dX6_elsewhere_51 rfl rfl (Nat.le_refl _) ⟨s, hs1, by unfold elX; rw [if_neg c35, if_pos (by omega), h36], rfl, rfe_rf, hq⟩
      · refine wa_ild2 dX6_elsewhere_38 ?_
        refine wa_goto 51 dX6_elsewhere_39 (by decide) ?_
        exact wa_ireturn dX6_elsewhere_51 rfl rfl (Nat.le_refl _) ⟨s, hs1, by unfold elX; rw [if_pos c35, hx], rfl, rfe_rf, hq⟩
    · refine wa_iconst dX6_elsewhere_16 ?_
      exact wa_ireturn dX6_elsewhere_17 rfl rfl (Nat.le_refl _) (by exact ⟨st0 c, fun _ _ => rfl, by unfold elX; rw [if_neg c2, if_neg c13], rfl, rfe_rf, qry_rf hsc⟩)
/-- words of a winter -/
def drwS (c : Nat) (roof rule : Nat → Int) (x : Int) (q : zSt) : zSt := if x % 8 = 0 then telS c roof rule 4 0 0 q else if x % 8 = 1 then telS c roof rule 5 0 0 q else if x % 8 = 2 then telS c roof rule 2 (x / 8 % c) (x / 64 % c) q else if x % 8 ≤ 4 then telS c roof rule 0 (x / 8 % c) (x / 64 % c) q else telS c roof rule 1 (x / 8 % c) (x / 64 % c) q
def wnS (c : Nat) (roof rule : Nat → Int) : Nat → Int → zSt → zSt
  | 0, _, q => q
  | m + 1, x, q => wnS c roof rule m ((75 * x + 74) % 65537) (drwS c roof rule ((75 * x + 74) % 65537) q)
theorem vw_drw {r c : Nat} {x : Int} {V : zE} : vw r (drwV r c x V) = drwS c (V (r + 2)) (V (r + 3)) x (vw r V) := by
  unfold drwV drwS
  (repeat' split) <;> exact vw_tel
theorem drwV_o {r c : Nat} {x : Int} {V : zE} {a : Nat} (h0 : a ≠ r) (h1 : a ≠ r + 1) (h4 : a ≠ r + 4) (h5 : a ≠ r + 5) : drwV r c x V a = V a := by
  unfold drwV
  (repeat' split) <;> exact telV_o h0 h1 h4 h5
theorem drwV_r {r c : Nat} {x : Int} {V : zE} {j : Nat} (h3 : j ≠ 3) (h4 : j ≠ 4) : drwV r c x V r j = V r j := by
  unfold drwV
  (repeat' split) <;> exact telV_r h3 h4
theorem drwS_g {c : Nat} {roof rule : Nat → Int} {x : Int} {q : zSt} (hu : ∀ j, 0 ≤ rule j ∧ rule j ≤ 9) (h : sGd q) : sGd (drwS c roof rule x q) := by
  unfold drwS
  (repeat' split) <;> exact telS_g (by decide) hu h
def wnX (c : Nat) (sd m w : Int) (V : zE) : Int := if (sd < 0 ∨ 9999 < sd) ∨ (m < 1 ∨ 99 < m) ∨ (w < 0 ∨ 2 < w) then -2 else if w = 0 then sumF (wnS c (V 3) (V 4) m.toNat sd (vw 1 V)).1 c else if w = 1 then (wnS c (V 3) (V 4) m.toNat sd (vw 1 V)).2.2.2.1 else (wnS c (V 3) (V 4) m.toNat sd (vw 1 V)).2.2.2.2
theorem ct_winter {n : Nat} {S : zH} {Rf : zG} {V : zE} {c k len : Nat} {F sd m w : Int} (hL : Lay S Rf) (hI : CI c k len F V) (hsd0 : -2147483648 ≤ sd ∧ sd ≤ 2147483647) (hm : -2147483648 ≤ m ∧ m ≤ 2147483647) (hw : -2147483648 ≤ w ∧ w ≤ 2147483647) : Ct 7 0 0 mX6_winter [zR 0, zI sd, zI m, zI w] n S Rf V (qQ S Rf V (wnX c sd m w V)) := by
  obtain ⟨hc, h2, h8, hd, hf, hu, hu3, hs, hfl, hF, hfa, hk, hk8, hsg, hsd, hl, h60, hp, hsc⟩ := hI
  refine ct_of (by decide) rfl (Nat.le_of_ble_eq_true rfl) ?_
  have loop : ∀ (q i : Nat) (x : Int) (V' : zE), 0 ≤ w ∧ w ≤ 2 → (i : Int) + q = m → m ≤ 99 → 0 ≤ x ∧ x ≤ 65537 → wnS c (V 3) (V 4) m.toNat sd (vw 1 V) = wnS c (V 3) (V 4) q x (vw 9 V') → sGd (vw 9 V') → V' 9 0 = (c : Int) → V' 11 = V 3 → V' 12 = V 4 → qry V V' → Wa zXn mX6_winter (zrm 7 0 0) (zZm (qQ S Rf V (if w = 0 then sumF (wnS c (V 3) (V 4) m.toNat sd (vw 1 V)).1 c else if w = 1 then (wnS c (V 3) (V 4) m.toNat sd (vw 1 V)).2.2.2.1 else (wnS c (V 3) (V 4) m.toNat sd (vw 1 V)).2.2.2.2)) (n + 0) 0 0) 0 0 n S 50 [some (zR 0), some (zI sd), some (zI m), some (zI w), some (zI x), some (zI (i : Int))] [] Rf V' := by
    intro q
    induction q with
    | zero =>
      intro i x V' hw' hi hm99 hx hr hg h90 h11 h12 hq
      rw [hr]
      simp only [wnS]
      refine wa_ild5 dX6_winter_50 ?_
      refine wa_ild2 dX6_winter_52 ?_
      refine wa_icmp_ge 84 dX6_winter_53 (by decide) (by omega) (by omega) (fun c53 => ?_) (fun c53 => ?_)
      · refine wa_ild3 dX6_winter_84 ?_
        refine wa_if_ne 96 dX6_winter_85 (by decide) (by omega) (fun c85 => ?_) (fun c85 => ?_)
        · refine wa_ild3 dX6_winter_96 ?_
          refine wa_iconst dX6_winter_97 ?_
          refine wa_icmp_ne 111 dX6_winter_98 (by decide) (by omega) (by omega) (fun c98 => ?_) (fun c98 => ?_)
          · refine wa_ald0 dX6_winter_111 ?_
            refine gX6_16 dX6_winter_112 rfl (by first | assumption | exact hL.1 _ (by decide)) (by first | assumption | exact hL.2 _ _ (by decide)) ?_
            refine gX6_216 dX6_winter_115 rfl (by first | assumption | exact hL.1 _ (by decide)) ?_
            exact wa_ireturn dX6_winter_118 rfl rfl (Nat.le_refl _) (by refine ⟨?_, rfl, rfe_rf, hq⟩; rw [if_neg c85]; first | rw [if_pos c98] | rw [if_neg c98])
          · refine wa_ald0 dX6_winter_101 ?_
            refine gX6_16 dX6_winter_102 rfl (by first | assumption | exact hL.1 _ (by decide)) (by first | assumption | exact hL.2 _ _ (by decide)) ?_
            refine gX6_81 dX6_winter_105 rfl (by first | assumption | exact hL.1 _ (by decide)) ?_
            refine wa_goto 118 dX6_winter_108 (by decide) ?_
            exact wa_ireturn dX6_winter_118 rfl rfl (Nat.le_refl _) (by refine ⟨?_, rfl, rfe_rf, hq⟩; rw [if_neg c85]; first | rw [if_pos c98] | rw [if_neg c98])
        · refine wa_ald0 dX6_winter_88 ?_
          refine gX6_16 dX6_winter_89 rfl (by first | assumption | exact hL.1 _ (by decide)) (by first | assumption | exact hL.2 _ _ (by decide)) ?_
          refine kX6_212 dX6_winter_92 rfl (by first | assumption | exact hL.1 _ (by decide)) (ct_deepTogether hL.s9 h90 h2 h8) (by decide) (Nat.le_of_ble_eq_true rfl) ⟨Nat.le_refl _, Nat.le_refl _⟩ (zdI ?_)
          exact wa_ireturn dX6_winter_95 rfl rfl (Nat.le_refl _) (by exact ⟨by rw [if_pos c85], rfl, rfe_rf, hq⟩)
      · exact absurd c53 (by omega)
    | succ q ih =>
      intro i x V' hw' hi hm99 hx hr hg h90 h11 h12 hq
      have hy : 0 ≤ (75 * x + 74) % 65537 ∧ (75 * x + 74) % 65537 < 65537 := by omega
      generalize hyd : (75 * x + 74) % 65537 = y at hy
      have hdr := ct_draw (n := n) (S := S) (Rf := Rf) (V := V') (r := 9) (c := c) (x := y) hL.s9 h90 h2 h8 (by omega) (fun j => by have := hg.1 j; dsimp only at this; omega) (fun j => by show 0 ≤ V' 11 j ∧ V' 11 j ≤ 100000; rw [h11]; have := hf j; omega) (fun j => by show 0 ≤ V' 12 j ∧ V' 12 j ≤ 9; rw [h12]; exact hu j) (fun j => hg.2.1 j)
      have hvd := vw_drw (r := 9) (c := c) (x := y) (V := V')
      have hgd := drwS_g (c := c) (roof := V' 11) (rule := V' 12) (x := y) (q := vw 9 V') (fun j => by rw [h12]; exact hu j) hg
      rw [← hvd] at hgd
      refine wa_ild5 dX6_winter_50 ?_
      refine wa_ild2 dX6_winter_52 ?_
      refine wa_icmp_ge 84 dX6_winter_53 (by decide) (by omega) (by omega) (fun c53 => ?_) (fun c53 => ?_)
      · exact absurd c53 (by omega)
      · refine wa_bipush dX6_winter_56 (by decide) ?_
        refine wa_ild4 dX6_winter_58 ?_
        refine wa_imul dX6_winter_60 ?_
        refine wa_bipush dX6_winter_61 (by decide) ?_
        refine wa_iadd dX6_winter_63 ?_
        refine wa_ldc dX6_winter_64 coX6_208 65537 (by decide) ?_
        refine wa_irem dX6_winter_66 (by omega) (by omega) ?_
        rw [hyd]
        refine wa_ist4 dX6_winter_67 (by decide) rfl ?_
        refine wa_ald0 dX6_winter_69 ?_
        refine gX6_16 dX6_winter_70 rfl (by first | assumption | exact hL.1 _ (by decide)) (by first | assumption | exact hL.2 _ _ (by decide)) ?_
        refine wa_ild4 dX6_winter_73 ?_
        refine kX6_209 dX6_winter_75 rfl (by first | assumption | exact hL.1 _ (by decide)) (hdr) (by decide) (Nat.le_of_ble_eq_true rfl) ⟨Nat.le_refl _, Nat.le_refl _⟩ (zdN ?_)
        refine wa_iinc5 dX6_winter_78 (by decide) rfl ?_
        refine wa_goto 50 dX6_winter_81 (by decide) ?_
        rw [show (i : Int) + 1 = ((i + 1 : Nat) : Int) by omega]
        refine ih (i + 1) y _ hw' (by omega) hm99 (by omega) ?_ hgd ?_ ?_ ?_ ⟨fun k hk => ?_, ?_, fun j => ?_, fun j => ?_, fun j => ?_⟩
        · rw [hr, wnS, hyd, hvd]; simp only [Nat.reduceAdd]; rw [h11, h12]
        · rw [drwV_r (by decide) (by decide)]; exact h90
        · rw [drwV_o (by decide) (by decide) (by decide) (by decide)]; exact h11
        · rw [drwV_o (by decide) (by decide) (by decide) (by decide)]; exact h12
        · rw [drwV_o (by unfold scr at hk; omega) (by unfold scr at hk; omega) (by unfold scr at hk; omega) (by unfold scr at hk; omega)]; exact hq.1 k hk
        · rw [drwV_o (by decide) (by decide) (by decide) (by decide)]; exact hq.2.1
        · rw [drwV_o (by decide) (by decide) (by decide) (by decide)]; exact hq.2.2.1 j
        · rw [drwV_o (by decide) (by decide) (by decide) (by decide)]; exact hq.2.2.2.1 j
        · rw [drwV_o (by decide) (by decide) (by decide) (by decide)]; exact hq.2.2.2.2 j
  unfold wnX
  have hcv : vw 9 (cpV 9 1 V) = vw 1 V := by simp only [vw]; rw [cpV_0, cpV_i (by decide), cpV_i (by decide), cpV_i (by decide)]
  refine wa_ild1 dX6_winter_0 ?_
  refine wa_iconst dX6_winter_1 ?_
  refine wa_sipush dX6_winter_2 (by decide) ?_
  refine kX6_70 dX6_winter_5 rfl (ct_isOutside hsd0 (by decide) (by decide)) (by decide) (Nat.le_of_ble_eq_true rfl) ⟨Nat.le_refl _, Nat.le_refl _⟩ (zdI ?_)
  refine wa_ifne_B 30 dX6_winter_8 (by decide) (fun c8 => ?_) (fun c8 => ?_)
  · refine wa_bipush dX6_winter_30 (by decide) ?_
    exact wa_ireturn dX6_winter_32 rfl rfl (Nat.le_refl _) (by refine ⟨?_, rfl, rfe_rf, qry_rf hsc⟩; rw [if_pos (by omega)])
  · refine wa_ild2 dX6_winter_11 ?_
    refine wa_iconst dX6_winter_12 ?_
    refine wa_bipush dX6_winter_13 (by decide) ?_
    refine kX6_70 dX6_winter_15 rfl (ct_isOutside hm (by decide) (by decide)) (by decide) (Nat.le_of_ble_eq_true rfl) ⟨Nat.le_refl _, Nat.le_refl _⟩ (zdI ?_)
    refine wa_ifne_B 30 dX6_winter_18 (by decide) (fun c18 => ?_) (fun c18 => ?_)
    · refine wa_bipush dX6_winter_30 (by decide) ?_
      exact wa_ireturn dX6_winter_32 rfl rfl (Nat.le_refl _) (by refine ⟨?_, rfl, rfe_rf, qry_rf hsc⟩; rw [if_pos (by omega)])
    · refine wa_ild3 dX6_winter_21 ?_
      refine wa_iconst dX6_winter_22 ?_
      refine wa_iconst dX6_winter_23 ?_
      refine kX6_70 dX6_winter_24 rfl (ct_isOutside hw (by decide) (by decide)) (by decide) (Nat.le_of_ble_eq_true rfl) ⟨Nat.le_refl _, Nat.le_refl _⟩ (zdI ?_)
      refine wa_ifeq_B 33 dX6_winter_27 (by decide) (fun c27 => ?_) (fun c27 => ?_)
      · refine wa_ald0 dX6_winter_33 ?_
        refine gX6_16 dX6_winter_34 rfl (by first | assumption | exact hL.1 _ (by decide)) (by first | assumption | exact hL.2 _ _ (by decide)) ?_
        refine wa_ald0 dX6_winter_37 ?_
        refine gX6_10 dX6_winter_38 rfl (by first | assumption | exact hL.1 _ (by decide)) (by first | assumption | exact hL.2 _ _ (by decide)) ?_
        refine kX6_97 dX6_winter_41 rfl (by first | assumption | exact hL.1 _ (by decide)) (ct_copy hL.s9 hL.s1 (by decide)) (by decide) (Nat.le_of_ble_eq_true rfl) ⟨Nat.le_refl _, Nat.le_refl _⟩ (zdN ?_)
        refine wa_ild1 dX6_winter_44 ?_
        refine wa_ist4 dX6_winter_45 (by decide) rfl ?_
        refine wa_iconst dX6_winter_47 ?_
        refine wa_ist5 dX6_winter_48 (by decide) rfl ?_
        rw [if_neg (by omega)]
        refine loop m.toNat 0 sd _ (by omega) (by omega) (by omega) (by omega) (by rw [hcv]) ?_ ?_ ?_ ?_ ⟨fun k hk => cpV_o (by unfold scr at hk; omega), ?_, fun j => ?_, fun j => ?_, fun j => ?_⟩
        · rw [hcv]; exact ⟨hd, hs, hfa⟩
        · rw [cpV_0]; exact hc
        · exact cpV_i (a := 9) (b := 1) (i := 2) (by decide)
        · exact cpV_i (a := 9) (b := 1) (i := 3) (by decide)
        · rw [cpV_o (by omega)]
        · rw [cpV_o (by omega)]; exact hsc.1 j
        · rw [cpV_o (by omega)]; exact hsc.2.1 j
        · rw [cpV_o (by omega)]; exact hsc.2.2 j
      · refine wa_bipush dX6_winter_30 (by decide) ?_
        exact wa_ireturn dX6_winter_32 rfl rfl (Nat.le_refl _) (by refine ⟨?_, rfl, rfe_rf, qry_rf hsc⟩; rw [if_pos (by omega)])
def tdX (c : Nat) (w : Int) (V : zE) : Int := if 0 ≤ w - 10 ∧ w - 10 < c then V 3 (w - 10).toNat else if w = 0 then V 18 1 else if w = 1 then V 1 0 else if w = 2 then V 1 4 else if 3 ≤ w ∧ w ≤ 6 then V 4 (w - 3).toNat else if w = 7 then V 1 8 else -2
theorem ct_told {n : Nat} {S : zH} {Rf : zG} {V : zE} {c k len : Nat} {F w : Int} (hL : Lay S Rf) (hI : CI c k len F V) (hw : -2147483648 ≤ w ∧ w ≤ 2147483647) : Ci 2 mX6_told [zR 0, zI w] n S Rf V (tdX c w V) V := by
  obtain ⟨hc, h2, h8, hd, hf, hu, hu3, hs, hfl, hF, hfa, hk, hk8, hsg, hsd, hl, h60, hp, hsc⟩ := hI
  refine ct_of (by decide) rfl (Nat.le_of_ble_eq_true rfl) ?_
  have tab : ¬ (0 ≤ w - 10 ∧ w - 10 < (c : Int)) → Wa zXn mX6_told (zrm 2 0 0) (zZm (qI (tdX c w V) S Rf V) (n + 0) 0 0) 0 0 n S 27 [some (zR 0), some (zI w)] [] Rf V := by
    intro h0
    unfold tdX
    rw [if_neg h0]
    refine wa_ild1 dX6_told_27 ?_
    by_cases h : 0 ≤ w ∧ w ≤ 7
    · obtain rfl | rfl | rfl | h3 | rfl : w = 0 ∨ w = 1 ∨ w = 2 ∨ (3 ≤ w ∧ w ≤ 6) ∨ w = 7 := by omega
      · refine wa_table 76 dX6_told_28 (by decide) (by decide) (off := 48) rfl (by decide) ?_
        refine wa_ald0 dX6_told_76 ?_
        refine gX6_26 dX6_told_77 rfl (by first | assumption | exact hL.1 _ (by decide)) (by first | assumption | exact hL.2 _ _ (by decide)) ?_
        refine gX6_87 dX6_told_80 rfl (by first | assumption | exact hL.1 _ (by decide)) ?_
        exact wa_ireturn dX6_told_83 rfl rfl (Nat.le_refl _) (by exact ⟨rfl, rfl, rfl, rfl⟩)
      · refine wa_table 84 dX6_told_28 (by decide) (by decide) (off := 56) rfl (by decide) ?_
        refine wa_ald0 dX6_told_84 ?_
        refine gX6_10 dX6_told_85 rfl (by first | assumption | exact hL.1 _ (by decide)) (by first | assumption | exact hL.2 _ _ (by decide)) ?_
        refine gX6_58 dX6_told_88 rfl (by first | assumption | exact hL.1 _ (by decide)) ?_
        exact wa_ireturn dX6_told_91 rfl rfl (Nat.le_refl _) (by exact ⟨rfl, rfl, rfl, rfl⟩)
      · refine wa_table 92 dX6_told_28 (by decide) (by decide) (off := 64) rfl (by decide) ?_
        refine wa_ald0 dX6_told_92 ?_
        refine gX6_10 dX6_told_93 rfl (by first | assumption | exact hL.1 _ (by decide)) (by first | assumption | exact hL.2 _ _ (by decide)) ?_
        refine gX6_216 dX6_told_96 rfl (by first | assumption | exact hL.1 _ (by decide)) ?_
        exact wa_ireturn dX6_told_99 rfl rfl (Nat.le_refl _) (by exact ⟨rfl, rfl, rfl, rfl⟩)
      · refine wa_table 100 dX6_told_28 (by omega) (by omega) (off := 72) ?_ (by decide) ?_
        · obtain rfl | rfl | rfl | rfl : w = 3 ∨ w = 4 ∨ w = 5 ∨ w = 6 := by omega
          all_goals rfl
        refine wa_ald0 dX6_told_100 ?_
        refine gX6_10 dX6_told_101 rfl (by first | assumption | exact hL.1 _ (by decide)) (by first | assumption | exact hL.2 _ _ (by decide)) ?_
        refine gX6_84 dX6_told_104 rfl (by first | assumption | exact hL.1 _ (by decide)) (by first | assumption | exact hL.2 _ _ (by decide)) ?_
        refine wa_ild1 dX6_told_107 ?_
        refine wa_iconst dX6_told_108 ?_
        refine wa_isub dX6_told_109 ?_
        refine wa_iaload dX6_told_110 (by first | assumption | exact hL.1 _ (by decide)) (by omega) (by first | decide | omega) ?_
        exact wa_ireturn dX6_told_111 rfl rfl (Nat.le_refl _) (by exact ⟨by rw [if_neg (by omega), if_neg (by omega), if_neg (by omega), if_pos h3], rfl, rfl, rfl⟩)
      · refine wa_table 112 dX6_told_28 (by decide) (by decide) (off := 84) rfl (by decide) ?_
        refine wa_ald0 dX6_told_112 ?_
        refine gX6_10 dX6_told_113 rfl (by first | assumption | exact hL.1 _ (by decide)) (by first | assumption | exact hL.2 _ _ (by decide)) ?_
        refine gX6_150 dX6_told_116 rfl (by first | assumption | exact hL.1 _ (by decide)) ?_
        exact wa_ireturn dX6_told_119 rfl rfl (Nat.le_refl _) (by exact ⟨rfl, rfl, rfl, rfl⟩)
    · refine wa_tabled 120 dX6_told_28 hw (by omega) (by decide) ?_
      refine wa_bipush dX6_told_120 (by decide) ?_
      exact wa_ireturn dX6_told_122 rfl rfl (Nat.le_refl _) (by exact ⟨by rw [if_neg (by omega), if_neg (by omega), if_neg (by omega), if_neg (by omega), if_neg (by omega)], rfl, rfl, rfl⟩)
  by_cases hlow : -2147483638 ≤ w
  · refine wa_ald0 dX6_told_0 ?_
    refine gX6_10 dX6_told_1 rfl (by first | assumption | exact hL.1 _ (by decide)) (by first | assumption | exact hL.2 _ _ (by decide)) ?_
    refine wa_ild1 dX6_told_4 ?_
    refine wa_bipush dX6_told_5 (by decide) ?_
    refine wa_isub dX6_told_7 ?_
    refine kX6_66 dX6_told_8 rfl (by first | assumption | exact hL.1 _ (by decide)) (ct_has hL.s1 (by omega) (by omega)) (by decide) (Nat.le_of_ble_eq_true rfl) ⟨Nat.le_refl _, Nat.le_refl _⟩ (zdI ?_)
    rw [hc]
    refine wa_ifeq_B 27 dX6_told_11 (by decide) (fun c11 => ?_) (fun c11 => ?_)
    · exact tab c11
    · refine wa_ald0 dX6_told_14 ?_
      refine gX6_10 dX6_told_15 rfl (by first | assumption | exact hL.1 _ (by decide)) (by first | assumption | exact hL.2 _ _ (by decide)) ?_
      refine gX6_78 dX6_told_18 rfl (by first | assumption | exact hL.1 _ (by decide)) (by first | assumption | exact hL.2 _ _ (by decide)) ?_
      refine wa_ild1 dX6_told_21 ?_
      refine wa_bipush dX6_told_22 (by decide) ?_
      refine wa_isub dX6_told_24 ?_
      refine wa_iaload dX6_told_25 (by first | assumption | exact hL.1 _ (by decide)) (by omega) (by first | decide | omega) ?_
      exact wa_ireturn dX6_told_26 rfl rfl (Nat.le_refl _) (by exact ⟨by unfold tdX; rw [if_pos c11], rfl, rfl, rfl⟩)
  · refine wa_ald0 dX6_told_0 ?_
    refine gX6_10 dX6_told_1 rfl (by first | assumption | exact hL.1 _ (by decide)) (by first | assumption | exact hL.2 _ _ (by decide)) ?_
    refine wa_ild1 dX6_told_4 ?_
    refine wa_bipush dX6_told_5 (by decide) ?_
    refine wa_isub dX6_told_7 ?_
    refine wa_wrap (i32_wrap (w - 10)) ?_
    refine kX6_66 dX6_told_8 rfl (by first | assumption | exact hL.1 _ (by decide)) (ct_has hL.s1 (by omega) (by omega)) (by decide) (Nat.le_of_ble_eq_true rfl) ⟨Nat.le_refl _, Nat.le_refl _⟩ (zdI ?_)
    rw [hc]
    refine wa_ifeq_B 27 dX6_told_11 (by decide) (fun c11 => ?_) (fun c11 => ?_)
    · exact tab (by omega)
    · exact absurd c11 (by omega)
def onlyB (ws : List (Int × Int × Int)) : Prop := ∀ q ∈ ws, q.1 ≤ 1 ∧ q.2.1 ≠ q.2.2
abbrev whS (c len : Nat) (V : zE) (t b : Nat → Int) : Int × (Nat → Int) := plS c (V 3) (V 4) (V 1 3) (wdF c len V).1 0 (V 2, V 5) t 0 (((wdF c len V).1.length : Int) + 1, b)
theorem onlyB_of {V : zE} {ws : List (Int × Int × Int)} (hh : hasW V ws) : allB (fun i => decide (V 20 i ≤ 1) && decide (V 21 i ≠ V 22 i)) ws.length = true ↔ onlyB ws := by
  constructor
  · intro h q hq
    obtain ⟨i, hi⟩ := List.getElem?_of_mem hq
    have hil : i < ws.length := (List.getElem?_eq_some_iff.mp hi).1
    obtain ⟨a1, a2, a3⟩ := hh i q hi
    cases hb : (decide (V 20 i ≤ 1) && decide (V 21 i ≠ V 22 i)) with
    | false => rw [allB_of hil hb] at h; cases h
    | true =>
      simp only [Bool.and_eq_true, decide_eq_true_eq] at hb
      rw [a1, a2, a3] at hb
      exact hb
  · intro h
    have hm : ∀ m, m ≤ ws.length → allB (fun i => decide (V 20 i ≤ 1) && decide (V 21 i ≠ V 22 i)) m = true := by
      intro m
      induction m with
      | zero => intro _; rfl
      | succ m ih =>
        intro hm
        have h1 : ws[m]? = some ws[m] := List.getElem?_eq_getElem (by omega)
        obtain ⟨a1, a2, a3⟩ := hh m _ h1
        obtain ⟨b1, b2⟩ := h _ (List.getElem_mem (show m < ws.length by omega))
        unfold allB
        rw [ih (by omega), a1, a2, a3]
        simp [b1, b2]
    exact hm _ (Nat.le_refl _)
/-- where: the answer, by the search's result -/
def wrP (c len : Nat) (i : Int) (V : zE) (x : Int) : Prop :=
  (¬ ((wdF c len V).2 = -6 ∧ onlyB (wdF c len V).1) ∧ x = -5) ∨ (((wdF c len V).2 = -6 ∧ onlyB (wdF c len V).1) ∧ 4 < (wdF c len V).1.length ∧ x = -4) ∨
  (((wdF c len V).2 = -6 ∧ onlyB (wdF c len V).1) ∧ (wdF c len V).1.length ≤ 4 ∧ ∃ t b, (i = -1 ∧ x = (whS c len V t b).1) ∨ ((0 ≤ i ∧ i < ((wdF c len V).1.length : Int)) ∧ x = (whS c len V t b).2 i.toNat) ∨ ((i < -1 ∨ ((wdF c len V).1.length : Int) ≤ i) ∧ x = -6))
theorem ct_where {n : Nat} {S : zH} {Rf : zG} {V : zE} {c k len : Nat} {F i : Int} (hL : Lay S Rf) (hI : CI c k len F V) (hi : -2147483648 ≤ i ∧ i ≤ 2147483647) : Ct 13 0 0 mX6_where [zR 0, zI i] n S Rf V (fun v S' Rf' V' => ∃ x, wrP c len i V x ∧ qQ S Rf V x v S' Rf' V') := by
  obtain ⟨hc, h2, h8, hd, hf, hu, hu3, hs, hfl, hF, hfa, hk, hk8, hsg, hsd, hl, h60, hp, hsc⟩ := hI
  have hrg : -6 ≤ (wdF c len V).2 ∧ (wdF c len V).2 ≤ (len : Int) + 2 := prs_rg (c := c) (s := sgF (V 19) len) (len := len) 60 0
  have hln : (wdF c len V).1.length ≤ 60 := prs_len (c := c) (s := sgF (V 19) len) (len := len) 60 0
  have hok : okW c (wdF c len V).1 := prs_ok h2 _ _
  refine ct_of (by decide) rfl (Nat.le_of_ble_eq_true rfl) ?_
  refine wa_ald0 dX6_where_0 ?_
  refine gX6_26 dX6_where_1 rfl (by first | assumption | exact hL.1 _ (by decide)) (by first | assumption | exact hL.2 _ _ (by decide)) ?_
  refine wa_ald0 dX6_where_4 ?_
  refine gX6_10 dX6_where_5 rfl (by first | assumption | exact hL.1 _ (by decide)) (by first | assumption | exact hL.2 _ _ (by decide)) ?_
  refine gX6_58 dX6_where_8 rfl (by first | assumption | exact hL.1 _ (by decide)) ?_
  rw [hc]
  refine kX6_93 dX6_where_11 rfl (by first | assumption | exact hL.1 _ (by decide)) (ct_read hL hl h60 (fun j => by have := hp j; omega) h2 h8) (by decide) (Nat.le_of_ble_eq_true rfl) ⟨Nat.le_refl _, Nat.le_refl _⟩ (zpI fun x V1 hp1 => ?_)
  obtain ⟨p1, p2, p3, p4⟩ := hp1
  change x = (wdF c len V).2 at p1
  change _ = za (V 18) 2 ((wdF c len V).1.length : Int) at p2
  change hasW V1 (wdF c len V).1 at p3
  subst p1
  have hon := onlyB_of p3
  have hw2 : V1 18 2 = ((wdF c len V).1.length : Int) := by rw [p2, za_s]
  refine wa_bipush dX6_where_14 (by decide) ?_
  refine wa_icmp_ne 29 dX6_where_16 (by decide) (by omega) (by omega) (fun c16 => ?_) (fun c16 => ?_)
  · refine wa_bipush dX6_where_29 (by decide) ?_
    exact wa_ireturn dX6_where_31 rfl rfl (Nat.le_refl _) ⟨_, Or.inl ⟨fun h => c16 h.1, rfl⟩, rfl, rfl, rfe_rf, rd_qry hsc p2 p4⟩
  · refine wa_ald0 dX6_where_19 ?_
    refine gX6_26 dX6_where_20 rfl (by first | assumption | exact hL.1 _ (by decide)) (by first | assumption | exact hL.2 _ _ (by decide)) ?_
    refine kX6_125 dX6_where_23 rfl (by first | assumption | exact hL.1 _ (by decide)) (ct_isOfOthersOnly (m := (wdF c len V).1.length) hL hw2 hln (fun q hq => by (have h9 := p3 q _ (List.getElem?_eq_getElem hq)); (have h10 := hok _ (List.getElem_mem hq)); rw [h9.1, h9.2.1, h9.2.2]; exact ⟨h10.1, ⟨h10.2.1.1, by omega⟩, ⟨h10.2.2.1, by omega⟩⟩)) (by decide) (Nat.le_of_ble_eq_true rfl) ⟨Nat.le_refl _, Nat.le_refl _⟩ (zdI ?_)
    refine wa_ifne_B 32 dX6_where_26 (by decide) (fun c26 => ?_) (fun c26 => ?_)
    · refine wa_ald0 dX6_where_32 ?_
      refine gX6_26 dX6_where_33 rfl (by first | assumption | exact hL.1 _ (by decide)) (by first | assumption | exact hL.2 _ _ (by decide)) ?_
      refine gX6_112 dX6_where_36 rfl (by first | assumption | exact hL.1 _ (by decide)) ?_
      refine wa_iconst dX6_where_39 ?_
      refine wa_icmp_le 46 dX6_where_40 (by decide) (by omega) (by omega) (fun c40 => ?_) (fun c40 => ?_)
      · refine wa_ald0 dX6_where_46 ?_
        refine gX6_16 dX6_where_47 rfl (by first | assumption | exact hL.1 _ (by decide)) (by first | assumption | exact hL.2 _ _ (by decide)) ?_
        refine wa_ald0 dX6_where_50 ?_
        refine gX6_10 dX6_where_51 rfl (by first | assumption | exact hL.1 _ (by decide)) (by first | assumption | exact hL.2 _ _ (by decide)) ?_
        refine kX6_97 dX6_where_54 rfl (by first | assumption | exact hL.1 _ (by decide)) (ct_copy hL.s9 hL.s1 (by decide)) (by decide) (Nat.le_of_ble_eq_true rfl) ⟨Nat.le_refl _, Nat.le_refl _⟩ (zdN ?_)
        refine wa_ald0 dX6_where_57 ?_
        refine gX6_33 dX6_where_58 rfl (by first | assumption | exact hL.1 _ (by decide)) (by first | assumption | exact hL.2 _ _ (by decide)) ?_
        refine wa_ald0 dX6_where_61 ?_
        refine gX6_16 dX6_where_62 rfl (by first | assumption | exact hL.1 _ (by decide)) (by first | assumption | exact hL.2 _ _ (by decide)) ?_
        refine wa_ald0 dX6_where_65 ?_
        refine gX6_26 dX6_where_66 rfl (by first | assumption | exact hL.1 _ (by decide)) (by first | assumption | exact hL.2 _ _ (by decide)) ?_
        refine kX6_128 dX6_where_69 rfl (by first | assumption | exact hL.1 _ (by decide)) (ct_find (c := c) (ws := (wdF c len V).1) hL h2 h8 (by omega) (hasW_c p3 (cp_out (by omega)) (cp_out (by omega)) (cp_out (by omega))) hok (fun q hq => ((hon.mp c26) q hq).1) (by rw [cp_out (by omega)]; exact hw2) (by rw [cp_in (i := 0) (by decide) p4]; exact hc) (fun j => by rw [cp_in (i := 1) (by decide) p4]; exact hd j) (fun j => by rw [cp_in (i := 2) (by decide) p4]; exact hf j) (fun j => by rw [cp_in (i := 3) (by decide) p4]; exact hu j) (fun j => by rw [cp_in (i := 4) (by decide) p4]; exact hs j)) (by decide) (Nat.le_of_ble_eq_true rfl) ⟨Nat.le_refl _, Nat.le_refl _⟩ (zpN fun V2 hq => ?_)
        obtain ⟨q1, q2, q3, q4, q5⟩ := hq
        rw [cp_in (i := 0) (by decide) p4, cp_in (i := 1) (by decide) p4, cp_in (i := 2) (by decide) p4, cp_in (i := 3) (by decide) p4, cp_in (i := 4) (by decide) p4] at q1 q2
        have e18 : V2 18 = V1 18 := by rw [q5 18 (by decide) (by decide) (by decide) (by decide) (by decide) (by decide), cp_out (by omega)]
        have hw3 : V2 18 2 = ((wdF c len V).1.length : Int) := by rw [e18]; exact hw2
        have hqq : qry V V2 := ⟨fun k hk => by unfold scr at hk; rw [q5 k (by omega) (by omega) (by omega) (by omega) (by omega) (by omega), cp_out (by omega)]; exact p4 k (by omega) (by omega) (by omega) (by omega), by rw [e18, p2, za_n _ _ (by decide)], fun j => by rw [q5 27 (by decide) (by decide) (by decide) (by decide) (by decide) (by decide), cp_out (by omega), p4 27 (by decide) (by decide) (by decide) (by decide)]; exact hsc.1 j, fun j => by rw [q5 28 (by decide) (by decide) (by decide) (by decide) (by decide) (by decide), cp_out (by omega), p4 28 (by decide) (by decide) (by decide) (by decide)]; exact hsc.2.1 j, fun j => by rw [q5 30 (by decide) (by decide) (by decide) (by decide) (by decide) (by decide), cp_out (by omega), p4 30 (by decide) (by decide) (by decide) (by decide)]; exact hsc.2.2 j⟩
        refine wa_ild1 dX6_where_72 ?_
        refine wa_iconst dX6_where_73 ?_
        refine wa_icmp_ne 85 dX6_where_74 (by decide) (by omega) (by omega) (fun c74 => ?_) (fun c74 => ?_)
        · refine wa_ild1 dX6_where_85 ?_
          refine wa_if_lt 112 dX6_where_86 (by decide) (by omega) (fun c86 => ?_) (fun c86 => ?_)
          · refine wa_bipush dX6_where_112 (by decide) ?_
            exact wa_ireturn dX6_where_114 rfl rfl (Nat.le_refl _) ⟨_, Or.inr (Or.inr ⟨⟨c16, hon.mp c26⟩, by omega, fun _ => 0, fun _ => 0, Or.inr (Or.inr ⟨by omega, rfl⟩)⟩), rfl, rfl, rfe_rf, hqq⟩
          · refine wa_ild1 dX6_where_89 ?_
            refine wa_ald0 dX6_where_90 ?_
            refine gX6_26 dX6_where_91 rfl (by first | assumption | exact hL.1 _ (by decide)) (by first | assumption | exact hL.2 _ _ (by decide)) ?_
            refine gX6_112 dX6_where_94 rfl (by first | assumption | exact hL.1 _ (by decide)) ?_
            refine wa_icmp_ge 112 dX6_where_97 (by decide) (by omega) (by omega) (fun c97 => ?_) (fun c97 => ?_)
            · refine wa_bipush dX6_where_112 (by decide) ?_
              exact wa_ireturn dX6_where_114 rfl rfl (Nat.le_refl _) ⟨_, Or.inr (Or.inr ⟨⟨c16, hon.mp c26⟩, by omega, fun _ => 0, fun _ => 0, Or.inr (Or.inr ⟨by omega, rfl⟩)⟩), rfl, rfl, rfe_rf, hqq⟩
            · refine wa_ald0 dX6_where_100 ?_
              refine gX6_33 dX6_where_101 rfl (by first | assumption | exact hL.1 _ (by decide)) (by first | assumption | exact hL.2 _ _ (by decide)) ?_
              refine gX6_135 dX6_where_104 rfl (by first | assumption | exact hL.1 _ (by decide)) (by first | assumption | exact hL.2 _ _ (by decide)) ?_
              refine wa_ild1 dX6_where_107 ?_
              refine wa_iaload dX6_where_108 (by first | assumption | exact hL.1 _ (by decide)) (by omega) (by first | decide | omega) ?_
              refine wa_goto 114 dX6_where_109 (by decide) ?_
              exact wa_ireturn dX6_where_114 rfl rfl (Nat.le_refl _) (by exact ⟨_, Or.inr (Or.inr ⟨⟨c16, hon.mp c26⟩, by omega, _, _, Or.inr (Or.inl ⟨by omega, q2 i.toNat (by omega)⟩)⟩), rfl, rfl, rfe_rf, hqq⟩)
        · refine wa_ald0 dX6_where_77 ?_
          refine gX6_33 dX6_where_78 rfl (by first | assumption | exact hL.1 _ (by decide)) (by first | assumption | exact hL.2 _ _ (by decide)) ?_
          refine gX6_132 dX6_where_81 rfl (by first | assumption | exact hL.1 _ (by decide)) ?_
          exact wa_ireturn dX6_where_84 rfl rfl (Nat.le_refl _) (by exact ⟨_, Or.inr (Or.inr ⟨⟨c16, hon.mp c26⟩, by omega, _, _, Or.inl ⟨c74, q1⟩⟩), rfl, rfl, rfe_rf, hqq⟩)
      · refine wa_bipush dX6_where_43 (by decide) ?_
        exact wa_ireturn dX6_where_45 rfl rfl (Nat.le_refl _) (by exact ⟨_, Or.inr (Or.inl ⟨⟨c16, hon.mp c26⟩, by omega, rfl⟩), rfl, rfl, rfe_rf, rd_qry hsc p2 p4⟩)
    · refine wa_bipush dX6_where_29 (by decide) ?_
      exact wa_ireturn dX6_where_31 rfl rfl (Nat.le_refl _) (by exact ⟨_, Or.inl ⟨fun h => c26 (hon.mpr h.2), rfl⟩, rfl, rfl, rfe_rf, rd_qry hsc p2 p4⟩)
