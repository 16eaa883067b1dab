/-! Rows.weigh -/
abbrev zAc : Type := Int × Int × Int × (Nat → Int)
theorem zshr1 {p : Int} (h : 0 ≤ p ∧ p < 16) : zshr p 1 = p / 2 := by
  have h1 : ∀ k : Fin 16, zshr (k.val : Int) 1 = (k.val : Int) / 2 := by decide +kernel
  have := h1 ⟨p.toNat, by omega⟩
  dsimp only at this
  rw [Int.toNat_of_nonneg h.1] at this
  exact this
def btF (pk : Nat → Int) : Nat → Int
  | 0 => 0
  | i + 1 => zor (btF pk i) (2 ^ (pk i / 2).toNat)
def tlS (d mo : Nat → Int) (al : Int) (g : Nat) (t : Nat → Int) : Nat → Int := if 0 ≤ mo g - d g + 1 ∧ mo g - d g + 1 < 32 then za t ((g : Int) * 32 + (mo g - d g + 1)).toNat (t ((g : Int) * 32 + (mo g - d g + 1)).toNat + al) else t
def wgS (c k m : Nat) (d sg sd pk day : Nat → Int) (a : zAc) : zAc :=
  if allB (fun i => ngF c day (sg i).toNat == sd i) k = true then (a.1 + (orS pk (m - 1)).1, zor a.2.1 (btF pk m), zand a.2.2.1 (btF pk m), rgF (tlS d (ngF c day) (orS pk (m - 1)).1) c a.2.2.2) else a
abbrev acV (V : zE) : zAc := (V 29 5, V 29 6, V 29 7, V 33)
def wgP (a : zAc) (V V' : zE) : Prop := acV V' = a ∧ (∀ j, j ≠ 5 → j ≠ 6 → j ≠ 7 → V' 29 j = V 29 j) ∧ ∀ k, k ≠ 29 → k ≠ 32 → k ≠ 33 → V' k = V k
theorem ct_weigh {n : Nat} {S : zH} {Rf : zG} {V : zE} {c k m : Nat} (hL : Lay S Rf) (hc : V 1 0 = (c : Int)) (h2 : 2 ≤ c) (h8 : c ≤ 8) (hk : V 1 8 = (k : Int)) (hk8 : k ≤ 8) (hm : V 29 4 = (m : Int)) (hm3 : m ≤ 3) (hp : ∀ j, 0 ≤ V 30 j ∧ V 30 j < 16) (hd : ∀ j, 0 ≤ V 31 j ∧ V 31 j ≤ 2000) (hdd : ∀ j, 0 ≤ V 2 j ∧ V 2 j ≤ 999) (hsg : ∀ j, 0 ≤ V 7 j ∧ V 7 j < 8) (hsd : ∀ j, 0 ≤ V 8 j ∧ V 8 j ≤ 100000) :
    Cpv 3 mX2_weigh [zR 29, zR 1] n S Rf V (wgP (wgS c k m (V 2) (V 7) (V 8) (V 30) (V 31) (acV V)) V) := by
  have hng := ngF_b (c := c) (d := V 31) (B := 2000) hd
  refine ct_of (by decide) rfl (Nat.le_of_ble_eq_true rfl) ?_
  /- the tallies -/
  have loop2 : ∀ (q i : Nat) (V' : zE) (al : Int) (o2 : Option zV) (A : zAc), zok o2 = true → i + q = c → al = (orS (V 30) (m - 1)).1 → A = (V' 29 5, V' 29 6, V' 29 7, rgF (tlS (V 2) (ngF c (V 31)) al) c (V 33)) → V' 32 = ngF c (V 31) → V' 33 = rgF (tlS (V 2) (ngF c (V 31)) al) i (V 33) → (∀ j, j ≠ 5 → j ≠ 6 → j ≠ 7 → V' 29 j = V 29 j) → (∀ k, k ≠ 29 → k ≠ 32 → k ≠ 33 → V' k = V k) → Wa zXn mX2_weigh (zrm 3 0 0) (zZm (qPN S Rf (wgP A V)) (n + 0) 0 0) 0 0 n S 116 [some (zR 29), some (zR 1), some (zI al), o2, some (zI (i : Int)), none] [] Rf V' := by
    intro q
    induction q with
    | zero =>
      intro i V' al o2 A hok hi hal hA h32 h33 h29 ho
      obtain rfl : i = c := by omega
      have e1 : V' 1 0 = (i : Int) := by rw [ho 1 (by decide) (by decide) (by decide)]; exact hc
      refine wa_ild4 dX2_weigh_116 ?_
      refine wa_ald1 dX2_weigh_118 ?_
      refine gX2_41 dX2_weigh_119 rfl (by first | assumption | exact hL.1 _ (by decide)) ?_
      refine wa_icmp_ge 186 dX2_weigh_122 (by decide) (by omega) (by omega) (fun c122 => ?_) (fun c122 => ?_)
      · exact wa_return dX2_weigh_186 rfl rfl (Nat.le_refl _) (by exact ⟨rfl, rfl, rfl, by rw [hA, ← h33], h29, ho⟩)
      · exact absurd c122 (by omega)
    | succ q ih =>
      intro i V' al o2 A hok hi hal hA h32 h33 h29 ho
      have e1 : V' 1 0 = (c : Int) := by rw [ho 1 (by decide) (by decide) (by decide)]; exact hc
      have e2 := ho 2 (by decide) (by decide) (by decide)
      have hni := hng i
      have hdi := hdd i
      have hst : ∀ (V1 : zE), V1 33 = tlS (V 2) (ngF c (V 31)) al i (V' 33) → (∀ k, k ≠ 33 → V1 k = V' k) → Wa zXn mX2_weigh (zrm 3 0 0) (zZm (qPN S Rf (wgP A V)) (n + 0) 0 0) 0 0 n S 116 [some (zR 29), some (zR 1), some (zI al), o2, some (zI ((i : Int) + 1)), none] [] Rf V1 := by
        intro V1 g33 go
        rw [show (i : Int) + 1 = ((i + 1 : Nat) : Int) by omega]
        exact ih (i + 1) V1 al o2 A hok (by omega) hal (by rw [hA, go 29 (by decide)]) (by rw [go 32 (by decide)]; exact h32) (by rw [g33, h33]; rfl) (fun j a b d => by rw [go 29 (by decide)]; exact h29 j a b d) (fun k a b d => by rw [go k d]; exact ho k a b d)
      refine wa_ild4 dX2_weigh_116 ?_
      refine wa_ald1 dX2_weigh_118 ?_
      refine gX2_41 dX2_weigh_119 rfl (by first | assumption | exact hL.1 _ (by decide)) ?_
      refine wa_icmp_ge 186 dX2_weigh_122 (by decide) (by first | omega | (simp only [h32, e2, Int.toNat_natCast]; omega)) (by first | omega | (simp only [h32, e2, Int.toNat_natCast]; omega)) (fun c122 => ?_) (fun c122 => ?_)
      · exact absurd c122 (by omega)
      · refine wa_ild4 dX2_weigh_125 ?_
        refine wa_bipush dX2_weigh_127 (by decide) ?_
        refine wa_icmp_ge 186 dX2_weigh_129 (by decide) (by first | omega | (simp only [h32, e2, Int.toNat_natCast]; omega)) (by first | omega | (simp only [h32, e2, Int.toNat_natCast]; omega)) (fun c129 => ?_) (fun c129 => ?_)
        · exact absurd c129 (by omega)
        · refine wa_ald0 dX2_weigh_132 ?_
          refine gX2_18 dX2_weigh_133 rfl (by first | assumption | exact hL.1 _ (by decide)) (by first | assumption | exact hL.2 _ _ (by decide)) ?_
          refine wa_ild4 dX2_weigh_136 ?_
          refine wa_iaload dX2_weigh_138 (by first | assumption | exact hL.1 _ (by decide)) (by first | omega | (simp only [h32, e2, Int.toNat_natCast]; omega)) (by first | decide | omega) ?_
          refine wa_ald1 dX2_weigh_139 ?_
          refine gX2_52 dX2_weigh_140 rfl (by first | assumption | exact hL.1 _ (by decide)) (by first | assumption | exact hL.2 _ _ (by decide)) ?_
          refine wa_ild4 dX2_weigh_143 ?_
          refine wa_iaload dX2_weigh_145 (by first | assumption | exact hL.1 _ (by decide)) (by first | omega | (simp only [h32, e2, Int.toNat_natCast]; omega)) (by first | decide | omega) ?_
          refine wa_isub dX2_weigh_146 ?_
          refine wa_iconst dX2_weigh_147 ?_
          refine wa_iadd dX2_weigh_148 ?_
          simp only [h32, e2, Int.toNat_natCast]
          refine wa_ist5 dX2_weigh_149 (by decide) rfl ?_
          refine wa_ild5 dX2_weigh_151 ?_
          refine wa_if_lt 180 dX2_weigh_153 (by decide) (by first | omega | (simp only [h32, e2, Int.toNat_natCast]; omega)) (fun c153 => ?_) (fun c153 => ?_)
          · refine wa_iinc4 dX2_weigh_180 (by decide) hok ?_
            refine wa_goto 116 dX2_weigh_183 (by decide) ?_
            refine wa_drop5 ?_
            first
            | exact hst _ (by unfold tlS; rw [if_neg (by omega)]) (fun _ _ => rfl)
            | exact hst _ (by unfold tlS; rw [if_pos (by omega), zp_s]) (fun k hk => zp_n _ _ hk)
          · refine wa_ild5 dX2_weigh_156 ?_
            refine wa_bipush dX2_weigh_158 (by decide) ?_
            refine wa_icmp_ge 180 dX2_weigh_160 (by decide) (by first | omega | (simp only [h32, e2, Int.toNat_natCast]; omega)) (by first | omega | (simp only [h32, e2, Int.toNat_natCast]; omega)) (fun c160 => ?_) (fun c160 => ?_)
            · refine wa_iinc4 dX2_weigh_180 (by decide) hok ?_
              refine wa_goto 116 dX2_weigh_183 (by decide) ?_
              refine wa_drop5 ?_
              first
              | exact hst _ (by unfold tlS; rw [if_neg (by omega)]) (fun _ _ => rfl)
              | exact hst _ (by unfold tlS; rw [if_pos (by omega), zp_s]) (fun k hk => zp_n _ _ hk)
            · refine wa_ald0 dX2_weigh_163 ?_
              refine gX2_21 dX2_weigh_164 rfl (by first | assumption | exact hL.1 _ (by decide)) (by first | assumption | exact hL.2 _ _ (by decide)) ?_
              refine wa_ild4 dX2_weigh_167 ?_
              refine wa_bipush dX2_weigh_169 (by decide) ?_
              refine wa_imul dX2_weigh_171 ?_
              refine wa_ild5 dX2_weigh_172 ?_
              refine wa_iadd dX2_weigh_174 ?_
              refine wa_dup2 dX2_weigh_175 rfl rfl ?_
              refine wa_iaload dX2_weigh_176 (by first | assumption | exact hL.1 _ (by decide)) (by first | omega | (simp only [h32, e2, Int.toNat_natCast]; omega)) (by first | decide | omega) ?_
              refine wa_ild2 dX2_weigh_177 ?_
              refine wa_iadd dX2_weigh_178 ?_
              refine wa_iastore dX2_weigh_179 (by first | assumption | exact hL.1 _ (by decide)) (by first | omega | (simp only [h32, e2, Int.toNat_natCast]; omega)) (by first | decide | omega) ?_
              refine wa_iinc4 dX2_weigh_180 (by decide) hok ?_
              refine wa_goto 116 dX2_weigh_183 (by decide) ?_
              refine wa_drop5 ?_
              first
              | exact hst _ (by unfold tlS; rw [if_neg (by omega)]) (fun _ _ => rfl)
              | exact hst _ (by unfold tlS; rw [if_pos (by omega), zp_s]) (fun k hk => zp_n _ _ hk)
  /- the bits -/
  have loop1 : ∀ (q i : Nat) (V' : zE) (al : Int), i + q = m → al = (orS (V 30) (m - 1)).1 → allB (fun i => ngF c (V 31) (V 7 i).toNat == V 8 i) k = true → V' 32 = ngF c (V 31) → (∀ k, k ≠ 32 → V' k = V k) → Wa zXn mX2_weigh (zrm 3 0 0) (zZm (qPN S Rf (wgP (wgS c k m (V 2) (V 7) (V 8) (V 30) (V 31) (acV V)) V)) (n + 0) 0 0) 0 0 n S 48 [some (zR 29), some (zR 1), some (zI al), some (zI (btF (V 30) i)), some (zI (i : Int)), none] [] Rf V' := by
    intro q
    induction q with
    | zero =>
      intro i V' al hi hal hb h32 ho
      obtain rfl : i = m := by omega
      have e29 := ho 29 (by decide)
      have e295 : V' 29 4 = (i : Int) := by rw [e29]; exact hm
      refine wa_ild4 dX2_weigh_48 ?_
      refine wa_ald0 dX2_weigh_50 ?_
      refine gX2_24 dX2_weigh_51 rfl (by first | assumption | exact hL.1 _ (by decide)) ?_
      refine wa_icmp_ge 83 dX2_weigh_54 (by decide) (by omega) (by omega) (fun c54 => ?_) (fun c54 => ?_)
      · refine wa_ald0 dX2_weigh_83 ?_
        refine wa_dup dX2_weigh_84 rfl ?_
        refine gX2_28 dX2_weigh_85 rfl (by first | assumption | exact hL.1 _ (by decide)) ?_
        refine wa_ild2 dX2_weigh_88 ?_
        refine wa_iadd dX2_weigh_89 ?_
        refine pX2_28 dX2_weigh_90 rfl (by first | assumption | exact hL.1 _ (by decide)) ?_
        refine wa_ald0 dX2_weigh_93 ?_
        refine wa_dup dX2_weigh_94 rfl ?_
        refine gX2_31 dX2_weigh_95 rfl (by first | assumption | exact hL.1 _ (by decide)) ?_
        refine wa_ild3 dX2_weigh_98 ?_
        refine wa_ior dX2_weigh_99 ?_
        refine pX2_31 dX2_weigh_100 rfl (by first | assumption | exact hL.1 _ (by decide)) ?_
        refine wa_ald0 dX2_weigh_103 ?_
        refine wa_dup dX2_weigh_104 rfl ?_
        refine gX2_34 dX2_weigh_105 rfl (by first | assumption | exact hL.1 _ (by decide)) ?_
        refine wa_ild3 dX2_weigh_108 ?_
        refine wa_iand dX2_weigh_109 ?_
        refine pX2_34 dX2_weigh_110 rfl (by first | assumption | exact hL.1 _ (by decide)) ?_
        refine wa_iconst dX2_weigh_113 ?_
        refine wa_ist4 dX2_weigh_114 (by decide) rfl ?_
        refine loop2 c 0 _ al _ _ rfl (by omega) hal ?_ ?_ ?_ ?_ ?_
        · rw [wgS, if_pos hb, hal]
          simp only [zp_zp, zp_s, za_s, za_n _ _ (show 5 ≠ 6 by decide), za_n _ _ (show 5 ≠ 7 by decide), za_n _ _ (show 6 ≠ 7 by decide), za_n _ _ (show 6 ≠ 5 by decide), za_n _ _ (show 7 ≠ 6 by decide), za_n _ _ (show 7 ≠ 5 by decide), e29]
        · simp only [zp_n _ _ (show 32 ≠ 29 by decide)]; exact h32
        · simp only [zp_n _ _ (show 33 ≠ 29 by decide)]; exact ho 33 (by decide)
        · intro j a b d
          simp only [zp_s, za_n _ _ a, za_n _ _ b, za_n _ _ d, e29]
        · intro k a b d
          simp only [zp_n _ _ a]; exact ho k b
      · exact absurd c54 (by omega)
    | succ q ih =>
      intro i V' al hi hal hb h32 ho
      have e29 := ho 29 (by decide)
      have e30 := ho 30 (by decide)
      have e295 : V' 29 4 = (m : Int) := by rw [e29]; exact hm
      have hpi := hp i
      have e1 := ih (i + 1) V' al (by omega) hal hb h32 ho
      refine wa_ild4 dX2_weigh_48 ?_
      refine wa_ald0 dX2_weigh_50 ?_
      refine gX2_24 dX2_weigh_51 rfl (by first | assumption | exact hL.1 _ (by decide)) ?_
      refine wa_icmp_ge 83 dX2_weigh_54 (by decide) (by omega) (by omega) (fun c54 => ?_) (fun c54 => ?_)
      · exact absurd c54 (by omega)
      · refine wa_ild4 dX2_weigh_57 ?_
        refine wa_iconst dX2_weigh_59 ?_
        refine wa_icmp_ge 83 dX2_weigh_60 (by decide) (by omega) (by omega) (fun c60 => ?_) (fun c60 => ?_)
        · exact absurd c60 (by omega)
        · refine wa_ild3 dX2_weigh_63 ?_
          refine wa_iconst dX2_weigh_64 ?_
          refine wa_ald0 dX2_weigh_65 ?_
          refine gX2_9 dX2_weigh_66 rfl (by first | assumption | exact hL.1 _ (by decide)) (by first | assumption | exact hL.2 _ _ (by decide)) ?_
          refine wa_ild4 dX2_weigh_69 ?_
          refine wa_iaload dX2_weigh_71 (by first | assumption | exact hL.1 _ (by decide)) (by omega) (by first | decide | omega) ?_
          refine wa_iconst dX2_weigh_72 ?_
          refine wa_ishr dX2_weigh_73 ?_
          simp only [e30, Int.toNat_natCast]
          rw [zshr1 hpi]
          refine wa_ishl1 dX2_weigh_74 (by omega) ?_
          refine wa_ior dX2_weigh_75 ?_
          refine wa_ist3 dX2_weigh_76 (by decide) rfl ?_
          refine wa_iinc4 dX2_weigh_77 (by decide) rfl ?_
          refine wa_goto 48 dX2_weigh_80 (by decide) ?_
          exact e1
  have eV : zp (zp V 32 (V 31)) 32 (ngF c (zp V 32 (V 31) 32)) = zp V 32 (ngF c (V 31)) := by rw [zp_zp, zp_s]
  have hz : ∀ k, k ≠ 32 → zp V 32 (ngF c (V 31)) k = V k := fun k hk => zp_n _ _ hk
  refine wa_ald0 dX2_weigh_0 ?_
  refine gX2_15 dX2_weigh_1 rfl (by first | assumption | exact hL.1 _ (by decide)) (by first | assumption | exact hL.2 _ _ (by decide)) ?_
  refine wa_iconst dX2_weigh_4 ?_
  refine wa_ald0 dX2_weigh_5 ?_
  refine gX2_18 dX2_weigh_6 rfl (by first | assumption | exact hL.1 _ (by decide)) (by first | assumption | exact hL.2 _ _ (by decide)) ?_
  refine wa_iconst dX2_weigh_9 ?_
  refine wa_bipush dX2_weigh_10 (by decide) ?_
  refine wa_copy dX2_weigh_12 lX2_55 w_nat_copy w_st_copy w_iSys ⟨Nat.le_of_ble_eq_true rfl, Nat.le_of_ble_eq_true rfl⟩ (by decide) rfl (by first | assumption | exact hL.1 _ (by decide)) (by first | assumption | exact hL.1 _ (by decide)) ?_
  refine wa_ald0 dX2_weigh_15 ?_
  refine gX2_18 dX2_weigh_16 rfl (by first | assumption | exact hL.1 _ (by decide)) (by first | assumption | exact hL.2 _ _ (by decide)) ?_
  refine wa_ald1 dX2_weigh_19 ?_
  refine gX2_41 dX2_weigh_20 rfl (by first | assumption | exact hL.1 _ (by decide)) ?_
  rw [zp_n _ _ (show 1 ≠ 32 by decide), hc]
  refine kX2_78 dX2_weigh_23 rfl (ct_passNight (hL.1 32 (by decide)) h2 h8 (fun j => by rw [zp_s]; have := hd j; omega)) (by decide) (Nat.le_of_ble_eq_true rfl) ⟨Nat.le_refl _, Nat.le_refl _⟩ (zdN ?_)
  rw [eV]
  refine wa_ald1 dX2_weigh_26 ?_
  refine wa_ald0 dX2_weigh_27 ?_
  refine gX2_18 dX2_weigh_28 rfl (by first | assumption | exact hL.1 _ (by decide)) (by first | assumption | exact hL.2 _ _ (by decide)) ?_
  refine kX2_81 dX2_weigh_31 rfl (by first | assumption | exact hL.1 _ (by decide)) (ct_sightsHold (k := k) hL.s1 (hL.1 32 (by decide)) (by rw [hz 1 (by decide)]; exact hk) hk8 (fun j => by rw [hz _ (by decide)]; exact hsg j) (fun j => by rw [hz _ (by decide)]; exact hsd j) (fun j => by rw [zp_s]; have := hng j; omega)) (by decide) (Nat.le_of_ble_eq_true rfl) ⟨Nat.le_refl _, Nat.le_refl _⟩ (zdI ?_)
  rw [zp_s, hz (1 + 6) (by decide), hz (1 + 7) (by decide)]
  refine wa_ifne_B 38 dX2_weigh_34 (by decide) (fun c34 => ?_) (fun c34 => ?_)
  · refine wa_ald0 dX2_weigh_38 ?_
    refine kX2_85 dX2_weigh_39 rfl (by first | assumption | exact hL.1 _ (by decide)) (ct_orders hL (by rw [hz 29 (by decide)]; exact hm) hm3 (fun j => by rw [hz 30 (by decide)]; have := hp j; omega)) (by decide) (Nat.le_of_ble_eq_true rfl) ⟨Nat.le_refl _, Nat.le_refl _⟩ (zdI ?_)
    rw [hz 30 (by decide)]
    refine wa_ist2 dX2_weigh_42 (by decide) rfl ?_
    refine wa_iconst dX2_weigh_43 ?_
    refine wa_ist3 dX2_weigh_44 (by decide) rfl ?_
    refine wa_iconst dX2_weigh_45 ?_
    refine wa_ist4 dX2_weigh_46 (by decide) rfl ?_
    exact loop1 m 0 _ _ (by omega) rfl c34 (zp_s _ _ _) hz
  · exact wa_return dX2_weigh_37 rfl rfl (Nat.le_refl _) (by refine ⟨rfl, rfl, rfl, ?_, fun j _ _ _ => by rw [hz 29 (by decide)], fun k _ k2 _ => hz k k2⟩; rw [wgS, if_neg c34]; simp only [acV, hz 29 (by decide), hz 33 (by decide)])
