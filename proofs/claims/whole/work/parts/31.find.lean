/-! Places.find -/
def fnP (c : Nat) (ws : List (Int × Int × Int)) (V V' : zE) : Prop :=
  V' 23 2 = (plS c (V 11) (V 12) (V 9 3) ws 0 (V 10, V 13) (V 24) 0 ((ws.length : Int) + 1, V 25)).1 ∧ (∀ j, j < ws.length → V' 25 j = (plS c (V 11) (V 12) (V 9 3) ws 0 (V 10, V 13) (V 24) 0 ((ws.length : Int) + 1, V 25)).2 j) ∧ V' 10 = V 10 ∧ V' 13 = V 13 ∧ ∀ k, k ≠ 23 → k ≠ 24 → k ≠ 25 → k ≠ 10 → k ≠ 13 → k ≠ 14 → V' k = V k
theorem ct_find {n : Nat} {S : zH} {Rf : zG} {V : zE} {c : Nat} {ws : List (Int × Int × Int)} (hL : Lay S Rf) (h2 : 2 ≤ c) (h8 : c ≤ 8) (hm : ws.length ≤ 4) (hh : hasW V ws) (hok : okW c ws) (hk : ∀ x ∈ ws, x.1 ≤ 1) (hm2 : V 18 2 = (ws.length : Int)) (hc : V 9 0 = (c : Int)) (hd : ∀ j, 0 ≤ V 10 j ∧ V 10 j ≤ 999) (hf : ∀ j, 0 ≤ V 11 j ∧ V 11 j ≤ 999) (hu : ∀ j, 0 ≤ V 12 j ∧ V 12 j ≤ 9) (hs : ∀ j, -2147483648 ≤ V 13 j ∧ V 13 j ≤ 2147483647) :
    Cpv 12 mX1_find [zR 23, zR 9, zR 18] n S Rf V (fnP c ws V) := by
  refine ct_of (by decide) rfl (Nat.le_of_ble_eq_true rfl) ?_
  have hz : ∀ k, k ≠ 23 → zp V 23 (za (V 23) 2 ((ws.length : Int) + 1)) k = V k := fun k hk => zp_n _ _ hk
  refine wa_ald1 dX1_find_0 ?_
  refine wa_ifnull_r dX1_find_1 ?_
  refine wa_ald2 dX1_find_4 ?_
  refine wa_ifnull_r dX1_find_5 ?_
  refine wa_ald2 dX1_find_8 ?_
  refine gX1_22 dX1_find_9 rfl (by first | assumption | exact hL.1 _ (by decide)) ?_
  refine wa_iconst dX1_find_12 ?_
  refine wa_icmp_le 17 dX1_find_13 (by decide) (by omega) (by omega) (fun c13 => ?_) (fun c13 => ?_)
  · refine wa_ald0 dX1_find_17 ?_
    refine wa_ald2 dX1_find_18 ?_
    refine gX1_22 dX1_find_19 rfl (by first | assumption | exact hL.1 _ (by decide)) ?_
    refine wa_iconst dX1_find_22 ?_
    refine wa_iadd dX1_find_23 ?_
    refine pX1_18 dX1_find_24 rfl (by first | assumption | exact hL.1 _ (by decide)) ?_
    rw [hm2]
    refine wa_ald0 dX1_find_27 ?_
    refine wa_ald1 dX1_find_28 ?_
    refine wa_ald2 dX1_find_29 ?_
    refine wa_iconst dX1_find_30 ?_
    refine wa_iconst dX1_find_31 ?_
    refine kX1_27 dX1_find_32 rfl (ct_placeFrom (c := c) (m := ws.length) hL h2 h8 hm ws 0 _ (V 24) 0 ((ws.length : Int) + 1, V 25) (by omega) (fun j x hx => by rw [hz 20 (by decide), hz 22 (by decide), Nat.zero_add]; exact ⟨(hh j x hx).1, (hh j x hx).2.2, ⟨(hok x (List.mem_of_getElem? hx)).1.1, hk x (List.mem_of_getElem? hx)⟩, (hok x (List.mem_of_getElem? hx)).2.2⟩) (by rw [hz 18 (by decide)]; exact hm2) (by rw [hz 9 (by decide)]; exact hc) (fun j => by rw [hz 10 (by decide)]; exact hd j) (fun j => by rw [hz 11 (by decide)]; exact hf j) (fun j => by rw [hz 12 (by decide)]; exact hu j) (fun j => by rw [hz 13 (by decide)]; exact hs j) (by decide) (by dsimp only; omega) (fun j hj => absurd hj (by omega)) (by rw [zp_s, za_s]) (fun j _ => by rw [hz 25 (by decide)])) (by dsimp only [zrm]; omega) (Nat.le_of_ble_eq_true rfl) ⟨Nat.le_refl _, Nat.le_refl _⟩ (zpN fun V2 hp2 => ?_)
    rw [hz 11 (by decide), hz 12 (by decide), hz 9 (by decide), hz 10 (by decide), hz 13 (by decide)] at hp2
    obtain ⟨p1, p2, p3, p4, p5, p6⟩ := hp2
    exact wa_return dX1_find_35 rfl rfl (Nat.le_refl _) (by exact ⟨rfl, rfl, rfl, p1, p2, by rw [p3, hz 10 (by decide)], by rw [p4, hz 13 (by decide)], fun k k1 k2 k3 k4 k5 k6 => by rw [p6 k k1 k2 k3 k4 k5 k6, hz k k1]⟩)
  · exact absurd c13 (by omega)
