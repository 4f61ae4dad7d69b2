set_option maxHeartbeats 4000000 in
set_option maxRecDepth 100000 in
theorem g_X6_sumOf_0 (l : Launch) (D : va_G) (cy : Nat → ClassId) (q : Nat → Nat) (hq : bJ 23 q) (z0 : zS) (hI : IvM z0) (p0 : Int32) (p1 : Int32) (hp1 : iv 0 2 p1) : bCi l yX6_sumOf wsX6_sumOf ({ frames := 1, cells := 0, slots := 0, locals := 21 }) D cy 23 (enM cy) q z0 [.ref (q 0), .int p0, .int p1] (fun v z => jJ IvM 0 0 0 z0 z ∧ iv 0 1000 v ∧ (v = sumF (z0.2.1 1) p0 p1.toNatClampNeg (z0.1 0).toNatClampNeg)) := by
  refine hM_i cX6_sumOf (by decide) rfl (own := RX6) rfl hq (Nat.le_of_ble_eq_true rfl) ?_
  intro p e s m args below meth c Q ls H locs hx hb hml hown hts hK hZ hH hl hret
  have hl : lv_has ls 5 [(0, .ref (q 0)), (1, .int p0), (2, .int p1)] := hl
  have hJ : jJ IvM 0 0 0 z0 z0 := jJ_rf _ _ _ hI
  have e00 : (0 : Int32).toInt = 0 := (by decide); have e01 : (1 : Int32).toInt = 1 := (by decide); have e02 : (2 : Int32).toInt = 2 := (by decide); have e03 : (3 : Int32).toInt = 3 := (by decide); have e010 : (10 : Int32).toInt = 10 := (by decide)
  have N1 := (IvM_s0 hI).1; have N2 := (IvM_s0 hI).2; have := hp1.1; have := hp1.2
  have HL5 : ∀ (n : Nat) (x3_5 : Int32) (x4_5 : Int32) (H : Heap) (locs : List Loc) (ls : Array Slot), iv 0 11263 x3_5 → iv 0 10 x4_5 → (0 ≤ (x3_5 : Int32).toInt ∧ (x3_5 : Int32).toInt ≤ 100 * (x4_5 : Int32).toInt ∧ x3_5 = sumF (z0.2.1 1) p0 p1.toNatClampNeg (x4_5 : Int32).toNatClampNeg ∧ (x4_5 : Int32).toInt ≤ (z0.1 0).toInt) → bH D 23 (enM cy) q z0 s.heap H locs → lv_has ls 5 [(0, .ref (q 0)), (1, .int p0), (2, .int p1), (3, .int x3_5), (4, .int x4_5)] → (10 - x4_5.toInt).toNat = n → W p l e ({ frames := 1, cells := 0, slots := 0, locals := 21 }) s m args below meth c H locs 0 0 Q (F0 m 5 ls []) := by
    intro n5
    induction n5 using Nat.strongRecOn with
    | ind n5 ih5 =>
      intro x3_5 x4_5 H locs ls h3_5 h4_5 ex_5 hH hl hn5
      have := h3_5.1; have := h3_5.2; have := h4_5.1; have := h4_5.2
      have b142 : iv 0 1000 x3_5 := ⟨ex_5.1, by have := ex_5.2.1; have := h4_5.2; omega⟩
      have := b142.1; have := b142.2
      refine lv_iload hx hb dX6_sumOf_5 (lv_at hl 4 rfl) ?_
      refine lv_aload_n hx hb dX6_sumOf_7 rfl (lv_at hl 0 rfl) ?_
      refine b_get (ci := 6) (C := RX6) (T := TX6) (Nf := 29) (v := .int (z0.1 0)) hx hb hts in_X6_sumOf_X6 hown hK hH 0 (by decide) rfl rfl 0 (by decide) (hts (.fieldLink RX6 85 "StationLineModel" "tasks" "I") (List.mem_of_getElem? (i := 1) rfl)) rfl dX6_sumOf_8 ?_
      have i143 := IvM_s0 hJ.1
      have := i143.1; have := i143.2
      refine lv_icmp_ge (tgt := 47) hx hb dX6_sumOf_11 (by decide) (fun c144 => ?_) (fun c144 => ?_)
      · skip
        have r144 := (iv_Le c144)
        refine lv_iload_n hx hb dX6_sumOf_47 rfl (lv_at hl 3 rfl) ?_
        exact hret _ z0 H locs _ _ ⟨hJ, b142, (by rw [show (z0.1 0).toNatClampNeg = (x4_5 : Int32).toNatClampNeg from (by have := ex_5.2.2.2; have := iv_nat (IvM_s0 hI) (by decide); have := iv_nat h4_5 (by decide); omega)]; exact ex_5.2.2.1)⟩ hH dX6_sumOf_48
      · skip
        have r144 := (iv_nLe c144)
        have k146a : iv 0 9 x4_5 := iv_ltl (iv_nLe c144) h4_5 i143 (by decide)
        have k146b : iv 1 10 (z0.1 0) := iv_ltr (iv_nLe c144) h4_5 i143 (by decide)
        refine lv_iload_n hx hb dX6_sumOf_14 rfl (lv_at hl 3 rfl) ?_
        refine lv_iload_n hx hb dX6_sumOf_15 rfl (lv_at hl 1 rfl) ?_
        refine lv_iload hx hb dX6_sumOf_16 (lv_at hl 4 rfl) ?_
        refine b_stati (As := [.int p0, .int x4_5]) (rest := [.int x3_5]) ⟨hx, hb, hml, hown, hts⟩ (g_X6_in l D cy q hH.2.1 z0 hJ.1 p0 x4_5) (va_cwS 2 hts gX6_sumOf_X6_in rfl rfl rfl (by decide +kernel) ⟨Nat.le_of_ble_eq_true rfl, Nat.le_of_ble_eq_true rfl⟩) hK hZ hH rfl hl.1 rfl (Nat.le_of_ble_eq_true rfl) ⟨Nat.zero_le _, Nat.zero_le _⟩ dX6_sumOf_18 (fun w147 z147 H locs hp hH => ?_)
        rw [Ag_0 hp.1.2] at hH
        have i147 := hp.2.1
        have := i147.1; have := i147.2
        have f147_0 := hp.2.2
        refine lv_if_eq (tgt := 38) hx hb dX6_sumOf_21 (by decide) (fun c148 => ?_) (fun c148 => ?_)
        · skip
          have r148 := (iv_Eq c148)
          have k149a : iv 0 0 w147 := iv_eql (iv_Eq c148) i147 (iv_lit (n := 0) 0 (by decide)) (by decide) (by decide)
          refine lv_iconst (v := 0) hx hb dX6_sumOf_38 (by decide) ?_
          refine lv_iadd hx hb dX6_sumOf_39 ?_
          have i150 : iv 0 1000 (x3_5 + 0) := (iv_add b142 (iv_lit (n := 0) 0 (by decide)) (by decide) (by decide) (by decide) (by decide))
          have e150 : (x3_5 + 0).toInt = x3_5.toInt + 0 := ((iv_addE b142 (iv_lit (n := 0) 0 (by decide)) (by decide) (by decide)).trans rfl)
          have := i150.1; have := i150.2
          refine lv_istore_n (lv' := [(3, .int (x3_5 + 0)), (0, .ref (q 0)), (1, .int p0), (2, .int p1), (4, .int x4_5)]) hx hb dX6_sumOf_40 rfl hl (by decide) rfl (fun ls hl => ?_)
          have j151 : iv 1 10 (x4_5 + 1) := iv_add k146a (iv_lit (n := 1) 1 (by decide)) (by decide) (by decide) (by decide) (by decide)
          have e151 : (x4_5 + 1).toInt = x4_5.toInt + 1 := (iv_addE k146a (iv_lit (n := 1) 1 (by decide)) (by decide) (by decide)).trans rfl
          refine lv_iinc (v := (x4_5 + 1)) (lv' := [(4, .int (x4_5 + 1)), (3, .int (x3_5 + 0)), (0, .ref (q 0)), (1, .int p0), (2, .int p1)]) hx hb dX6_sumOf_41 hl (k := 4) rfl rfl (by decide) rfl (fun ls hl => ?_)
          refine lv_goto (tgt := 5) hx hb dX6_sumOf_44 (by decide) ?_
          exact ih5 _ (ms_up e151 j151.2 hn5) (x3_5 + 0) (x4_5 + 1)  H locs ls (iv_w i150 (by decide) (by decide)) (iv_w j151 (by decide) (by decide)) ⟨by omega, by omega, sum_n ex_5.2.2.1 k146a (by have := iv_nat k146a (by decide); have := iv_nat j151 (by decide); omega) f147_0 c148, by omega⟩  hH (lv_sub hl [2, 3, 4, 1, 0] rfl) rfl
        · skip
          have r148 := (iv_nEq c148)
          have k152a : iv 1 1 w147 := iv_neLo (iv_nEq c148) i147 (by decide) (by decide)
          refine lv_aload_n hx hb dX6_sumOf_24 rfl (lv_at hl 0 rfl) ?_
          refine b_get (ci := 6) (C := RX6) (T := TX6) (Nf := 29) (v := .ref (q 1)) hx hb hts in_X6_sumOf_X6 hown hK hH 0 (by decide) rfl rfl 1 (by decide) (hts (.fieldLink RX6 7 "StationLineModel" "times" "[I") (List.mem_of_getElem? (i := 2) rfl)) rfl dX6_sumOf_25 ?_
          refine lv_iconst (v := 3) hx hb dX6_sumOf_28 (by decide) ?_
          refine lv_iload hx hb dX6_sumOf_29 (lv_at hl 4 rfl) ?_
          refine lv_imul hx hb dX6_sumOf_31 ?_
          have i153 : iv 0 27 ((3 : Int32) * x4_5) := (iv_mul (iv_lit (n := 3) 3 (by decide)) k146a (by decide) (by decide) (by decide) (by decide) (by decide))
          have e153 : ((3 : Int32) * x4_5).toInt = 3 * x4_5.toInt := ((iv_mulE (iv_lit (n := 3) 3 (by decide)) k146a (by decide) (by decide) (by decide)).trans rfl)
          have := i153.1; have := i153.2
          refine lv_iload_n hx hb dX6_sumOf_32 rfl (lv_at hl 2 rfl) ?_
          refine lv_iadd hx hb dX6_sumOf_33 ?_
          have i154 : iv 0 29 (((3 : Int32) * x4_5) + p1) := (iv_add i153 hp1 (by decide) (by decide) (by decide) (by decide))
          have e154 := (iv_addE i153 hp1 (by decide) (by decide))
          have := i154.1; have := i154.2
          refine b_iald (v := z0.2.1 1 (((3 : Int32) * x4_5) + p1 : Int32).toNatClampNeg) hx hb hK hH 1 (by decide) rfl (iv_in i154 (by decide) (by decide)) rfl dX6_sumOf_34 ?_
          have i155 : iv 0 100 (z0.2.1 1 (((3 : Int32) * x4_5) + p1 : Int32).toNatClampNeg) := IvM_a1 hJ.1 _ (b_inlt (iv_in i154 (by decide) (by decide)))
          have := i155.1; have := i155.2
          refine lv_goto (tgt := 39) hx hb dX6_sumOf_35 (by decide) ?_
          refine lv_iadd hx hb dX6_sumOf_39 ?_
          have i156 : iv 0 1100 (x3_5 + (z0.2.1 1 (((3 : Int32) * x4_5) + p1 : Int32).toNatClampNeg)) := (iv_add b142 i155 (by decide) (by decide) (by decide) (by decide))
          have e156 := (iv_addE b142 i155 (by decide) (by decide))
          have := i156.1; have := i156.2
          refine lv_istore_n (lv' := [(3, .int (x3_5 + (z0.2.1 1 (((3 : Int32) * x4_5) + p1 : Int32).toNatClampNeg))), (0, .ref (q 0)), (1, .int p0), (2, .int p1), (4, .int x4_5)]) hx hb dX6_sumOf_40 rfl hl (by decide) rfl (fun ls hl => ?_)
          have j157 : iv 1 10 (x4_5 + 1) := iv_add k146a (iv_lit (n := 1) 1 (by decide)) (by decide) (by decide) (by decide) (by decide)
          have e157 : (x4_5 + 1).toInt = x4_5.toInt + 1 := (iv_addE k146a (iv_lit (n := 1) 1 (by decide)) (by decide) (by decide)).trans rfl
          refine lv_iinc (v := (x4_5 + 1)) (lv' := [(4, .int (x4_5 + 1)), (3, .int (x3_5 + (z0.2.1 1 (((3 : Int32) * x4_5) + p1 : Int32).toNatClampNeg))), (0, .ref (q 0)), (1, .int p0), (2, .int p1)]) hx hb dX6_sumOf_41 hl (k := 4) rfl rfl (by decide) rfl (fun ls hl => ?_)
          refine lv_goto (tgt := 5) hx hb dX6_sumOf_44 (by decide) ?_
          exact ih5 _ (ms_up e157 j157.2 hn5) (x3_5 + (z0.2.1 1 (((3 : Int32) * x4_5) + p1 : Int32).toNatClampNeg)) (x4_5 + 1)  H locs ls (iv_w i156 (by decide) (by decide)) (iv_w j157 (by decide) (by decide)) ⟨by omega, by omega, sum_s ex_5.2.2.1 k146a (by have := iv_nat k146a (by decide); have := iv_nat j157 (by decide); omega) f147_0 c148 (by have e9 : (((((3 : Int32) * x4_5) + p1 : Int32).toNatClampNeg : Nat) : Int) = (((3 : Int32) * x4_5) + p1 : Int32).toInt := iv_nat (a := 0) (b := 29) ⟨by omega, by omega⟩ (by decide); have := iv_nat k146a (by decide); have := iv_nat hp1 (by decide); omega), by omega⟩  hH (lv_sub hl [2, 3, 4, 1, 0] rfl) rfl
  refine lv_iconst (v := 0) hx hb dX6_sumOf_0 (by decide) ?_
  refine lv_istore_n (lv' := [(3, .int 0), (0, .ref (q 0)), (1, .int p0), (2, .int p1)]) hx hb dX6_sumOf_1 rfl hl (by decide) rfl (fun ls hl => ?_)
  refine lv_iconst (v := 0) hx hb dX6_sumOf_2 (by decide) ?_
  refine lv_istore (lv' := [(4, .int 0), (3, .int 0), (0, .ref (q 0)), (1, .int p0), (2, .int p1)]) hx hb dX6_sumOf_3 hl (by decide) rfl (fun ls hl => ?_)
  exact HL5 _ 0 0  H locs ls (iv_w (iv_lit (n := 0) 0 (by decide)) (by decide) (by decide)) (iv_w (iv_lit (n := 0) 0 (by decide)) (by decide) (by decide)) ⟨by omega, by omega, rfl, by omega⟩  hH (lv_sub hl [2, 3, 4, 1, 0] rfl) rfl
set_option maxHeartbeats 4000000 in
set_option maxRecDepth 100000 in
theorem g_X6_loadOf_0 (l : Launch) (D : va_G) (cy : Nat → ClassId) (q : Nat → Nat) (hq : bJ 23 q) (z0 : zS) (hI : IvM z0) (p0 : Int32) : bCi l yX6_loadOf wsX6_loadOf ({ frames := 2, cells := 0, slots := 0, locals := 45 }) D cy 23 (enM cy) q z0 [.ref (q 0), .int p0] (fun v z => jJ IvM 0 0 0 z0 z ∧ iv 0 27000 v ∧ (v = loadF z0 p0)) := by
  refine hM_i cX6_loadOf (by decide) rfl (own := RX6) rfl hq (Nat.le_of_ble_eq_true rfl) ?_
  intro p e s m args below meth c Q ls H locs hx hb hml hown hts hK hZ hH hl hret
  have hl : lv_has ls 5 [(0, .ref (q 0)), (1, .int p0)] := hl
  have hJ : jJ IvM 0 0 0 z0 z0 := jJ_rf _ _ _ hI
  have e00 : (0 : Int32).toInt = 0 := (by decide); have e01 : (1 : Int32).toInt = 1 := (by decide); have e02 : (2 : Int32).toInt = 2 := (by decide); have e03 : (3 : Int32).toInt = 3 := (by decide); have e010 : (10 : Int32).toInt = 10 := (by decide)
  have HL19 : ∀ (n : Nat) (x2_19 : Int32) (x3_19 : Int32) (H : Heap) (locs : List Loc) (ls : Array Slot), iv 0 1000000 x2_19 → iv 0 3 x3_19 → iv 2 2147483647 (z0.1 1) → (0 ≤ (x2_19 : Int32).toInt ∧ (x2_19 : Int32).toInt ≤ 9000 * (x3_19 : Int32).toInt ∧ (x2_19 = ldF (z0.2.1 1) (z0.2.1 2) (z0.1 1) (z0.1 0).toNatClampNeg p0 (x3_19 : Int32).toNatClampNeg ∧ ¬ z0.1 1 < 2)) → bH D 23 (enM cy) q z0 s.heap H locs → lv_has ls 5 [(0, .ref (q 0)), (1, .int p0), (2, .int x2_19), (3, .int x3_19)] → (3 - x3_19.toInt).toNat = n → W p l e ({ frames := 2, cells := 0, slots := 0, locals := 45 }) s m args below meth c H locs 0 0 Q (F0 m 19 ls []) := by
    intro n19
    induction n19 using Nat.strongRecOn with
    | ind n19 ih19 =>
      intro x2_19 x3_19 H locs ls h2_19 h3_19 gh1_19 ex_19 hH hl hn19
      have := h2_19.1; have := h2_19.2; have := h3_19.1; have := h3_19.2; have := gh1_19.1; have := gh1_19.2
      have b133 : iv 0 27000 x2_19 := ⟨ex_19.1, by have := ex_19.2.1; have := h3_19.2; omega⟩
      have := b133.1; have := b133.2
      refine lv_iload_n hx hb dX6_loadOf_19 rfl (lv_at hl 3 rfl) ?_
      refine lv_iconst (v := 3) hx hb dX6_loadOf_20 (by decide) ?_
      refine lv_icmp_ge (tgt := 83) hx hb dX6_loadOf_21 (by decide) (fun c134 => ?_) (fun c134 => ?_)
      · skip
        have r134 := (iv_Le c134)
        have k135b : iv 3 3 x3_19 := iv_ler (iv_Le c134) (iv_lit (n := 3) 3 (by decide)) h3_19
        refine lv_iload_n hx hb dX6_loadOf_83 rfl (lv_at hl 2 rfl) ?_
        exact hret _ z0 H locs _ _ ⟨hJ, b133, (by unfold loadF; rw [if_neg ex_19.2.2.2, show (3 : Nat) = (x3_19 : Int32).toNatClampNeg from (by have := iv_nat k135b (by decide); omega)]; exact ex_19.2.2.1)⟩ hH dX6_loadOf_84
      · skip
        have r134 := (iv_nLe c134)
        have k136a : iv 0 2 x3_19 := iv_ltl (iv_nLe c134) h3_19 (iv_lit (n := 3) 3 (by decide)) (by decide)
        refine lv_aload_n hx hb dX6_loadOf_24 rfl (lv_at hl 0 rfl) ?_
        refine lv_iload_n hx hb dX6_loadOf_25 rfl (lv_at hl 1 rfl) ?_
        refine lv_iload_n hx hb dX6_loadOf_26 rfl (lv_at hl 3 rfl) ?_
        refine b_calli (As := [.int p0, .int x3_19]) (rest := []) ⟨hx, hb, hml, hown, hts⟩ 0 6 (g_X6_sumOf_0 l D cy q hH.2.1 z0 hJ.1 p0 x3_19 k136a) (cwV 2 hts gX6_loadOf_X6_sumOf rfl rfl rfl (by decide +kernel) ⟨Nat.le_of_ble_eq_true rfl, Nat.le_of_ble_eq_true rfl⟩) hK hZ hH (by decide) rfl rfl rfl hl.1 rfl (Nat.le_of_ble_eq_true rfl) ⟨Nat.zero_le _, Nat.zero_le _⟩ dX6_loadOf_27 (fun w137 z137 H locs hp hH => ?_)
        rw [Ag_0 hp.1.2] at hH
        have i137 := hp.2.1
        have := i137.1; have := i137.2
        have f137_0 := hp.2.2
        refine lv_istore (lv' := [(4, .int w137), (0, .ref (q 0)), (1, .int p0), (2, .int x2_19), (3, .int x3_19)]) hx hb dX6_loadOf_30 hl (by decide) rfl (fun ls hl => ?_)
        refine lv_aload_n hx hb dX6_loadOf_32 rfl (lv_at hl 1 rfl) ?_
        refine b_get (ci := 6) (C := RX6) (T := TX6) (Nf := 29) (v := .int (z0.1 1)) hx hb hts in_X6_loadOf_X6 hown hK hH 0 (by decide) rfl rfl 7 (by decide) (hts (.fieldLink RX6 113 "StationLineModel" "kind" "I") (List.mem_of_getElem? (i := 1) rfl)) rfl dX6_loadOf_33 ?_
        have := gh1_19.1; have := gh1_19.2
        refine lv_iconst (v := 2) hx hb dX6_loadOf_36 (by decide) ?_
        refine lv_icmp_ne (tgt := 55) hx hb dX6_loadOf_37 (by decide) (fun c138 => ?_) (fun c138 => ?_)
        · skip
          have r138 := (iv_nEq c138)
          have k139a : iv 3 2147483647 (z0.1 1) := iv_neLo (iv_nEq c138) gh1_19 (by decide) (by decide)
          refine lv_aload_n hx hb dX6_loadOf_55 rfl (lv_at hl 1 rfl) ?_
          refine b_get (ci := 6) (C := RX6) (T := TX6) (Nf := 29) (v := .ref (q 2)) hx hb hts in_X6_loadOf_X6 hown hK hH 0 (by decide) rfl rfl 2 (by decide) (hts (.fieldLink RX6 13 "StationLineModel" "shares" "[I") (List.mem_of_getElem? (i := 2) rfl)) rfl dX6_loadOf_56 ?_
          refine lv_iload_n hx hb dX6_loadOf_59 rfl (lv_at hl 4 rfl) ?_
          refine b_iald (v := z0.2.1 2 (x3_19 : Int32).toNatClampNeg) hx hb hK hH 2 (by decide) rfl (iv_in k136a (by decide) (by decide)) rfl dX6_loadOf_60 ?_
          have i140 : iv 0 9 (z0.2.1 2 (x3_19 : Int32).toNatClampNeg) := IvM_a2 hJ.1 _ (b_inlt (iv_in k136a (by decide) (by decide)))
          have := i140.1; have := i140.2
          refine lv_if_le (tgt := 75) hx hb dX6_loadOf_61 (by decide) (fun c141 => ?_) (fun c141 => ?_)
          · skip
            have r141 := (iv_Le c141)
            have k142a : iv 0 0 (z0.2.1 2 (x3_19 : Int32).toNatClampNeg) := iv_lel (iv_Le c141) i140 (iv_lit (n := 0) 0 (by decide))
            refine lv_iload_n hx hb dX6_loadOf_75 rfl (lv_at hl 3 rfl) ?_
            refine lv_istore_n (lv' := [(2, .int x2_19), (4, .int w137), (0, .ref (q 0)), (1, .int p0), (3, .int x3_19)]) hx hb dX6_loadOf_76 rfl hl (by decide) rfl (fun ls hl => ?_)
            have j143 : iv 1 3 (x3_19 + 1) := iv_add k136a (iv_lit (n := 1) 1 (by decide)) (by decide) (by decide) (by decide) (by decide)
            have e143 : (x3_19 + 1).toInt = x3_19.toInt + 1 := (iv_addE k136a (iv_lit (n := 1) 1 (by decide)) (by decide) (by decide)).trans rfl
            refine lv_iinc (v := (x3_19 + 1)) (lv' := [(3, .int (x3_19 + 1)), (2, .int x2_19), (4, .int w137), (0, .ref (q 0)), (1, .int p0)]) hx hb dX6_loadOf_77 hl (k := 4) rfl rfl (by decide) rfl (fun ls hl => ?_)
            refine lv_goto (tgt := 19) hx hb dX6_loadOf_80 (by decide) ?_
            exact ih19 _ (ms_up e143 j143.2 hn19) x2_19 (x3_19 + 1)  H locs ls (iv_w b133 (by decide) (by decide)) (iv_w j143 (by decide) (by decide)) (iv_w k139a (by decide) (by decide)) ⟨by omega, by omega, ⟨ld_x ex_19.2.2.1 (by have := iv_nat k136a (by decide); have := iv_nat j143 (by decide); omega) f137_0 c138 (fun q => absurd q.1 (by rw [b_lt]; have e8 : (0 : Int32).toInt = 0 := (by decide); omega)), ex_19.2.2.2⟩⟩  hH (lv_sub hl [3, 4, 1, 0] rfl) rfl
          · skip
            have r141 := (iv_nLe c141)
            have k144b : iv 1 9 (z0.2.1 2 (x3_19 : Int32).toNatClampNeg) := iv_ltr (iv_nLe c141) (iv_lit (n := 0) 0 (by decide)) i140 (by decide)
            refine lv_iload hx hb dX6_loadOf_64 (lv_at hl 0 rfl) ?_
            refine lv_iload_n hx hb dX6_loadOf_66 rfl (lv_at hl 3 rfl) ?_
            refine lv_icmp_le (tgt := 75) hx hb dX6_loadOf_67 (by decide) (fun c145 => ?_) (fun c145 => ?_)
            · skip
              have r145 := (iv_Le c145)
              refine lv_iload_n hx hb dX6_loadOf_75 rfl (lv_at hl 3 rfl) ?_
              refine lv_istore_n (lv' := [(2, .int x2_19), (4, .int w137), (0, .ref (q 0)), (1, .int p0), (3, .int x3_19)]) hx hb dX6_loadOf_76 rfl hl (by decide) rfl (fun ls hl => ?_)
              have j147 : iv 1 3 (x3_19 + 1) := iv_add k136a (iv_lit (n := 1) 1 (by decide)) (by decide) (by decide) (by decide) (by decide)
              have e147 : (x3_19 + 1).toInt = x3_19.toInt + 1 := (iv_addE k136a (iv_lit (n := 1) 1 (by decide)) (by decide) (by decide)).trans rfl
              refine lv_iinc (v := (x3_19 + 1)) (lv' := [(3, .int (x3_19 + 1)), (2, .int x2_19), (4, .int w137), (0, .ref (q 0)), (1, .int p0)]) hx hb dX6_loadOf_77 hl (k := 4) rfl rfl (by decide) rfl (fun ls hl => ?_)
              refine lv_goto (tgt := 19) hx hb dX6_loadOf_80 (by decide) ?_
              exact ih19 _ (ms_up e147 j147.2 hn19) x2_19 (x3_19 + 1)  H locs ls (iv_w b133 (by decide) (by decide)) (iv_w j147 (by decide) (by decide)) (iv_w k139a (by decide) (by decide)) ⟨by omega, by omega, ⟨ld_x ex_19.2.2.1 (by have := iv_nat k136a (by decide); have := iv_nat j147 (by decide); omega) f137_0 c138 (fun q => absurd q.2 (by rw [b_lt]; have e8 : (0 : Int32).toInt = 0 := (by decide); omega)), ex_19.2.2.2⟩⟩  hH (lv_sub hl [3, 4, 1, 0] rfl) rfl
            · skip
              have r145 := (iv_nLe c145)
              have k148a : iv 0 999 x2_19 := iv_ltl (iv_nLe c145) b133 i137 (by decide)
              have k148b : iv 1 1000 w137 := iv_ltr (iv_nLe c145) b133 i137 (by decide)
              refine lv_iload hx hb dX6_loadOf_70 (lv_at hl 0 rfl) ?_
              refine lv_goto (tgt := 76) hx hb dX6_loadOf_72 (by decide) ?_
              refine lv_istore_n (lv' := [(2, .int w137), (4, .int w137), (0, .ref (q 0)), (1, .int p0), (3, .int x3_19)]) hx hb dX6_loadOf_76 rfl hl (by decide) rfl (fun ls hl => ?_)
              have j149 : iv 1 3 (x3_19 + 1) := iv_add k136a (iv_lit (n := 1) 1 (by decide)) (by decide) (by decide) (by decide) (by decide)
              have e149 : (x3_19 + 1).toInt = x3_19.toInt + 1 := (iv_addE k136a (iv_lit (n := 1) 1 (by decide)) (by decide) (by decide)).trans rfl
              refine lv_iinc (v := (x3_19 + 1)) (lv' := [(3, .int (x3_19 + 1)), (2, .int w137), (4, .int w137), (0, .ref (q 0)), (1, .int p0)]) hx hb dX6_loadOf_77 hl (k := 4) rfl rfl (by decide) rfl (fun ls hl => ?_)
              refine lv_goto (tgt := 19) hx hb dX6_loadOf_80 (by decide) ?_
              exact ih19 _ (ms_up e149 j149.2 hn19) w137 (x3_19 + 1)  H locs ls (iv_w k148b (by decide) (by decide)) (iv_w j149 (by decide) (by decide)) (iv_w k139a (by decide) (by decide)) ⟨by omega, by omega, ⟨ld_y ex_19.2.2.1 (by have := iv_nat k136a (by decide); have := iv_nat j149 (by decide); omega) f137_0 c138 (by rw [b_lt]; have e8 : (0 : Int32).toInt = 0 := (by decide); omega) (by rw [b_lt]; have e8 : (0 : Int32).toInt = 0 := (by decide); omega), ex_19.2.2.2⟩⟩  hH (lv_sub hl [3, 4, 1, 0] rfl) rfl
        · skip
          have r138 := (iv_Eq c138)
          have k150a : iv 2 2 (z0.1 1) := iv_eql (iv_Eq c138) gh1_19 (iv_lit (n := 2) 2 (by decide)) (by decide) (by decide)
          refine lv_iload_n hx hb dX6_loadOf_40 rfl (lv_at hl 3 rfl) ?_
          refine lv_aload_n hx hb dX6_loadOf_41 rfl (lv_at hl 1 rfl) ?_
          refine b_get (ci := 6) (C := RX6) (T := TX6) (Nf := 29) (v := .ref (q 2)) hx hb hts in_X6_loadOf_X6 hown hK hH 0 (by decide) rfl rfl 2 (by decide) (hts (.fieldLink RX6 13 "StationLineModel" "shares" "[I") (List.mem_of_getElem? (i := 2) rfl)) rfl dX6_loadOf_42 ?_
          refine lv_iload_n hx hb dX6_loadOf_45 rfl (lv_at hl 4 rfl) ?_
          refine b_iald (v := z0.2.1 2 (x3_19 : Int32).toNatClampNeg) hx hb hK hH 2 (by decide) rfl (iv_in k136a (by decide) (by decide)) rfl dX6_loadOf_46 ?_
          have i151 : iv 0 9 (z0.2.1 2 (x3_19 : Int32).toNatClampNeg) := IvM_a2 hJ.1 _ (b_inlt (iv_in k136a (by decide) (by decide)))
          have := i151.1; have := i151.2
          refine lv_iload hx hb dX6_loadOf_47 (lv_at hl 0 rfl) ?_
          refine lv_imul hx hb dX6_loadOf_49 ?_
          have i152 : iv 0 9000 ((z0.2.1 2 (x3_19 : Int32).toNatClampNeg) * w137) := (iv_mul i151 i137 (by decide) (by decide) (by decide) (by decide) (by decide))
          have := i152.1; have := i152.2
          refine lv_iadd hx hb dX6_loadOf_50 ?_
          have i153 : iv 0 36000 (x2_19 + ((z0.2.1 2 (x3_19 : Int32).toNatClampNeg) * w137)) := (iv_add b133 i152 (by decide) (by decide) (by decide) (by decide))
          have e153 := (iv_addE b133 i152 (by decide) (by decide))
          have := i153.1; have := i153.2
          refine lv_istore_n (lv' := [(2, .int (x2_19 + ((z0.2.1 2 (x3_19 : Int32).toNatClampNeg) * w137))), (4, .int w137), (0, .ref (q 0)), (1, .int p0), (3, .int x3_19)]) hx hb dX6_loadOf_51 rfl hl (by decide) rfl (fun ls hl => ?_)
          refine lv_goto (tgt := 77) hx hb dX6_loadOf_52 (by decide) ?_
          have j154 : iv 1 3 (x3_19 + 1) := iv_add k136a (iv_lit (n := 1) 1 (by decide)) (by decide) (by decide) (by decide) (by decide)
          have e154 : (x3_19 + 1).toInt = x3_19.toInt + 1 := (iv_addE k136a (iv_lit (n := 1) 1 (by decide)) (by decide) (by decide)).trans rfl
          refine lv_iinc (v := (x3_19 + 1)) (lv' := [(3, .int (x3_19 + 1)), (2, .int (x2_19 + ((z0.2.1 2 (x3_19 : Int32).toNatClampNeg) * w137))), (4, .int w137), (0, .ref (q 0)), (1, .int p0)]) hx hb dX6_loadOf_77 hl (k := 4) rfl rfl (by decide) rfl (fun ls hl => ?_)
          refine lv_goto (tgt := 19) hx hb dX6_loadOf_80 (by decide) ?_
          exact ih19 _ (ms_up e154 j154.2 hn19) (x2_19 + ((z0.2.1 2 (x3_19 : Int32).toNatClampNeg) * w137)) (x3_19 + 1)  H locs ls (iv_w i153 (by decide) (by decide)) (iv_w j154 (by decide) (by decide)) (iv_w k150a (by decide) (by decide)) ⟨by omega, by omega, ⟨ld_m ex_19.2.2.1 (by have := iv_nat k136a (by decide); have := iv_nat j154 (by decide); omega) f137_0 c138, ex_19.2.2.2⟩⟩  hH (lv_sub hl [3, 4, 1, 0] rfl) rfl
  refine lv_aload_n hx hb dX6_loadOf_0 rfl (lv_at hl 0 rfl) ?_
  refine b_get (ci := 6) (C := RX6) (T := TX6) (Nf := 29) (v := .int (z0.1 1)) hx hb hts in_X6_loadOf_X6 hown hK hH 0 (by decide) rfl rfl 7 (by decide) (hts (.fieldLink RX6 113 "StationLineModel" "kind" "I") (List.mem_of_getElem? (i := 1) rfl)) rfl dX6_loadOf_1 ?_
  refine lv_iconst (v := 2) hx hb dX6_loadOf_4 (by decide) ?_
  refine lv_icmp_ge (tgt := 15) hx hb dX6_loadOf_5 (by decide) (fun c155 => ?_) (fun c155 => ?_)
  · skip
    have r155 := (iv_Le c155)
    have k156b : iv 2 2147483647 (z0.1 1) := iv_ler (iv_Le c155) (iv_lit (n := 2) 2 (by decide)) (iv_all (z0.1 1))
    refine lv_iconst (v := 0) hx hb dX6_loadOf_15 (by decide) ?_
    refine lv_istore_n (lv' := [(2, .int 0), (0, .ref (q 0)), (1, .int p0)]) hx hb dX6_loadOf_16 rfl hl (by decide) rfl (fun ls hl => ?_)
    refine lv_iconst (v := 0) hx hb dX6_loadOf_17 (by decide) ?_
    refine lv_istore_n (lv' := [(3, .int 0), (2, .int 0), (0, .ref (q 0)), (1, .int p0)]) hx hb dX6_loadOf_18 rfl hl (by decide) rfl (fun ls hl => ?_)
    exact HL19 _ 0 0  H locs ls (iv_w (iv_lit (n := 0) 0 (by decide)) (by decide) (by decide)) (iv_w (iv_lit (n := 0) 0 (by decide)) (by decide) (by decide)) k156b ⟨by omega, by omega, ⟨rfl, (by rw [b_lt]; have e9 : (2 : Int32).toInt = 2 := (by decide); have := (iv_Le c155); omega)⟩⟩  hH (lv_sub hl [2, 3, 1, 0] rfl) rfl
  · skip
    have r155 := (iv_nLe c155)
    have k157a : iv (-2147483648) 1 (z0.1 1) := iv_ltl (iv_nLe c155) (iv_all (z0.1 1)) (iv_lit (n := 2) 2 (by decide)) (by decide)
    refine lv_aload_n hx hb dX6_loadOf_8 rfl (lv_at hl 0 rfl) ?_
    refine lv_iload_n hx hb dX6_loadOf_9 rfl (lv_at hl 1 rfl) ?_
    refine lv_iconst (v := 0) hx hb dX6_loadOf_10 (by decide) ?_
    refine b_calli (As := [.int p0, .int 0]) (rest := []) ⟨hx, hb, hml, hown, hts⟩ 0 6 (g_X6_sumOf_0 l D cy q hH.2.1 z0 hJ.1 p0 0 (iv_w (iv_lit (n := 0) 0 (by decide)) (by decide) (by decide))) (cwV 2 hts gX6_loadOf_X6_sumOf rfl rfl rfl (by decide +kernel) ⟨Nat.le_of_ble_eq_true rfl, Nat.le_of_ble_eq_true rfl⟩) hK hZ hH (by decide) rfl rfl rfl hl.1 rfl (Nat.le_of_ble_eq_true rfl) ⟨Nat.zero_le _, Nat.zero_le _⟩ dX6_loadOf_11 (fun w158 z158 H locs hp hH => ?_)
    rw [Ag_0 hp.1.2] at hH
    have i158 := hp.2.1
    have := i158.1; have := i158.2
    have f158_0 := hp.2.2
    exact hret _ z0 H locs _ _ ⟨hJ, (iv_w i158 (by decide) (by decide)), (by unfold loadF; rw [if_pos (by rw [b_lt]; have e9 : (2 : Int32).toInt = 2 := (by decide); have := (iv_nLe c155); omega)]; exact f158_0)⟩ hH dX6_loadOf_14
set_option maxHeartbeats 4000000 in
set_option maxRecDepth 100000 in
theorem g_X6_room_0 (l : Launch) (D : va_G) (cy : Nat → ClassId) (q : Nat → Nat) (hq : bJ 23 q) (z0 : zS) (hI : IvM z0)  : bCi l yX6_room wsX6_room ({ frames := 0, cells := 0, slots := 0, locals := 0 }) D cy 23 (enM cy) q z0 [.ref (q 0)] (fun v z => jJ IvM 0 0 0 z0 z ∧ iv 1 27000 v) := by
  refine hM_i cX6_room (by decide) rfl (own := RX6) rfl hq (Nat.le_of_ble_eq_true rfl) ?_
  intro p e s m args below meth c Q ls H locs hx hb hml hown hts hK hZ hH hl hret
  have hl : lv_has ls 1 [(0, .ref (q 0))] := hl
  have hJ : jJ IvM 0 0 0 z0 z0 := jJ_rf _ _ _ hI
  have e00 : (0 : Int32).toInt = 0 := (by decide); have e01 : (1 : Int32).toInt = 1 := (by decide); have e02 : (2 : Int32).toInt = 2 := (by decide); have e03 : (3 : Int32).toInt = 3 := (by decide); have e010 : (10 : Int32).toInt = 10 := (by decide)
  refine lv_aload_n hx hb dX6_room_0 rfl (lv_at hl 0 rfl) ?_
  refine b_get (ci := 6) (C := RX6) (T := TX6) (Nf := 29) (v := .int (z0.1 1)) hx hb hts in_X6_room_X6 hown hK hH 0 (by decide) rfl rfl 7 (by decide) (hts (.fieldLink RX6 113 "StationLineModel" "kind" "I") (List.mem_of_getElem? (i := 1) rfl)) rfl dX6_room_1 ?_
  refine lv_iconst (v := 2) hx hb dX6_room_4 (by decide) ?_
  refine lv_icmp_ne (tgt := 36) hx hb dX6_room_5 (by decide) (fun c12 => ?_) (fun c12 => ?_)
  · skip
    have r12 := (iv_nEq c12)
    refine lv_aload_n hx hb dX6_room_36 rfl (lv_at hl 0 rfl) ?_
    refine b_get (ci := 6) (C := RX6) (T := TX6) (Nf := 29) (v := .int (z0.1 2)) hx hb hts in_X6_room_X6 hown hK hH 0 (by decide) rfl rfl 8 (by decide) (hts (.fieldLink RX6 28 "StationLineModel" "beat" "I") (List.mem_of_getElem? (i := 2) rfl)) rfl dX6_room_37 ?_
    have i14 := IvM_s2 hJ.1
    have := i14.1; have := i14.2
    exact hret _ z0 H locs _ _ ⟨hJ, (iv_w i14 (by decide) (by decide))⟩ hH dX6_room_40
  · skip
    have r12 := (iv_Eq c12)
    have k15a : iv 2 2 (z0.1 1) := iv_eql (iv_Eq c12) (iv_all (z0.1 1)) (iv_lit (n := 2) 2 (by decide)) (by decide) (by decide)
    refine lv_aload_n hx hb dX6_room_8 rfl (lv_at hl 0 rfl) ?_
    refine b_get (ci := 6) (C := RX6) (T := TX6) (Nf := 29) (v := .int (z0.1 2)) hx hb hts in_X6_room_X6 hown hK hH 0 (by decide) rfl rfl 8 (by decide) (hts (.fieldLink RX6 28 "StationLineModel" "beat" "I") (List.mem_of_getElem? (i := 2) rfl)) rfl dX6_room_9 ?_
    have i16 := IvM_s2 hJ.1
    have := i16.1; have := i16.2
    refine lv_aload_n hx hb dX6_room_12 rfl (lv_at hl 0 rfl) ?_
    refine b_get (ci := 6) (C := RX6) (T := TX6) (Nf := 29) (v := .ref (q 2)) hx hb hts in_X6_room_X6 hown hK hH 0 (by decide) rfl rfl 2 (by decide) (hts (.fieldLink RX6 13 "StationLineModel" "shares" "[I") (List.mem_of_getElem? (i := 3) rfl)) rfl dX6_room_13 ?_
    refine lv_iconst (v := 0) hx hb dX6_room_16 (by decide) ?_
    refine b_iald (v := z0.2.1 2 0) hx hb hK hH 2 (by decide) rfl (by unfold vp_in; decide) rfl dX6_room_17 ?_
    have i17 : iv 0 9 (z0.2.1 2 0) := IvM_a2 hJ.1 0 (by decide)
    have := i17.1; have := i17.2
    refine lv_aload_n hx hb dX6_room_18 rfl (lv_at hl 0 rfl) ?_
    refine b_get (ci := 6) (C := RX6) (T := TX6) (Nf := 29) (v := .ref (q 2)) hx hb hts in_X6_room_X6 hown hK hH 0 (by decide) rfl rfl 2 (by decide) (hts (.fieldLink RX6 13 "StationLineModel" "shares" "[I") (List.mem_of_getElem? (i := 3) rfl)) rfl dX6_room_19 ?_
    refine lv_iconst (v := 1) hx hb dX6_room_22 (by decide) ?_
    refine b_iald (v := z0.2.1 2 1) hx hb hK hH 2 (by decide) rfl (by unfold vp_in; decide) rfl dX6_room_23 ?_
    have i18 : iv 0 9 (z0.2.1 2 1) := IvM_a2 hJ.1 1 (by decide)
    have := i18.1; have := i18.2
    refine lv_iadd hx hb dX6_room_24 ?_
    refine h_iE (a := 0) (b := 18) (iv_add i17 i18 (by decide) (by decide) (by decide) (by decide)) (iv_addE i17 i18 (by decide) (by decide)) (fun w19 i19 e19 => ?_)
    have := i19.1; have := i19.2
    refine lv_aload_n hx hb dX6_room_25 rfl (lv_at hl 0 rfl) ?_
    refine b_get (ci := 6) (C := RX6) (T := TX6) (Nf := 29) (v := .ref (q 2)) hx hb hts in_X6_room_X6 hown hK hH 0 (by decide) rfl rfl 2 (by decide) (hts (.fieldLink RX6 13 "StationLineModel" "shares" "[I") (List.mem_of_getElem? (i := 3) rfl)) rfl dX6_room_26 ?_
    refine lv_iconst (v := 2) hx hb dX6_room_29 (by decide) ?_
    refine b_iald (v := z0.2.1 2 2) hx hb hK hH 2 (by decide) rfl (by unfold vp_in; decide) rfl dX6_room_30 ?_
    have i20 : iv 0 9 (z0.2.1 2 2) := IvM_a2 hJ.1 2 (by decide)
    have := i20.1; have := i20.2
    have hsh := IvM_x0 hJ.1
    unfold ShOk at hsh
    refine lv_iadd hx hb dX6_room_31 ?_
    refine h_i (a := 1) (b := 27) (iv_addW (by omega) (by omega) (by decide) (by decide)) (fun w21 i21 => ?_)
    have := i21.1; have := i21.2
    refine lv_imul hx hb dX6_room_32 ?_
    refine h_i (a := 1) (b := 27000) (iv_mul i16 i21 (by decide) (by decide) (by decide) (by decide) (by decide)) (fun w22 i22 => ?_)
    have := i22.1; have := i22.2
    refine lv_goto (tgt := 40) hx hb dX6_room_33 (by decide) ?_
    exact hret _ z0 H locs _ _ ⟨hJ, i22⟩ hH dX6_room_40
set_option maxHeartbeats 4000000 in
set_option maxRecDepth 100000 in
theorem g_X6_byRoom_0 (l : Launch) (D : va_G) (cy : Nat → ClassId) (q : Nat → Nat) (hq : bJ 23 q) (z0 : zS) (hI : IvM z0) (p0 : Int32) : bCi l yX6_byRoom wsX6_byRoom ({ frames := 1, cells := 0, slots := 0, locals := 20 }) D cy 23 (enM cy) q z0 [.ref (q 0), .int p0] (fun v z => jJ IvM 0 0 0 z0 z ∧ iv (-2147483648) 2147483647 v) := by
  refine hM_i cX6_byRoom (by decide) rfl (own := RX6) rfl hq (Nat.le_of_ble_eq_true rfl) ?_
  intro p e s m args below meth c Q ls H locs hx hb hml hown hts hK hZ hH hl hret
  have hl : lv_has ls 2 [(0, .ref (q 0)), (1, .int p0)] := hl
  have hJ : jJ IvM 0 0 0 z0 z0 := jJ_rf _ _ _ hI
  refine lv_iload_n hx hb dX6_byRoom_0 rfl (lv_at hl 1 rfl) ?_
  refine lv_aload_n hx hb dX6_byRoom_1 rfl (lv_at hl 0 rfl) ?_
  refine b_calli (As := []) (rest := [.int p0]) ⟨hx, hb, hml, hown, hts⟩ 0 6 (g_X6_room_0 l D cy q hH.2.1 z0 hJ.1 ) (cwV 0 hts gX6_byRoom_X6_room rfl rfl rfl (by decide +kernel) ⟨Nat.le_of_ble_eq_true rfl, Nat.le_of_ble_eq_true rfl⟩) hK hZ hH (by decide) rfl rfl rfl hl.1 rfl (Nat.le_of_ble_eq_true rfl) ⟨Nat.zero_le _, Nat.zero_le _⟩ dX6_byRoom_2 (fun w6 z6 H locs hp hH => ?_)
  rw [Ag_0 hp.1.2] at hH
  have i6 := hp.2
  refine lv_iadd hx hb dX6_byRoom_5 ?_
  refine lv_topi (fun w7 _ => ?_)
  refine lv_iconst (v := 1) hx hb dX6_byRoom_6 (by decide) ?_
  refine lv_isub hx hb dX6_byRoom_7 ?_
  refine lv_topi (fun w8 _ => ?_)
  refine lv_aload_n hx hb dX6_byRoom_8 rfl (lv_at hl 0 rfl) ?_
  refine b_calli (As := []) (rest := [.int w8]) ⟨hx, hb, hml, hown, hts⟩ 0 6 (g_X6_room_0 l D cy q hH.2.1 z0 hJ.1 ) (cwV 0 hts gX6_byRoom_X6_room rfl rfl rfl (by decide +kernel) ⟨Nat.le_of_ble_eq_true rfl, Nat.le_of_ble_eq_true rfl⟩) hK hZ hH (by decide) rfl rfl rfl hl.1 rfl (Nat.le_of_ble_eq_true rfl) ⟨Nat.zero_le _, Nat.zero_le _⟩ dX6_byRoom_9 (fun w9 z9 H locs hp hH => ?_)
  rw [Ag_0 hp.1.2] at hH
  have i9 := hp.2
  refine lv_idiv hx hb dX6_byRoom_12 (iv_nz i9 (by decide)) ?_
  refine lv_topi (fun w10 _ => ?_)
  exact hret _ z0 H locs _ _ ⟨hJ, (iv_all w10)⟩ hH dX6_byRoom_13
set_option maxHeartbeats 4000000 in
set_option maxRecDepth 100000 in
theorem g_X6_bound_0 (l : Launch) (D : va_G) (cy : Nat → ClassId) (q : Nat → Nat) (hq : bJ 23 q) (z0 : zS) (hI : IvM z0) (p0 : Int32) : bCi l yX6_bound wsX6_bound ({ frames := 3, cells := 0, slots := 0, locals := 69 }) D cy 23 (enM cy) q z0 [.ref (q 0), .int p0] (fun v z => jJ IvM 0 0 0 z0 z ∧ iv (-2147483648) 2147483647 v) := by
  refine hM_i cX6_bound (by decide) rfl (own := RX6) rfl hq (Nat.le_of_ble_eq_true rfl) ?_
  intro p e s m args below meth c Q ls H locs hx hb hml hown hts hK hZ hH hl hret
  have hl : lv_has ls 6 [(0, .ref (q 0)), (1, .int p0)] := hl
  have hJ : jJ IvM 0 0 0 z0 z0 := jJ_rf _ _ _ hI
  have HJ9 : ∀ (H : Heap) (locs : List Loc) (ls : Array Slot), bH D 23 (enM cy) q z0 s.heap H locs → lv_has ls 6 [] → W p l e ({ frames := 3, cells := 0, slots := 0, locals := 69 }) s m args below meth c H locs 0 0 Q (F0 m 9 ls []) := by
    intro H locs ls hH hl
    refine lv_bipush (v := (-2)) hx hb dX6_bound_9 (by decide) ?_
    exact hret _ z0 H locs _ _ ⟨hJ, (iv_w (iv_lit (n := (-2)) (-2) (by decide)) (by decide) (by decide))⟩ hH dX6_bound_11
  have HL36 : ∀ (n : Nat) (x2_36 : Int32) (x3_36 : Int32) (x4_36 : Int32) (H : Heap) (locs : List Loc) (ls : Array Slot), iv 0 10 x4_36 → bH D 23 (enM cy) q z0 s.heap H locs → lv_has ls 6 [(0, .ref (q 0)), (2, .int x2_36), (3, .int x3_36), (4, .int x4_36)] → (10 - x4_36.toInt).toNat = n → W p l e ({ frames := 3, cells := 0, slots := 0, locals := 69 }) s m args below meth c H locs 0 0 Q (F0 m 36 ls []) := by
    intro n36
    induction n36 using Nat.strongRecOn with
    | ind n36 ih36 =>
      intro x2_36 x3_36 x4_36 H locs ls h4_36 hH hl hn36
      have HJ72 : ∀ (x5_72 : Int32) (t0_72 : Int32) (t1_72 : Int32) (H : Heap) (locs : List Loc) (ls : Array Slot), iv 0 9 x4_36 → iv 0 54000 x5_72 → iv 0 1 t0_72 → iv 1 10 (z0.1 0) → bH D 23 (enM cy) q z0 s.heap H locs → lv_has ls 6 [(0, .ref (q 0)), (3, .int x3_36), (4, .int x4_36), (5, .int x5_72)] → W p l e ({ frames := 3, cells := 0, slots := 0, locals := 69 }) s m args below meth c H locs 0 0 Q (F0 m 72 ls [.int t0_72, .int t1_72]) := by
        intro x5_72 t0_72 t1_72 H locs ls h4_72 h5_72 g0_72 gh0_72 hH hl
        have HJ89 : ∀ (x2_89 : Int32) (t0_89 : Int32) (t1_89 : Int32) (H : Heap) (locs : List Loc) (ls : Array Slot), iv 0 1 t0_89 → iv 1 10 (z0.1 0) → bH D 23 (enM cy) q z0 s.heap H locs → lv_has ls 6 [(0, .ref (q 0)), (2, .int x2_89), (4, .int x4_36)] → W p l e ({ frames := 3, cells := 0, slots := 0, locals := 69 }) s m args below meth c H locs 0 0 Q (F0 m 89 ls [.int t0_89, .int t1_89]) := by
          intro x2_89 t0_89 t1_89 H locs ls g0_89 gh0_89 hH hl
          refine lv_iadd hx hb dX6_bound_89 ?_
          refine lv_topi (fun w628 _ => ?_)
          refine lv_istore_n (lv' := [(3, .int w628), (0, .ref (q 0)), (2, .int x2_89), (4, .int x4_36)]) hx hb dX6_bound_90 rfl hl (by decide) rfl (fun ls hl => ?_)
          have j629 : iv 1 10 (x4_36 + 1) := iv_add h4_72 (iv_lit (n := 1) 1 (by decide)) (by decide) (by decide) (by decide) (by decide)
          have e629 : (x4_36 + 1).toInt = x4_36.toInt + 1 := (iv_addE h4_72 (iv_lit (n := 1) 1 (by decide)) (by decide) (by decide)).trans rfl
          refine lv_iinc (v := (x4_36 + 1)) (lv' := [(4, .int (x4_36 + 1)), (3, .int w628), (0, .ref (q 0)), (2, .int x2_89)]) hx hb dX6_bound_91 hl (k := 3) rfl rfl (by decide) rfl (fun ls hl => ?_)
          refine lv_goto (tgt := 36) hx hb dX6_bound_94 (by decide) ?_
          exact ih36 _ (ms_up e629 j629.2 hn36) x2_89 w628 (x4_36 + 1)  H locs ls (iv_w j629 (by decide) (by decide))  hH (lv_sub hl [2, 3, 1, 0] rfl) rfl
        refine lv_iadd hx hb dX6_bound_72 ?_
        refine lv_topi (fun w630 _ => ?_)
        refine lv_istore_n (lv' := [(2, .int w630), (0, .ref (q 0)), (3, .int x3_36), (4, .int x4_36), (5, .int x5_72)]) hx hb dX6_bound_73 rfl hl (by decide) rfl (fun ls hl => ?_)
        refine lv_iload_n hx hb dX6_bound_74 rfl (lv_at hl 2 rfl) ?_
        refine lv_iload hx hb dX6_bound_75 (lv_at hl 4 rfl) ?_
        refine lv_aload_n hx hb dX6_bound_77 rfl (lv_at hl 1 rfl) ?_
        refine b_calli (As := []) (rest := [.int x5_72, .int x3_36]) ⟨hx, hb, hml, hown, hts⟩ 0 6 (g_X6_room_0 l D cy q hH.2.1 z0 hJ.1 ) (cwV 0 hts gX6_bound_X6_room rfl rfl rfl (by decide +kernel) ⟨Nat.le_of_ble_eq_true rfl, Nat.le_of_ble_eq_true rfl⟩) hK hZ hH (by decide) rfl rfl rfl hl.1 rfl (Nat.le_of_ble_eq_true rfl) ⟨Nat.zero_le _, Nat.zero_le _⟩ dX6_bound_78 (fun w631 z631 H locs hp hH => ?_)
        rw [Ag_0 hp.1.2] at hH
        have i631 := hp.2
        refine lv_icmp_ne (tgt := 88) hx hb dX6_bound_81 (by decide) (fun c632 => ?_) (fun c632 => ?_)
        · skip
          refine lv_iconst (v := 0) hx hb dX6_bound_88 (by decide) ?_
          exact HJ89 w630 0 x3_36  H locs ls (iv_w (iv_lit (n := 0) 0 (by decide)) (by decide) (by decide)) gh0_72  hH (lv_sub hl [1, 0, 3] rfl)
        · skip
          have k634a : iv 1 27000 x5_72 := iv_eql (iv_Eq c632) h5_72 i631 (by decide) (by decide)
          refine lv_iconst (v := 1) hx hb dX6_bound_84 (by decide) ?_
          refine lv_goto (tgt := 89) hx hb dX6_bound_85 (by decide) ?_
          exact HJ89 w630 1 x3_36  H locs ls (iv_w (iv_lit (n := 1) 1 (by decide)) (by decide) (by decide)) gh0_72  hH (lv_sub hl [1, 0, 3] rfl)
      refine lv_iload hx hb dX6_bound_36 (lv_at hl 3 rfl) ?_
      refine lv_aload_n hx hb dX6_bound_38 rfl (lv_at hl 0 rfl) ?_
      refine b_get (ci := 6) (C := RX6) (T := TX6) (Nf := 29) (v := .int (z0.1 0)) hx hb hts in_X6_bound_X6 hown hK hH 0 (by decide) rfl rfl 0 (by decide) (hts (.fieldLink RX6 85 "StationLineModel" "tasks" "I") (List.mem_of_getElem? (i := 1) rfl)) rfl dX6_bound_39 ?_
      have i635 := IvM_s0 hJ.1
      refine lv_icmp_ge (tgt := 97) hx hb dX6_bound_42 (by decide) (fun c636 => ?_) (fun c636 => ?_)
      · skip
        refine lv_iload_n hx hb dX6_bound_97 rfl (lv_at hl 1 rfl) ?_
        refine lv_iload_n hx hb dX6_bound_98 rfl (lv_at hl 2 rfl) ?_
        refine lv_iconst (v := 1) hx hb dX6_bound_99 (by decide) ?_
        refine lv_iadd hx hb dX6_bound_100 ?_
        refine lv_topi (fun w638 _ => ?_)
        refine lv_iconst (v := 2) hx hb dX6_bound_101 (by decide) ?_
        refine lv_idiv hx hb dX6_bound_102 (by decide) ?_
        refine lv_topi (fun w639 _ => ?_)
        refine lv_iadd hx hb dX6_bound_103 ?_
        refine lv_topi (fun w640 _ => ?_)
        exact hret _ z0 H locs _ _ ⟨hJ, (iv_all w640)⟩ hH dX6_bound_104
      · skip
        have k641a : iv 0 9 x4_36 := iv_ltl (iv_nLe c636) h4_36 i635 (by decide)
        have k641b : iv 1 10 (z0.1 0) := iv_ltr (iv_nLe c636) h4_36 i635 (by decide)
        refine lv_iconst (v := 2) hx hb dX6_bound_45 (by decide) ?_
        refine lv_aload_n hx hb dX6_bound_46 rfl (lv_at hl 0 rfl) ?_
        refine lv_iconst (v := 1) hx hb dX6_bound_47 (by decide) ?_
        refine lv_iload hx hb dX6_bound_48 (lv_at hl 3 rfl) ?_
        refine lv_ishl hx hb dX6_bound_50 ?_
        refine h_i (a := 1) (b := 512) (iv_bit k641a (by decide) (by decide)) (fun w642 i642 => ?_)
        refine b_calli (As := [.int w642]) (rest := [.int 2]) ⟨hx, hb, hml, hown, hts⟩ 0 6 (g_X6_loadOf_0 l D cy q hH.2.1 z0 hJ.1 w642) (cwV 1 hts gX6_bound_X6_loadOf rfl rfl rfl (by decide +kernel) ⟨Nat.le_of_ble_eq_true rfl, Nat.le_of_ble_eq_true rfl⟩) hK hZ hH (by decide) rfl rfl rfl hl.1 rfl (Nat.le_of_ble_eq_true rfl) ⟨Nat.zero_le _, Nat.zero_le _⟩ dX6_bound_51 (fun w643 z643 H locs hp hH => ?_)
        rw [Ag_0 hp.1.2] at hH
        have i643 := hp.2.1
        have f643_0 := hp.2.2
        refine lv_imul hx hb dX6_bound_54 ?_
        refine h_i (a := 0) (b := 54000) (iv_mul (iv_lit (n := 2) 2 (by decide)) i643 (by decide) (by decide) (by decide) (by decide) (by decide)) (fun w644 i644 => ?_)
        refine lv_istore (lv' := [(5, .int w644), (0, .ref (q 0)), (2, .int x2_36), (3, .int x3_36), (4, .int x4_36)]) hx hb dX6_bound_55 hl (by decide) rfl (fun ls hl => ?_)
        refine lv_iload_n hx hb dX6_bound_57 rfl (lv_at hl 2 rfl) ?_
        refine lv_iload hx hb dX6_bound_58 (lv_at hl 0 rfl) ?_
        refine lv_aload_n hx hb dX6_bound_60 rfl (lv_at hl 1 rfl) ?_
        refine b_calli (As := []) (rest := [.int w644, .int x2_36]) ⟨hx, hb, hml, hown, hts⟩ 0 6 (g_X6_room_0 l D cy q hH.2.1 z0 hJ.1 ) (cwV 0 hts gX6_bound_X6_room rfl rfl rfl (by decide +kernel) ⟨Nat.le_of_ble_eq_true rfl, Nat.le_of_ble_eq_true rfl⟩) hK hZ hH (by decide) rfl rfl rfl hl.1 rfl (Nat.le_of_ble_eq_true rfl) ⟨Nat.zero_le _, Nat.zero_le _⟩ dX6_bound_61 (fun w645 z645 H locs hp hH => ?_)
        rw [Ag_0 hp.1.2] at hH
        have i645 := hp.2
        refine lv_icmp_le (tgt := 71) hx hb dX6_bound_64 (by decide) (fun c646 => ?_) (fun c646 => ?_)
        · skip
          have k647a : iv 0 27000 w644 := iv_lel (iv_Le c646) i644 i645
          refine lv_iconst (v := 0) hx hb dX6_bound_71 (by decide) ?_
          exact HJ72 w644 0 x2_36  H locs ls k641a (iv_w k647a (by decide) (by decide)) (iv_w (iv_lit (n := 0) 0 (by decide)) (by decide) (by decide)) k641b  hH (lv_sub hl [1, 3, 4, 0] rfl)
        · skip
          have k648b : iv 2 54000 w644 := iv_ltr (iv_nLe c646) i645 i644 (by decide)
          refine lv_iconst (v := 1) hx hb dX6_bound_67 (by decide) ?_
          refine lv_goto (tgt := 72) hx hb dX6_bound_68 (by decide) ?_
          exact HJ72 w644 1 x2_36  H locs ls k641a (iv_w k648b (by decide) (by decide)) (iv_w (iv_lit (n := 1) 1 (by decide)) (by decide) (by decide)) k641b  hH (lv_sub hl [1, 3, 4, 0] rfl)
  refine lv_iload_n hx hb dX6_bound_0 rfl (lv_at hl 1 rfl) ?_
  refine lv_if_lt (tgt := 9) hx hb dX6_bound_1 (by decide) (fun c649 => ?_) (fun c649 => ?_)
  · skip
    have k650a : iv (-2147483648) (-1) p0 := iv_ltl (iv_Lt c649) (iv_all p0) (iv_lit (n := 0) 0 (by decide)) (by decide)
    exact HJ9   H locs ls   hH (lv_sub hl [] rfl)
  · skip
    have k651b : iv 0 2147483647 p0 := iv_ler (iv_nLt c649) (iv_lit (n := 0) 0 (by decide)) (iv_all p0)
    refine lv_iload_n hx hb dX6_bound_4 rfl (lv_at hl 1 rfl) ?_
    refine lv_iconst (v := 1) hx hb dX6_bound_5 (by decide) ?_
    refine lv_icmp_le (tgt := 12) hx hb dX6_bound_6 (by decide) (fun c652 => ?_) (fun c652 => ?_)
    · skip
      have k653a : iv 0 1 p0 := iv_lel (iv_Le c652) k651b (iv_lit (n := 1) 1 (by decide))
      refine lv_iload_n hx hb dX6_bound_12 rfl (lv_at hl 1 rfl) ?_
      refine lv_if_ne (tgt := 29) hx hb dX6_bound_13 (by decide) (fun c654 => ?_) (fun c654 => ?_)
      · skip
        have k655a : iv 1 1 p0 := iv_neLo (iv_nEq c654) k653a (by decide) (by decide)
        refine lv_iconst (v := 0) hx hb dX6_bound_29 (by decide) ?_
        refine lv_istore_n (lv' := [(2, .int 0), (0, .ref (q 0)), (1, .int p0)]) hx hb dX6_bound_30 rfl hl (by decide) rfl (fun ls hl => ?_)
        refine lv_iconst (v := 0) hx hb dX6_bound_31 (by decide) ?_
        refine lv_istore_n (lv' := [(3, .int 0), (2, .int 0), (0, .ref (q 0)), (1, .int p0)]) hx hb dX6_bound_32 rfl hl (by decide) rfl (fun ls hl => ?_)
        refine lv_iconst (v := 0) hx hb dX6_bound_33 (by decide) ?_
        refine lv_istore (lv' := [(4, .int 0), (3, .int 0), (2, .int 0), (0, .ref (q 0)), (1, .int p0)]) hx hb dX6_bound_34 hl (by decide) rfl (fun ls hl => ?_)
        exact HL36 _ 0 0 0  H locs ls (iv_w (iv_lit (n := 0) 0 (by decide)) (by decide) (by decide))  hH (lv_sub hl [3, 2, 1, 0] rfl) rfl
      · skip
        have k656a : iv 0 0 p0 := iv_eql (iv_Eq c654) k653a (iv_lit (n := 0) 0 (by decide)) (by decide) (by decide)
        refine lv_aload_n hx hb dX6_bound_16 rfl (lv_at hl 0 rfl) ?_
        refine lv_aload_n hx hb dX6_bound_17 rfl (lv_at hl 0 rfl) ?_
        refine lv_aload_n hx hb dX6_bound_18 rfl (lv_at hl 0 rfl) ?_
        refine b_calli (As := []) (rest := [.ref (q 0), .ref (q 0)]) ⟨hx, hb, hml, hown, hts⟩ 0 6 (g_X6_all_0 l D cy q hH.2.1 z0 hJ.1 ) (cwV 0 hts gX6_bound_X6_all rfl rfl rfl (by decide +kernel) ⟨Nat.le_of_ble_eq_true rfl, Nat.le_of_ble_eq_true rfl⟩) hK hZ hH (by decide) rfl rfl rfl hl.1 rfl (Nat.le_of_ble_eq_true rfl) ⟨Nat.zero_le _, Nat.zero_le _⟩ dX6_bound_19 (fun w657 z657 H locs hp hH => ?_)
        rw [Ag_0 hp.1.2] at hH
        have i657 := hp.2.1
        have f657_0 := hp.2.2
        refine b_calli (As := [.int w657]) (rest := [.ref (q 0)]) ⟨hx, hb, hml, hown, hts⟩ 0 6 (g_X6_loadOf_0 l D cy q hH.2.1 z0 hJ.1 w657) (cwV 1 hts gX6_bound_X6_loadOf rfl rfl rfl (by decide +kernel) ⟨Nat.le_of_ble_eq_true rfl, Nat.le_of_ble_eq_true rfl⟩) hK hZ hH (by decide) rfl rfl rfl hl.1 rfl (Nat.le_of_ble_eq_true rfl) ⟨Nat.zero_le _, Nat.zero_le _⟩ dX6_bound_22 (fun w658 z658 H locs hp hH => ?_)
        rw [Ag_0 hp.1.2] at hH
        have i658 := hp.2.1
        have f658_0 := hp.2.2
        refine b_calli (As := [.int w658]) (rest := []) ⟨hx, hb, hml, hown, hts⟩ 0 6 (g_X6_byRoom_0 l D cy q hH.2.1 z0 hJ.1 w658) (cwV 1 hts gX6_bound_X6_byRoom rfl rfl rfl (by decide +kernel) ⟨Nat.le_of_ble_eq_true rfl, Nat.le_of_ble_eq_true rfl⟩) hK hZ hH (by decide) rfl rfl rfl hl.1 rfl (Nat.le_of_ble_eq_true rfl) ⟨Nat.zero_le _, Nat.zero_le _⟩ dX6_bound_25 (fun w659 z659 H locs hp hH => ?_)
        rw [Ag_0 hp.1.2] at hH
        exact hret _ z0 H locs _ _ ⟨hJ, (iv_all w659)⟩ hH dX6_bound_28
    · skip
      have k660b : iv 2 2147483647 p0 := iv_ltr (iv_nLe c652) (iv_lit (n := 1) 1 (by decide)) k651b (by decide)
      exact HJ9   H locs ls   hH (lv_sub hl [] rfl)
set_option maxHeartbeats 4000000 in
set_option maxRecDepth 100000 in
theorem g_X6_share_0 (l : Launch) (D : va_G) (cy : Nat → ClassId) (q : Nat → Nat) (hq : bJ 23 q) (z0 : zS) (hI : IvM z0) (p0 : Int32) (p1 : Int32) : bCi l yX6_share wsX6_share ({ frames := 1, cells := 0, slots := 0, locals := 20 }) D cy 23 (enM cy) q z0 [.ref (q 0), .int p0, .int p1] (fun v z => jJ IvM 0 4 0 z0 z ∧ iv (-2) 9 v) := by
  refine hM_i cX6_share (by decide) rfl (own := RX6) rfl hq (Nat.le_of_ble_eq_true rfl) ?_
  intro p e s m args below meth c Q ls H locs hx hb hml hown hts hK hZ hH hl hret
  have hl : lv_has ls 5 [(0, .ref (q 0)), (1, .int p0), (2, .int p1)] := hl
  have hJ : jJ IvM 0 4 0 z0 z0 := jJ_rf _ _ _ hI
  have e00 : (0 : Int32).toInt = 0 := (by decide); have e01 : (1 : Int32).toInt = 1 := (by decide); have e02 : (2 : Int32).toInt = 2 := (by decide); have e03 : (3 : Int32).toInt = 3 := (by decide); have e010 : (10 : Int32).toInt = 10 := (by decide)
  have HJ17 : ∀ (z_17 : zS) (H : Heap) (locs : List Loc) (ls : Array Slot), jJ IvM 0 4 0 z0 z_17 → bH D 23 (enM cy) q z_17 s.heap H locs → lv_has ls 5 [] → W p l e ({ frames := 1, cells := 0, slots := 0, locals := 20 }) s m args below meth c H locs 0 0 Q (F0 m 17 ls []) := by
    intro z_17 H locs ls hJ hH hl
    refine lv_bipush (v := (-2)) hx hb dX6_share_17 (by decide) ?_
    exact hret _ z_17 H locs _ _ ⟨hJ, (iv_w (iv_lit (n := (-2)) (-2) (by decide)) (by decide) (by decide))⟩ hH dX6_share_19
  refine lv_iload_n hx hb dX6_share_0 rfl (lv_at hl 1 rfl) ?_
  refine b_stati (As := [.int p0]) (rest := []) ⟨hx, hb, hml, hown, hts⟩ (g_X6_isMake l D cy q hH.2.1 z0 hJ.1 p0) (va_cwS 1 hts gX6_share_X6_isMake rfl rfl rfl (by decide +kernel) ⟨Nat.le_of_ble_eq_true rfl, Nat.le_of_ble_eq_true rfl⟩) hK hZ hH rfl hl.1 rfl (Nat.le_of_ble_eq_true rfl) ⟨Nat.zero_le _, Nat.zero_le _⟩ dX6_share_1 (fun w25 z25 H locs hp hH => ?_)
  rw [Ag_0 hp.1.2] at hH
  have i25 := hp.2.1
  have := i25.1; have := i25.2
  have tr25_0 := hp.2.2.1
  have f25_0 := hp.2.2.2
  refine lv_if_eq (tgt := 17) hx hb dX6_share_4 (by decide) (fun c26 => ?_) (fun c26 => ?_)
  · skip
    have r26 := (iv_Eq c26)
    have k27a : iv 0 0 w25 := iv_eql (iv_Eq c26) i25 (iv_lit (n := 0) 0 (by decide)) (by decide) (by decide)
    exact HJ17  z0 H locs ls  hJ hH (lv_sub hl [] rfl)
  · skip
    have k28 : iv 0 2 p0 := (tr25_0).resolve_left c26
    have := k28.1; have := k28.2
    have r26 := (iv_nEq c26)
    have k29a : iv 1 1 w25 := iv_neLo (iv_nEq c26) i25 (by decide) (by decide)
    refine lv_iload_n hx hb dX6_share_7 rfl (lv_at hl 2 rfl) ?_
    refine lv_if_lt (tgt := 17) hx hb dX6_share_8 (by decide) (fun c30 => ?_) (fun c30 => ?_)
    · skip
      have r30 := (iv_Lt c30)
      have k31a : iv (-2147483648) (-1) p1 := iv_ltl (iv_Lt c30) (iv_all p1) (iv_lit (n := 0) 0 (by decide)) (by decide)
      exact HJ17  z0 H locs ls  hJ hH (lv_sub hl [] rfl)
    · skip
      have r30 := (iv_nLt c30)
      have k32b : iv 0 2147483647 p1 := iv_ler (iv_nLt c30) (iv_lit (n := 0) 0 (by decide)) (iv_all p1)
      refine lv_iload_n hx hb dX6_share_11 rfl (lv_at hl 2 rfl) ?_
      refine lv_bipush (v := 9) hx hb dX6_share_12 (by decide) ?_
      refine lv_icmp_le (tgt := 20) hx hb dX6_share_14 (by decide) (fun c33 => ?_) (fun c33 => ?_)
      · skip
        have r33 := (iv_Le c33)
        have k34a : iv 0 9 p1 := iv_lel (iv_Le c33) k32b (iv_lit (n := 9) 9 (by decide))
        refine lv_aload_n hx hb dX6_share_20 rfl (lv_at hl 0 rfl) ?_
        refine b_get (ci := 6) (C := RX6) (T := TX6) (Nf := 29) (v := .ref (q 2)) hx hb hts in_X6_share_X6 hown hK hH 0 (by decide) rfl rfl 2 (by decide) (hts (.fieldLink RX6 13 "StationLineModel" "shares" "[I") (List.mem_of_getElem? (i := 1) rfl)) rfl dX6_share_21 ?_
        refine lv_iconst (v := 0) hx hb dX6_share_24 (by decide) ?_
        refine b_iald (v := z0.2.1 2 0) hx hb hK hH 2 (by decide) rfl (by unfold vp_in; decide) rfl dX6_share_25 ?_
        have i35 : iv 0 9 (z0.2.1 2 0) := IvM_a2 hJ.1 0 (by decide)
        have := i35.1; have := i35.2
        refine lv_aload_n hx hb dX6_share_26 rfl (lv_at hl 0 rfl) ?_
        refine b_get (ci := 6) (C := RX6) (T := TX6) (Nf := 29) (v := .ref (q 2)) hx hb hts in_X6_share_X6 hown hK hH 0 (by decide) rfl rfl 2 (by decide) (hts (.fieldLink RX6 13 "StationLineModel" "shares" "[I") (List.mem_of_getElem? (i := 1) rfl)) rfl dX6_share_27 ?_
        refine lv_iconst (v := 1) hx hb dX6_share_30 (by decide) ?_
        refine b_iald (v := z0.2.1 2 1) hx hb hK hH 2 (by decide) rfl (by unfold vp_in; decide) rfl dX6_share_31 ?_
        have i36 : iv 0 9 (z0.2.1 2 1) := IvM_a2 hJ.1 1 (by decide)
        have := i36.1; have := i36.2
        refine lv_iadd hx hb dX6_share_32 ?_
        refine h_iE (a := 0) (b := 18) (iv_add i35 i36 (by decide) (by decide) (by decide) (by decide)) (iv_addE i35 i36 (by decide) (by decide)) (fun w37 i37 e37 => ?_)
        have := i37.1; have := i37.2
        refine lv_aload_n hx hb dX6_share_33 rfl (lv_at hl 0 rfl) ?_
        refine b_get (ci := 6) (C := RX6) (T := TX6) (Nf := 29) (v := .ref (q 2)) hx hb hts in_X6_share_X6 hown hK hH 0 (by decide) rfl rfl 2 (by decide) (hts (.fieldLink RX6 13 "StationLineModel" "shares" "[I") (List.mem_of_getElem? (i := 1) rfl)) rfl dX6_share_34 ?_
        refine lv_iconst (v := 2) hx hb dX6_share_37 (by decide) ?_
        refine b_iald (v := z0.2.1 2 2) hx hb hK hH 2 (by decide) rfl (by unfold vp_in; decide) rfl dX6_share_38 ?_
        have i38 : iv 0 9 (z0.2.1 2 2) := IvM_a2 hJ.1 2 (by decide)
        have := i38.1; have := i38.2
        refine lv_iadd hx hb dX6_share_39 ?_
        refine h_iE (a := 0) (b := 27) (iv_add i37 i38 (by decide) (by decide) (by decide) (by decide)) (iv_addE i37 i38 (by decide) (by decide)) (fun w39 i39 e39 => ?_)
        have := i39.1; have := i39.2
        refine lv_aload_n hx hb dX6_share_40 rfl (lv_at hl 0 rfl) ?_
        refine b_get (ci := 6) (C := RX6) (T := TX6) (Nf := 29) (v := .ref (q 2)) hx hb hts in_X6_share_X6 hown hK hH 0 (by decide) rfl rfl 2 (by decide) (hts (.fieldLink RX6 13 "StationLineModel" "shares" "[I") (List.mem_of_getElem? (i := 1) rfl)) rfl dX6_share_41 ?_
        refine lv_iload_n hx hb dX6_share_44 rfl (lv_at hl 1 rfl) ?_
        refine b_iald (v := z0.2.1 2 (p0 : Int32).toNatClampNeg) hx hb hK hH 2 (by decide) rfl (iv_in k28 (by decide) (by decide)) rfl dX6_share_45 ?_
        have i40 : iv 0 9 (z0.2.1 2 (p0 : Int32).toNatClampNeg) := IvM_a2 hJ.1 _ (b_inlt (iv_in k28 (by decide) (by decide)))
        have := i40.1; have := i40.2
        refine lv_isub hx hb dX6_share_46 ?_
        refine h_iE (a := (-9)) (b := 27) (iv_sub i39 i40 (by decide) (by decide) (by decide) (by decide)) (iv_subE i39 i40 (by decide) (by decide)) (fun w41 i41 e41 => ?_)
        have := i41.1; have := i41.2
        refine lv_iload_n hx hb dX6_share_47 rfl (lv_at hl 2 rfl) ?_
        refine lv_iadd hx hb dX6_share_48 ?_
        refine h_iE (a := (-9)) (b := 36) (iv_add i41 k34a (by decide) (by decide) (by decide) (by decide)) (iv_addE i41 k34a (by decide) (by decide)) (fun w42 i42 e42 => ?_)
        have := i42.1; have := i42.2
        refine lv_istore_n (lv' := [(3, .int w42), (0, .ref (q 0)), (1, .int p0), (2, .int p1)]) hx hb dX6_share_49 rfl hl (by decide) rfl (fun ls hl => ?_)
        refine lv_iload_n hx hb dX6_share_50 rfl (lv_at hl 0 rfl) ?_
        refine lv_if_ne (tgt := 57) hx hb dX6_share_51 (by decide) (fun c43 => ?_) (fun c43 => ?_)
        · skip
          have r43 := (iv_nEq c43)
          refine lv_aload_n hx hb dX6_share_57 rfl (lv_at hl 1 rfl) ?_
          refine b_get (ci := 6) (C := RX6) (T := TX6) (Nf := 29) (v := .ref (q 2)) hx hb hts in_X6_share_X6 hown hK hH 0 (by decide) rfl rfl 2 (by decide) (hts (.fieldLink RX6 13 "StationLineModel" "shares" "[I") (List.mem_of_getElem? (i := 1) rfl)) rfl dX6_share_58 ?_
          refine lv_iload_n hx hb dX6_share_61 rfl (lv_at hl 2 rfl) ?_
          refine b_iald (v := z0.2.1 2 (p0 : Int32).toNatClampNeg) hx hb hK hH 2 (by decide) rfl (iv_in k28 (by decide) (by decide)) rfl dX6_share_62 ?_
          have i45 : iv 0 9 (z0.2.1 2 (p0 : Int32).toNatClampNeg) := IvM_a2 hJ.1 _ (b_inlt (iv_in k28 (by decide) (by decide)))
          have := i45.1; have := i45.2
          refine lv_istore (lv' := [(4, .int (z0.2.1 2 (p0 : Int32).toNatClampNeg)), (3, .int w42), (0, .ref (q 0)), (1, .int p0), (2, .int p1)]) hx hb dX6_share_63 hl (by decide) rfl (fun ls hl => ?_)
          refine lv_aload_n hx hb dX6_share_65 rfl (lv_at hl 2 rfl) ?_
          refine b_get (ci := 6) (C := RX6) (T := TX6) (Nf := 29) (v := .ref (q 2)) hx hb hts in_X6_share_X6 hown hK hH 0 (by decide) rfl rfl 2 (by decide) (hts (.fieldLink RX6 13 "StationLineModel" "shares" "[I") (List.mem_of_getElem? (i := 1) rfl)) rfl dX6_share_66 ?_
          refine lv_iload_n hx hb dX6_share_69 rfl (lv_at hl 3 rfl) ?_
          refine lv_iload_n hx hb dX6_share_70 rfl (lv_at hl 4 rfl) ?_
          refine b_iast hx hb hK hH 2 (by decide) rfl (iv_in k28 (by decide) (by decide)) (upA z0 2 (upd (z0.2.1 2) (p0 : Int32).toNatClampNeg p1)) rfl (enM_A _ _ _ _ _) dX6_share_71 (fun H locs hH => ?_)
          obtain ⟨z46, hz46⟩ : ∃ w : zS, w = upA z0 2 (upd (z0.2.1 2) (p0 : Int32).toNatClampNeg p1) := ⟨_, rfl⟩
          rw [← hz46] at hH
          have hJ : jJ IvM 0 4 0 z0 z46 := by rw [hz46]; exact jJ_A hJ (by decide) (IvM_R2 hJ.1 (rw_up (IvM_a2 hJ.1) _ k34a) (sh_upd (IvM_a2 hJ.1) k28 k34a (w := w42.toInt) (by omega) (by omega)))
          refine lv_iload hx hb dX6_share_72 (lv_at hl 0 rfl) ?_
          exact hret _ z46 H locs _ _ ⟨hJ, (iv_w i45 (by decide) (by decide))⟩ hH dX6_share_74
        · skip
          have r43 := (iv_Eq c43)
          have k47a : iv 0 0 w42 := iv_eql (iv_Eq c43) i42 (iv_lit (n := 0) 0 (by decide)) (by decide) (by decide)
          refine lv_bipush (v := (-2)) hx hb dX6_share_54 (by decide) ?_
          exact hret _ z0 H locs _ _ ⟨hJ, (iv_w (iv_lit (n := (-2)) (-2) (by decide)) (by decide) (by decide))⟩ hH dX6_share_56
      · skip
        have r33 := (iv_nLe c33)
        have k48b : iv 10 2147483647 p1 := iv_ltr (iv_nLe c33) (iv_lit (n := 9) 9 (by decide)) k32b (by decide)
        exact HJ17  z0 H locs ls  hJ hH (lv_sub hl [] rfl)
set_option maxHeartbeats 4000000 in
set_option maxRecDepth 100000 in
theorem g_X6_take_0 (l : Launch) (D : va_G) (cy : Nat → ClassId) (q : Nat → Nat) (hq : bJ 23 q) (z0 : zS) (hI : IvM z0) (p0 : Int32) (p1 : Int32) (p2 : Int32) (p3 : Int32) : bCi l yX6_take wsX6_take ({ frames := 1, cells := 0, slots := 0, locals := 21 }) D cy 23 (enM cy) q z0 [.ref (q 0), .int p0, .int p1, .int p2, .int p3] (fun v z => jJ IvM 64 2 0 z0 z ∧ iv (-2147483648) 2147483647 v ∧ (TakeP (z0.1 0) (z0.2.1 10) (z0.2.1 9) (fun s i => z0.2.1 11 (40 * s + i)) (fun a b => z0.2.1 1 (3 * b + a)) p0 p1 p2 p3 v (fun a b => z.2.1 1 (3 * b + a)))) := by
  refine hM_i cX6_take (by decide) rfl (own := RX6) rfl hq (Nat.le_of_ble_eq_true rfl) ?_
  intro p e s m args below meth c Q ls H locs hx hb hml hown hts hK hZ hH hl hret
  have hl : lv_has ls 8 [(0, .ref (q 0)), (1, .int p0), (2, .int p1), (3, .int p2), (4, .int p3)] := hl
  have hJ : jJ IvM 64 2 0 z0 z0 := jJ_rf _ _ _ hI
  have e00 : (0 : Int32).toInt = 0 := (by decide); have e01 : (1 : Int32).toInt = 1 := (by decide); have e02 : (2 : Int32).toInt = 2 := (by decide); have e03 : (3 : Int32).toInt = 3 := (by decide); have e010 : (10 : Int32).toInt = 10 := (by decide)
  have e100 : (100 : Int32).toInt = 100 := (by decide); have N1 := (IvM_s0 hI).1; have N2 := (IvM_s0 hI).2
  have HL100 : ∀ (n : Nat) (x5_100 : Int32) (x6_100 : Int32) (z_100 : zS) (H : Heap) (locs : List Loc) (ls : Array Slot), iv 0 2 p0 → iv 0 3 p1 → iv 0 10 x6_100 → iv 0 10 (z_100.1 0) → (((z0.1 0).toInt = 0 ∨ (0 ≤ p3.toInt ∧ p3.toInt + (z0.1 0).toInt ≤ 40)) ∧ ((iv 0 2 p0 ∧ iv 0 3 p1 ∧ iv 0 2 p2) ∧ 0 ≤ (z0.2.1 10 p1.toNatClampNeg).toInt ∧ z0.2.1 9 p1.toNatClampNeg = p2 ∧ ¬ (0 < (z0.1 0).toInt ∧ (p3.toInt < 0 ∨ (z0.2.1 10 p1.toNatClampNeg).toInt - (z0.1 0).toInt < p3.toInt))) ∧ x5_100 = cntF (fun b => z0.2.1 11 (40 * p1.toNatClampNeg + b)) p3.toNatClampNeg (x6_100 : Int32).toNatClampNeg ∧ (x6_100 : Int32).toInt ≤ (z0.1 0).toInt ∧ TmM (z0.2.1 1) (fun b => z0.2.1 11 (40 * p1.toNatClampNeg + b)) p0.toNatClampNeg p3.toNatClampNeg (x6_100 : Int32).toNatClampNeg (z_100.2.1 1)) → jJ IvM 64 2 0 z0 z_100 → bH D 23 (enM cy) q z_100 s.heap H locs → lv_has ls 8 [(0, .ref (q 0)), (1, .int p0), (2, .int p1), (4, .int p3), (5, .int x5_100), (6, .int x6_100)] → (10 - x6_100.toInt).toNat = n → W p l e ({ frames := 1, cells := 0, slots := 0, locals := 21 }) s m args below meth c H locs 0 0 Q (F0 m 100 ls []) := by
    intro n100
    induction n100 using Nat.strongRecOn with
    | ind n100 ih100 =>
      intro x5_100 x6_100 z_100 H locs ls h1_100 h2_100 h6_100 gh0_100 ex_100 hJ hH hl hn100
      have := h1_100.1; have := h1_100.2; have := h2_100.1; have := h2_100.2; have := h6_100.1; have := h6_100.2; have := gh0_100.1; have := gh0_100.2
      refine lv_iload hx hb dX6_take_100 (lv_at hl 5 rfl) ?_
      refine lv_aload_n hx hb dX6_take_102 rfl (lv_at hl 0 rfl) ?_
      refine b_get (ci := 6) (C := RX6) (T := TX6) (Nf := 29) (v := .int (z_100.1 0)) hx hb hts in_X6_take_X6 hown hK hH 0 (by decide) rfl rfl 0 (by decide) (hts (.fieldLink RX6 85 "StationLineModel" "tasks" "I") (List.mem_of_getElem? (i := 3) rfl)) rfl dX6_take_103 ?_
      have := gh0_100.1; have := gh0_100.2
      refine lv_icmp_ge (tgt := 190) hx hb dX6_take_106 (by decide) (fun c321 => ?_) (fun c321 => ?_)
      · skip
        have r321 := (iv_Le c321)
        refine lv_iload hx hb dX6_take_190 (lv_at hl 4 rfl) ?_
        exact hret _ z_100 H locs _ _ ⟨hJ, (iv_all x5_100), (TakeP_end ex_100.2.1.1 ex_100.2.1.2.1 ex_100.2.1.2.2.1 ex_100.2.1.2.2.2 (by rw [(show (z0.1 0).toNatClampNeg = (x6_100 : Int32).toNatClampNeg from (by have := ex_100.2.2.2.1; have := iv_Eq (hJ.2.1 0 (by decide)); have := iv_nat (IvM_s0 hI) (by decide); have := iv_nat h6_100 (by decide); omega))]; exact ex_100.2.2.1) (by rw [(show (z0.1 0).toNatClampNeg = (x6_100 : Int32).toNatClampNeg from (by have := ex_100.2.2.2.1; have := iv_Eq (hJ.2.1 0 (by decide)); have := iv_nat (IvM_s0 hI) (by decide); have := iv_nat h6_100 (by decide); omega))]; exact ex_100.2.2.2.2))⟩ hH dX6_take_192
      · skip
        have r321 := (iv_nLe c321)
        have k323a : iv 0 9 x6_100 := iv_ltl (iv_nLe c321) h6_100 gh0_100 (by decide)
        have k323b : iv 1 10 (z_100.1 0) := iv_ltr (iv_nLe c321) h6_100 gh0_100 (by decide)
        have hq0 := iv_Eq (hJ.2.1 0 (by decide)); have tk0 := ex_100.1
        refine lv_aload_n hx hb dX6_take_109 rfl (lv_at hl 0 rfl) ?_
        refine b_get (ci := 6) (C := RX6) (T := TX6) (Nf := 29) (v := .ref (q 11)) hx hb hts in_X6_take_X6 hown hK hH 0 (by decide) rfl rfl 15 (by decide) (hts (.fieldLink RX6 44 "StationLineModel" "sheet" "[I") (List.mem_of_getElem? (i := 4) rfl)) rfl dX6_take_110 ?_
        refine lv_bipush (v := 40) hx hb dX6_take_113 (by decide) ?_
        refine lv_iload_n hx hb dX6_take_115 rfl (lv_at hl 2 rfl) ?_
        refine lv_imul hx hb dX6_take_116 ?_
        refine h_iE (a := 0) (b := 120) (t := 40 * p1.toInt) (iv_mul (iv_lit (n := 40) 40 (by decide)) h2_100 (by decide) (by decide) (by decide) (by decide) (by decide)) ((iv_mulE (iv_lit (n := 40) 40 (by decide)) h2_100 (by decide) (by decide) (by decide)).trans rfl) (fun w324 i324 e324 => ?_)
        have := i324.1; have := i324.2
        have b325 : iv 0 40 p3 := ⟨by omega, by omega⟩
        have := b325.1; have := b325.2
        refine lv_iload hx hb dX6_take_117 (lv_at hl 3 rfl) ?_
        refine lv_iadd hx hb dX6_take_119 ?_
        refine h_iE (a := 0) (b := 160) (iv_add i324 b325 (by decide) (by decide) (by decide) (by decide)) (iv_addE i324 b325 (by decide) (by decide)) (fun w326 i326 e326 => ?_)
        have := i326.1; have := i326.2
        refine lv_iload hx hb dX6_take_120 (lv_at hl 5 rfl) ?_
        refine lv_iadd hx hb dX6_take_122 ?_
        refine h_iE (a := 0) (b := 169) (iv_add i326 k323a (by decide) (by decide) (by decide) (by decide)) (iv_addE i326 k323a (by decide) (by decide)) (fun w327 i327 e327 => ?_)
        have := i327.1; have := i327.2
        have b328 : iv 0 159 w327 := ⟨by omega, by omega⟩
        refine b_iald (v := z_100.2.1 11 (w327 : Int32).toNatClampNeg) hx hb hK hH 11 (by decide) rfl (iv_in b328 (by decide) (by decide)) rfl dX6_take_123 ?_
        refine lv_istore (lv' := [(7, .int (z_100.2.1 11 (w327 : Int32).toNatClampNeg)), (0, .ref (q 0)), (1, .int p0), (2, .int p1), (4, .int p3), (5, .int x5_100), (6, .int x6_100)]) hx hb dX6_take_124 hl (by decide) rfl (fun ls hl => ?_)
        refine lv_aload_n hx hb dX6_take_126 rfl (lv_at hl 1 rfl) ?_
        refine b_get (ci := 6) (C := RX6) (T := TX6) (Nf := 29) (v := .ref (q 1)) hx hb hts in_X6_take_X6 hown hK hH 0 (by decide) rfl rfl 1 (by decide) (hts (.fieldLink RX6 7 "StationLineModel" "times" "[I") (List.mem_of_getElem? (i := 5) rfl)) rfl dX6_take_127 ?_
        refine lv_iconst (v := 3) hx hb dX6_take_130 (by decide) ?_
        refine lv_iload hx hb dX6_take_131 (lv_at hl 6 rfl) ?_
        refine lv_imul hx hb dX6_take_133 ?_
        refine h_iE (a := 0) (b := 27) (t := 3 * x6_100.toInt) (iv_mul (iv_lit (n := 3) 3 (by decide)) k323a (by decide) (by decide) (by decide) (by decide) (by decide)) ((iv_mulE (iv_lit (n := 3) 3 (by decide)) k323a (by decide) (by decide) (by decide)).trans rfl) (fun w329 i329 e329 => ?_)
        have := i329.1; have := i329.2
        refine lv_iload_n hx hb dX6_take_134 rfl (lv_at hl 2 rfl) ?_
        refine lv_iadd hx hb dX6_take_135 ?_
        refine h_iE (a := 0) (b := 29) (iv_add i329 h1_100 (by decide) (by decide) (by decide) (by decide)) (iv_addE i329 h1_100 (by decide) (by decide)) (fun w330 i330 e330 => ?_)
        have := i330.1; have := i330.2
        refine lv_iload hx hb dX6_take_136 (lv_at hl 0 rfl) ?_
        refine lv_iconst (v := 1) hx hb dX6_take_138 (by decide) ?_
        refine lv_icmp_ge (tgt := 146) hx hb dX6_take_139 (by decide) (fun c331 => ?_) (fun c331 => ?_)
        · skip
          have r331 := (iv_Le c331)
          have k332b : iv 1 2147483647 (z_100.2.1 11 (w327 : Int32).toNatClampNeg) := iv_ler (iv_Le c331) (iv_lit (n := 1) 1 (by decide)) (iv_all (z_100.2.1 11 (w327 : Int32).toNatClampNeg))
          refine lv_iload hx hb dX6_take_146 (lv_at hl 0 rfl) ?_
          refine lv_bipush (v := 100) hx hb dX6_take_148 (by decide) ?_
          refine lv_icmp_le (tgt := 158) hx hb dX6_take_150 (by decide) (fun c333 => ?_) (fun c333 => ?_)
          · skip
            have r333 := (iv_Le c333)
            have k334a : iv 1 100 (z_100.2.1 11 (w327 : Int32).toNatClampNeg) := iv_lel (iv_Le c333) k332b (iv_lit (n := 100) 100 (by decide))
            refine lv_iload hx hb dX6_take_158 (lv_at hl 0 rfl) ?_
            refine b_iast hx hb hK hH 1 (by decide) rfl (iv_in i330 (by decide) (by decide)) (upA z_100 1 (upd (z_100.2.1 1) (w330 : Int32).toNatClampNeg (z_100.2.1 11 (w327 : Int32).toNatClampNeg))) rfl (enM_A _ _ _ _ _) dX6_take_160 (fun H locs hH => ?_)
            obtain ⟨z335, hz335⟩ : ∃ w : zS, w = upA z_100 1 (upd (z_100.2.1 1) (w330 : Int32).toNatClampNeg (z_100.2.1 11 (w327 : Int32).toNatClampNeg)) := ⟨_, rfl⟩
            rw [← hz335] at hH
            have hJ : jJ IvM 64 2 0 z0 z335 := by rw [hz335]; exact jJ_A hJ (by decide) (IvM_A1 hJ.1 _ (iv_w k334a (by decide) (by decide)))
            have g336 : iv 1 10 (z335.1 0) := by rw [hz335]; exact k323b
            refine lv_iload hx hb dX6_take_161 (lv_at hl 5 rfl) ?_
            refine lv_iload hx hb dX6_take_163 (lv_at hl 0 rfl) ?_
            refine lv_iconst (v := 1) hx hb dX6_take_165 (by decide) ?_
            refine lv_icmp_lt (tgt := 176) hx hb dX6_take_166 (by decide) (fun c337 => ?_) (fun c337 => ?_)
            · skip
              exact absurd (iv_Lt c337) (by have := k334a.1; have := k334a.2; have := (iv_lit (n := 1) 1 (by decide)).1; have := (iv_lit (n := 1) 1 (by decide)).2; omega)
            · skip
              have r337 := (iv_nLt c337)
              refine lv_iload hx hb dX6_take_169 (lv_at hl 0 rfl) ?_
              refine lv_bipush (v := 100) hx hb dX6_take_171 (by decide) ?_
              refine lv_icmp_le (tgt := 180) hx hb dX6_take_173 (by decide) (fun c339 => ?_) (fun c339 => ?_)
              · skip
                have r339 := (iv_Le c339)
                refine lv_iconst (v := 0) hx hb dX6_take_180 (by decide) ?_
                refine lv_iadd hx hb dX6_take_181 ?_
                refine lv_istore (lv' := [(5, .int (x5_100 + 0)), (7, .int (z_100.2.1 11 (w327 : Int32).toNatClampNeg)), (0, .ref (q 0)), (1, .int p0), (2, .int p1), (4, .int p3), (6, .int x6_100)]) hx hb dX6_take_182 hl (by decide) rfl (fun ls hl => ?_)
                have j341 : iv 1 10 (x6_100 + 1) := iv_add k323a (iv_lit (n := 1) 1 (by decide)) (by decide) (by decide) (by decide) (by decide)
                have e341 : (x6_100 + 1).toInt = x6_100.toInt + 1 := (iv_addE k323a (iv_lit (n := 1) 1 (by decide)) (by decide) (by decide)).trans rfl
                refine lv_iinc (v := (x6_100 + 1)) (lv' := [(6, .int (x6_100 + 1)), (5, .int (x5_100 + 0)), (7, .int (z_100.2.1 11 (w327 : Int32).toNatClampNeg)), (0, .ref (q 0)), (1, .int p0), (2, .int p1), (4, .int p3)]) hx hb dX6_take_184 hl (k := 6) rfl rfl (by decide) rfl (fun ls hl => ?_)
                refine lv_goto (tgt := 100) hx hb dX6_take_187 (by decide) ?_
                exact ih100 _ (ms_up e341 j341.2 hn100) (x5_100 + 0) (x6_100 + 1) z335 H locs ls h1_100 h2_100 (iv_w j341 (by decide) (by decide)) (iv_w g336 (by decide) (by decide)) ⟨ex_100.1, ex_100.2.1, cn_in ex_100.2.2.1 (by have := iv_nat k323a (by decide); have := iv_nat j341 (by decide); omega) (show z_100.2.1 11 (w327 : Int32).toNatClampNeg = z0.2.1 11 (40 * p1.toNatClampNeg + (p3.toNatClampNeg + (x6_100 : Int32).toNatClampNeg)) by rw [show z_100.2.1 11 = z0.2.1 11 from ((((show z335.2.1 11 = z_100.2.1 11 by rw [hz335]; first | rfl | exact upA_n (by omega)))).symm.trans (hJ.2.2.1 11 (by decide))), (show (w327 : Int32).toNatClampNeg = 40 * p1.toNatClampNeg + (p3.toNatClampNeg + (x6_100 : Int32).toNatClampNeg) from (by have := iv_nat (a := 0) (b := 40) (x := p3) ⟨by omega, by omega⟩ (by decide); have := iv_nat (a := 0) (b := 159) (x := w327) ⟨by omega, by omega⟩ (by decide); have := iv_nat k323a (by decide); have := iv_nat h2_100 (by decide); omega))]) (by omega), by omega, (by rw [hz335, upA_e]; exact tmm_st ex_100.2.2.2.2 (show (w330 : Int32).toNatClampNeg = 3 * (x6_100 : Int32).toNatClampNeg + p0.toNatClampNeg from (by have := iv_nat (a := 0) (b := 29) (x := w330) ⟨by omega, by omega⟩ (by decide); have := iv_nat k323a (by decide); have := iv_nat h1_100 (by decide); omega)) (by have := iv_nat h1_100 (by decide); omega) (cl_mid (by omega) (by omega)) (show z_100.2.1 11 (w327 : Int32).toNatClampNeg = z0.2.1 11 (40 * p1.toNatClampNeg + (p3.toNatClampNeg + (x6_100 : Int32).toNatClampNeg)) by rw [show z_100.2.1 11 = z0.2.1 11 from ((((show z335.2.1 11 = z_100.2.1 11 by rw [hz335]; first | rfl | exact upA_n (by omega)))).symm.trans (hJ.2.2.1 11 (by decide))), (show (w327 : Int32).toNatClampNeg = 40 * p1.toNatClampNeg + (p3.toNatClampNeg + (x6_100 : Int32).toNatClampNeg) from (by have := iv_nat (a := 0) (b := 40) (x := p3) ⟨by omega, by omega⟩ (by decide); have := iv_nat (a := 0) (b := 159) (x := w327) ⟨by omega, by omega⟩ (by decide); have := iv_nat k323a (by decide); have := iv_nat h2_100 (by decide); omega))]) (by have := iv_nat k323a (by decide); have := iv_nat j341 (by decide); omega))⟩ hJ hH (lv_sub hl [3, 4, 5, 6, 1, 0] rfl) rfl
              · skip
                exact absurd (iv_nLe c339) (by have := (iv_lit (n := 100) 100 (by decide)).1; have := (iv_lit (n := 100) 100 (by decide)).2; have := k334a.1; have := k334a.2; omega)
          · skip
            have r333 := (iv_nLe c333)
            have k342b : iv 101 2147483647 (z_100.2.1 11 (w327 : Int32).toNatClampNeg) := iv_ltr (iv_nLe c333) (iv_lit (n := 100) 100 (by decide)) k332b (by decide)
            refine lv_bipush (v := 100) hx hb dX6_take_153 (by decide) ?_
            refine lv_goto (tgt := 160) hx hb dX6_take_155 (by decide) ?_
            refine b_iast hx hb hK hH 1 (by decide) rfl (iv_in i330 (by decide) (by decide)) (upA z_100 1 (upd (z_100.2.1 1) (w330 : Int32).toNatClampNeg 100)) rfl (enM_A _ _ _ _ _) dX6_take_160 (fun H locs hH => ?_)
            obtain ⟨z343, hz343⟩ : ∃ w : zS, w = upA z_100 1 (upd (z_100.2.1 1) (w330 : Int32).toNatClampNeg 100) := ⟨_, rfl⟩
            rw [← hz343] at hH
            have hJ : jJ IvM 64 2 0 z0 z343 := by rw [hz343]; exact jJ_A hJ (by decide) (IvM_A1 hJ.1 _ (iv_w (iv_lit (n := 100) 100 (by decide)) (by decide) (by decide)))
            have g344 : iv 1 10 (z343.1 0) := by rw [hz343]; exact k323b
            refine lv_iload hx hb dX6_take_161 (lv_at hl 5 rfl) ?_
            refine lv_iload hx hb dX6_take_163 (lv_at hl 0 rfl) ?_
            refine lv_iconst (v := 1) hx hb dX6_take_165 (by decide) ?_
            refine lv_icmp_lt (tgt := 176) hx hb dX6_take_166 (by decide) (fun c345 => ?_) (fun c345 => ?_)
            · skip
              exact absurd (iv_Lt c345) (by have := k342b.1; have := k342b.2; have := (iv_lit (n := 1) 1 (by decide)).1; have := (iv_lit (n := 1) 1 (by decide)).2; omega)
            · skip
              have r345 := (iv_nLt c345)
              refine lv_iload hx hb dX6_take_169 (lv_at hl 0 rfl) ?_
              refine lv_bipush (v := 100) hx hb dX6_take_171 (by decide) ?_
              refine lv_icmp_le (tgt := 180) hx hb dX6_take_173 (by decide) (fun c347 => ?_) (fun c347 => ?_)
              · skip
                exact absurd (iv_Le c347) (by have := k342b.1; have := k342b.2; have := (iv_lit (n := 100) 100 (by decide)).1; have := (iv_lit (n := 100) 100 (by decide)).2; omega)
              · skip
                have r347 := (iv_nLe c347)
                refine lv_iconst (v := 1) hx hb dX6_take_176 (by decide) ?_
                refine lv_goto (tgt := 181) hx hb dX6_take_177 (by decide) ?_
                refine lv_iadd hx hb dX6_take_181 ?_
                refine lv_istore (lv' := [(5, .int (x5_100 + 1)), (7, .int (z_100.2.1 11 (w327 : Int32).toNatClampNeg)), (0, .ref (q 0)), (1, .int p0), (2, .int p1), (4, .int p3), (6, .int x6_100)]) hx hb dX6_take_182 hl (by decide) rfl (fun ls hl => ?_)
                have j349 : iv 1 10 (x6_100 + 1) := iv_add k323a (iv_lit (n := 1) 1 (by decide)) (by decide) (by decide) (by decide) (by decide)
                have e349 : (x6_100 + 1).toInt = x6_100.toInt + 1 := (iv_addE k323a (iv_lit (n := 1) 1 (by decide)) (by decide) (by decide)).trans rfl
                refine lv_iinc (v := (x6_100 + 1)) (lv' := [(6, .int (x6_100 + 1)), (5, .int (x5_100 + 1)), (7, .int (z_100.2.1 11 (w327 : Int32).toNatClampNeg)), (0, .ref (q 0)), (1, .int p0), (2, .int p1), (4, .int p3)]) hx hb dX6_take_184 hl (k := 6) rfl rfl (by decide) rfl (fun ls hl => ?_)
                refine lv_goto (tgt := 100) hx hb dX6_take_187 (by decide) ?_
                exact ih100 _ (ms_up e349 j349.2 hn100) (x5_100 + 1) (x6_100 + 1) z343 H locs ls h1_100 h2_100 (iv_w j349 (by decide) (by decide)) (iv_w g344 (by decide) (by decide)) ⟨ex_100.1, ex_100.2.1, cn_out ex_100.2.2.1 (by have := iv_nat k323a (by decide); have := iv_nat j349 (by decide); omega) (show z_100.2.1 11 (w327 : Int32).toNatClampNeg = z0.2.1 11 (40 * p1.toNatClampNeg + (p3.toNatClampNeg + (x6_100 : Int32).toNatClampNeg)) by rw [show z_100.2.1 11 = z0.2.1 11 from ((((show z343.2.1 11 = z_100.2.1 11 by rw [hz343]; first | rfl | exact upA_n (by omega)))).symm.trans (hJ.2.2.1 11 (by decide))), (show (w327 : Int32).toNatClampNeg = 40 * p1.toNatClampNeg + (p3.toNatClampNeg + (x6_100 : Int32).toNatClampNeg) from (by have := iv_nat (a := 0) (b := 40) (x := p3) ⟨by omega, by omega⟩ (by decide); have := iv_nat (a := 0) (b := 159) (x := w327) ⟨by omega, by omega⟩ (by decide); have := iv_nat k323a (by decide); have := iv_nat h2_100 (by decide); omega))]) (by omega), by omega, (by rw [hz343, upA_e]; exact tmm_st ex_100.2.2.2.2 (show (w330 : Int32).toNatClampNeg = 3 * (x6_100 : Int32).toNatClampNeg + p0.toNatClampNeg from (by have := iv_nat (a := 0) (b := 29) (x := w330) ⟨by omega, by omega⟩ (by decide); have := iv_nat k323a (by decide); have := iv_nat h1_100 (by decide); omega)) (by have := iv_nat h1_100 (by decide); omega) (cl_hi (by omega)) (show z_100.2.1 11 (w327 : Int32).toNatClampNeg = z0.2.1 11 (40 * p1.toNatClampNeg + (p3.toNatClampNeg + (x6_100 : Int32).toNatClampNeg)) by rw [show z_100.2.1 11 = z0.2.1 11 from ((((show z343.2.1 11 = z_100.2.1 11 by rw [hz343]; first | rfl | exact upA_n (by omega)))).symm.trans (hJ.2.2.1 11 (by decide))), (show (w327 : Int32).toNatClampNeg = 40 * p1.toNatClampNeg + (p3.toNatClampNeg + (x6_100 : Int32).toNatClampNeg) from (by have := iv_nat (a := 0) (b := 40) (x := p3) ⟨by omega, by omega⟩ (by decide); have := iv_nat (a := 0) (b := 159) (x := w327) ⟨by omega, by omega⟩ (by decide); have := iv_nat k323a (by decide); have := iv_nat h2_100 (by decide); omega))]) (by have := iv_nat k323a (by decide); have := iv_nat j349 (by decide); omega))⟩ hJ hH (lv_sub hl [3, 4, 5, 6, 1, 0] rfl) rfl
        · skip
          have r331 := (iv_nLe c331)
          have k350a : iv (-2147483648) 0 (z_100.2.1 11 (w327 : Int32).toNatClampNeg) := iv_ltl (iv_nLe c331) (iv_all (z_100.2.1 11 (w327 : Int32).toNatClampNeg)) (iv_lit (n := 1) 1 (by decide)) (by decide)
          refine lv_iconst (v := 1) hx hb dX6_take_142 (by decide) ?_
          refine lv_goto (tgt := 160) hx hb dX6_take_143 (by decide) ?_
          refine b_iast hx hb hK hH 1 (by decide) rfl (iv_in i330 (by decide) (by decide)) (upA z_100 1 (upd (z_100.2.1 1) (w330 : Int32).toNatClampNeg 1)) rfl (enM_A _ _ _ _ _) dX6_take_160 (fun H locs hH => ?_)
          obtain ⟨z351, hz351⟩ : ∃ w : zS, w = upA z_100 1 (upd (z_100.2.1 1) (w330 : Int32).toNatClampNeg 1) := ⟨_, rfl⟩
          rw [← hz351] at hH
          have hJ : jJ IvM 64 2 0 z0 z351 := by rw [hz351]; exact jJ_A hJ (by decide) (IvM_A1 hJ.1 _ (iv_w (iv_lit (n := 1) 1 (by decide)) (by decide) (by decide)))
          have g352 : iv 1 10 (z351.1 0) := by rw [hz351]; exact k323b
          refine lv_iload hx hb dX6_take_161 (lv_at hl 5 rfl) ?_
          refine lv_iload hx hb dX6_take_163 (lv_at hl 0 rfl) ?_
          refine lv_iconst (v := 1) hx hb dX6_take_165 (by decide) ?_
          refine lv_icmp_lt (tgt := 176) hx hb dX6_take_166 (by decide) (fun c353 => ?_) (fun c353 => ?_)
          · skip
            have r353 := (iv_Lt c353)
            refine lv_iconst (v := 1) hx hb dX6_take_176 (by decide) ?_
            refine lv_goto (tgt := 181) hx hb dX6_take_177 (by decide) ?_
            refine lv_iadd hx hb dX6_take_181 ?_
            refine lv_istore (lv' := [(5, .int (x5_100 + 1)), (7, .int (z_100.2.1 11 (w327 : Int32).toNatClampNeg)), (0, .ref (q 0)), (1, .int p0), (2, .int p1), (4, .int p3), (6, .int x6_100)]) hx hb dX6_take_182 hl (by decide) rfl (fun ls hl => ?_)
            have j355 : iv 1 10 (x6_100 + 1) := iv_add k323a (iv_lit (n := 1) 1 (by decide)) (by decide) (by decide) (by decide) (by decide)
            have e355 : (x6_100 + 1).toInt = x6_100.toInt + 1 := (iv_addE k323a (iv_lit (n := 1) 1 (by decide)) (by decide) (by decide)).trans rfl
            refine lv_iinc (v := (x6_100 + 1)) (lv' := [(6, .int (x6_100 + 1)), (5, .int (x5_100 + 1)), (7, .int (z_100.2.1 11 (w327 : Int32).toNatClampNeg)), (0, .ref (q 0)), (1, .int p0), (2, .int p1), (4, .int p3)]) hx hb dX6_take_184 hl (k := 6) rfl rfl (by decide) rfl (fun ls hl => ?_)
            refine lv_goto (tgt := 100) hx hb dX6_take_187 (by decide) ?_
            exact ih100 _ (ms_up e355 j355.2 hn100) (x5_100 + 1) (x6_100 + 1) z351 H locs ls h1_100 h2_100 (iv_w j355 (by decide) (by decide)) (iv_w g352 (by decide) (by decide)) ⟨ex_100.1, ex_100.2.1, cn_out ex_100.2.2.1 (by have := iv_nat k323a (by decide); have := iv_nat j355 (by decide); omega) (show z_100.2.1 11 (w327 : Int32).toNatClampNeg = z0.2.1 11 (40 * p1.toNatClampNeg + (p3.toNatClampNeg + (x6_100 : Int32).toNatClampNeg)) by rw [show z_100.2.1 11 = z0.2.1 11 from ((((show z351.2.1 11 = z_100.2.1 11 by rw [hz351]; first | rfl | exact upA_n (by omega)))).symm.trans (hJ.2.2.1 11 (by decide))), (show (w327 : Int32).toNatClampNeg = 40 * p1.toNatClampNeg + (p3.toNatClampNeg + (x6_100 : Int32).toNatClampNeg) from (by have := iv_nat (a := 0) (b := 40) (x := p3) ⟨by omega, by omega⟩ (by decide); have := iv_nat (a := 0) (b := 159) (x := w327) ⟨by omega, by omega⟩ (by decide); have := iv_nat k323a (by decide); have := iv_nat h2_100 (by decide); omega))]) (by omega), by omega, (by rw [hz351, upA_e]; exact tmm_st ex_100.2.2.2.2 (show (w330 : Int32).toNatClampNeg = 3 * (x6_100 : Int32).toNatClampNeg + p0.toNatClampNeg from (by have := iv_nat (a := 0) (b := 29) (x := w330) ⟨by omega, by omega⟩ (by decide); have := iv_nat k323a (by decide); have := iv_nat h1_100 (by decide); omega)) (by have := iv_nat h1_100 (by decide); omega) (cl_lo (by omega)) (show z_100.2.1 11 (w327 : Int32).toNatClampNeg = z0.2.1 11 (40 * p1.toNatClampNeg + (p3.toNatClampNeg + (x6_100 : Int32).toNatClampNeg)) by rw [show z_100.2.1 11 = z0.2.1 11 from ((((show z351.2.1 11 = z_100.2.1 11 by rw [hz351]; first | rfl | exact upA_n (by omega)))).symm.trans (hJ.2.2.1 11 (by decide))), (show (w327 : Int32).toNatClampNeg = 40 * p1.toNatClampNeg + (p3.toNatClampNeg + (x6_100 : Int32).toNatClampNeg) from (by have := iv_nat (a := 0) (b := 40) (x := p3) ⟨by omega, by omega⟩ (by decide); have := iv_nat (a := 0) (b := 159) (x := w327) ⟨by omega, by omega⟩ (by decide); have := iv_nat k323a (by decide); have := iv_nat h2_100 (by decide); omega))]) (by have := iv_nat k323a (by decide); have := iv_nat j355 (by decide); omega))⟩ hJ hH (lv_sub hl [3, 4, 5, 6, 1, 0] rfl) rfl
          · skip
            exact absurd (iv_nLt c353) (by have := (iv_lit (n := 1) 1 (by decide)).1; have := (iv_lit (n := 1) 1 (by decide)).2; have := k350a.1; have := k350a.2; omega)
  refine lv_iload_n hx hb dX6_take_0 rfl (lv_at hl 1 rfl) ?_
  refine b_stati (As := [.int p0]) (rest := []) ⟨hx, hb, hml, hown, hts⟩ (g_X6_isMake l D cy q hH.2.1 z0 hJ.1 p0) (va_cwS 1 hts gX6_take_X6_isMake rfl rfl rfl (by decide +kernel) ⟨Nat.le_of_ble_eq_true rfl, Nat.le_of_ble_eq_true rfl⟩) hK hZ hH rfl hl.1 rfl (Nat.le_of_ble_eq_true rfl) ⟨Nat.zero_le _, Nat.zero_le _⟩ dX6_take_1 (fun w356 z356 H locs hp hH => ?_)
  rw [Ag_0 hp.1.2] at hH
  have i356 := hp.2.1
  have := i356.1; have := i356.2
  have tr356_0 := hp.2.2.1
  have f356_0 := hp.2.2.2
  refine lv_if_eq (tgt := 23) hx hb dX6_take_4 (by decide) (fun c357 => ?_) (fun c357 => ?_)
  · skip
    have r357 := (iv_Eq c357)
    have k358a : iv 0 0 w356 := iv_eql (iv_Eq c357) i356 (iv_lit (n := 0) 0 (by decide)) (by decide) (by decide)
    refine lv_bipush (v := (-2)) hx hb dX6_take_23 (by decide) ?_
    exact hret _ z0 H locs _ _ ⟨hJ, (iv_w (iv_lit (n := (-2)) (-2) (by decide)) (by decide) (by decide)), (TakeP_bad (fun q => absurd q.1 (f356_0.mp c357)) rfl (fun _ _ _ _ => rfl))⟩ hH dX6_take_25
  · skip
    have k359 : iv 0 2 p0 := (tr356_0).resolve_left c357
    have := k359.1; have := k359.2
    have r357 := (iv_nEq c357)
    have k360a : iv 1 1 w356 := iv_neLo (iv_nEq c357) i356 (by decide) (by decide)
    refine lv_iload_n hx hb dX6_take_7 rfl (lv_at hl 2 rfl) ?_
    refine b_stati (As := [.int p1]) (rest := []) ⟨hx, hb, hml, hown, hts⟩ (g_X6_isSheet l D cy q hH.2.1 z0 hJ.1 p1) (va_cwS 1 hts gX6_take_X6_isSheet rfl rfl rfl (by decide +kernel) ⟨Nat.le_of_ble_eq_true rfl, Nat.le_of_ble_eq_true rfl⟩) hK hZ hH rfl hl.1 rfl (Nat.le_of_ble_eq_true rfl) ⟨Nat.zero_le _, Nat.zero_le _⟩ dX6_take_8 (fun w361 z361 H locs hp hH => ?_)
    rw [Ag_0 hp.1.2] at hH
    have i361 := hp.2.1
    have := i361.1; have := i361.2
    have tr361_0 := hp.2.2.1
    have f361_0 := hp.2.2.2
    refine lv_if_eq (tgt := 23) hx hb dX6_take_11 (by decide) (fun c362 => ?_) (fun c362 => ?_)
    · skip
      have r362 := (iv_Eq c362)
      have k363a : iv 0 0 w361 := iv_eql (iv_Eq c362) i361 (iv_lit (n := 0) 0 (by decide)) (by decide) (by decide)
      refine lv_bipush (v := (-2)) hx hb dX6_take_23 (by decide) ?_
      exact hret _ z0 H locs _ _ ⟨hJ, (iv_w (iv_lit (n := (-2)) (-2) (by decide)) (by decide) (by decide)), (TakeP_bad (fun q => absurd q.2.1 (f361_0.mp c362)) rfl (fun _ _ _ _ => rfl))⟩ hH dX6_take_25
    · skip
      have k364 : iv 0 3 p1 := (tr361_0).resolve_left c362
      have := k364.1; have := k364.2
      have r362 := (iv_nEq c362)
      have k365a : iv 1 1 w361 := iv_neLo (iv_nEq c362) i361 (by decide) (by decide)
      refine lv_iload_n hx hb dX6_take_14 rfl (lv_at hl 3 rfl) ?_
      refine lv_if_lt (tgt := 23) hx hb dX6_take_15 (by decide) (fun c366 => ?_) (fun c366 => ?_)
      · skip
        have r366 := (iv_Lt c366)
        have k367a : iv (-2147483648) (-1) p2 := iv_ltl (iv_Lt c366) (iv_all p2) (iv_lit (n := 0) 0 (by decide)) (by decide)
        refine lv_bipush (v := (-2)) hx hb dX6_take_23 (by decide) ?_
        exact hret _ z0 H locs _ _ ⟨hJ, (iv_w (iv_lit (n := (-2)) (-2) (by decide)) (by decide) (by decide)), (TakeP_bad (fun q => (by have := q.2.2.1; have := q.2.2.2; omega)) rfl (fun _ _ _ _ => rfl))⟩ hH dX6_take_25
      · skip
        have r366 := (iv_nLt c366)
        have k368b : iv 0 2147483647 p2 := iv_ler (iv_nLt c366) (iv_lit (n := 0) 0 (by decide)) (iv_all p2)
        refine lv_iload_n hx hb dX6_take_18 rfl (lv_at hl 3 rfl) ?_
        refine lv_iconst (v := 2) hx hb dX6_take_19 (by decide) ?_
        refine lv_icmp_le (tgt := 26) hx hb dX6_take_20 (by decide) (fun c369 => ?_) (fun c369 => ?_)
        · skip
          have r369 := (iv_Le c369)
          have k370a : iv 0 2 p2 := iv_lel (iv_Le c369) k368b (iv_lit (n := 2) 2 (by decide))
          refine lv_aload_n hx hb dX6_take_26 rfl (lv_at hl 0 rfl) ?_
          refine b_get (ci := 6) (C := RX6) (T := TX6) (Nf := 29) (v := .ref (q 10)) hx hb hts in_X6_take_X6 hown hK hH 0 (by decide) rfl rfl 14 (by decide) (hts (.fieldLink RX6 41 "StationLineModel" "sheetSize" "[I") (List.mem_of_getElem? (i := 1) rfl)) rfl dX6_take_27 ?_
          refine lv_iload_n hx hb dX6_take_30 rfl (lv_at hl 2 rfl) ?_
          refine b_iald (v := z0.2.1 10 (p1 : Int32).toNatClampNeg) hx hb hK hH 10 (by decide) rfl (iv_in k364 (by decide) (by decide)) rfl dX6_take_31 ?_
          have i371 : iv (-1) 40 (z0.2.1 10 (p1 : Int32).toNatClampNeg) := IvM_a10 hJ.1 _ (b_inlt (iv_in k364 (by decide) (by decide)))
          have := i371.1; have := i371.2
          refine lv_if_ge (tgt := 42) hx hb dX6_take_32 (by decide) (fun c372 => ?_) (fun c372 => ?_)
          · skip
            have r372 := (iv_Le c372)
            have k373b : iv 0 40 (z0.2.1 10 (p1 : Int32).toNatClampNeg) := iv_ler (iv_Le c372) (iv_lit (n := 0) 0 (by decide)) i371
            refine lv_aload_n hx hb dX6_take_42 rfl (lv_at hl 0 rfl) ?_
            refine b_get (ci := 6) (C := RX6) (T := TX6) (Nf := 29) (v := .ref (q 9)) hx hb hts in_X6_take_X6 hown hK hH 0 (by decide) rfl rfl 13 (by decide) (hts (.fieldLink RX6 38 "StationLineModel" "sheetSort" "[I") (List.mem_of_getElem? (i := 2) rfl)) rfl dX6_take_43 ?_
            refine lv_iload_n hx hb dX6_take_46 rfl (lv_at hl 2 rfl) ?_
            refine b_iald (v := z0.2.1 9 (p1 : Int32).toNatClampNeg) hx hb hK hH 9 (by decide) rfl (iv_in k364 (by decide) (by decide)) rfl dX6_take_47 ?_
            refine lv_iload_n hx hb dX6_take_48 rfl (lv_at hl 3 rfl) ?_
            refine lv_icmp_eq (tgt := 59) hx hb dX6_take_49 (by decide) (fun c374 => ?_) (fun c374 => ?_)
            · skip
              have r374 := (iv_Eq c374)
              have k375a : iv 0 2 (z0.2.1 9 (p1 : Int32).toNatClampNeg) := iv_eql (iv_Eq c374) (iv_all (z0.2.1 9 (p1 : Int32).toNatClampNeg)) k370a (by decide) (by decide)
              refine lv_aload_n hx hb dX6_take_59 rfl (lv_at hl 0 rfl) ?_
              refine b_get (ci := 6) (C := RX6) (T := TX6) (Nf := 29) (v := .int (z0.1 0)) hx hb hts in_X6_take_X6 hown hK hH 0 (by decide) rfl rfl 0 (by decide) (hts (.fieldLink RX6 85 "StationLineModel" "tasks" "I") (List.mem_of_getElem? (i := 3) rfl)) rfl dX6_take_60 ?_
              have i376 := IvM_s0 hJ.1
              have := i376.1; have := i376.2
              refine lv_if_le (tgt := 94) hx hb dX6_take_63 (by decide) (fun c377 => ?_) (fun c377 => ?_)
              · skip
                have r377 := (iv_Le c377)
                have k378a : iv 0 0 (z0.1 0) := iv_lel (iv_Le c377) i376 (iv_lit (n := 0) 0 (by decide))
                refine lv_iconst (v := 0) hx hb dX6_take_94 (by decide) ?_
                refine lv_istore (lv' := [(5, .int 0), (0, .ref (q 0)), (1, .int p0), (2, .int p1), (3, .int p2), (4, .int p3)]) hx hb dX6_take_95 hl (by decide) rfl (fun ls hl => ?_)
                refine lv_iconst (v := 0) hx hb dX6_take_97 (by decide) ?_
                refine lv_istore (lv' := [(6, .int 0), (5, .int 0), (0, .ref (q 0)), (1, .int p0), (2, .int p1), (3, .int p2), (4, .int p3)]) hx hb dX6_take_98 hl (by decide) rfl (fun ls hl => ?_)
                exact HL100 _ 0 0 z0 H locs ls k359 k364 (iv_w (iv_lit (n := 0) 0 (by decide)) (by decide) (by decide)) (iv_w k378a (by decide) (by decide)) ⟨by omega, ⟨⟨(iv_w k359 (by decide) (by decide)), (iv_w k364 (by decide) (by decide)), (iv_w k370a (by decide) (by decide))⟩, by omega, c374, fun q => absurd q.2 (by have := q.1; omega)⟩, cnt_0, by omega, tmm_0⟩ hJ hH (lv_sub hl [2, 3, 4, 6, 1, 0] rfl) rfl
              · skip
                have r377 := (iv_nLe c377)
                have k379b : iv 1 10 (z0.1 0) := iv_ltr (iv_nLe c377) (iv_lit (n := 0) 0 (by decide)) i376 (by decide)
                refine lv_iload hx hb dX6_take_66 (lv_at hl 4 rfl) ?_
                refine lv_if_lt (tgt := 87) hx hb dX6_take_68 (by decide) (fun c380 => ?_) (fun c380 => ?_)
                · skip
                  have r380 := (iv_Lt c380)
                  have k381a : iv (-2147483648) (-1) p3 := iv_ltl (iv_Lt c380) (iv_all p3) (iv_lit (n := 0) 0 (by decide)) (by decide)
                  refine lv_aload_n hx hb dX6_take_87 rfl (lv_at hl 0 rfl) ?_
                  refine lv_bipush (v := (-11)) hx hb dX6_take_88 (by decide) ?_
                  refine b_calli (As := [.int (-11)]) (rest := []) ⟨hx, hb, hml, hown, hts⟩ 0 6 (g_X6_meet_0 l D cy q hH.2.1 z0 hJ.1 (-11)) (cwV 1 hts gX6_take_X6_meet rfl rfl rfl (by decide +kernel) ⟨Nat.le_of_ble_eq_true rfl, Nat.le_of_ble_eq_true rfl⟩) hK hZ hH (by decide) rfl rfl rfl hl.1 rfl (Nat.le_of_ble_eq_true rfl) ⟨Nat.zero_le _, Nat.zero_le _⟩ dX6_take_90 (fun w382 z382 H locs hp hH => ?_)
                  have hJ := jJ_tr hJ hp.1 (by decide) (by decide) (by decide)
                  have f382_0 := hp.2.2
                  have hA382 := hp.1.2
                  have g383 : iv 1 10 (z382.1 0) := by rw [(hp.1).2.1 0 (by decide)]; exact k379b
                  exact hret _ z382 H locs _ _ ⟨hJ, (iv_all w382), (TakeP_11 ⟨(iv_w k359 (by decide) (by decide)), (iv_w k364 (by decide) (by decide)), (iv_w k370a (by decide) (by decide))⟩ (by omega) c374 ⟨by omega, by omega⟩ f382_0 (m_T (hA382.2.1 1 (by decide))))⟩ hH dX6_take_93
                · skip
                  have r380 := (iv_nLt c380)
                  have k384b : iv 0 2147483647 p3 := iv_ler (iv_nLt c380) (iv_lit (n := 0) 0 (by decide)) (iv_all p3)
                  refine lv_iload hx hb dX6_take_71 (lv_at hl 4 rfl) ?_
                  refine lv_aload_n hx hb dX6_take_73 rfl (lv_at hl 0 rfl) ?_
                  refine b_get (ci := 6) (C := RX6) (T := TX6) (Nf := 29) (v := .ref (q 10)) hx hb hts in_X6_take_X6 hown hK hH 0 (by decide) rfl rfl 14 (by decide) (hts (.fieldLink RX6 41 "StationLineModel" "sheetSize" "[I") (List.mem_of_getElem? (i := 1) rfl)) rfl dX6_take_74 ?_
                  refine lv_iload_n hx hb dX6_take_77 rfl (lv_at hl 2 rfl) ?_
                  refine b_iald (v := z0.2.1 10 (p1 : Int32).toNatClampNeg) hx hb hK hH 10 (by decide) rfl (iv_in k364 (by decide) (by decide)) rfl dX6_take_78 ?_
                  have i385 : iv (-1) 40 (z0.2.1 10 (p1 : Int32).toNatClampNeg) := IvM_a10 hJ.1 _ (b_inlt (iv_in k364 (by decide) (by decide)))
                  have := i385.1; have := i385.2
                  refine lv_aload_n hx hb dX6_take_79 rfl (lv_at hl 0 rfl) ?_
                  refine b_get (ci := 6) (C := RX6) (T := TX6) (Nf := 29) (v := .int (z0.1 0)) hx hb hts in_X6_take_X6 hown hK hH 0 (by decide) rfl rfl 0 (by decide) (hts (.fieldLink RX6 85 "StationLineModel" "tasks" "I") (List.mem_of_getElem? (i := 3) rfl)) rfl dX6_take_80 ?_
                  have := k379b.1; have := k379b.2
                  refine lv_isub hx hb dX6_take_83 ?_
                  refine h_iE (a := (-11)) (b := 39) (iv_sub i385 k379b (by decide) (by decide) (by decide) (by decide)) (iv_subE i385 k379b (by decide) (by decide)) (fun w386 i386 e386 => ?_)
                  have := i386.1; have := i386.2
                  refine lv_icmp_le (tgt := 94) hx hb dX6_take_84 (by decide) (fun c387 => ?_) (fun c387 => ?_)
                  · skip
                    have r387 := (iv_Le c387)
                    have k388a : iv 0 39 p3 := iv_lel (iv_Le c387) k384b i386
                    have k388b : iv 0 39 w386 := iv_ler (iv_Le c387) k384b i386
                    refine lv_iconst (v := 0) hx hb dX6_take_94 (by decide) ?_
                    refine lv_istore (lv' := [(5, .int 0), (0, .ref (q 0)), (1, .int p0), (2, .int p1), (3, .int p2), (4, .int p3)]) hx hb dX6_take_95 hl (by decide) rfl (fun ls hl => ?_)
                    refine lv_iconst (v := 0) hx hb dX6_take_97 (by decide) ?_
                    refine lv_istore (lv' := [(6, .int 0), (5, .int 0), (0, .ref (q 0)), (1, .int p0), (2, .int p1), (3, .int p2), (4, .int p3)]) hx hb dX6_take_98 hl (by decide) rfl (fun ls hl => ?_)
                    exact HL100 _ 0 0 z0 H locs ls k359 k364 (iv_w (iv_lit (n := 0) 0 (by decide)) (by decide) (by decide)) (iv_w k379b (by decide) (by decide)) ⟨by omega, ⟨⟨(iv_w k359 (by decide) (by decide)), (iv_w k364 (by decide) (by decide)), (iv_w k370a (by decide) (by decide))⟩, by omega, c374, fun q => absurd q.2 (by have := q.1; omega)⟩, cnt_0, by omega, tmm_0⟩ hJ hH (lv_sub hl [2, 3, 4, 6, 1, 0] rfl) rfl
                  · skip
                    have r387 := (iv_nLe c387)
                    refine lv_aload_n hx hb dX6_take_87 rfl (lv_at hl 0 rfl) ?_
                    refine lv_bipush (v := (-11)) hx hb dX6_take_88 (by decide) ?_
                    refine b_calli (As := [.int (-11)]) (rest := []) ⟨hx, hb, hml, hown, hts⟩ 0 6 (g_X6_meet_0 l D cy q hH.2.1 z0 hJ.1 (-11)) (cwV 1 hts gX6_take_X6_meet rfl rfl rfl (by decide +kernel) ⟨Nat.le_of_ble_eq_true rfl, Nat.le_of_ble_eq_true rfl⟩) hK hZ hH (by decide) rfl rfl rfl hl.1 rfl (Nat.le_of_ble_eq_true rfl) ⟨Nat.zero_le _, Nat.zero_le _⟩ dX6_take_90 (fun w390 z390 H locs hp hH => ?_)
                    have hJ := jJ_tr hJ hp.1 (by decide) (by decide) (by decide)
                    have f390_0 := hp.2.2
                    have hA390 := hp.1.2
                    have g391 : iv 1 10 (z390.1 0) := by rw [(hp.1).2.1 0 (by decide)]; exact k379b
                    exact hret _ z390 H locs _ _ ⟨hJ, (iv_all w390), (TakeP_11 ⟨(iv_w k359 (by decide) (by decide)), (iv_w k364 (by decide) (by decide)), (iv_w k370a (by decide) (by decide))⟩ (by omega) c374 ⟨by omega, by omega⟩ f390_0 (m_T (hA390.2.1 1 (by decide))))⟩ hH dX6_take_93
            · skip
              have r374 := (iv_nEq c374)
              refine lv_aload_n hx hb dX6_take_52 rfl (lv_at hl 0 rfl) ?_
              refine lv_bipush (v := (-12)) hx hb dX6_take_53 (by decide) ?_
              refine b_calli (As := [.int (-12)]) (rest := []) ⟨hx, hb, hml, hown, hts⟩ 0 6 (g_X6_meet_0 l D cy q hH.2.1 z0 hJ.1 (-12)) (cwV 1 hts gX6_take_X6_meet rfl rfl rfl (by decide +kernel) ⟨Nat.le_of_ble_eq_true rfl, Nat.le_of_ble_eq_true rfl⟩) hK hZ hH (by decide) rfl rfl rfl hl.1 rfl (Nat.le_of_ble_eq_true rfl) ⟨Nat.zero_le _, Nat.zero_le _⟩ dX6_take_55 (fun w393 z393 H locs hp hH => ?_)
              have hJ := jJ_tr hJ hp.1 (by decide) (by decide) (by decide)
              have f393_0 := hp.2.2
              have hA393 := hp.1.2
              exact hret _ z393 H locs _ _ ⟨hJ, (iv_all w393), (TakeP_12 ⟨(iv_w k359 (by decide) (by decide)), (iv_w k364 (by decide) (by decide)), (iv_w k370a (by decide) (by decide))⟩ (by omega) c374 f393_0 (m_T (hA393.2.1 1 (by decide))))⟩ hH dX6_take_58
          · skip
            have r372 := (iv_nLe c372)
            have k394a : iv (-1) (-1) (z0.2.1 10 (p1 : Int32).toNatClampNeg) := iv_ltl (iv_nLe c372) i371 (iv_lit (n := 0) 0 (by decide)) (by decide)
            refine lv_aload_n hx hb dX6_take_35 rfl (lv_at hl 0 rfl) ?_
            refine lv_bipush (v := (-10)) hx hb dX6_take_36 (by decide) ?_
            refine b_calli (As := [.int (-10)]) (rest := []) ⟨hx, hb, hml, hown, hts⟩ 0 6 (g_X6_meet_0 l D cy q hH.2.1 z0 hJ.1 (-10)) (cwV 1 hts gX6_take_X6_meet rfl rfl rfl (by decide +kernel) ⟨Nat.le_of_ble_eq_true rfl, Nat.le_of_ble_eq_true rfl⟩) hK hZ hH (by decide) rfl rfl rfl hl.1 rfl (Nat.le_of_ble_eq_true rfl) ⟨Nat.zero_le _, Nat.zero_le _⟩ dX6_take_38 (fun w395 z395 H locs hp hH => ?_)
            have hJ := jJ_tr hJ hp.1 (by decide) (by decide) (by decide)
            have f395_0 := hp.2.2
            have hA395 := hp.1.2
            exact hret _ z395 H locs _ _ ⟨hJ, (iv_all w395), (TakeP_10 ⟨(iv_w k359 (by decide) (by decide)), (iv_w k364 (by decide) (by decide)), (iv_w k370a (by decide) (by decide))⟩ (by omega) f395_0 (m_T (hA395.2.1 1 (by decide))))⟩ hH dX6_take_41
        · skip
          have r369 := (iv_nLe c369)
          have k396b : iv 3 2147483647 p2 := iv_ltr (iv_nLe c369) (iv_lit (n := 2) 2 (by decide)) k368b (by decide)
          refine lv_bipush (v := (-2)) hx hb dX6_take_23 (by decide) ?_
          exact hret _ z0 H locs _ _ ⟨hJ, (iv_w (iv_lit (n := (-2)) (-2) (by decide)) (by decide) (by decide)), (TakeP_bad (fun q => (by have := q.2.2.1; have := q.2.2.2; omega)) rfl (fun _ _ _ _ => rfl))⟩ hH dX6_take_25
set_option maxHeartbeats 4000000 in
set_option maxRecDepth 100000 in
theorem g_X6_leading_0 (l : Launch) (D : va_G) (cy : Nat → ClassId) (q : Nat → Nat) (hq : bJ 23 q) (z0 : zS) (hI : IvM z0) (p0 : Int32) (hp0 : iv 0 9 p0) : bCi l yX6_leading wsX6_leading ({ frames := 1, cells := 0, slots := 0, locals := 21 }) D cy 23 (enM cy) q z0 [.ref (q 0), .int p0] (fun v z => jJ IvM 0 0 0 z0 z ∧ iv (-2147483648) 2147483647 v ∧ (LdP (z0.2.1 3) (z0.1 0).toNatClampNeg p0.toNatClampNeg v) ∧ (∀ x : Nat, Rch (z0.2.1 3) (z0.1 0).toNatClampNeg p0.toNatClampNeg x → bitN v x)) := by
  refine hM_i cX6_leading (by decide) rfl (own := RX6) rfl hq (Nat.le_of_ble_eq_true rfl) ?_
  intro p e s m args below meth c Q ls H locs hx hb hml hown hts hK hZ hH hl hret
  have hl : lv_has ls 5 [(0, .ref (q 0)), (1, .int p0)] := hl
  have hJ : jJ IvM 0 0 0 z0 z0 := jJ_rf _ _ _ hI
  have e00 : (0 : Int32).toInt = 0 := (by decide); have e01 : (1 : Int32).toInt = 1 := (by decide); have e02 : (2 : Int32).toInt = 2 := (by decide); have e03 : (3 : Int32).toInt = 3 := (by decide); have e010 : (10 : Int32).toInt = 10 := (by decide)
  have HL9 : ∀ (n : Nat) (x2_9 : Int32) (x3_9 : Int32) (H : Heap) (locs : List Loc) (ls : Array Slot), ((LdP (z0.2.1 3) (z0.1 0).toNatClampNeg p0.toNatClampNeg x2_9 ∧ subB x3_9 x2_9) ∧ ClS (z0.2.1 3) (z0.1 0).toNatClampNeg p0.toNatClampNeg x3_9 x2_9) → bH D 23 (enM cy) q z0 s.heap H locs → lv_has ls 5 [(0, .ref (q 0)), (2, .int x2_9), (3, .int x3_9)] → (4294967296 - x3_9.toBitVec.toNat) = n → W p l e ({ frames := 1, cells := 0, slots := 0, locals := 21 }) s m args below meth c H locs 0 0 Q (F0 m 9 ls []) := by
    intro n9
    induction n9 using Nat.strongRecOn with
    | ind n9 ih9 =>
      intro x2_9 x3_9 H locs ls ex_9 hH hl hn9
      have HL19 : ∀ (n : Nat) (x2_19 : Int32) (x3_19 : Int32) (x4_19 : Int32) (H : Heap) (locs : List Loc) (ls : Array Slot), iv 0 10 x4_19 → (x3_19 = x2_9 ∧ ¬ x2_9 = x3_9 ∧ (LdP (z0.2.1 3) (z0.1 0).toNatClampNeg p0.toNatClampNeg x2_19 ∧ subB x2_9 x2_19) ∧ ClS (z0.2.1 3) (x4_19 : Int32).toNatClampNeg p0.toNatClampNeg x2_9 x2_19 ∧ (x4_19 : Int32).toInt ≤ (z0.1 0).toInt) → bH D 23 (enM cy) q z0 s.heap H locs → lv_has ls 5 [(0, .ref (q 0)), (2, .int x2_19), (3, .int x3_19), (4, .int x4_19)] → (10 - x4_19.toInt).toNat = n → W p l e ({ frames := 1, cells := 0, slots := 0, locals := 21 }) s m args below meth c H locs 0 0 Q (F0 m 19 ls []) := by
        intro n19
        induction n19 using Nat.strongRecOn with
        | ind n19 ih19 =>
          intro x2_19 x3_19 x4_19 H locs ls h4_19 ex_19 hH hl hn19
          have := h4_19.1; have := h4_19.2
          refine lv_iload hx hb dX6_leading_19 (lv_at hl 3 rfl) ?_
          refine lv_aload_n hx hb dX6_leading_21 rfl (lv_at hl 0 rfl) ?_
          refine b_get (ci := 6) (C := RX6) (T := TX6) (Nf := 29) (v := .int (z0.1 0)) hx hb hts in_X6_leading_X6 hown hK hH 0 (by decide) rfl rfl 0 (by decide) (hts (.fieldLink RX6 85 "StationLineModel" "tasks" "I") (List.mem_of_getElem? (i := 2) rfl)) rfl dX6_leading_22 ?_
          have i91 := IvM_s0 hJ.1
          have := i91.1; have := i91.2
          refine lv_icmp_ge (tgt := 57) hx hb dX6_leading_25 (by decide) (fun c92 => ?_) (fun c92 => ?_)
          · skip
            have r92 := (iv_Le c92)
            refine lv_goto (tgt := 9) hx hb dX6_leading_57 (by decide) ?_
            exact ih9 _ (by rw [ex_19.1]; rw [← hn9]; exact ld_meas ex_9.1.2 ex_19.2.1) x2_19 x3_19  H locs ls ⟨⟨ex_19.2.2.1.1, ex_19.1 ▸ ex_19.2.2.1.2⟩, (by rw [ex_19.1]; exact (show (x4_19 : Int32).toNatClampNeg = (z0.1 0).toNatClampNeg from (by have := ex_19.2.2.2.2; have := iv_Eq (hJ.2.1 0 (by decide)); have := iv_nat (IvM_s0 hI) (by decide); have := iv_nat h4_19 (by decide); omega)) ▸ ex_19.2.2.2.1)⟩  hH (lv_sub hl [0, 1, 2] rfl) rfl
          · skip
            have r92 := (iv_nLe c92)
            have k94a : iv 0 9 x4_19 := iv_ltl (iv_nLe c92) h4_19 i91 (by decide)
            have k94b : iv 1 10 (z0.1 0) := iv_ltr (iv_nLe c92) h4_19 i91 (by decide)
            refine lv_iload_n hx hb dX6_leading_28 rfl (lv_at hl 1 rfl) ?_
            refine lv_iload_n hx hb dX6_leading_29 rfl (lv_at hl 1 rfl) ?_
            refine lv_iload hx hb dX6_leading_30 (lv_at hl 3 rfl) ?_
            refine b_stati (As := [.int x2_19, .int x4_19]) (rest := [.int x2_19]) ⟨hx, hb, hml, hown, hts⟩ (g_X6_in l D cy q hH.2.1 z0 hJ.1 x2_19 x4_19) (va_cwS 2 hts gX6_leading_X6_in rfl rfl rfl (by decide +kernel) ⟨Nat.le_of_ble_eq_true rfl, Nat.le_of_ble_eq_true rfl⟩) hK hZ hH rfl hl.1 rfl (Nat.le_of_ble_eq_true rfl) ⟨Nat.zero_le _, Nat.zero_le _⟩ dX6_leading_32 (fun w95 z95 H locs hp hH => ?_)
            rw [Ag_0 hp.1.2] at hH
            have i95 := hp.2.1
            have := i95.1; have := i95.2
            have f95_0 := hp.2.2
            refine lv_if_eq (tgt := 48) hx hb dX6_leading_35 (by decide) (fun c96 => ?_) (fun c96 => ?_)
            · skip
              have r96 := (iv_Eq c96)
              have k97a : iv 0 0 w95 := iv_eql (iv_Eq c96) i95 (iv_lit (n := 0) 0 (by decide)) (by decide) (by decide)
              refine lv_iconst (v := 0) hx hb dX6_leading_48 (by decide) ?_
              refine lv_ior hx hb dX6_leading_49 ?_
              refine lv_istore_n (lv' := [(2, .int (x2_19 ||| 0)), (0, .ref (q 0)), (3, .int x3_19), (4, .int x4_19)]) hx hb dX6_leading_50 rfl hl (by decide) rfl (fun ls hl => ?_)
              have j99 : iv 1 10 (x4_19 + 1) := iv_add k94a (iv_lit (n := 1) 1 (by decide)) (by decide) (by decide) (by decide) (by decide)
              have e99 : (x4_19 + 1).toInt = x4_19.toInt + 1 := (iv_addE k94a (iv_lit (n := 1) 1 (by decide)) (by decide) (by decide)).trans rfl
              refine lv_iinc (v := (x4_19 + 1)) (lv' := [(4, .int (x4_19 + 1)), (2, .int (x2_19 ||| 0)), (0, .ref (q 0)), (3, .int x3_19)]) hx hb dX6_leading_51 hl (k := 3) rfl rfl (by decide) rfl (fun ls hl => ?_)
              refine lv_goto (tgt := 19) hx hb dX6_leading_54 (by decide) ?_
              exact ih19 _ (ms_up e99 j99.2 hn19) (x2_19 ||| 0) x3_19 (x4_19 + 1)  H locs ls (iv_w j99 (by decide) (by decide)) ⟨ex_19.1, ex_19.2.1, ld_0 ex_19.2.2.1, cs_no ex_19.2.2.2.1 ex_19.2.2.1.2 (iv_w k94a (by decide) (by decide)) f95_0 c96 (by have := iv_nat k94a (by decide); have := iv_nat j99 (by decide); omega), by have := iv_Eq (hJ.2.1 0 (by decide)); omega⟩  hH (lv_sub hl [2, 1, 3, 0] rfl) rfl
            · skip
              have r96 := (iv_nEq c96)
              have k100a : iv 1 1 w95 := iv_neLo (iv_nEq c96) i95 (by decide) (by decide)
              refine lv_aload_n hx hb dX6_leading_38 rfl (lv_at hl 0 rfl) ?_
              refine b_get (ci := 6) (C := RX6) (T := TX6) (Nf := 29) (v := .ref (q 3)) hx hb hts in_X6_leading_X6 hown hK hH 0 (by decide) rfl rfl 3 (by decide) (hts (.fieldLink RX6 16 "StationLineModel" "straight" "[I") (List.mem_of_getElem? (i := 1) rfl)) rfl dX6_leading_39 ?_
              refine lv_iload hx hb dX6_leading_42 (lv_at hl 3 rfl) ?_
              refine b_iald (v := z0.2.1 3 (x4_19 : Int32).toNatClampNeg) hx hb hK hH 3 (by decide) rfl (iv_in k94a (by decide) (by decide)) rfl dX6_leading_44 ?_
              refine lv_goto (tgt := 49) hx hb dX6_leading_45 (by decide) ?_
              refine lv_ior hx hb dX6_leading_49 ?_
              refine lv_istore_n (lv' := [(2, .int (x2_19 ||| (z0.2.1 3 (x4_19 : Int32).toNatClampNeg))), (0, .ref (q 0)), (3, .int x3_19), (4, .int x4_19)]) hx hb dX6_leading_50 rfl hl (by decide) rfl (fun ls hl => ?_)
              have j102 : iv 1 10 (x4_19 + 1) := iv_add k94a (iv_lit (n := 1) 1 (by decide)) (by decide) (by decide) (by decide) (by decide)
              have e102 : (x4_19 + 1).toInt = x4_19.toInt + 1 := (iv_addE k94a (iv_lit (n := 1) 1 (by decide)) (by decide) (by decide)).trans rfl
              refine lv_iinc (v := (x4_19 + 1)) (lv' := [(4, .int (x4_19 + 1)), (2, .int (x2_19 ||| (z0.2.1 3 (x4_19 : Int32).toNatClampNeg))), (0, .ref (q 0)), (3, .int x3_19)]) hx hb dX6_leading_51 hl (k := 3) rfl rfl (by decide) rfl (fun ls hl => ?_)
              refine lv_goto (tgt := 19) hx hb dX6_leading_54 (by decide) ?_
              exact ih19 _ (ms_up e102 j102.2 hn19) (x2_19 ||| (z0.2.1 3 (x4_19 : Int32).toNatClampNeg)) x3_19 (x4_19 + 1)  H locs ls (iv_w j102 (by decide) (by decide)) ⟨ex_19.1, ex_19.2.1, ld_k ex_19.2.2.1 k94a (by have e1 := iv_nat k94a (by decide); have e2 := iv_nat (IvM_s0 hJ.1) (by decide); omega) f95_0 c96, cs_yes ex_19.2.2.2.1 (by have := iv_nat k94a (by decide); have := iv_nat j102 (by decide); omega), by have := iv_Eq (hJ.2.1 0 (by decide)); omega⟩  hH (lv_sub hl [2, 1, 3, 0] rfl) rfl
      refine lv_iload_n hx hb dX6_leading_9 rfl (lv_at hl 1 rfl) ?_
      refine lv_iload_n hx hb dX6_leading_10 rfl (lv_at hl 2 rfl) ?_
      refine lv_icmp_eq (tgt := 60) hx hb dX6_leading_11 (by decide) (fun c103 => ?_) (fun c103 => ?_)
      · skip
        have r103 := (iv_Eq c103)
        refine lv_iload_n hx hb dX6_leading_60 rfl (lv_at hl 1 rfl) ?_
        exact hret _ z0 H locs _ _ ⟨hJ, (iv_all x2_9), ex_9.1.1, (cs_end ex_9.2 c103)⟩ hH dX6_leading_61
      · skip
        have r103 := (iv_nEq c103)
        refine lv_iload_n hx hb dX6_leading_14 rfl (lv_at hl 1 rfl) ?_
        refine lv_istore_n (lv' := [(3, .int x2_9), (0, .ref (q 0)), (2, .int x2_9)]) hx hb dX6_leading_15 rfl hl (by decide) rfl (fun ls hl => ?_)
        refine lv_iconst (v := 0) hx hb dX6_leading_16 (by decide) ?_
        refine lv_istore (lv' := [(4, .int 0), (3, .int x2_9), (0, .ref (q 0)), (2, .int x2_9)]) hx hb dX6_leading_17 hl (by decide) rfl (fun ls hl => ?_)
        exact HL19 _ x2_9 x2_9 0  H locs ls (iv_w (iv_lit (n := 0) 0 (by decide)) (by decide) (by decide)) ⟨rfl, c103, ⟨ex_9.1.1, subB_rf _⟩, cs_1 ex_9.2, by have := (IvM_s0 hI).1; omega⟩  hH (lv_sub hl [2, 3, 1, 0] rfl) rfl
  refine lv_aload_n hx hb dX6_leading_0 rfl (lv_at hl 0 rfl) ?_
  refine b_get (ci := 6) (C := RX6) (T := TX6) (Nf := 29) (v := .ref (q 3)) hx hb hts in_X6_leading_X6 hown hK hH 0 (by decide) rfl rfl 3 (by decide) (hts (.fieldLink RX6 16 "StationLineModel" "straight" "[I") (List.mem_of_getElem? (i := 1) rfl)) rfl dX6_leading_1 ?_
  refine lv_iload_n hx hb dX6_leading_4 rfl (lv_at hl 1 rfl) ?_
  refine b_iald (v := z0.2.1 3 (p0 : Int32).toNatClampNeg) hx hb hK hH 3 (by decide) rfl (iv_in hp0 (by decide) (by decide)) rfl dX6_leading_5 ?_
  refine lv_istore_n (lv' := [(2, .int (z0.2.1 3 (p0 : Int32).toNatClampNeg)), (0, .ref (q 0)), (1, .int p0)]) hx hb dX6_leading_6 rfl hl (by decide) rfl (fun ls hl => ?_)
  refine lv_iconst (v := 0) hx hb dX6_leading_7 (by decide) ?_
  refine lv_istore_n (lv' := [(3, .int 0), (2, .int (z0.2.1 3 (p0 : Int32).toNatClampNeg)), (0, .ref (q 0)), (1, .int p0)]) hx hb dX6_leading_8 rfl hl (by decide) rfl (fun ls hl => ?_)
  exact HL9 _ (z0.2.1 3 (p0 : Int32).toNatClampNeg) 0  H locs ls ⟨⟨fun x _ q => Rch_one q, subB_0 _⟩, cs_0⟩  hH (lv_sub hl [2, 1, 0] rfl) rfl
set_option maxHeartbeats 4000000 in
set_option maxRecDepth 100000 in
theorem g_X6_following_0 (l : Launch) (D : va_G) (cy : Nat → ClassId) (q : Nat → Nat) (hq : bJ 23 q) (z0 : zS) (hI : IvM z0) (p0 : Int32) (hp0 : iv 0 9 p0) : bCi l yX6_following wsX6_following ({ frames := 2, cells := 0, slots := 0, locals := 45 }) D cy 23 (enM cy) q z0 [.ref (q 0), .int p0] (fun v z => jJ IvM 0 0 0 z0 z ∧ iv 0 1023 v) := by
  refine hM_i cX6_following (by decide) rfl (own := RX6) rfl hq (Nat.le_of_ble_eq_true rfl) ?_
  intro p e s m args below meth c Q ls H locs hx hb hml hown hts hK hZ hH hl hret
  have hl : lv_has ls 4 [(0, .ref (q 0)), (1, .int p0)] := hl
  have hJ : jJ IvM 0 0 0 z0 z0 := jJ_rf _ _ _ hI
  have HL4 : ∀ (n : Nat) (x2_4 : Int32) (x3_4 : Int32) (H : Heap) (locs : List Loc) (ls : Array Slot), iv 0 1023 x2_4 → iv 0 10 x3_4 → bH D 23 (enM cy) q z0 s.heap H locs → lv_has ls 4 [(0, .ref (q 0)), (1, .int p0), (2, .int x2_4), (3, .int x3_4)] → (10 - x3_4.toInt).toNat = n → W p l e ({ frames := 2, cells := 0, slots := 0, locals := 45 }) s m args below meth c H locs 0 0 Q (F0 m 4 ls []) := by
    intro n4
    induction n4 using Nat.strongRecOn with
    | ind n4 ih4 =>
      intro x2_4 x3_4 H locs ls h2_4 h3_4 hH hl hn4
      have HJ32 : ∀ (t0_32 : Int32) (t1_32 : Int32) (H : Heap) (locs : List Loc) (ls : Array Slot), iv 0 9 x3_4 → iv 0 512 t0_32 → iv 0 1023 t1_32 → iv 1 10 (z0.1 0) → bH D 23 (enM cy) q z0 s.heap H locs → lv_has ls 4 [(0, .ref (q 0)), (1, .int p0), (3, .int x3_4)] → W p l e ({ frames := 2, cells := 0, slots := 0, locals := 45 }) s m args below meth c H locs 0 0 Q (F0 m 32 ls [.int t0_32, .int t1_32]) := by
        intro t0_32 t1_32 H locs ls h3_32 g0_32 g1_32 gh0_32 hH hl
        refine lv_ior hx hb dX6_following_32 ?_
        refine h_i (a := 0) (b := 1023) (iv_or 10 (b := 1023) (d := 512) (iv_w g1_32 (by decide) (by decide)) (iv_w g0_32 (by decide) (by decide)) (by decide) (by decide) (by decide) (by decide)) (fun w85 i85 => ?_)
        refine lv_istore_n (lv' := [(2, .int w85), (0, .ref (q 0)), (1, .int p0), (3, .int x3_4)]) hx hb dX6_following_33 rfl hl (by decide) rfl (fun ls hl => ?_)
        have j86 : iv 1 10 (x3_4 + 1) := iv_add h3_32 (iv_lit (n := 1) 1 (by decide)) (by decide) (by decide) (by decide) (by decide)
        have e86 : (x3_4 + 1).toInt = x3_4.toInt + 1 := (iv_addE h3_32 (iv_lit (n := 1) 1 (by decide)) (by decide) (by decide)).trans rfl
        refine lv_iinc (v := (x3_4 + 1)) (lv' := [(3, .int (x3_4 + 1)), (2, .int w85), (0, .ref (q 0)), (1, .int p0)]) hx hb dX6_following_34 hl (k := 3) rfl rfl (by decide) rfl (fun ls hl => ?_)
        refine lv_goto (tgt := 4) hx hb dX6_following_37 (by decide) ?_
        exact ih4 _ (ms_up e86 j86.2 hn4) w85 (x3_4 + 1)  H locs ls i85 (iv_w j86 (by decide) (by decide))  hH (lv_sub hl [2, 3, 1, 0] rfl) rfl
      refine lv_iload_n hx hb dX6_following_4 rfl (lv_at hl 3 rfl) ?_
      refine lv_aload_n hx hb dX6_following_5 rfl (lv_at hl 0 rfl) ?_
      refine b_get (ci := 6) (C := RX6) (T := TX6) (Nf := 29) (v := .int (z0.1 0)) hx hb hts in_X6_following_X6 hown hK hH 0 (by decide) rfl rfl 0 (by decide) (hts (.fieldLink RX6 85 "StationLineModel" "tasks" "I") (List.mem_of_getElem? (i := 1) rfl)) rfl dX6_following_6 ?_
      have i87 := IvM_s0 hJ.1
      refine lv_icmp_ge (tgt := 40) hx hb dX6_following_9 (by decide) (fun c88 => ?_) (fun c88 => ?_)
      · skip
        refine lv_iload_n hx hb dX6_following_40 rfl (lv_at hl 2 rfl) ?_
        exact hret _ z0 H locs _ _ ⟨hJ, h2_4⟩ hH dX6_following_41
      · skip
        have k90a : iv 0 9 x3_4 := iv_ltl (iv_nLe c88) h3_4 i87 (by decide)
        have k90b : iv 1 10 (z0.1 0) := iv_ltr (iv_nLe c88) h3_4 i87 (by decide)
        refine lv_iload_n hx hb dX6_following_12 rfl (lv_at hl 2 rfl) ?_
        refine lv_aload_n hx hb dX6_following_13 rfl (lv_at hl 0 rfl) ?_
        refine lv_iload_n hx hb dX6_following_14 rfl (lv_at hl 3 rfl) ?_
        refine b_calli (As := [.int x3_4]) (rest := [.int x2_4]) ⟨hx, hb, hml, hown, hts⟩ 0 6 (g_X6_leading_0 l D cy q hH.2.1 z0 hJ.1 x3_4 k90a) (cwV 1 hts gX6_following_X6_leading rfl rfl rfl (by decide +kernel) ⟨Nat.le_of_ble_eq_true rfl, Nat.le_of_ble_eq_true rfl⟩) hK hZ hH (by decide) rfl rfl rfl hl.1 rfl (Nat.le_of_ble_eq_true rfl) ⟨Nat.zero_le _, Nat.zero_le _⟩ dX6_following_15 (fun w91 z91 H locs hp hH => ?_)
        rw [Ag_0 hp.1.2] at hH
        have f91_0 := hp.2.2.1
        have f91_1 := hp.2.2.2
        refine lv_iload_n hx hb dX6_following_18 rfl (lv_at hl 1 rfl) ?_
        refine b_stati (As := [.int w91, .int p0]) (rest := [.int x2_4]) ⟨hx, hb, hml, hown, hts⟩ (g_X6_in l D cy q hH.2.1 z0 hJ.1 w91 p0) (va_cwS 2 hts gX6_following_X6_in rfl rfl rfl (by decide +kernel) ⟨Nat.le_of_ble_eq_true rfl, Nat.le_of_ble_eq_true rfl⟩) hK hZ hH rfl hl.1 rfl (Nat.le_of_ble_eq_true rfl) ⟨Nat.zero_le _, Nat.zero_le _⟩ dX6_following_19 (fun w92 z92 H locs hp hH => ?_)
        rw [Ag_0 hp.1.2] at hH
        have i92 := hp.2.1
        have f92_0 := hp.2.2
        refine lv_if_eq (tgt := 31) hx hb dX6_following_22 (by decide) (fun c93 => ?_) (fun c93 => ?_)
        · skip
          have k94a : iv 0 0 w92 := iv_eql (iv_Eq c93) i92 (iv_lit (n := 0) 0 (by decide)) (by decide) (by decide)
          refine lv_iconst (v := 0) hx hb dX6_following_31 (by decide) ?_
          exact HJ32 0 x2_4  H locs ls k90a (iv_w (iv_lit (n := 0) 0 (by decide)) (by decide) (by decide)) h2_4 k90b  hH (lv_sub hl [0, 1, 3] rfl)
        · skip
          have k95a : iv 1 1 w92 := iv_neLo (iv_nEq c93) i92 (by decide) (by decide)
          refine lv_iconst (v := 1) hx hb dX6_following_25 (by decide) ?_
          refine lv_iload_n hx hb dX6_following_26 rfl (lv_at hl 3 rfl) ?_
          refine lv_ishl hx hb dX6_following_27 ?_
          refine h_i (a := 1) (b := 512) (iv_bit k90a (by decide) (by decide)) (fun w96 i96 => ?_)
          refine lv_goto (tgt := 32) hx hb dX6_following_28 (by decide) ?_
          exact HJ32 w96 x2_4  H locs ls k90a (iv_w i96 (by decide) (by decide)) h2_4 k90b  hH (lv_sub hl [0, 1, 3] rfl)
  refine lv_iconst (v := 0) hx hb dX6_following_0 (by decide) ?_
  refine lv_istore_n (lv' := [(2, .int 0), (0, .ref (q 0)), (1, .int p0)]) hx hb dX6_following_1 rfl hl (by decide) rfl (fun ls hl => ?_)
  refine lv_iconst (v := 0) hx hb dX6_following_2 (by decide) ?_
  refine lv_istore_n (lv' := [(3, .int 0), (2, .int 0), (0, .ref (q 0)), (1, .int p0)]) hx hb dX6_following_3 rfl hl (by decide) rfl (fun ls hl => ?_)
  exact HL4 _ 0 0  H locs ls (iv_w (iv_lit (n := 0) 0 (by decide)) (by decide) (by decide)) (iv_w (iv_lit (n := 0) 0 (by decide)) (by decide) (by decide))  hH (lv_sub hl [2, 3, 1, 0] rfl) rfl
set_option maxHeartbeats 4000000 in
set_option maxRecDepth 100000 in
theorem g_X6_findRing_0 (l : Launch) (D : va_G) (cy : Nat → ClassId) (q : Nat → Nat) (hq : bJ 23 q) (z0 : zS) (hI : IvM z0) (p0 : Int32) (hp0 : iv 0 9 p0) (p1 : Int32) (hp1 : iv 0 9 p1) (hpre : p0.toInt < (z0.1 0).toInt ∧ p1.toInt < (z0.1 0).toInt ∧ (p0 = p1 ∨ Rch (z0.2.1 3) (z0.1 0).toNatClampNeg p0.toNatClampNeg p1.toNatClampNeg)) : bCv l yX6_findRing wsX6_findRing ({ frames := 1, cells := 0, slots := 0, locals := 21 }) D cy 23 (enM cy) q z0 [.ref (q 0), .int p0, .int p1] (fun z => jJ IvM 8 8320 0 z0 z ∧ (∃ g : Nat → Int32, FRn (z0.2.1 3) g (z0.1 0).toNatClampNeg p0.toNatClampNeg (z0.1 0).toNatClampNeg ∧ 0 ≤ (g p1.toNatClampNeg).toInt ∧ RgQ (z0.2.1 3) g (z0.1 0).toNatClampNeg p0 p1 (z.1 3) (z.2.1 7))) := by
  refine hM_v cX6_findRing (by decide) rfl (own := RX6) rfl hq (Nat.le_of_ble_eq_true rfl) ?_
  intro p e s m args below meth c Q ls H locs hx hb hml hown hts hK hZ hH hl hret
  have hl : lv_has ls 6 [(0, .ref (q 0)), (1, .int p0), (2, .int p1)] := hl
  have hJ : jJ IvM 8 8320 0 z0 z0 := jJ_rf _ _ _ hI
  have e00 : (0 : Int32).toInt = 0 := (by decide); have e01 : (1 : Int32).toInt = 1 := (by decide); have e02 : (2 : Int32).toInt = 2 := (by decide); have e03 : (3 : Int32).toInt = 3 := (by decide); have e010 : (10 : Int32).toInt = 10 := (by decide)
  have eN := iv_nat (IvM_s0 hI) (by decide); have N1 := (IvM_s0 hI).1; have N2 := (IvM_s0 hI).2; have := hpre.1; have := hpre.2.1; have := hp0.1; have := hp1.1
  have HL2 : ∀ (n : Nat) (x3_2 : Int32) (z_2 : zS) (H : Heap) (locs : List Loc) (ls : Array Slot), iv 0 10 x3_2 → (FR0 (z_2.2.1 13) p0.toNatClampNeg (x3_2 : Int32).toNatClampNeg) → jJ IvM 8 8320 0 z0 z_2 → bH D 23 (enM cy) q z_2 s.heap H locs → lv_has ls 6 [(0, .ref (q 0)), (1, .int p0), (2, .int p1), (3, .int x3_2)] → (10 - x3_2.toInt).toNat = n → W p l e ({ frames := 1, cells := 0, slots := 0, locals := 21 }) s m args below meth c H locs 0 0 Q (F0 m 2 ls []) := by
    intro n2
    induction n2 using Nat.strongRecOn with
    | ind n2 ih2 =>
      intro x3_2 z_2 H locs ls h3_2 ex_2 hJ hH hl hn2
      have := h3_2.1; have := h3_2.2
      have HL34 : ∀ (n : Nat) (x3_34 : Int32) (z_34 : zS) (H : Heap) (locs : List Loc) (ls : Array Slot), iv 1 11 x3_34 → (FRn (z0.2.1 3) (z_34.2.1 13) (z0.1 0).toNatClampNeg p0.toNatClampNeg ((x3_34 : Int32).toInt - 1) ∧ (x3_34 : Int32).toInt ≤ (z0.1 0).toInt + 1) → jJ IvM 8 8320 0 z0 z_34 → bH D 23 (enM cy) q z_34 s.heap H locs → lv_has ls 6 [(0, .ref (q 0)), (1, .int p0), (2, .int p1), (3, .int x3_34)] → (11 - x3_34.toInt).toNat = n → W p l e ({ frames := 1, cells := 0, slots := 0, locals := 21 }) s m args below meth c H locs 0 0 Q (F0 m 34 ls []) := by
        intro n34
        induction n34 using Nat.strongRecOn with
        | ind n34 ih34 =>
          intro x3_34 z_34 H locs ls h3_34 ex_34 hJ hH hl hn34
          have := h3_34.1; have := h3_34.2
          have HL45 : ∀ (n : Nat) (x4_45 : Int32) (z_45 : zS) (H : Heap) (locs : List Loc) (ls : Array Slot), iv 1 10 x3_34 → iv 0 10 x4_45 → iv 1 10 (z_45.1 0) → (FRt (z0.2.1 3) (z_45.2.1 13) (z0.1 0).toNatClampNeg p0.toNatClampNeg (x3_34 : Int32).toInt (x4_45 : Int32).toNatClampNeg ∧ (x3_34 : Int32).toInt ≤ (z0.1 0).toInt) → jJ IvM 8 8320 0 z0 z_45 → bH D 23 (enM cy) q z_45 s.heap H locs → lv_has ls 6 [(0, .ref (q 0)), (1, .int p0), (2, .int p1), (3, .int x3_34), (4, .int x4_45)] → (10 - x4_45.toInt).toNat = n → W p l e ({ frames := 1, cells := 0, slots := 0, locals := 21 }) s m args below meth c H locs 0 0 Q (F0 m 45 ls []) := by
            intro n45
            induction n45 using Nat.strongRecOn with
            | ind n45 ih45 =>
              intro x4_45 z_45 H locs ls h3_45 h4_45 gh0_45 ex_45 hJ hH hl hn45
              have := h3_45.1; have := h3_45.2; have := h4_45.1; have := h4_45.2; have := gh0_45.1; have := gh0_45.2
              have HL57 : ∀ (n : Nat) (x5_57 : Int32) (z_57 : zS) (H : Heap) (locs : List Loc) (ls : Array Slot), iv 0 9 x4_45 → iv 0 10 x5_57 → iv 1 10 (z_57.1 0) → (FRk (z0.2.1 3) (z_57.2.1 13) (z0.1 0).toNatClampNeg p0.toNatClampNeg (x3_34 : Int32).toInt (x4_45 : Int32).toNatClampNeg (x5_57 : Int32).toNatClampNeg ∧ (x4_45 : Int32).toInt < (z0.1 0).toInt) → jJ IvM 8 8320 0 z0 z_57 → bH D 23 (enM cy) q z_57 s.heap H locs → lv_has ls 6 [(0, .ref (q 0)), (1, .int p0), (2, .int p1), (3, .int x3_34), (4, .int x4_45), (5, .int x5_57)] → (10 - x5_57.toInt).toNat = n → W p l e ({ frames := 1, cells := 0, slots := 0, locals := 21 }) s m args below meth c H locs 0 0 Q (F0 m 57 ls []) := by
                intro n57
                induction n57 using Nat.strongRecOn with
                | ind n57 ih57 =>
                  intro x5_57 z_57 H locs ls h4_57 h5_57 gh0_57 ex_57 hJ hH hl hn57
                  have := h4_57.1; have := h4_57.2; have := h5_57.1; have := h5_57.2; have := gh0_57.1; have := gh0_57.2
                  have q0 := iv_Eq (hJ.2.1 0 (by decide)); have q3 := hJ.2.2.1 3 (by decide)
                  refine lv_iload hx hb dX6_findRing_57 (lv_at hl 5 rfl) ?_
                  refine lv_aload_n hx hb dX6_findRing_59 rfl (lv_at hl 0 rfl) ?_
                  refine b_get (ci := 6) (C := RX6) (T := TX6) (Nf := 29) (v := .int (z_57.1 0)) hx hb hts in_X6_findRing_X6 hown hK hH 0 (by decide) rfl rfl 0 (by decide) (hts (.fieldLink RX6 85 "StationLineModel" "tasks" "I") (List.mem_of_getElem? (i := 1) rfl)) rfl dX6_findRing_60 ?_
                  have := gh0_57.1; have := gh0_57.2
                  refine lv_icmp_ge (tgt := 128) hx hb dX6_findRing_63 (by decide) (fun c725 => ?_) (fun c725 => ?_)
                  · skip
                    have r725 := (iv_Le c725)
                    have k726b : iv 1 10 x5_57 := iv_ler (iv_Le c725) gh0_57 h5_57
                    have j727 : iv 1 10 (x4_45 + 1) := iv_add h4_57 (iv_lit (n := 1) 1 (by decide)) (by decide) (by decide) (by decide) (by decide)
                    have e727 : (x4_45 + 1).toInt = x4_45.toInt + 1 := (iv_addE h4_57 (iv_lit (n := 1) 1 (by decide)) (by decide) (by decide)).trans rfl
                    refine lv_iinc (v := (x4_45 + 1)) (lv' := [(4, .int (x4_45 + 1)), (0, .ref (q 0)), (1, .int p0), (2, .int p1), (3, .int x3_34), (5, .int x5_57)]) hx hb dX6_findRing_128 hl (k := 4) rfl rfl (by decide) rfl (fun ls hl => ?_)
                    refine lv_goto (tgt := 45) hx hb dX6_findRing_131 (by decide) ?_
                    exact ih45 _ (ms_up e727 j727.2 hn45) (x4_45 + 1) z_57 H locs ls h3_45 (iv_w j727 (by decide) (by decide)) gh0_57 ⟨by rw [show (x4_45 + 1 : Int32).toNatClampNeg = (x4_45 : Int32).toNatClampNeg + 1 by have := iv_nat h4_57 (by decide); have := iv_nat j727 (by decide); omega]; exact fr_6 ex_57.1 (by have := iv_nat h5_57 (by decide); have := iv_nat h4_57 (by decide); omega), ex_45.2⟩ hJ hH (lv_sub hl [1, 2, 3, 4, 0] rfl) rfl
                  · skip
                    have r725 := (iv_nLe c725)
                    have k728a : iv 0 9 x5_57 := iv_ltl (iv_nLe c725) h5_57 gh0_57 (by decide)
                    refine lv_aload_n hx hb dX6_findRing_66 rfl (lv_at hl 0 rfl) ?_
                    refine b_get (ci := 6) (C := RX6) (T := TX6) (Nf := 29) (v := .ref (q 13)) hx hb hts in_X6_findRing_X6 hown hK hH 0 (by decide) rfl rfl 19 (by decide) (hts (.fieldLink RX6 50 "StationLineModel" "steps" "[I") (List.mem_of_getElem? (i := 2) rfl)) rfl dX6_findRing_67 ?_
                    refine lv_iload hx hb dX6_findRing_70 (lv_at hl 4 rfl) ?_
                    refine b_iald (v := z_57.2.1 13 (x4_45 : Int32).toNatClampNeg) hx hb hK hH 13 (by decide) rfl (iv_in h4_57 (by decide) (by decide)) rfl dX6_findRing_72 ?_
                    refine lv_if_ge (tgt := 128) hx hb dX6_findRing_73 (by decide) (fun c729 => ?_) (fun c729 => ?_)
                    · skip
                      have r729 := (iv_Le c729)
                      have k730b : iv 0 2147483647 (z_57.2.1 13 (x4_45 : Int32).toNatClampNeg) := iv_ler (iv_Le c729) (iv_lit (n := 0) 0 (by decide)) (iv_all (z_57.2.1 13 (x4_45 : Int32).toNatClampNeg))
                      have j731 : iv 1 10 (x4_45 + 1) := iv_add h4_57 (iv_lit (n := 1) 1 (by decide)) (by decide) (by decide) (by decide) (by decide)
                      have e731 : (x4_45 + 1).toInt = x4_45.toInt + 1 := (iv_addE h4_57 (iv_lit (n := 1) 1 (by decide)) (by decide) (by decide)).trans rfl
                      refine lv_iinc (v := (x4_45 + 1)) (lv' := [(4, .int (x4_45 + 1)), (0, .ref (q 0)), (1, .int p0), (2, .int p1), (3, .int x3_34), (5, .int x5_57)]) hx hb dX6_findRing_128 hl (k := 4) rfl rfl (by decide) rfl (fun ls hl => ?_)
                      refine lv_goto (tgt := 45) hx hb dX6_findRing_131 (by decide) ?_
                      exact ih45 _ (ms_up e731 j731.2 hn45) (x4_45 + 1) z_57 H locs ls h3_45 (iv_w j731 (by decide) (by decide)) gh0_57 ⟨by rw [show (x4_45 + 1 : Int32).toNatClampNeg = (x4_45 : Int32).toNatClampNeg + 1 by have := iv_nat h4_57 (by decide); have := iv_nat j731 (by decide); omega]; exact fr_6 ex_57.1 (by have := iv_nat h5_57 (by decide); have := iv_nat h4_57 (by decide); omega), ex_45.2⟩ hJ hH (lv_sub hl [1, 2, 3, 4, 0] rfl) rfl
                    · skip
                      have r729 := (iv_nLe c729)
                      have k732a : iv (-2147483648) (-1) (z_57.2.1 13 (x4_45 : Int32).toNatClampNeg) := iv_ltl (iv_nLe c729) (iv_all (z_57.2.1 13 (x4_45 : Int32).toNatClampNeg)) (iv_lit (n := 0) 0 (by decide)) (by decide)
                      refine lv_aload_n hx hb dX6_findRing_76 rfl (lv_at hl 0 rfl) ?_
                      refine b_get (ci := 6) (C := RX6) (T := TX6) (Nf := 29) (v := .ref (q 13)) hx hb hts in_X6_findRing_X6 hown hK hH 0 (by decide) rfl rfl 19 (by decide) (hts (.fieldLink RX6 50 "StationLineModel" "steps" "[I") (List.mem_of_getElem? (i := 2) rfl)) rfl dX6_findRing_77 ?_
                      refine lv_iload hx hb dX6_findRing_80 (lv_at hl 4 rfl) ?_
                      refine lv_aload_n hx hb dX6_findRing_82 rfl (lv_at hl 0 rfl) ?_
                      refine b_get (ci := 6) (C := RX6) (T := TX6) (Nf := 29) (v := .ref (q 3)) hx hb hts in_X6_findRing_X6 hown hK hH 0 (by decide) rfl rfl 3 (by decide) (hts (.fieldLink RX6 16 "StationLineModel" "straight" "[I") (List.mem_of_getElem? (i := 3) rfl)) rfl dX6_findRing_83 ?_
                      refine lv_iload hx hb dX6_findRing_86 (lv_at hl 5 rfl) ?_
                      refine b_iald (v := z_57.2.1 3 (x5_57 : Int32).toNatClampNeg) hx hb hK hH 3 (by decide) rfl (iv_in k728a (by decide) (by decide)) rfl dX6_findRing_88 ?_
                      refine lv_iload hx hb dX6_findRing_89 (lv_at hl 4 rfl) ?_
                      refine b_stati (As := [.int (z_57.2.1 3 (x5_57 : Int32).toNatClampNeg), .int x4_45]) (rest := [.int x4_45, .ref (q 13)]) ⟨hx, hb, hml, hown, hts⟩ (g_X6_in l D cy q hH.2.1 z_57 hJ.1 (z_57.2.1 3 (x5_57 : Int32).toNatClampNeg) x4_45) (va_cwS 2 hts gX6_findRing_X6_in rfl rfl rfl (by decide +kernel) ⟨Nat.le_of_ble_eq_true rfl, Nat.le_of_ble_eq_true rfl⟩) hK hZ hH rfl hl.1 rfl (Nat.le_of_ble_eq_true rfl) ⟨Nat.zero_le _, Nat.zero_le _⟩ dX6_findRing_91 (fun w733 z733 H locs hp hH => ?_)
                      rw [Ag_0 hp.1.2] at hH
                      have i733 := hp.2.1
                      have := i733.1; have := i733.2
                      have f733_0 := hp.2.2
                      refine lv_if_eq (tgt := 114) hx hb dX6_findRing_94 (by decide) (fun c734 => ?_) (fun c734 => ?_)
                      · skip
                        have r734 := (iv_Eq c734)
                        have k735a : iv 0 0 w733 := iv_eql (iv_Eq c734) i733 (iv_lit (n := 0) 0 (by decide)) (by decide) (by decide)
                        refine lv_aload_n hx hb dX6_findRing_114 rfl (lv_at hl 0 rfl) ?_
                        refine b_get (ci := 6) (C := RX6) (T := TX6) (Nf := 29) (v := .ref (q 13)) hx hb hts in_X6_findRing_X6 hown hK hH 0 (by decide) rfl rfl 19 (by decide) (hts (.fieldLink RX6 50 "StationLineModel" "steps" "[I") (List.mem_of_getElem? (i := 2) rfl)) rfl dX6_findRing_115 ?_
                        refine lv_iload hx hb dX6_findRing_118 (lv_at hl 4 rfl) ?_
                        refine b_iald (v := z_57.2.1 13 (x4_45 : Int32).toNatClampNeg) hx hb hK hH 13 (by decide) rfl (iv_in h4_57 (by decide) (by decide)) rfl dX6_findRing_120 ?_
                        refine b_iast hx hb hK hH 13 (by decide) rfl (iv_in h4_57 (by decide) (by decide)) (upA z_57 13 (upd (z_57.2.1 13) (x4_45 : Int32).toNatClampNeg (z_57.2.1 13 (x4_45 : Int32).toNatClampNeg))) rfl (enM_A _ _ _ _ _) dX6_findRing_121 (fun H locs hH => ?_)
                        obtain ⟨z736, hz736⟩ : ∃ w : zS, w = upA z_57 13 (upd (z_57.2.1 13) (x4_45 : Int32).toNatClampNeg (z_57.2.1 13 (x4_45 : Int32).toNatClampNeg)) := ⟨_, rfl⟩
                        rw [← hz736] at hH
                        have hJ : jJ IvM 8 8320 0 z0 z736 := by rw [hz736]; exact jJ_A hJ (by decide) (IvM_A hJ.1 (by decide))
                        have g737 : iv 1 10 (z736.1 0) := by rw [hz736]; exact gh0_57
                        have j738 : iv 1 10 (x5_57 + 1) := iv_add k728a (iv_lit (n := 1) 1 (by decide)) (by decide) (by decide) (by decide) (by decide)
                        have e738 : (x5_57 + 1).toInt = x5_57.toInt + 1 := (iv_addE k728a (iv_lit (n := 1) 1 (by decide)) (by decide) (by decide)).trans rfl
                        refine lv_iinc (v := (x5_57 + 1)) (lv' := [(5, .int (x5_57 + 1)), (0, .ref (q 0)), (1, .int p0), (2, .int p1), (3, .int x3_34), (4, .int x4_45)]) hx hb dX6_findRing_122 hl (k := 5) rfl rfl (by decide) rfl (fun ls hl => ?_)
                        refine lv_goto (tgt := 57) hx hb dX6_findRing_125 (by decide) ?_
                        exact ih57 _ (ms_up e738 j738.2 hn57) (x5_57 + 1) z736 H locs ls h4_57 (iv_w j738 (by decide) (by decide)) g737 (by rw [q3] at f733_0; rw [hz736]; exact ⟨fr_4u ex_57.1 (by have := iv_nat k728a (by decide); have := iv_nat j738 (by decide); omega) (fun q => in_no h4_57 f733_0 c734 q.1), ex_57.2⟩) hJ hH (lv_sub hl [1, 2, 3, 4, 5, 0] rfl) rfl
                      · skip
                        have r734 := (iv_nEq c734)
                        have k739a : iv 1 1 w733 := iv_neLo (iv_nEq c734) i733 (by decide) (by decide)
                        refine lv_aload_n hx hb dX6_findRing_97 rfl (lv_at hl 0 rfl) ?_
                        refine b_get (ci := 6) (C := RX6) (T := TX6) (Nf := 29) (v := .ref (q 13)) hx hb hts in_X6_findRing_X6 hown hK hH 0 (by decide) rfl rfl 19 (by decide) (hts (.fieldLink RX6 50 "StationLineModel" "steps" "[I") (List.mem_of_getElem? (i := 2) rfl)) rfl dX6_findRing_98 ?_
                        refine lv_iload hx hb dX6_findRing_101 (lv_at hl 5 rfl) ?_
                        refine b_iald (v := z_57.2.1 13 (x5_57 : Int32).toNatClampNeg) hx hb hK hH 13 (by decide) rfl (iv_in k728a (by decide) (by decide)) rfl dX6_findRing_103 ?_
                        refine lv_iload_n hx hb dX6_findRing_104 rfl (lv_at hl 3 rfl) ?_
                        refine lv_iconst (v := 1) hx hb dX6_findRing_105 (by decide) ?_
                        refine lv_isub hx hb dX6_findRing_106 ?_
                        have i740 : iv 0 9 (x3_34 - 1) := (iv_sub h3_45 (iv_lit (n := 1) 1 (by decide)) (by decide) (by decide) (by decide) (by decide))
                        have e740 : (x3_34 - 1).toInt = x3_34.toInt - 1 := ((iv_subE h3_45 (iv_lit (n := 1) 1 (by decide)) (by decide) (by decide)).trans rfl)
                        have := i740.1; have := i740.2
                        refine lv_icmp_ne (tgt := 114) hx hb dX6_findRing_107 (by decide) (fun c741 => ?_) (fun c741 => ?_)
                        · skip
                          have r741 := (iv_nEq c741)
                          refine lv_aload_n hx hb dX6_findRing_114 rfl (lv_at hl 0 rfl) ?_
                          refine b_get (ci := 6) (C := RX6) (T := TX6) (Nf := 29) (v := .ref (q 13)) hx hb hts in_X6_findRing_X6 hown hK hH 0 (by decide) rfl rfl 19 (by decide) (hts (.fieldLink RX6 50 "StationLineModel" "steps" "[I") (List.mem_of_getElem? (i := 2) rfl)) rfl dX6_findRing_115 ?_
                          refine lv_iload hx hb dX6_findRing_118 (lv_at hl 4 rfl) ?_
                          refine b_iald (v := z_57.2.1 13 (x4_45 : Int32).toNatClampNeg) hx hb hK hH 13 (by decide) rfl (iv_in h4_57 (by decide) (by decide)) rfl dX6_findRing_120 ?_
                          refine b_iast hx hb hK hH 13 (by decide) rfl (iv_in h4_57 (by decide) (by decide)) (upA z_57 13 (upd (z_57.2.1 13) (x4_45 : Int32).toNatClampNeg (z_57.2.1 13 (x4_45 : Int32).toNatClampNeg))) rfl (enM_A _ _ _ _ _) dX6_findRing_121 (fun H locs hH => ?_)
                          obtain ⟨z743, hz743⟩ : ∃ w : zS, w = upA z_57 13 (upd (z_57.2.1 13) (x4_45 : Int32).toNatClampNeg (z_57.2.1 13 (x4_45 : Int32).toNatClampNeg)) := ⟨_, rfl⟩
                          rw [← hz743] at hH
                          have hJ : jJ IvM 8 8320 0 z0 z743 := by rw [hz743]; exact jJ_A hJ (by decide) (IvM_A hJ.1 (by decide))
                          have g744 : iv 1 10 (z743.1 0) := by rw [hz743]; exact gh0_57
                          have j745 : iv 1 10 (x5_57 + 1) := iv_add k728a (iv_lit (n := 1) 1 (by decide)) (by decide) (by decide) (by decide) (by decide)
                          have e745 : (x5_57 + 1).toInt = x5_57.toInt + 1 := (iv_addE k728a (iv_lit (n := 1) 1 (by decide)) (by decide) (by decide)).trans rfl
                          refine lv_iinc (v := (x5_57 + 1)) (lv' := [(5, .int (x5_57 + 1)), (0, .ref (q 0)), (1, .int p0), (2, .int p1), (3, .int x3_34), (4, .int x4_45)]) hx hb dX6_findRing_122 hl (k := 5) rfl rfl (by decide) rfl (fun ls hl => ?_)
                          refine lv_goto (tgt := 57) hx hb dX6_findRing_125 (by decide) ?_
                          exact ih57 _ (ms_up e745 j745.2 hn57) (x5_57 + 1) z743 H locs ls h4_57 (iv_w j745 (by decide) (by decide)) g744 (by rw [q3] at f733_0; rw [hz743]; exact ⟨fr_4u ex_57.1 (by have := iv_nat k728a (by decide); have := iv_nat j745 (by decide); omega) (fun q => absurd q.2 (by omega)), ex_57.2⟩) hJ hH (lv_sub hl [1, 2, 3, 4, 5, 0] rfl) rfl
                        · skip
                          have r741 := (iv_Eq c741)
                          have k746a : iv 0 9 (z_57.2.1 13 (x5_57 : Int32).toNatClampNeg) := iv_eql (iv_Eq c741) (iv_all (z_57.2.1 13 (x5_57 : Int32).toNatClampNeg)) i740 (by decide) (by decide)
                          refine lv_iload_n hx hb dX6_findRing_110 rfl (lv_at hl 3 rfl) ?_
                          refine lv_goto (tgt := 121) hx hb dX6_findRing_111 (by decide) ?_
                          refine b_iast hx hb hK hH 13 (by decide) rfl (iv_in h4_57 (by decide) (by decide)) (upA z_57 13 (upd (z_57.2.1 13) (x4_45 : Int32).toNatClampNeg x3_34)) rfl (enM_A _ _ _ _ _) dX6_findRing_121 (fun H locs hH => ?_)
                          obtain ⟨z747, hz747⟩ : ∃ w : zS, w = upA z_57 13 (upd (z_57.2.1 13) (x4_45 : Int32).toNatClampNeg x3_34) := ⟨_, rfl⟩
                          rw [← hz747] at hH
                          have hJ : jJ IvM 8 8320 0 z0 z747 := by rw [hz747]; exact jJ_A hJ (by decide) (IvM_A hJ.1 (by decide))
                          have g748 : iv 1 10 (z747.1 0) := by rw [hz747]; exact gh0_57
                          have j749 : iv 1 10 (x5_57 + 1) := iv_add k728a (iv_lit (n := 1) 1 (by decide)) (by decide) (by decide) (by decide) (by decide)
                          have e749 : (x5_57 + 1).toInt = x5_57.toInt + 1 := (iv_addE k728a (iv_lit (n := 1) 1 (by decide)) (by decide) (by decide)).trans rfl
                          refine lv_iinc (v := (x5_57 + 1)) (lv' := [(5, .int (x5_57 + 1)), (0, .ref (q 0)), (1, .int p0), (2, .int p1), (3, .int x3_34), (4, .int x4_45)]) hx hb dX6_findRing_122 hl (k := 5) rfl rfl (by decide) rfl (fun ls hl => ?_)
                          refine lv_goto (tgt := 57) hx hb dX6_findRing_125 (by decide) ?_
                          exact ih57 _ (ms_up e749 j749.2 hn57) (x5_57 + 1) z747 H locs ls h4_57 (iv_w j749 (by decide) (by decide)) g748 (by rw [q3] at f733_0; rw [hz747]; have := ex_57.2; exact ⟨fr_5u ex_57.1 (by have := iv_nat k728a (by decide); have := iv_nat j749 (by decide); omega) (by have := iv_nat h4_57 (by decide); omega) (by have := iv_nat k728a (by decide); omega) (by omega) rfl (by omega) (in_yes h4_57 f733_0 c734) (by omega), ex_57.2⟩) hJ hH (lv_sub hl [1, 2, 3, 4, 5, 0] rfl) rfl
              have q0 := iv_Eq (hJ.2.1 0 (by decide)); have q3 := hJ.2.2.1 3 (by decide)
              refine lv_iload hx hb dX6_findRing_45 (lv_at hl 4 rfl) ?_
              refine lv_aload_n hx hb dX6_findRing_47 rfl (lv_at hl 0 rfl) ?_
              refine b_get (ci := 6) (C := RX6) (T := TX6) (Nf := 29) (v := .int (z_45.1 0)) hx hb hts in_X6_findRing_X6 hown hK hH 0 (by decide) rfl rfl 0 (by decide) (hts (.fieldLink RX6 85 "StationLineModel" "tasks" "I") (List.mem_of_getElem? (i := 1) rfl)) rfl dX6_findRing_48 ?_
              have := gh0_45.1; have := gh0_45.2
              refine lv_icmp_ge (tgt := 134) hx hb dX6_findRing_51 (by decide) (fun c750 => ?_) (fun c750 => ?_)
              · skip
                have r750 := (iv_Le c750)
                have k751b : iv 1 10 x4_45 := iv_ler (iv_Le c750) gh0_45 h4_45
                have j752 : iv 2 11 (x3_34 + 1) := iv_add h3_45 (iv_lit (n := 1) 1 (by decide)) (by decide) (by decide) (by decide) (by decide)
                have e752 : (x3_34 + 1).toInt = x3_34.toInt + 1 := (iv_addE h3_45 (iv_lit (n := 1) 1 (by decide)) (by decide) (by decide)).trans rfl
                refine lv_iinc (v := (x3_34 + 1)) (lv' := [(3, .int (x3_34 + 1)), (0, .ref (q 0)), (1, .int p0), (2, .int p1), (4, .int x4_45)]) hx hb dX6_findRing_134 hl (k := 3) rfl rfl (by decide) rfl (fun ls hl => ?_)
                refine lv_goto (tgt := 34) hx hb dX6_findRing_137 (by decide) ?_
                exact ih34 _ (ms_up e752 j752.2 hn34) (x3_34 + 1) z_45 H locs ls (iv_w j752 (by decide) (by decide)) ⟨by rw [show (x3_34 + 1).toInt - 1 = x3_34.toInt by omega]; exact fr_7 ex_45.1 (by have := iv_nat h4_45 (by decide); omega), by have := ex_45.2; omega⟩ hJ hH (lv_sub hl [1, 2, 3, 0] rfl) rfl
              · skip
                have r750 := (iv_nLe c750)
                have k753a : iv 0 9 x4_45 := iv_ltl (iv_nLe c750) h4_45 gh0_45 (by decide)
                refine lv_iconst (v := 0) hx hb dX6_findRing_54 (by decide) ?_
                refine lv_istore (lv' := [(5, .int 0), (0, .ref (q 0)), (1, .int p0), (2, .int p1), (3, .int x3_34), (4, .int x4_45)]) hx hb dX6_findRing_55 hl (by decide) rfl (fun ls hl => ?_)
                exact HL57 _ 0 z_45 H locs ls k753a (iv_w (iv_lit (n := 0) 0 (by decide)) (by decide) (by decide)) gh0_45 ⟨fr_3 ex_45.1, by omega⟩ hJ hH (lv_sub hl [1, 2, 3, 4, 5, 0] rfl) rfl
          have HL154 : ∀ (n : Nat) (x3_154 : Int32) (z_154 : zS) (H : Heap) (locs : List Loc) (ls : Array Slot), iv 0 9 x3_154 → ((FRn (z0.2.1 3) (z_154.2.1 13) (z0.1 0).toNatClampNeg p0.toNatClampNeg (z0.1 0).toNatClampNeg ∧ (x3_154 : Int32).toInt < (z0.1 0).toInt ∧ 0 ≤ (x3_154 : Int32).toInt ∧ 0 ≤ (z_154.2.1 13 (x3_154 : Int32).toNatClampNeg).toInt ∧ (z_154.1 3).toInt + (z_154.2.1 13 (x3_154 : Int32).toNatClampNeg).toInt ≤ 11) ∧ RgI (z0.2.1 3) (z_154.2.1 13) (z0.1 0).toNatClampNeg p0 p1 (z_154.1 3) (z_154.2.1 7) x3_154) → jJ IvM 8 8320 0 z0 z_154 → bH D 23 (enM cy) q z_154 s.heap H locs → lv_has ls 6 [(0, .ref (q 0)), (1, .int p0), (3, .int x3_154)] → (z_154.2.1 13 (x3_154 : Int32).toNatClampNeg).toInt.toNat = n → W p l e ({ frames := 1, cells := 0, slots := 0, locals := 21 }) s m args below meth c H locs 0 0 Q (F0 m 154 ls []) := by
            intro n154
            induction n154 using Nat.strongRecOn with
            | ind n154 ih154 =>
              intro x3_154 z_154 H locs ls h3_154 ex_154 hJ hH hl hn154
              have := h3_154.1; have := h3_154.2
              have HL182 : ∀ (n : Nat) (x4_182 : Int32) (z_182 : zS) (H : Heap) (locs : List Loc) (ls : Array Slot), iv 0 10 x4_182 → iv 1 11 (z_182.1 3) → ((z_182.2.1 13 = z_154.2.1 13 ∧ FRn (z0.2.1 3) (z_154.2.1 13) (z0.1 0).toNatClampNeg p0.toNatClampNeg (z0.1 0).toNatClampNeg ∧ 0 ≤ (x4_182 : Int32).toInt ∧ 1 ≤ (z_154.2.1 13 (x3_154 : Int32).toNatClampNeg).toInt ∧ (z_182.1 3).toInt + (z_154.2.1 13 (x3_154 : Int32).toNatClampNeg).toInt ≤ 12 ∧ x3_154.toInt < (z0.1 0).toInt ∧ 0 ≤ x3_154.toInt ∧ ∃ k : Nat, (x4_182 : Int32).toInt ≤ (k : Int) ∧ k < (z0.1 0).toNatClampNeg ∧ bitN ((z0.2.1 3) k) (x3_154 : Int32).toNatClampNeg ∧ (z_154.2.1 13 k).toInt = (z_154.2.1 13 (x3_154 : Int32).toNatClampNeg).toInt - 1) ∧ ((z_182.1 3).toInt = (z_154.1 3).toInt + 1 ∧ z_182.2.1 7 = upd (z_154.2.1 7) (z_154.1 3).toNatClampNeg x3_154 ∧ ∀ k : Nat, (k : Int) < (x4_182 : Int32).toInt → ¬ (bitN ((z0.2.1 3) k) (x3_154 : Int32).toNatClampNeg ∧ (z_154.2.1 13 k).toInt = (z_154.2.1 13 (x3_154 : Int32).toNatClampNeg).toInt - 1))) → jJ IvM 8 8320 0 z0 z_182 → bH D 23 (enM cy) q z_182 s.heap H locs → lv_has ls 6 [(0, .ref (q 0)), (1, .int p0), (3, .int x3_154), (4, .int x4_182)] → (10 - x4_182.toInt).toNat = n → W p l e ({ frames := 1, cells := 0, slots := 0, locals := 21 }) s m args below meth c H locs 0 0 Q (F0 m 182 ls []) := by
                intro n182
                induction n182 using Nat.strongRecOn with
                | ind n182 ih182 =>
                  intro x4_182 z_182 H locs ls h4_182 gh3_182 ex_182 hJ hH hl hn182
                  have := h4_182.1; have := h4_182.2; have := gh3_182.1; have := gh3_182.2
                  have q0 := iv_Eq (hJ.2.1 0 (by decide)); have q3 := hJ.2.2.1 3 (by decide)
                  have hat : iv 0 9 x3_154 := ⟨ex_182.1.2.2.2.2.2.2.1, by omega⟩
                  obtain ⟨kk, k1, k2, k3, k4⟩ := ex_182.1.2.2.2.2.2.2.2
                  have b754 : iv 0 9 x4_182 := ⟨by omega, by omega⟩
                  have := b754.1; have := b754.2
                  refine lv_aload_n hx hb dX6_findRing_182 rfl (lv_at hl 0 rfl) ?_
                  refine b_get (ci := 6) (C := RX6) (T := TX6) (Nf := 29) (v := .ref (q 3)) hx hb hts in_X6_findRing_X6 hown hK hH 0 (by decide) rfl rfl 3 (by decide) (hts (.fieldLink RX6 16 "StationLineModel" "straight" "[I") (List.mem_of_getElem? (i := 3) rfl)) rfl dX6_findRing_183 ?_
                  refine lv_iload hx hb dX6_findRing_186 (lv_at hl 3 rfl) ?_
                  refine b_iald (v := z_182.2.1 3 (x4_182 : Int32).toNatClampNeg) hx hb hK hH 3 (by decide) rfl (iv_in b754 (by decide) (by decide)) rfl dX6_findRing_188 ?_
                  refine lv_iload_n hx hb dX6_findRing_189 rfl (lv_at hl 2 rfl) ?_
                  refine b_stati (As := [.int (z_182.2.1 3 (x4_182 : Int32).toNatClampNeg), .int x3_154]) (rest := []) ⟨hx, hb, hml, hown, hts⟩ (g_X6_in l D cy q hH.2.1 z_182 hJ.1 (z_182.2.1 3 (x4_182 : Int32).toNatClampNeg) x3_154) (va_cwS 2 hts gX6_findRing_X6_in rfl rfl rfl (by decide +kernel) ⟨Nat.le_of_ble_eq_true rfl, Nat.le_of_ble_eq_true rfl⟩) hK hZ hH rfl hl.1 rfl (Nat.le_of_ble_eq_true rfl) ⟨Nat.zero_le _, Nat.zero_le _⟩ dX6_findRing_190 (fun w755 z755 H locs hp hH => ?_)
                  rw [Ag_0 hp.1.2] at hH
                  have i755 := hp.2.1
                  have := i755.1; have := i755.2
                  have f755_0 := hp.2.2
                  refine lv_if_eq (tgt := 214) hx hb dX6_findRing_193 (by decide) (fun c756 => ?_) (fun c756 => ?_)
                  · skip
                    have r756 := (iv_Eq c756)
                    have k757a : iv 0 0 w755 := iv_eql (iv_Eq c756) i755 (iv_lit (n := 0) 0 (by decide)) (by decide) (by decide)
                    have j758 : iv 1 10 (x4_182 + 1) := iv_add b754 (iv_lit (n := 1) 1 (by decide)) (by decide) (by decide) (by decide) (by decide)
                    have e758 : (x4_182 + 1).toInt = x4_182.toInt + 1 := (iv_addE b754 (iv_lit (n := 1) 1 (by decide)) (by decide) (by decide)).trans rfl
                    refine lv_iinc (v := (x4_182 + 1)) (lv' := [(4, .int (x4_182 + 1)), (0, .ref (q 0)), (1, .int p0), (3, .int x3_154)]) hx hb dX6_findRing_214 hl (k := 3) rfl rfl (by decide) rfl (fun ls hl => ?_)
                    refine lv_goto (tgt := 182) hx hb dX6_findRing_217 (by decide) ?_
                    exact ih182 _ (ms_up e758 j758.2 hn182) (x4_182 + 1) z_182 H locs ls (iv_w j758 (by decide) (by decide)) gh3_182 (by have hne : kk ≠ (x4_182 : Int32).toNatClampNeg := (fun e => by rw [e] at k3; exact in_no hat (by rw [← q3]; exact f755_0) c756 k3); have := iv_nat b754 (by decide); exact ⟨⟨ex_182.1.1, ex_182.1.2.1, by omega, ex_182.1.2.2.2.1, ex_182.1.2.2.2.2.1, ex_182.1.2.2.2.2.2.1, ex_182.1.2.2.2.2.2.2.1, kk, by omega, k2, k3, k4⟩, ex_182.2.1, ex_182.2.2.1, fun k hk q => (Classical.em (k = (x4_182 : Int32).toNatClampNeg)).elim (fun e9 => (by rw [e9] at q; exact in_no hat (by rw [← q3]; exact f755_0) c756 q.1)) (fun e9 => ex_182.2.2.2 k (by omega) q)⟩) hJ hH (lv_sub hl [1, 2, 3, 0] rfl) rfl
                  · skip
                    have r756 := (iv_nEq c756)
                    have k759a : iv 1 1 w755 := iv_neLo (iv_nEq c756) i755 (by decide) (by decide)
                    refine lv_aload_n hx hb dX6_findRing_196 rfl (lv_at hl 0 rfl) ?_
                    refine b_get (ci := 6) (C := RX6) (T := TX6) (Nf := 29) (v := .ref (q 13)) hx hb hts in_X6_findRing_X6 hown hK hH 0 (by decide) rfl rfl 19 (by decide) (hts (.fieldLink RX6 50 "StationLineModel" "steps" "[I") (List.mem_of_getElem? (i := 2) rfl)) rfl dX6_findRing_197 ?_
                    refine lv_iload hx hb dX6_findRing_200 (lv_at hl 3 rfl) ?_
                    refine b_iald (v := z_182.2.1 13 (x4_182 : Int32).toNatClampNeg) hx hb hK hH 13 (by decide) rfl (iv_in b754 (by decide) (by decide)) rfl dX6_findRing_202 ?_
                    refine lv_aload_n hx hb dX6_findRing_203 rfl (lv_at hl 0 rfl) ?_
                    refine b_get (ci := 6) (C := RX6) (T := TX6) (Nf := 29) (v := .ref (q 13)) hx hb hts in_X6_findRing_X6 hown hK hH 0 (by decide) rfl rfl 19 (by decide) (hts (.fieldLink RX6 50 "StationLineModel" "steps" "[I") (List.mem_of_getElem? (i := 2) rfl)) rfl dX6_findRing_204 ?_
                    refine lv_iload_n hx hb dX6_findRing_207 rfl (lv_at hl 2 rfl) ?_
                    refine b_iald (v := z_182.2.1 13 (x3_154 : Int32).toNatClampNeg) hx hb hK hH 13 (by decide) rfl (iv_in hat (by decide) (by decide)) rfl dX6_findRing_208 ?_
                    have b760 : iv 1 10 (z_182.2.1 13 (x3_154 : Int32).toNatClampNeg) := (by rw [ex_182.1.1]; exact ⟨ex_182.1.2.2.2.1, by have := fr_top ex_182.1.2.1 (t := (x3_154 : Int32).toNatClampNeg) (by have := iv_nat hat (by decide); omega); omega⟩)
                    refine lv_iconst (v := 1) hx hb dX6_findRing_209 (by decide) ?_
                    refine lv_isub hx hb dX6_findRing_210 ?_
                    have i761 : iv 0 9 ((z_182.2.1 13 (x3_154 : Int32).toNatClampNeg) - 1) := (iv_sub b760 (iv_lit (n := 1) 1 (by decide)) (by decide) (by decide) (by decide) (by decide))
                    have e761 : ((z_182.2.1 13 (x3_154 : Int32).toNatClampNeg) - 1).toInt = (z_182.2.1 13 (x3_154 : Int32).toNatClampNeg).toInt - 1 := ((iv_subE b760 (iv_lit (n := 1) 1 (by decide)) (by decide) (by decide)).trans rfl)
                    have := i761.1; have := i761.2
                    refine lv_icmp_eq (tgt := 220) hx hb dX6_findRing_211 (by decide) (fun c762 => ?_) (fun c762 => ?_)
                    · skip
                      have r762 := (iv_Eq c762)
                      have k763a : iv 0 9 (z_182.2.1 13 (x4_182 : Int32).toNatClampNeg) := iv_eql (iv_Eq c762) (iv_all (z_182.2.1 13 (x4_182 : Int32).toNatClampNeg)) i761 (by decide) (by decide)
                      refine lv_iload hx hb dX6_findRing_220 (lv_at hl 3 rfl) ?_
                      refine lv_istore_n (lv' := [(3, .int x4_182), (0, .ref (q 0)), (1, .int p0), (4, .int x4_182)]) hx hb dX6_findRing_222 rfl hl (by decide) rfl (fun ls hl => ?_)
                      refine lv_goto (tgt := 154) hx hb dX6_findRing_223 (by decide) ?_
                      exact ih154 _ (by have q9 : (z_182.2.1 13 (x4_182 : Int32).toNatClampNeg).toInt = (z_154.2.1 13 (x4_182 : Int32).toNatClampNeg).toInt := (by rw [ex_182.1.1]); have q8 : (z_182.2.1 13 (x3_154 : Int32).toNatClampNeg).toInt = (z_154.2.1 13 (x3_154 : Int32).toNatClampNeg).toInt := (by rw [ex_182.1.1]); rw [ex_182.1.1]; omega) x4_182 z_182 H locs ls b754 (by have q9 : (z_182.2.1 13 (x4_182 : Int32).toNatClampNeg).toInt = (z_154.2.1 13 (x4_182 : Int32).toNatClampNeg).toInt := (by rw [ex_182.1.1]); have q8 : (z_182.2.1 13 (x3_154 : Int32).toNatClampNeg).toInt = (z_154.2.1 13 (x3_154 : Int32).toNatClampNeg).toInt := (by rw [ex_182.1.1]); rw [ex_182.1.1]; exact ⟨⟨ex_182.1.2.1, by omega, by omega, by omega, by omega⟩, RgI_st ex_154.2 (show iv 1 10 (z_154.1 3) from ⟨ex_154.2.2.2.1, by have := ex_182.2.1; omega⟩) ex_182.2.2.1 ex_182.2.1 ⟨(iv_w b754 (by decide) (by decide)), (by have := iv_nat b754 (by decide); omega), (in_yes hat (by rw [← q3]; exact f755_0) c756), (by omega), fun k hk => ex_182.2.2.2 k (by have := iv_nat b754 (by decide); omega)⟩⟩) hJ hH (lv_sub hl [1, 2, 0] rfl) rfl
                    · skip
                      have r762 := (iv_nEq c762)
                      have j765 : iv 1 10 (x4_182 + 1) := iv_add b754 (iv_lit (n := 1) 1 (by decide)) (by decide) (by decide) (by decide) (by decide)
                      have e765 : (x4_182 + 1).toInt = x4_182.toInt + 1 := (iv_addE b754 (iv_lit (n := 1) 1 (by decide)) (by decide) (by decide)).trans rfl
                      refine lv_iinc (v := (x4_182 + 1)) (lv' := [(4, .int (x4_182 + 1)), (0, .ref (q 0)), (1, .int p0), (3, .int x3_154)]) hx hb dX6_findRing_214 hl (k := 3) rfl rfl (by decide) rfl (fun ls hl => ?_)
                      refine lv_goto (tgt := 182) hx hb dX6_findRing_217 (by decide) ?_
                      exact ih182 _ (ms_up e765 j765.2 hn182) (x4_182 + 1) z_182 H locs ls (iv_w j765 (by decide) (by decide)) gh3_182 (by have hne : kk ≠ (x4_182 : Int32).toNatClampNeg := (fun e => by rw [e, ← ex_182.1.1] at k4; omega); have := iv_nat b754 (by decide); exact ⟨⟨ex_182.1.1, ex_182.1.2.1, by omega, ex_182.1.2.2.2.1, ex_182.1.2.2.2.2.1, ex_182.1.2.2.2.2.2.1, ex_182.1.2.2.2.2.2.2.1, kk, by omega, k2, k3, k4⟩, ex_182.2.1, ex_182.2.2.1, fun k hk q => (Classical.em (k = (x4_182 : Int32).toNatClampNeg)).elim (fun e9 => (by rw [e9, ← ex_182.1.1] at q; have q2 := q.2; omega)) (fun e9 => ex_182.2.2.2 k (by omega) q)⟩) hJ hH (lv_sub hl [1, 2, 3, 0] rfl) rfl
              have q0 := iv_Eq (hJ.2.1 0 (by decide)); have q3 := hJ.2.2.1 3 (by decide)
              refine lv_iload_n hx hb dX6_findRing_154 rfl (lv_at hl 2 rfl) ?_
              refine lv_iload_n hx hb dX6_findRing_155 rfl (lv_at hl 1 rfl) ?_
              refine lv_icmp_eq (tgt := 226) hx hb dX6_findRing_156 (by decide) (fun c766 => ?_) (fun c766 => ?_)
              · skip
                have r766 := (iv_Eq c766)
                exact hret z_154 H locs _ _ ⟨hJ, ⟨z_154.2.1 13, ex_154.1.1, (by have h1 := ex_154.2.2.1; have h2 := ex_154.2.2.2.1; have h3 : (z_154.2.1 13 x3_154.toNatClampNeg).toInt = 0 := ((ex_154.1.1.1.2.1 _ (by have := iv_nat (a := 0) (b := 9) (x := x3_154) ⟨ex_154.1.2.2.1, by omega⟩ (by decide); omega)).mpr (congrArg Int32.toNatClampNeg c766)); omega), RgI_end ex_154.2 ((ex_154.1.1.1.2.1 _ (by have := iv_nat (a := 0) (b := 9) (x := x3_154) ⟨ex_154.1.2.2.1, by omega⟩ (by decide); omega)).mpr (congrArg Int32.toNatClampNeg c766))⟩⟩ hH dX6_findRing_226
              · skip
                have r766 := (iv_nEq c766)
                have hat : iv 0 9 x3_154 := ⟨ex_154.1.2.2.1, by omega⟩
                have ga := fr_at ex_154.1.1 (by have := iv_nat hat (by decide); omega) (fun e => absurd e (by have := iv_nEq c766; have := iv_nat hat (by decide); have := iv_nat hp0 (by decide); omega)) ex_154.1.2.2.2.1
                refine lv_aload_n hx hb dX6_findRing_159 rfl (lv_at hl 0 rfl) ?_
                refine b_get (ci := 6) (C := RX6) (T := TX6) (Nf := 29) (v := .ref (q 7)) hx hb hts in_X6_findRing_X6 hown hK hH 0 (by decide) rfl rfl 10 (by decide) (hts (.fieldLink RX6 32 "StationLineModel" "ring" "[I") (List.mem_of_getElem? (i := 5) rfl)) rfl dX6_findRing_160 ?_
                refine lv_aload_n hx hb dX6_findRing_163 rfl (lv_at hl 0 rfl) ?_
                refine b_get (ci := 6) (C := RX6) (T := TX6) (Nf := 29) (v := .int (z_154.1 3)) hx hb hts in_X6_findRing_X6 hown hK hH 0 (by decide) rfl rfl 9 (by decide) (hts (.fieldLink RX6 103 "StationLineModel" "ringMany" "I") (List.mem_of_getElem? (i := 4) rfl)) rfl dX6_findRing_164 ?_
                have i769 := IvM_s3 hJ.1
                have := i769.1; have := i769.2
                refine lv_iload_n hx hb dX6_findRing_167 rfl (lv_at hl 2 rfl) ?_
                have b770 : iv 0 10 (z_154.1 3) := ⟨by omega, by omega⟩
                refine b_iast hx hb hK hH 7 (by decide) rfl (iv_in b770 (by decide) (by decide)) (upA z_154 7 (upd (z_154.2.1 7) (z_154.1 3 : Int32).toNatClampNeg x3_154)) rfl (enM_A _ _ _ _ _) dX6_findRing_168 (fun H locs hH => ?_)
                obtain ⟨z771, hz771⟩ : ∃ w : zS, w = upA z_154 7 (upd (z_154.2.1 7) (z_154.1 3 : Int32).toNatClampNeg x3_154) := ⟨_, rfl⟩
                rw [← hz771] at hH
                have hJ : jJ IvM 8 8320 0 z0 z771 := by rw [hz771]; exact jJ_A hJ (by decide) (IvM_A hJ.1 (by decide))
                have g772 : iv 0 10 (z771.1 3) := by rw [hz771]; exact b770
                refine lv_aload_n hx hb dX6_findRing_169 rfl (lv_at hl 0 rfl) ?_
                refine lv_dup hx hb dX6_findRing_170 rfl ?_
                refine b_get (ci := 6) (C := RX6) (T := TX6) (Nf := 29) (v := .int (z771.1 3)) hx hb hts in_X6_findRing_X6 hown hK hH 0 (by decide) rfl rfl 9 (by decide) (hts (.fieldLink RX6 103 "StationLineModel" "ringMany" "I") (List.mem_of_getElem? (i := 4) rfl)) rfl dX6_findRing_171 ?_
                have := g772.1; have := g772.2
                refine lv_iconst (v := 1) hx hb dX6_findRing_174 (by decide) ?_
                refine lv_iadd hx hb dX6_findRing_175 ?_
                have i773 : iv 1 11 ((z771.1 3) + 1) := (iv_add g772 (iv_lit (n := 1) 1 (by decide)) (by decide) (by decide) (by decide) (by decide))
                have e773 : ((z771.1 3) + 1).toInt = (z771.1 3).toInt + 1 := ((iv_addE g772 (iv_lit (n := 1) 1 (by decide)) (by decide) (by decide)).trans rfl)
                have := i773.1; have := i773.2
                refine b_put (ci := 6) (C := RX6) (T := TX6) (Nf := 29) (v := .int ((z771.1 3) + 1)) (ty := .int) hx hb hts in_X6_findRing_X6 tyX6 tyX6_ok nmX6 hown hK hH 0 (by decide) rfl rfl 9 (by decide) (hts (.fieldLink RX6 103 "StationLineModel" "ringMany" "I") (List.mem_of_getElem? (i := 4) rfl)) rfl (by decide +kernel) rfl rfl (Nat.le_of_ble_eq_true rfl) (upS z771 3 ((z771.1 3) + 1)) rfl (enM_S3 _ _ _ _) dX6_findRing_176 (fun H locs hH => ?_)
                obtain ⟨z774, hz774⟩ : ∃ w : zS, w = upS z771 3 ((z771.1 3) + 1) := ⟨_, rfl⟩
                rw [← hz774] at hH
                have hJ : jJ IvM 8 8320 0 z0 z774 := by rw [hz774]; exact jJ_S hJ (by decide) (IvM_S3 hJ.1 (iv_w i773 (by decide) (by decide)))
                have g775 : iv 1 11 (z774.1 3) := by rw [hz774]; exact i773
                refine lv_iconst (v := 0) hx hb dX6_findRing_179 (by decide) ?_
                refine lv_istore (lv' := [(4, .int 0), (0, .ref (q 0)), (1, .int p0), (3, .int x3_154)]) hx hb dX6_findRing_180 hl (by decide) rfl (fun ls hl => ?_)
                exact HL182 _ 0 z774 H locs ls (iv_w (iv_lit (n := 0) 0 (by decide)) (by decide) (by decide)) g775 (by obtain ⟨kk, k1, k2, k3⟩ := (ex_154.1.1.1.2.2 _ (by have := iv_nat hat (by decide); omega) ga).1; have h3 : (z774.1 3).toInt = (z_154.1 3).toInt + 1 := (by rw [hz774]; exact e773.trans (by rw [show z771.1 3 = z_154.1 3 from (by rw [hz771]; rfl)])); exact ⟨⟨(((show z774.2.1 13 = z771.2.1 13 by rw [hz774]; first | rfl | exact upA_n (by omega))).trans ((show z771.2.1 13 = z_154.2.1 13 by rw [hz771]; first | rfl | exact upA_n (by omega)))), ex_154.1.1, by omega, ga, by omega, ex_154.1.2.1, ex_154.1.2.2.1, kk, by omega, k1, k2, k3⟩, h3, (show z774.2.1 7 = upd (z_154.2.1 7) (z_154.1 3).toNatClampNeg x3_154 by rw [hz774]; show z771.2.1 7 = _; rw [hz771]; exact upA_e), fun k hk => absurd hk (by omega)⟩) hJ hH (lv_sub hl [1, 2, 3, 0] rfl) rfl
          have q0 := iv_Eq (hJ.2.1 0 (by decide)); have q3 := hJ.2.2.1 3 (by decide)
          refine lv_iload_n hx hb dX6_findRing_34 rfl (lv_at hl 3 rfl) ?_
          refine lv_aload_n hx hb dX6_findRing_35 rfl (lv_at hl 0 rfl) ?_
          refine b_get (ci := 6) (C := RX6) (T := TX6) (Nf := 29) (v := .int (z_34.1 0)) hx hb hts in_X6_findRing_X6 hown hK hH 0 (by decide) rfl rfl 0 (by decide) (hts (.fieldLink RX6 85 "StationLineModel" "tasks" "I") (List.mem_of_getElem? (i := 1) rfl)) rfl dX6_findRing_36 ?_
          have i776 := IvM_s0 hJ.1
          have := i776.1; have := i776.2
          refine lv_icmp_gt (tgt := 140) hx hb dX6_findRing_39 (by decide) (fun c777 => ?_) (fun c777 => ?_)
          · skip
            have r777 := (iv_Lt c777)
            refine lv_aload_n hx hb dX6_findRing_140 rfl (lv_at hl 0 rfl) ?_
            refine lv_iconst (v := 1) hx hb dX6_findRing_141 (by decide) ?_
            refine b_put (ci := 6) (C := RX6) (T := TX6) (Nf := 29) (v := .int 1) (ty := .int) hx hb hts in_X6_findRing_X6 tyX6 tyX6_ok nmX6 hown hK hH 0 (by decide) rfl rfl 9 (by decide) (hts (.fieldLink RX6 103 "StationLineModel" "ringMany" "I") (List.mem_of_getElem? (i := 4) rfl)) rfl (by decide +kernel) rfl rfl (Nat.le_of_ble_eq_true rfl) (upS z_34 3 1) rfl (enM_S3 _ _ _ _) dX6_findRing_142 (fun H locs hH => ?_)
            obtain ⟨z779, hz779⟩ : ∃ w : zS, w = upS z_34 3 1 := ⟨_, rfl⟩
            rw [← hz779] at hH
            have hJ : jJ IvM 8 8320 0 z0 z779 := by rw [hz779]; exact jJ_S hJ (by decide) (IvM_S3 hJ.1 (iv_w (iv_lit (n := 1) 1 (by decide)) (by decide) (by decide)))
            have g780 : iv 1 1 (z779.1 3) := by rw [hz779]; exact (iv_lit (n := 1) 1 (by decide))
            refine lv_aload_n hx hb dX6_findRing_145 rfl (lv_at hl 0 rfl) ?_
            refine b_get (ci := 6) (C := RX6) (T := TX6) (Nf := 29) (v := .ref (q 7)) hx hb hts in_X6_findRing_X6 hown hK hH 0 (by decide) rfl rfl 10 (by decide) (hts (.fieldLink RX6 32 "StationLineModel" "ring" "[I") (List.mem_of_getElem? (i := 5) rfl)) rfl dX6_findRing_146 ?_
            refine lv_iconst (v := 0) hx hb dX6_findRing_149 (by decide) ?_
            refine lv_iload_n hx hb dX6_findRing_150 rfl (lv_at hl 1 rfl) ?_
            refine b_iast hx hb hK hH 7 (by decide) rfl (by unfold vp_in; decide) (upA z779 7 (upd (z779.2.1 7) (0 : Int32).toNatClampNeg p0)) rfl (enM_A _ _ _ _ _) dX6_findRing_151 (fun H locs hH => ?_)
            obtain ⟨z781, hz781⟩ : ∃ w : zS, w = upA z779 7 (upd (z779.2.1 7) (0 : Int32).toNatClampNeg p0) := ⟨_, rfl⟩
            rw [← hz781] at hH
            have hJ : jJ IvM 8 8320 0 z0 z781 := by rw [hz781]; exact jJ_A hJ (by decide) (IvM_A hJ.1 (by decide))
            have g782 : iv 1 1 (z781.1 3) := by rw [hz781]; exact g780
            refine lv_iload_n hx hb dX6_findRing_152 rfl (lv_at hl 2 rfl) ?_
            refine lv_istore_n (lv' := [(3, .int p1), (0, .ref (q 0)), (1, .int p0), (2, .int p1)]) hx hb dX6_findRing_153 rfl hl (by decide) rfl (fun ls hl => ?_)
            exact HL154 _ p1 z781 H locs ls hp1 (by have hF := ex_34.1; rw [show x3_34.toInt - 1 = (((z0.1 0).toNatClampNeg : Nat) : Int) by omega] at hF; have h1 : (z781.1 3).toInt = 1 := (by rw [hz781, hz779]; rfl); have hb := fr_8 hF (by have := iv_nat hp0 (by decide); omega) (by have := iv_nat hp1 (by decide); omega) (hpre.2.2.imp (fun e => congrArg Int32.toNatClampNeg e) id); have ht := fr_top hF (t := p1.toNatClampNeg) (by have := iv_nat hp1 (by decide); omega); rw [(((show z781.2.1 13 = z779.2.1 13 by rw [hz781]; first | rfl | exact upA_n (by omega))).trans ((show z779.2.1 13 = z_34.2.1 13 by rw [hz779]; first | rfl | exact upA_n (by omega))))]; exact ⟨⟨hF, hpre.2.1, hp1.1, hb, by omega⟩, RgI_0 (by rw [hz781, upA_e, show (0 : Int32).toNatClampNeg = 0 by decide]; exact pk_us) h1⟩) hJ hH (lv_sub hl [1, 2, 0] rfl) rfl
          · skip
            have r777 := (iv_nLt c777)
            have k783a : iv 1 10 x3_34 := iv_lel (iv_nLt c777) h3_34 i776
            have k783b : iv 1 10 (z_34.1 0) := iv_ler (iv_nLt c777) h3_34 i776
            refine lv_iconst (v := 0) hx hb dX6_findRing_42 (by decide) ?_
            refine lv_istore (lv' := [(4, .int 0), (0, .ref (q 0)), (1, .int p0), (2, .int p1), (3, .int x3_34)]) hx hb dX6_findRing_43 hl (by decide) rfl (fun ls hl => ?_)
            exact HL45 _ 0 z_34 H locs ls k783a (iv_w (iv_lit (n := 0) 0 (by decide)) (by decide) (by decide)) k783b ⟨fr_2 ex_34.1, by omega⟩ hJ hH (lv_sub hl [1, 2, 3, 4, 0] rfl) rfl
      have q0 := iv_Eq (hJ.2.1 0 (by decide)); have q3 := hJ.2.2.1 3 (by decide)
      refine lv_iload_n hx hb dX6_findRing_2 rfl (lv_at hl 3 rfl) ?_
      refine lv_aload_n hx hb dX6_findRing_3 rfl (lv_at hl 0 rfl) ?_
      refine b_get (ci := 6) (C := RX6) (T := TX6) (Nf := 29) (v := .int (z_2.1 0)) hx hb hts in_X6_findRing_X6 hown hK hH 0 (by decide) rfl rfl 0 (by decide) (hts (.fieldLink RX6 85 "StationLineModel" "tasks" "I") (List.mem_of_getElem? (i := 1) rfl)) rfl dX6_findRing_4 ?_
      have i784 := IvM_s0 hJ.1
      have := i784.1; have := i784.2
      refine lv_icmp_ge (tgt := 32) hx hb dX6_findRing_7 (by decide) (fun c785 => ?_) (fun c785 => ?_)
      · skip
        have r785 := (iv_Le c785)
        refine lv_iconst (v := 1) hx hb dX6_findRing_32 (by decide) ?_
        refine lv_istore_n (lv' := [(3, .int 1), (0, .ref (q 0)), (1, .int p0), (2, .int p1)]) hx hb dX6_findRing_33 rfl hl (by decide) rfl (fun ls hl => ?_)
        exact HL34 _ 1 z_2 H locs ls (iv_w (iv_lit (n := 1) 1 (by decide)) (by decide) (by decide)) ⟨by rw [show (1 : Int32).toInt - 1 = 0 from by decide]; exact fr_1 (fr0_le ex_2 (by have := iv_nat h3_2 (by decide); omega)), by have : (1 : Int32).toInt = 1 := (by decide); omega⟩ hJ hH (lv_sub hl [1, 2, 3, 0] rfl) rfl
      · skip
        have r785 := (iv_nLe c785)
        have k787a : iv 0 9 x3_2 := iv_ltl (iv_nLe c785) h3_2 i784 (by decide)
        have k787b : iv 1 10 (z_2.1 0) := iv_ltr (iv_nLe c785) h3_2 i784 (by decide)
        refine lv_aload_n hx hb dX6_findRing_10 rfl (lv_at hl 0 rfl) ?_
        refine b_get (ci := 6) (C := RX6) (T := TX6) (Nf := 29) (v := .ref (q 13)) hx hb hts in_X6_findRing_X6 hown hK hH 0 (by decide) rfl rfl 19 (by decide) (hts (.fieldLink RX6 50 "StationLineModel" "steps" "[I") (List.mem_of_getElem? (i := 2) rfl)) rfl dX6_findRing_11 ?_
        refine lv_iload_n hx hb dX6_findRing_14 rfl (lv_at hl 3 rfl) ?_
        refine lv_iload_n hx hb dX6_findRing_15 rfl (lv_at hl 3 rfl) ?_
        refine lv_iload_n hx hb dX6_findRing_16 rfl (lv_at hl 1 rfl) ?_
        refine lv_icmp_ne (tgt := 24) hx hb dX6_findRing_17 (by decide) (fun c788 => ?_) (fun c788 => ?_)
        · skip
          have r788 := (iv_nEq c788)
          refine lv_iconst (v := (-1)) hx hb dX6_findRing_24 (by decide) ?_
          refine b_iast hx hb hK hH 13 (by decide) rfl (iv_in k787a (by decide) (by decide)) (upA z_2 13 (upd (z_2.2.1 13) (x3_2 : Int32).toNatClampNeg (-1))) rfl (enM_A _ _ _ _ _) dX6_findRing_25 (fun H locs hH => ?_)
          obtain ⟨z790, hz790⟩ : ∃ w : zS, w = upA z_2 13 (upd (z_2.2.1 13) (x3_2 : Int32).toNatClampNeg (-1)) := ⟨_, rfl⟩
          rw [← hz790] at hH
          have hJ : jJ IvM 8 8320 0 z0 z790 := by rw [hz790]; exact jJ_A hJ (by decide) (IvM_A hJ.1 (by decide))
          have g791 : iv 1 10 (z790.1 0) := by rw [hz790]; exact k787b
          have j792 : iv 1 10 (x3_2 + 1) := iv_add k787a (iv_lit (n := 1) 1 (by decide)) (by decide) (by decide) (by decide) (by decide)
          have e792 : (x3_2 + 1).toInt = x3_2.toInt + 1 := (iv_addE k787a (iv_lit (n := 1) 1 (by decide)) (by decide) (by decide)).trans rfl
          refine lv_iinc (v := (x3_2 + 1)) (lv' := [(3, .int (x3_2 + 1)), (0, .ref (q 0)), (1, .int p0), (2, .int p1)]) hx hb dX6_findRing_26 hl (k := 3) rfl rfl (by decide) rfl (fun ls hl => ?_)
          refine lv_goto (tgt := 2) hx hb dX6_findRing_29 (by decide) ?_
          exact ih2 _ (ms_up e792 j792.2 hn2) (x3_2 + 1) z790 H locs ls (iv_w j792 (by decide) (by decide)) (by rw [hz790]; exact fr0_s ex_2 (by have := iv_nat k787a (by decide); have := iv_nat j792 (by decide); omega) (fun q => absurd q (by have := iv_nEq c788; have := iv_nat k787a (by decide); have := iv_nat hp0 (by decide); omega)) (fun _ => by decide)) hJ hH (lv_sub hl [1, 2, 3, 0] rfl) rfl
        · skip
          have r788 := (iv_Eq c788)
          refine lv_iconst (v := 0) hx hb dX6_findRing_20 (by decide) ?_
          refine lv_goto (tgt := 25) hx hb dX6_findRing_21 (by decide) ?_
          refine b_iast hx hb hK hH 13 (by decide) rfl (iv_in k787a (by decide) (by decide)) (upA z_2 13 (upd (z_2.2.1 13) (x3_2 : Int32).toNatClampNeg 0)) rfl (enM_A _ _ _ _ _) dX6_findRing_25 (fun H locs hH => ?_)
          obtain ⟨z794, hz794⟩ : ∃ w : zS, w = upA z_2 13 (upd (z_2.2.1 13) (x3_2 : Int32).toNatClampNeg 0) := ⟨_, rfl⟩
          rw [← hz794] at hH
          have hJ : jJ IvM 8 8320 0 z0 z794 := by rw [hz794]; exact jJ_A hJ (by decide) (IvM_A hJ.1 (by decide))
          have g795 : iv 1 10 (z794.1 0) := by rw [hz794]; exact k787b
          have j796 : iv 1 10 (x3_2 + 1) := iv_add k787a (iv_lit (n := 1) 1 (by decide)) (by decide) (by decide) (by decide) (by decide)
          have e796 : (x3_2 + 1).toInt = x3_2.toInt + 1 := (iv_addE k787a (iv_lit (n := 1) 1 (by decide)) (by decide) (by decide)).trans rfl
          refine lv_iinc (v := (x3_2 + 1)) (lv' := [(3, .int (x3_2 + 1)), (0, .ref (q 0)), (1, .int p0), (2, .int p1)]) hx hb dX6_findRing_26 hl (k := 3) rfl rfl (by decide) rfl (fun ls hl => ?_)
          refine lv_goto (tgt := 2) hx hb dX6_findRing_29 (by decide) ?_
          exact ih2 _ (ms_up e796 j796.2 hn2) (x3_2 + 1) z794 H locs ls (iv_w j796 (by decide) (by decide)) (by rw [hz794]; exact fr0_s ex_2 (by have := iv_nat k787a (by decide); have := iv_nat j796 (by decide); omega) (fun _ => by decide) (fun q => absurd (congrArg Int32.toNatClampNeg c788) q)) hJ hH (lv_sub hl [1, 2, 3, 0] rfl) rfl
  refine lv_iconst (v := 0) hx hb dX6_findRing_0 (by decide) ?_
  refine lv_istore_n (lv' := [(3, .int 0), (0, .ref (q 0)), (1, .int p0), (2, .int p1)]) hx hb dX6_findRing_1 rfl hl (by decide) rfl (fun ls hl => ?_)
  exact HL2 _ 0 z0 H locs ls (iv_w (iv_lit (n := 0) 0 (by decide)) (by decide) (by decide)) (fun j hj => absurd hj (Nat.not_lt_zero j)) hJ hH (lv_sub hl [1, 2, 3, 0] rfl) rfl
set_option maxHeartbeats 4000000 in
set_option maxRecDepth 100000 in
theorem g_X6_ahead_0 (l : Launch) (D : va_G) (cy : Nat → ClassId) (q : Nat → Nat) (hq : bJ 23 q) (z0 : zS) (hI : IvM z0) (p0 : Int32) (p1 : Int32) : bCi l yX6_ahead wsX6_ahead ({ frames := 2, cells := 0, slots := 0, locals := 46 }) D cy 23 (enM cy) q z0 [.ref (q 0), .int p0, .int p1] (fun v z => jJ IvM 8 8328 0 z0 z ∧ iv (-3) 1 v ∧ (AhP (z0.1 0) (z0.2.1 3) (Rch (z0.2.1 3) (z0.1 0).toNatClampNeg p0.toNatClampNeg p1.toNatClampNeg) p0 p1 v (z.2.1 3)) ∧ (AhM (z0.1 0) (Rch (z0.2.1 3) (z0.1 0).toNatClampNeg p0.toNatClampNeg p1.toNatClampNeg) (z0.2.1 3) p0 p1 (z0.1 3) (z0.2.1 7) (z.1 3) (z.2.1 7))) := by
  refine hM_i cX6_ahead (by decide) rfl (own := RX6) rfl hq (Nat.le_of_ble_eq_true rfl) ?_
  intro p e s m args below meth c Q ls H locs hx hb hml hown hts hK hZ hH hl hret
  have hl : lv_has ls 4 [(0, .ref (q 0)), (1, .int p0), (2, .int p1)] := hl
  have hJ : jJ IvM 8 8328 0 z0 z0 := jJ_rf _ _ _ hI
  have e00 : (0 : Int32).toInt = 0 := (by decide); have e01 : (1 : Int32).toInt = 1 := (by decide); have e02 : (2 : Int32).toInt = 2 := (by decide); have e03 : (3 : Int32).toInt = 3 := (by decide); have e010 : (10 : Int32).toInt = 10 := (by decide)
  refine lv_aload_n hx hb dX6_ahead_0 rfl (lv_at hl 0 rfl) ?_
  refine lv_iload_n hx hb dX6_ahead_1 rfl (lv_at hl 1 rfl) ?_
  refine b_calli (As := [.int p0]) (rest := []) ⟨hx, hb, hml, hown, hts⟩ 0 6 (g_X6_isTask_0 l D cy q hH.2.1 z0 hJ.1 p0) (cwV 1 hts gX6_ahead_X6_isTask rfl rfl rfl (by decide +kernel) ⟨Nat.le_of_ble_eq_true rfl, Nat.le_of_ble_eq_true rfl⟩) hK hZ hH (by decide) rfl rfl rfl hl.1 rfl (Nat.le_of_ble_eq_true rfl) ⟨Nat.zero_le _, Nat.zero_le _⟩ dX6_ahead_2 (fun w31 z31 H locs hp hH => ?_)
  rw [Ag_0 hp.1.2] at hH
  have i31 := hp.2.1
  have := i31.1; have := i31.2
  have tr31_0 := hp.2.2.1
  have f31_0 := hp.2.2.2.1
  have f31_1 := hp.2.2.2.2
  refine lv_if_eq (tgt := 16) hx hb dX6_ahead_5 (by decide) (fun c32 => ?_) (fun c32 => ?_)
  · skip
    have r32 := (iv_Eq c32)
    have k33a : iv 0 0 w31 := iv_eql (iv_Eq c32) i31 (iv_lit (n := 0) 0 (by decide)) (by decide) (by decide)
    refine lv_bipush (v := (-2)) hx hb dX6_ahead_16 (by decide) ?_
    exact hret _ z0 H locs _ _ ⟨hJ, (iv_w (iv_lit (n := (-2)) (-2) (by decide)) (by decide) (by decide)), ⟨fun _ => ⟨rfl, rfl⟩, fun q => absurd q (fun q => absurd q.1 (f31_1.mp c32))⟩, ⟨fun o => absurd o (fun o => (fun q => absurd q.1 (f31_1.mp c32)) o.1), fun _ => ⟨rfl, rfl⟩⟩⟩ hH dX6_ahead_18
  · skip
    have k34 : iv 0 9 p0 := (tr31_0).resolve_left c32
    have := k34.1; have := k34.2
    have r32 := (iv_nEq c32)
    have k35a : iv 1 1 w31 := iv_neLo (iv_nEq c32) i31 (by decide) (by decide)
    refine lv_aload_n hx hb dX6_ahead_8 rfl (lv_at hl 0 rfl) ?_
    refine lv_iload_n hx hb dX6_ahead_9 rfl (lv_at hl 2 rfl) ?_
    refine b_calli (As := [.int p1]) (rest := []) ⟨hx, hb, hml, hown, hts⟩ 0 6 (g_X6_isTask_0 l D cy q hH.2.1 z0 hJ.1 p1) (cwV 1 hts gX6_ahead_X6_isTask rfl rfl rfl (by decide +kernel) ⟨Nat.le_of_ble_eq_true rfl, Nat.le_of_ble_eq_true rfl⟩) hK hZ hH (by decide) rfl rfl rfl hl.1 rfl (Nat.le_of_ble_eq_true rfl) ⟨Nat.zero_le _, Nat.zero_le _⟩ dX6_ahead_10 (fun w36 z36 H locs hp hH => ?_)
    rw [Ag_0 hp.1.2] at hH
    have i36 := hp.2.1
    have := i36.1; have := i36.2
    have tr36_0 := hp.2.2.1
    have f36_0 := hp.2.2.2.1
    have f36_1 := hp.2.2.2.2
    refine lv_if_ne (tgt := 19) hx hb dX6_ahead_13 (by decide) (fun c37 => ?_) (fun c37 => ?_)
    · skip
      have k38 : iv 0 9 p1 := (tr36_0).resolve_left c37
      have := k38.1; have := k38.2
      have r37 := (iv_nEq c37)
      have k39a : iv 1 1 w36 := iv_neLo (iv_nEq c37) i36 (by decide) (by decide)
      refine lv_iload_n hx hb dX6_ahead_19 rfl (lv_at hl 1 rfl) ?_
      refine lv_iload_n hx hb dX6_ahead_20 rfl (lv_at hl 2 rfl) ?_
      refine lv_icmp_eq (tgt := 36) hx hb dX6_ahead_21 (by decide) (fun c40 => ?_) (fun c40 => ?_)
      · skip
        have r40 := (iv_Eq c40)
        refine lv_aload_n hx hb dX6_ahead_36 rfl (lv_at hl 0 rfl) ?_
        refine lv_iload_n hx hb dX6_ahead_37 rfl (lv_at hl 1 rfl) ?_
        refine lv_iload_n hx hb dX6_ahead_38 rfl (lv_at hl 2 rfl) ?_
        refine b_callv (As := [.int p0, .int p1]) (rest := []) ⟨hx, hb, hml, hown, hts⟩ 0 6 (g_X6_findRing_0 l D cy q hH.2.1 z0 hJ.1 p0 k34 p1 k38 ⟨(f31_0).resolve_left c32, (f36_0).resolve_left c37, Or.inl c40⟩) (cwV 2 hts gX6_ahead_X6_findRing rfl rfl rfl (by decide +kernel) ⟨Nat.le_of_ble_eq_true rfl, Nat.le_of_ble_eq_true rfl⟩) hK hZ hH (by decide) rfl rfl rfl hl.1 rfl (Nat.le_of_ble_eq_true rfl) ⟨Nat.zero_le _, Nat.zero_le _⟩ dX6_ahead_39 (fun z42 H locs hp hH => ?_)
        have hJ := jJ_tr hJ hp.1 (by decide) (by decide) (by decide)
        have f42_0 := hp.2
        have hA42 := hp.1.2
        refine lv_bipush (v := (-3)) hx hb dX6_ahead_42 (by decide) ?_
        exact hret _ z42 H locs _ _ ⟨hJ, (iv_w (iv_lit (n := (-3)) (-3) (by decide)) (by decide) (by decide)), ⟨fun q => absurd ⟨(Classical.byContradiction (fun n => c32 (f31_1.mpr n))), (Classical.byContradiction (fun n => c37 (f36_1.mpr n)))⟩ q, fun _ => ⟨fun _ => ⟨rfl, ((hA42.2.1 3 (by decide)))⟩, fun n => absurd (Or.inl c40) n⟩⟩, ⟨fun _ => f42_0, fun n => absurd ⟨⟨(Classical.byContradiction (fun n => c32 (f31_1.mpr n))), (Classical.byContradiction (fun n => c37 (f36_1.mpr n)))⟩, Or.inl c40⟩ n⟩⟩ hH dX6_ahead_44
      · skip
        have r40 := (iv_nEq c40)
        refine lv_aload_n hx hb dX6_ahead_24 rfl (lv_at hl 0 rfl) ?_
        refine lv_iload_n hx hb dX6_ahead_25 rfl (lv_at hl 1 rfl) ?_
        refine b_calli (As := [.int p0]) (rest := []) ⟨hx, hb, hml, hown, hts⟩ 0 6 (g_X6_leading_0 l D cy q hH.2.1 z0 hJ.1 p0 k34) (cwV 1 hts gX6_ahead_X6_leading rfl rfl rfl (by decide +kernel) ⟨Nat.le_of_ble_eq_true rfl, Nat.le_of_ble_eq_true rfl⟩) hK hZ hH (by decide) rfl rfl rfl hl.1 rfl (Nat.le_of_ble_eq_true rfl) ⟨Nat.zero_le _, Nat.zero_le _⟩ dX6_ahead_26 (fun w44 z44 H locs hp hH => ?_)
        rw [Ag_0 hp.1.2] at hH
        have f44_0 := hp.2.2.1
        have f44_1 := hp.2.2.2
        refine lv_iload_n hx hb dX6_ahead_29 rfl (lv_at hl 2 rfl) ?_
        refine b_stati (As := [.int w44, .int p1]) (rest := []) ⟨hx, hb, hml, hown, hts⟩ (g_X6_in l D cy q hH.2.1 z0 hJ.1 w44 p1) (va_cwS 2 hts gX6_ahead_X6_in rfl rfl rfl (by decide +kernel) ⟨Nat.le_of_ble_eq_true rfl, Nat.le_of_ble_eq_true rfl⟩) hK hZ hH rfl hl.1 rfl (Nat.le_of_ble_eq_true rfl) ⟨Nat.zero_le _, Nat.zero_le _⟩ dX6_ahead_30 (fun w45 z45 H locs hp hH => ?_)
        rw [Ag_0 hp.1.2] at hH
        have i45 := hp.2.1
        have := i45.1; have := i45.2
        have f45_0 := hp.2.2
        refine lv_if_eq (tgt := 45) hx hb dX6_ahead_33 (by decide) (fun c46 => ?_) (fun c46 => ?_)
        · skip
          have r46 := (iv_Eq c46)
          have k47a : iv 0 0 w45 := iv_eql (iv_Eq c46) i45 (iv_lit (n := 0) 0 (by decide)) (by decide) (by decide)
          refine lv_aload_n hx hb dX6_ahead_45 rfl (lv_at hl 0 rfl) ?_
          refine b_get (ci := 6) (C := RX6) (T := TX6) (Nf := 29) (v := .ref (q 3)) hx hb hts in_X6_ahead_X6 hown hK hH 0 (by decide) rfl rfl 3 (by decide) (hts (.fieldLink RX6 16 "StationLineModel" "straight" "[I") (List.mem_of_getElem? (i := 1) rfl)) rfl dX6_ahead_46 ?_
          refine lv_iload_n hx hb dX6_ahead_49 rfl (lv_at hl 2 rfl) ?_
          refine b_iald (v := z0.2.1 3 (p1 : Int32).toNatClampNeg) hx hb hK hH 3 (by decide) rfl (iv_in k38 (by decide) (by decide)) rfl dX6_ahead_50 ?_
          refine lv_iload_n hx hb dX6_ahead_51 rfl (lv_at hl 1 rfl) ?_
          refine b_stati (As := [.int (z0.2.1 3 (p1 : Int32).toNatClampNeg), .int p0]) (rest := []) ⟨hx, hb, hml, hown, hts⟩ (g_X6_in l D cy q hH.2.1 z0 hJ.1 (z0.2.1 3 (p1 : Int32).toNatClampNeg) p0) (va_cwS 2 hts gX6_ahead_X6_in rfl rfl rfl (by decide +kernel) ⟨Nat.le_of_ble_eq_true rfl, Nat.le_of_ble_eq_true rfl⟩) hK hZ hH rfl hl.1 rfl (Nat.le_of_ble_eq_true rfl) ⟨Nat.zero_le _, Nat.zero_le _⟩ dX6_ahead_52 (fun w48 z48 H locs hp hH => ?_)
          rw [Ag_0 hp.1.2] at hH
          have i48 := hp.2.1
          have := i48.1; have := i48.2
          have f48_0 := hp.2.2
          refine lv_if_eq (tgt := 62) hx hb dX6_ahead_55 (by decide) (fun c49 => ?_) (fun c49 => ?_)
          · skip
            have r49 := (iv_Eq c49)
            have k50a : iv 0 0 w48 := iv_eql (iv_Eq c49) i48 (iv_lit (n := 0) 0 (by decide)) (by decide) (by decide)
            refine lv_iconst (v := 1) hx hb dX6_ahead_62 (by decide) ?_
            refine lv_istore_n (lv' := [(3, .int 1), (0, .ref (q 0)), (1, .int p0), (2, .int p1)]) hx hb dX6_ahead_63 rfl hl (by decide) rfl (fun ls hl => ?_)
            refine lv_aload_n hx hb dX6_ahead_64 rfl (lv_at hl 1 rfl) ?_
            refine b_get (ci := 6) (C := RX6) (T := TX6) (Nf := 29) (v := .ref (q 3)) hx hb hts in_X6_ahead_X6 hown hK hH 0 (by decide) rfl rfl 3 (by decide) (hts (.fieldLink RX6 16 "StationLineModel" "straight" "[I") (List.mem_of_getElem? (i := 1) rfl)) rfl dX6_ahead_65 ?_
            refine lv_iload_n hx hb dX6_ahead_68 rfl (lv_at hl 3 rfl) ?_
            refine lv_dup2_11 hx hb dX6_ahead_69 rfl rfl ?_
            refine b_iald (v := z0.2.1 3 (p1 : Int32).toNatClampNeg) hx hb hK hH 3 (by decide) rfl (iv_in k38 (by decide) (by decide)) rfl dX6_ahead_70 ?_
            refine lv_iconst (v := 1) hx hb dX6_ahead_71 (by decide) ?_
            refine lv_iload_n hx hb dX6_ahead_72 rfl (lv_at hl 2 rfl) ?_
            refine lv_ishl hx hb dX6_ahead_73 ?_
            have i51 : iv 1 512 ((1 : Int32) <<< (p0 &&& 31)) := (iv_bit k34 (by decide) (by decide))
            refine lv_ior hx hb dX6_ahead_74 ?_
            refine b_iast hx hb hK hH 3 (by decide) rfl (iv_in k38 (by decide) (by decide)) (upA z0 3 (upd (z0.2.1 3) (p1 : Int32).toNatClampNeg ((z0.2.1 3 (p1 : Int32).toNatClampNeg) ||| ((1 : Int32) <<< (p0 &&& 31))))) rfl (enM_A _ _ _ _ _) dX6_ahead_75 (fun H locs hH => ?_)
            obtain ⟨z53, hz53⟩ : ∃ w : zS, w = upA z0 3 (upd (z0.2.1 3) (p1 : Int32).toNatClampNeg ((z0.2.1 3 (p1 : Int32).toNatClampNeg) ||| ((1 : Int32) <<< (p0 &&& 31)))) := ⟨_, rfl⟩
            rw [← hz53] at hH
            have hJ : jJ IvM 8 8328 0 z0 z53 := by rw [hz53]; exact jJ_A hJ (by decide) (IvM_A hJ.1 (by decide))
            refine lv_iload_n hx hb dX6_ahead_76 rfl (lv_at hl 0 rfl) ?_
            exact hret _ z53 H locs _ _ ⟨hJ, (iv_w (iv_lit (n := 1) 1 (by decide)) (by decide) (by decide)), ⟨fun q => absurd ⟨(Classical.byContradiction (fun n => c32 (f31_1.mpr n))), (Classical.byContradiction (fun n => c37 (f36_1.mpr n)))⟩ q, fun _ => ⟨fun o => absurd o (fun o => o.elim c40 (fun r => in_no k38 f45_0 c46 (f44_1 _ r))), fun _ => ⟨fun b => absurd b (in_no k34 f48_0 c49), fun _ => ⟨rfl, (show z53.2.1 3 = upd (z0.2.1 3) p1.toNatClampNeg (z0.2.1 3 p1.toNatClampNeg ||| ((1 : Int32) <<< (p0 &&& 31))) by rw [hz53]; exact upA_e)⟩⟩⟩⟩, ⟨fun o => absurd o (fun o => (fun o => o.elim c40 (fun r => in_no k38 f45_0 c46 (f44_1 _ r))) o.2), fun _ => ⟨((show z53.1 3 = z0.1 3 by rw [hz53]; first | rfl | exact upA_n (by omega))), ((show z53.2.1 7 = z0.2.1 7 by rw [hz53]; first | rfl | exact upA_n (by omega)))⟩⟩⟩ hH dX6_ahead_77
          · skip
            have r49 := (iv_nEq c49)
            have k54a : iv 1 1 w48 := iv_neLo (iv_nEq c49) i48 (by decide) (by decide)
            refine lv_iconst (v := 0) hx hb dX6_ahead_58 (by decide) ?_
            refine lv_goto (tgt := 63) hx hb dX6_ahead_59 (by decide) ?_
            refine lv_istore_n (lv' := [(3, .int 0), (0, .ref (q 0)), (1, .int p0), (2, .int p1)]) hx hb dX6_ahead_63 rfl hl (by decide) rfl (fun ls hl => ?_)
            refine lv_aload_n hx hb dX6_ahead_64 rfl (lv_at hl 1 rfl) ?_
            refine b_get (ci := 6) (C := RX6) (T := TX6) (Nf := 29) (v := .ref (q 3)) hx hb hts in_X6_ahead_X6 hown hK hH 0 (by decide) rfl rfl 3 (by decide) (hts (.fieldLink RX6 16 "StationLineModel" "straight" "[I") (List.mem_of_getElem? (i := 1) rfl)) rfl dX6_ahead_65 ?_
            refine lv_iload_n hx hb dX6_ahead_68 rfl (lv_at hl 3 rfl) ?_
            refine lv_dup2_11 hx hb dX6_ahead_69 rfl rfl ?_
            refine b_iald (v := z0.2.1 3 (p1 : Int32).toNatClampNeg) hx hb hK hH 3 (by decide) rfl (iv_in k38 (by decide) (by decide)) rfl dX6_ahead_70 ?_
            refine lv_iconst (v := 1) hx hb dX6_ahead_71 (by decide) ?_
            refine lv_iload_n hx hb dX6_ahead_72 rfl (lv_at hl 2 rfl) ?_
            refine lv_ishl hx hb dX6_ahead_73 ?_
            have i55 : iv 1 512 ((1 : Int32) <<< (p0 &&& 31)) := (iv_bit k34 (by decide) (by decide))
            refine lv_ior hx hb dX6_ahead_74 ?_
            refine b_iast hx hb hK hH 3 (by decide) rfl (iv_in k38 (by decide) (by decide)) (upA z0 3 (upd (z0.2.1 3) (p1 : Int32).toNatClampNeg ((z0.2.1 3 (p1 : Int32).toNatClampNeg) ||| ((1 : Int32) <<< (p0 &&& 31))))) rfl (enM_A _ _ _ _ _) dX6_ahead_75 (fun H locs hH => ?_)
            obtain ⟨z57, hz57⟩ : ∃ w : zS, w = upA z0 3 (upd (z0.2.1 3) (p1 : Int32).toNatClampNeg ((z0.2.1 3 (p1 : Int32).toNatClampNeg) ||| ((1 : Int32) <<< (p0 &&& 31)))) := ⟨_, rfl⟩
            rw [← hz57] at hH
            have hJ : jJ IvM 8 8328 0 z0 z57 := by rw [hz57]; exact jJ_A hJ (by decide) (IvM_A hJ.1 (by decide))
            refine lv_iload_n hx hb dX6_ahead_76 rfl (lv_at hl 0 rfl) ?_
            exact hret _ z57 H locs _ _ ⟨hJ, (iv_w (iv_lit (n := 0) 0 (by decide)) (by decide) (by decide)), ⟨fun q => absurd ⟨(Classical.byContradiction (fun n => c32 (f31_1.mpr n))), (Classical.byContradiction (fun n => c37 (f36_1.mpr n)))⟩ q, fun _ => ⟨fun o => absurd o (fun o => o.elim c40 (fun r => in_no k38 f45_0 c46 (f44_1 _ r))), fun _ => ⟨fun b => ⟨rfl, ((show z57.2.1 3 = upd (z0.2.1 3) p1.toNatClampNeg (z0.2.1 3 p1.toNatClampNeg ||| ((1 : Int32) <<< (p0 &&& 31))) by rw [hz57]; exact upA_e)).trans (upd_same (or_same k34 b))⟩, fun b => absurd (in_yes k34 f48_0 c49) b⟩⟩⟩, ⟨fun o => absurd o (fun o => (fun o => o.elim c40 (fun r => in_no k38 f45_0 c46 (f44_1 _ r))) o.2), fun _ => ⟨((show z57.1 3 = z0.1 3 by rw [hz57]; first | rfl | exact upA_n (by omega))), ((show z57.2.1 7 = z0.2.1 7 by rw [hz57]; first | rfl | exact upA_n (by omega)))⟩⟩⟩ hH dX6_ahead_77
        · skip
          have r46 := (iv_nEq c46)
          have k58a : iv 1 1 w45 := iv_neLo (iv_nEq c46) i45 (by decide) (by decide)
          refine lv_aload_n hx hb dX6_ahead_36 rfl (lv_at hl 0 rfl) ?_
          refine lv_iload_n hx hb dX6_ahead_37 rfl (lv_at hl 1 rfl) ?_
          refine lv_iload_n hx hb dX6_ahead_38 rfl (lv_at hl 2 rfl) ?_
          refine b_callv (As := [.int p0, .int p1]) (rest := []) ⟨hx, hb, hml, hown, hts⟩ 0 6 (g_X6_findRing_0 l D cy q hH.2.1 z0 hJ.1 p0 k34 p1 k38 ⟨(f31_0).resolve_left c32, (f36_0).resolve_left c37, Or.inr (f44_0 _ (by have := iv_nat k38 (by decide); have := (k38).2; omega) (in_yes k38 f45_0 c46))⟩) (cwV 2 hts gX6_ahead_X6_findRing rfl rfl rfl (by decide +kernel) ⟨Nat.le_of_ble_eq_true rfl, Nat.le_of_ble_eq_true rfl⟩) hK hZ hH (by decide) rfl rfl rfl hl.1 rfl (Nat.le_of_ble_eq_true rfl) ⟨Nat.zero_le _, Nat.zero_le _⟩ dX6_ahead_39 (fun z59 H locs hp hH => ?_)
          have hJ := jJ_tr hJ hp.1 (by decide) (by decide) (by decide)
          have f59_0 := hp.2
          have hA59 := hp.1.2
          refine lv_bipush (v := (-3)) hx hb dX6_ahead_42 (by decide) ?_
          exact hret _ z59 H locs _ _ ⟨hJ, (iv_w (iv_lit (n := (-3)) (-3) (by decide)) (by decide) (by decide)), ⟨fun q => absurd ⟨(Classical.byContradiction (fun n => c32 (f31_1.mpr n))), (Classical.byContradiction (fun n => c37 (f36_1.mpr n)))⟩ q, fun _ => ⟨fun _ => ⟨rfl, ((hA59.2.1 3 (by decide)))⟩, fun n => absurd (Or.inr (f44_0 _ (by have := iv_nat k38 (by decide); have := (k38).2; omega) (in_yes k38 f45_0 c46))) n⟩⟩, ⟨fun _ => f59_0, fun n => absurd ⟨⟨(Classical.byContradiction (fun n => c32 (f31_1.mpr n))), (Classical.byContradiction (fun n => c37 (f36_1.mpr n)))⟩, Or.inr (f44_0 _ (by have := iv_nat k38 (by decide); have := (k38).2; omega) (in_yes k38 f45_0 c46))⟩ n⟩⟩ hH dX6_ahead_44
    · skip
      have r37 := (iv_Eq c37)
      have k60a : iv 0 0 w36 := iv_eql (iv_Eq c37) i36 (iv_lit (n := 0) 0 (by decide)) (by decide) (by decide)
      refine lv_bipush (v := (-2)) hx hb dX6_ahead_16 (by decide) ?_
      exact hret _ z0 H locs _ _ ⟨hJ, (iv_w (iv_lit (n := (-2)) (-2) (by decide)) (by decide) (by decide)), ⟨fun _ => ⟨rfl, rfl⟩, fun q => absurd q (fun q => absurd q.2 (f36_1.mp c37))⟩, ⟨fun o => absurd o (fun o => (fun q => absurd q.2 (f36_1.mp c37)) o.1), fun _ => ⟨rfl, rfl⟩⟩⟩ hH dX6_ahead_18
