set_option maxHeartbeats 4000000 in
set_option maxRecDepth 100000 in
theorem g_X1_moveIfBetter_13 (l : Launch) (D : va_G) (cy : Nat → ClassId) (q : Nat → Nat) (hq : bJ 66 q) (z0 : zS) (hI : IvC z0) (p0 : Int32) (hp0 : iv 0 9 p0) (p1 : Int32) (hp1 : iv 1 10 p1) : bCi l yX1_moveIfBetter wsX1_moveIfBetter ({ frames := 5, cells := 0, slots := 0, locals := 118 }) D cy 66 (enC cy) q z0 [.ref (q 13), .int p0, .int p1] (fun v z => jJ IvC 0 16384 0 z0 z ∧ iv 0 1 v) := by
  refine hM_z cX1_moveIfBetter (by decide) rfl (own := RX1) rfl hq (Nat.le_of_ble_eq_true rfl) ?_
  intro p e s m args below meth c Q ls H locs hx hb hml hown hts hK hZ hH hl hret
  have hl : lv_has ls 8 [(0, .ref (q 13)), (1, .int p0), (2, .int p1)] := hl
  have hJ : jJ IvC 0 16384 0 z0 z0 := jJ_rf _ _ _ hI
  have HJ57 : ∀ (x3_57 : Int32) (z_57 : zS) (H : Heap) (locs : List Loc) (ls : Array Slot), iv 0 10 x3_57 → jJ IvC 0 16384 0 z0 z_57 → bH D 66 (enC cy) q z_57 s.heap H locs → lv_has ls 8 [(0, .ref (q 13)), (1, .int p0), (3, .int x3_57)] → W p l e ({ frames := 5, cells := 0, slots := 0, locals := 118 }) s m args below meth c H locs 0 0 Q (F0 m 57 ls []) := by
    intro x3_57 z_57 H locs ls h3_57 hJ hH hl
    refine lv_aload_n hx hb dX1_moveIfBetter_57 rfl (lv_at hl 0 rfl) ?_
    refine b_get (ci := 1) (C := RX1) (T := TX1) (Nf := 2) (v := .ref (q 14)) hx hb hts in_X1_moveIfBetter_X1 hown hK hH 13 (by decide) rfl rfl 1 (by decide) (hts (.fieldLink RX1 9 "StationLine$Putting" "row" "[I") (List.mem_of_getElem? (i := 1) rfl)) rfl dX1_moveIfBetter_58 ?_
    refine lv_iload_n hx hb dX1_moveIfBetter_61 rfl (lv_at hl 1 rfl) ?_
    refine lv_iload_n hx hb dX1_moveIfBetter_62 rfl (lv_at hl 2 rfl) ?_
    refine b_iast hx hb hK hH 14 (by decide) rfl (iv_in hp0 (by decide) (by decide)) (upA z_57 14 (upd (z_57.2.1 14) (p0 : Int32).toNatClampNeg x3_57)) rfl (enC_A _ _ _ _ _) dX1_moveIfBetter_63 (fun H locs hH => ?_)
    obtain ⟨z18, hz18⟩ : ∃ w : zS, w = upA z_57 14 (upd (z_57.2.1 14) (p0 : Int32).toNatClampNeg x3_57) := ⟨_, rfl⟩
    rw [← hz18] at hH
    have hJ : jJ IvC 0 16384 0 z0 z18 := by rw [hz18]; exact jJ_A hJ (by decide) (IvC_A14 hJ.1 _ (iv_w h3_57 (by decide) (by decide)))
    refine lv_iconst (v := 0) hx hb dX1_moveIfBetter_64 (by decide) ?_
    exact hret _ z18 H locs _ _ (iv_w (iv_lit (n := 0) 0 (by decide)) (by decide) (by decide)) ⟨hJ, (iv_w (iv_lit (n := 0) 0 (by decide)) (by decide) (by decide))⟩ hH dX1_moveIfBetter_65
  refine lv_aload_n hx hb dX1_moveIfBetter_0 rfl (lv_at hl 0 rfl) ?_
  refine b_get (ci := 1) (C := RX1) (T := TX1) (Nf := 2) (v := .ref (q 14)) hx hb hts in_X1_moveIfBetter_X1 hown hK hH 13 (by decide) rfl rfl 1 (by decide) (hts (.fieldLink RX1 9 "StationLine$Putting" "row" "[I") (List.mem_of_getElem? (i := 1) rfl)) rfl dX1_moveIfBetter_1 ?_
  refine lv_iload_n hx hb dX1_moveIfBetter_4 rfl (lv_at hl 1 rfl) ?_
  refine b_iald (v := z0.2.1 14 (p0 : Int32).toNatClampNeg) hx hb hK hH 14 (by decide) rfl (iv_in hp0 (by decide) (by decide)) rfl dX1_moveIfBetter_5 ?_
  have i19 : iv 0 10 (z0.2.1 14 (p0 : Int32).toNatClampNeg) := IvC_a14 hJ.1 _ (b_inlt (iv_in hp0 (by decide) (by decide)))
  refine lv_istore_n (lv' := [(3, .int (z0.2.1 14 (p0 : Int32).toNatClampNeg)), (0, .ref (q 13)), (1, .int p0), (2, .int p1)]) hx hb dX1_moveIfBetter_6 rfl hl (by decide) rfl (fun ls hl => ?_)
  refine lv_aload_n hx hb dX1_moveIfBetter_7 rfl (lv_at hl 1 rfl) ?_
  refine lv_iload_n hx hb dX1_moveIfBetter_8 rfl (lv_at hl 0 rfl) ?_
  refine b_calll (As := [.int (z0.2.1 14 (p0 : Int32).toNatClampNeg)]) (rest := []) ⟨hx, hb, hml, hown, hts⟩ 13 1 (g_X1_squareAt_13 l D cy q hH.2.1 z0 hJ.1 (z0.2.1 14 (p0 : Int32).toNatClampNeg)) (cwV 1 hts gX1_moveIfBetter_X1_squareAt rfl rfl rfl (by decide +kernel) ⟨Nat.le_of_ble_eq_true rfl, Nat.le_of_ble_eq_true rfl⟩) hK hZ hH (by decide) rfl rfl rfl hl.1 rfl (Nat.le_of_ble_eq_true rfl) ⟨Nat.zero_le _, Nat.zero_le _⟩ dX1_moveIfBetter_9 (fun w20 z20 H locs hp hH => ?_)
  rw [Ag_0 hp.2] at hH
  refine lv_aload_n hx hb dX1_moveIfBetter_12 rfl (lv_at hl 1 rfl) ?_
  refine lv_iload_n hx hb dX1_moveIfBetter_13 rfl (lv_at hl 3 rfl) ?_
  refine b_calll (As := [.int p1]) (rest := [.long w20]) ⟨hx, hb, hml, hown, hts⟩ 13 1 (g_X1_squareAt_13 l D cy q hH.2.1 z0 hJ.1 p1) (cwV 1 hts gX1_moveIfBetter_X1_squareAt rfl rfl rfl (by decide +kernel) ⟨Nat.le_of_ble_eq_true rfl, Nat.le_of_ble_eq_true rfl⟩) hK hZ hH (by decide) rfl rfl rfl hl.1 rfl (Nat.le_of_ble_eq_true rfl) ⟨Nat.zero_le _, Nat.zero_le _⟩ dX1_moveIfBetter_14 (fun w21 z21 H locs hp hH => ?_)
  rw [Ag_0 hp.2] at hH
  refine lv_ladd hx hb dX1_moveIfBetter_17 ?_
  refine h_l (fun w22 => ?_)
  refine lv_lstore (lv' := [(4, .long w22), (3, .int (z0.2.1 14 (p0 : Int32).toNatClampNeg)), (0, .ref (q 13)), (1, .int p0), (2, .int p1)]) hx hb dX1_moveIfBetter_18 hl (by decide) rfl (fun ls hl => ?_)
  refine lv_aload_n hx hb dX1_moveIfBetter_20 rfl (lv_at hl 2 rfl) ?_
  refine b_get (ci := 1) (C := RX1) (T := TX1) (Nf := 2) (v := .ref (q 14)) hx hb hts in_X1_moveIfBetter_X1 hown hK hH 13 (by decide) rfl rfl 1 (by decide) (hts (.fieldLink RX1 9 "StationLine$Putting" "row" "[I") (List.mem_of_getElem? (i := 1) rfl)) rfl dX1_moveIfBetter_21 ?_
  refine lv_iload_n hx hb dX1_moveIfBetter_24 rfl (lv_at hl 3 rfl) ?_
  refine lv_iload_n hx hb dX1_moveIfBetter_25 rfl (lv_at hl 4 rfl) ?_
  refine b_iast hx hb hK hH 14 (by decide) rfl (iv_in hp0 (by decide) (by decide)) (upA z0 14 (upd (z0.2.1 14) (p0 : Int32).toNatClampNeg p1)) rfl (enC_A _ _ _ _ _) dX1_moveIfBetter_26 (fun H locs hH => ?_)
  obtain ⟨z23, hz23⟩ : ∃ w : zS, w = upA z0 14 (upd (z0.2.1 14) (p0 : Int32).toNatClampNeg p1) := ⟨_, rfl⟩
  rw [← hz23] at hH
  have hJ : jJ IvC 0 16384 0 z0 z23 := by rw [hz23]; exact jJ_A hJ (by decide) (IvC_A14 hJ.1 _ (iv_w hp1 (by decide) (by decide)))
  refine lv_aload_n hx hb dX1_moveIfBetter_27 rfl (lv_at hl 2 rfl) ?_
  refine lv_iload_n hx hb dX1_moveIfBetter_28 rfl (lv_at hl 1 rfl) ?_
  refine b_calll (As := [.int (z0.2.1 14 (p0 : Int32).toNatClampNeg)]) (rest := []) ⟨hx, hb, hml, hown, hts⟩ 13 1 (g_X1_squareAt_13 l D cy q hH.2.1 z23 hJ.1 (z0.2.1 14 (p0 : Int32).toNatClampNeg)) (cwV 1 hts gX1_moveIfBetter_X1_squareAt rfl rfl rfl (by decide +kernel) ⟨Nat.le_of_ble_eq_true rfl, Nat.le_of_ble_eq_true rfl⟩) hK hZ hH (by decide) rfl rfl rfl hl.1 rfl (Nat.le_of_ble_eq_true rfl) ⟨Nat.zero_le _, Nat.zero_le _⟩ dX1_moveIfBetter_29 (fun w24 z24 H locs hp hH => ?_)
  rw [Ag_0 hp.2] at hH
  refine lv_aload_n hx hb dX1_moveIfBetter_32 rfl (lv_at hl 2 rfl) ?_
  refine lv_iload_n hx hb dX1_moveIfBetter_33 rfl (lv_at hl 4 rfl) ?_
  refine b_calll (As := [.int p1]) (rest := [.long w24]) ⟨hx, hb, hml, hown, hts⟩ 13 1 (g_X1_squareAt_13 l D cy q hH.2.1 z23 hJ.1 p1) (cwV 1 hts gX1_moveIfBetter_X1_squareAt rfl rfl rfl (by decide +kernel) ⟨Nat.le_of_ble_eq_true rfl, Nat.le_of_ble_eq_true rfl⟩) hK hZ hH (by decide) rfl rfl rfl hl.1 rfl (Nat.le_of_ble_eq_true rfl) ⟨Nat.zero_le _, Nat.zero_le _⟩ dX1_moveIfBetter_34 (fun w25 z25 H locs hp hH => ?_)
  rw [Ag_0 hp.2] at hH
  refine lv_ladd hx hb dX1_moveIfBetter_37 ?_
  refine h_l (fun w26 => ?_)
  refine lv_lstore (lv' := [(6, .long w26), (4, .long w22), (3, .int (z0.2.1 14 (p0 : Int32).toNatClampNeg)), (0, .ref (q 13)), (1, .int p0), (2, .int p1)]) hx hb dX1_moveIfBetter_38 hl (by decide) rfl (fun ls hl => ?_)
  refine lv_lload hx hb dX1_moveIfBetter_40 (lv_at hl 0 rfl) ?_
  refine lv_lload hx hb dX1_moveIfBetter_42 (lv_at hl 1 rfl) ?_
  refine W.lcmp hx hb dX1_moveIfBetter_44 ?_
  refine lv_topi (fun w27 _ => ?_)
  refine lv_if_ge (tgt := 57) hx hb dX1_moveIfBetter_45 (by decide) (fun c28 => ?_) (fun c28 => ?_)
  · skip
    have k29b : iv 0 2147483647 w27 := iv_ler (iv_Le c28) (iv_lit (n := 0) 0 (by decide)) (iv_all w27)
    exact HJ57 (z0.2.1 14 (p0 : Int32).toNatClampNeg) z23 H locs ls i19 hJ hH (lv_sub hl [3, 4, 2] rfl)
  · skip
    have k30a : iv (-2147483648) (-1) w27 := iv_ltl (iv_nLe c28) (iv_all w27) (iv_lit (n := 0) 0 (by decide)) (by decide)
    refine lv_aload_n hx hb dX1_moveIfBetter_48 rfl (lv_at hl 3 rfl) ?_
    refine b_calli (As := []) (rest := []) ⟨hx, hb, hml, hown, hts⟩ 13 1 (g_X1_firstClash_13 l D cy q hH.2.1 z23 hJ.1 ) (cwV 0 hts gX1_moveIfBetter_X1_firstClash rfl rfl rfl (by decide +kernel) ⟨Nat.le_of_ble_eq_true rfl, Nat.le_of_ble_eq_true rfl⟩) hK hZ hH (by decide) rfl rfl rfl hl.1 rfl (Nat.le_of_ble_eq_true rfl) ⟨Nat.zero_le _, Nat.zero_le _⟩ dX1_moveIfBetter_49 (fun w31 z31 H locs hp hH => ?_)
    rw [Ag_0 hp.1.2] at hH
    have i31 := hp.2
    refine lv_if_ge (tgt := 57) hx hb dX1_moveIfBetter_52 (by decide) (fun c32 => ?_) (fun c32 => ?_)
    · skip
      have k33b : iv 0 9 w31 := iv_ler (iv_Le c32) (iv_lit (n := 0) 0 (by decide)) i31
      exact HJ57 (z0.2.1 14 (p0 : Int32).toNatClampNeg) z23 H locs ls i19 hJ hH (lv_sub hl [3, 4, 2] rfl)
    · skip
      have k34a : iv (-1) (-1) w31 := iv_ltl (iv_nLe c32) i31 (iv_lit (n := 0) 0 (by decide)) (by decide)
      refine lv_iconst (v := 1) hx hb dX1_moveIfBetter_55 (by decide) ?_
      exact hret _ z23 H locs _ _ (iv_w (iv_lit (n := 1) 1 (by decide)) (by decide) (by decide)) ⟨hJ, (iv_w (iv_lit (n := 1) 1 (by decide)) (by decide) (by decide))⟩ hH dX1_moveIfBetter_56
set_option maxHeartbeats 4000000 in
set_option maxRecDepth 100000 in
theorem g_X1_moveOnce_13 (l : Launch) (D : va_G) (cy : Nat → ClassId) (q : Nat → Nat) (hq : bJ 66 q) (z0 : zS) (hI : IvC z0)  : bCi l yX1_moveOnce wsX1_moveOnce ({ frames := 6, cells := 0, slots := 0, locals := 145 }) D cy 66 (enC cy) q z0 [.ref (q 13)] (fun v z => jJ IvC 0 16384 0 z0 z ∧ iv 0 1 v) := by
  refine hM_z cX1_moveOnce (by decide) rfl (own := RX1) rfl hq (Nat.le_of_ble_eq_true rfl) ?_
  intro p e s m args below meth c Q ls H locs hx hb hml hown hts hK hZ hH hl hret
  have hl : lv_has ls 4 [(0, .ref (q 13))] := hl
  have hJ : jJ IvC 0 16384 0 z0 z0 := jJ_rf _ _ _ hI
  have HL7 : ∀ (n : Nat) (x1_7 : Int32) (x2_7 : Int32) (z_7 : zS) (H : Heap) (locs : List Loc) (ls : Array Slot), iv 0 10 x1_7 → iv 0 10 x2_7 → jJ IvC 0 16384 0 z0 z_7 → bH D 66 (enC cy) q z_7 s.heap H locs → lv_has ls 4 [(0, .ref (q 13)), (1, .int x1_7), (2, .int x2_7)] → (10 - x2_7.toInt).toNat = n → W p l e ({ frames := 6, cells := 0, slots := 0, locals := 145 }) s m args below meth c H locs 0 0 Q (F0 m 7 ls []) := by
    intro n7
    induction n7 using Nat.strongRecOn with
    | ind n7 ih7 =>
      intro x1_7 x2_7 z_7 H locs ls h1_7 h2_7 hJ hH hl hn7
      have HL20 : ∀ (n : Nat) (x3_20 : Int32) (z_20 : zS) (H : Heap) (locs : List Loc) (ls : Array Slot), iv 0 9 x2_7 → iv 1 11 x3_20 → iv 1 10 (z_20.1 0) → jJ IvC 0 16384 0 z0 z_20 → bH D 66 (enC cy) q z_20 s.heap H locs → lv_has ls 4 [(0, .ref (q 13)), (1, .int x1_7), (2, .int x2_7), (3, .int x3_20)] → (11 - x3_20.toInt).toNat = n → W p l e ({ frames := 6, cells := 0, slots := 0, locals := 145 }) s m args below meth c H locs 0 0 Q (F0 m 20 ls []) := by
        intro n20
        induction n20 using Nat.strongRecOn with
        | ind n20 ih20 =>
          intro x3_20 z_20 H locs ls h2_20 h3_20 gh0_20 hJ hH hl hn20
          have HJ46 : ∀ (z_46 : zS) (H : Heap) (locs : List Loc) (ls : Array Slot), iv 1 10 x1_7 → iv 1 10 x3_20 → iv 1 10 (z_46.1 0) → jJ IvC 0 16384 0 z0 z_46 → bH D 66 (enC cy) q z_46 s.heap H locs → lv_has ls 4 [(0, .ref (q 13)), (1, .int x1_7), (2, .int x2_7), (3, .int x3_20)] → W p l e ({ frames := 6, cells := 0, slots := 0, locals := 145 }) s m args below meth c H locs 0 0 Q (F0 m 46 ls []) := by
            intro z_46 H locs ls h1_46 h3_46 gh0_46 hJ hH hl
            have j197 : iv 2 11 (x3_20 + 1) := iv_add h3_46 (iv_lit (n := 1) 1 (by decide)) (by decide) (by decide) (by decide) (by decide)
            have e197 : (x3_20 + 1).toInt = x3_20.toInt + 1 := (iv_addE h3_46 (iv_lit (n := 1) 1 (by decide)) (by decide) (by decide)).trans rfl
            refine lv_iinc (v := (x3_20 + 1)) (lv' := [(3, .int (x3_20 + 1)), (0, .ref (q 13)), (1, .int x1_7), (2, .int x2_7)]) hx hb dX1_moveOnce_46 hl (k := 3) rfl rfl (by decide) rfl (fun ls hl => ?_)
            refine lv_goto (tgt := 20) hx hb dX1_moveOnce_49 (by decide) ?_
            exact ih20 _ (ms_up e197 j197.2 hn20) (x3_20 + 1) z_46 H locs ls h2_20 (iv_w j197 (by decide) (by decide)) gh0_46 hJ hH (lv_sub hl [1, 2, 3, 0] rfl) rfl
          refine lv_iload_n hx hb dX1_moveOnce_20 rfl (lv_at hl 3 rfl) ?_
          refine lv_iload_n hx hb dX1_moveOnce_21 rfl (lv_at hl 1 rfl) ?_
          refine lv_icmp_gt (tgt := 52) hx hb dX1_moveOnce_22 (by decide) (fun c198 => ?_) (fun c198 => ?_)
          · skip
            have j200 : iv 1 10 (x2_7 + 1) := iv_add h2_20 (iv_lit (n := 1) 1 (by decide)) (by decide) (by decide) (by decide) (by decide)
            have e200 : (x2_7 + 1).toInt = x2_7.toInt + 1 := (iv_addE h2_20 (iv_lit (n := 1) 1 (by decide)) (by decide) (by decide)).trans rfl
            refine lv_iinc (v := (x2_7 + 1)) (lv' := [(2, .int (x2_7 + 1)), (0, .ref (q 13)), (1, .int x1_7), (3, .int x3_20)]) hx hb dX1_moveOnce_52 hl (k := 2) rfl rfl (by decide) rfl (fun ls hl => ?_)
            refine lv_goto (tgt := 7) hx hb dX1_moveOnce_55 (by decide) ?_
            exact ih7 _ (ms_up e200 j200.2 hn7) x1_7 (x2_7 + 1) z_20 H locs ls h1_7 (iv_w j200 (by decide) (by decide)) hJ hH (lv_sub hl [1, 2, 0] rfl) rfl
          · skip
            have k201a : iv 1 10 x3_20 := iv_lel (iv_nLt c198) h3_20 h1_7
            have k201b : iv 1 10 x1_7 := iv_ler (iv_nLt c198) h3_20 h1_7
            refine lv_iload_n hx hb dX1_moveOnce_25 rfl (lv_at hl 3 rfl) ?_
            refine lv_aload_n hx hb dX1_moveOnce_26 rfl (lv_at hl 0 rfl) ?_
            refine b_get (ci := 1) (C := RX1) (T := TX1) (Nf := 2) (v := .ref (q 14)) hx hb hts in_X1_moveOnce_X1 hown hK hH 13 (by decide) rfl rfl 1 (by decide) (hts (.fieldLink RX1 9 "StationLine$Putting" "row" "[I") (List.mem_of_getElem? (i := 3) rfl)) rfl dX1_moveOnce_27 ?_
            refine lv_iload_n hx hb dX1_moveOnce_30 rfl (lv_at hl 2 rfl) ?_
            refine b_iald (v := z_20.2.1 14 (x2_7 : Int32).toNatClampNeg) hx hb hK hH 14 (by decide) rfl (iv_in h2_20 (by decide) (by decide)) rfl dX1_moveOnce_31 ?_
            have i202 : iv 0 10 (z_20.2.1 14 (x2_7 : Int32).toNatClampNeg) := IvC_a14 hJ.1 _ (b_inlt (iv_in h2_20 (by decide) (by decide)))
            refine lv_icmp_eq (tgt := 46) hx hb dX1_moveOnce_32 (by decide) (fun c203 => ?_) (fun c203 => ?_)
            · skip
              have k204b : iv 1 10 (z_20.2.1 14 (x2_7 : Int32).toNatClampNeg) := iv_eql ((iv_Eq c203)).symm i202 k201a (by decide) (by decide)
              exact HJ46  z_20 H locs ls k201b k201a gh0_20 hJ hH (lv_sub hl [0, 1, 2, 3] rfl)
            · skip
              refine lv_aload_n hx hb dX1_moveOnce_35 rfl (lv_at hl 0 rfl) ?_
              refine lv_iload_n hx hb dX1_moveOnce_36 rfl (lv_at hl 2 rfl) ?_
              refine lv_iload_n hx hb dX1_moveOnce_37 rfl (lv_at hl 3 rfl) ?_
              refine b_calli (As := [.int x2_7, .int x3_20]) (rest := []) ⟨hx, hb, hml, hown, hts⟩ 13 1 (g_X1_moveIfBetter_13 l D cy q hH.2.1 z_20 hJ.1 x2_7 h2_20 x3_20 k201a) (cwV 2 hts gX1_moveOnce_X1_moveIfBetter rfl rfl rfl (by decide +kernel) ⟨Nat.le_of_ble_eq_true rfl, Nat.le_of_ble_eq_true rfl⟩) hK hZ hH (by decide) rfl rfl rfl hl.1 rfl (Nat.le_of_ble_eq_true rfl) ⟨Nat.zero_le _, Nat.zero_le _⟩ dX1_moveOnce_38 (fun w206 z206 H locs hp hH => ?_)
              have hJ := jJ_tr hJ hp.1 (by decide) (by decide) (by decide)
              have i206 := hp.2
              have hA206 := hp.1.2
              have g207 : iv 1 10 (z206.1 0) := by rw [(hp.1).2.1 0 (by decide)]; exact gh0_20
              refine lv_if_eq (tgt := 46) hx hb dX1_moveOnce_41 (by decide) (fun c208 => ?_) (fun c208 => ?_)
              · skip
                have k209a : iv 0 0 w206 := iv_eql (iv_Eq c208) i206 (iv_lit (n := 0) 0 (by decide)) (by decide) (by decide)
                exact HJ46  z206 H locs ls k201b k201a g207 hJ hH (lv_sub hl [0, 1, 2, 3] rfl)
              · skip
                have k210a : iv 1 1 w206 := iv_neLo (iv_nEq c208) i206 (by decide) (by decide)
                refine lv_iconst (v := 1) hx hb dX1_moveOnce_44 (by decide) ?_
                exact hret _ z206 H locs _ _ (iv_w (iv_lit (n := 1) 1 (by decide)) (by decide) (by decide)) ⟨hJ, (iv_w (iv_lit (n := 1) 1 (by decide)) (by decide) (by decide))⟩ hH dX1_moveOnce_45
      refine lv_iload_n hx hb dX1_moveOnce_7 rfl (lv_at hl 2 rfl) ?_
      refine lv_aload_n hx hb dX1_moveOnce_8 rfl (lv_at hl 0 rfl) ?_
      refine b_get (ci := 1) (C := RX1) (T := TX1) (Nf := 2) (v := .ref (q 1)) hx hb hts in_X1_moveOnce_X1 hown hK hH 13 (by decide) rfl rfl 0 (by decide) (hts (.fieldLink RX1 15 "StationLine$Putting" "bench" "LStationLine$Bench;") (List.mem_of_getElem? (i := 1) rfl)) rfl dX1_moveOnce_9 ?_
      refine b_get (ci := 0) (C := RX0) (T := TX0) (Nf := 11) (v := .int (z_7.1 0)) hx hb hts in_X1_moveOnce_X0 hown hK hH 1 (by decide) rfl rfl 0 (by decide) (hts (.fieldLink RX1 25 "StationLine$Bench" "size" "I") (List.mem_of_getElem? (i := 2) rfl)) rfl dX1_moveOnce_12 ?_
      have i211 := IvC_s0 hJ.1
      refine lv_icmp_ge (tgt := 58) hx hb dX1_moveOnce_15 (by decide) (fun c212 => ?_) (fun c212 => ?_)
      · skip
        refine lv_iconst (v := 0) hx hb dX1_moveOnce_58 (by decide) ?_
        exact hret _ z_7 H locs _ _ (iv_w (iv_lit (n := 0) 0 (by decide)) (by decide) (by decide)) ⟨hJ, (iv_w (iv_lit (n := 0) 0 (by decide)) (by decide) (by decide))⟩ hH dX1_moveOnce_59
      · skip
        have k214a : iv 0 9 x2_7 := iv_ltl (iv_nLe c212) h2_7 i211 (by decide)
        have k214b : iv 1 10 (z_7.1 0) := iv_ltr (iv_nLe c212) h2_7 i211 (by decide)
        refine lv_iconst (v := 1) hx hb dX1_moveOnce_18 (by decide) ?_
        refine lv_istore_n (lv' := [(3, .int 1), (0, .ref (q 13)), (1, .int x1_7), (2, .int x2_7)]) hx hb dX1_moveOnce_19 rfl hl (by decide) rfl (fun ls hl => ?_)
        exact HL20 _ 1 z_7 H locs ls k214a (iv_w (iv_lit (n := 1) 1 (by decide)) (by decide) (by decide)) k214b hJ hH (lv_sub hl [1, 2, 3, 0] rfl) rfl
  refine lv_aload_n hx hb dX1_moveOnce_0 rfl (lv_at hl 0 rfl) ?_
  refine b_calli (As := []) (rest := []) ⟨hx, hb, hml, hown, hts⟩ 13 1 (g_X1_greatest_13 l D cy q hH.2.1 z0 hJ.1 ) (cwV 0 hts gX1_moveOnce_X1_greatest rfl rfl rfl (by decide +kernel) ⟨Nat.le_of_ble_eq_true rfl, Nat.le_of_ble_eq_true rfl⟩) hK hZ hH (by decide) rfl rfl rfl hl.1 rfl (Nat.le_of_ble_eq_true rfl) ⟨Nat.zero_le _, Nat.zero_le _⟩ dX1_moveOnce_1 (fun w215 z215 H locs hp hH => ?_)
  rw [Ag_0 hp.1.2] at hH
  have i215 := hp.2
  refine lv_istore_n (lv' := [(1, .int w215), (0, .ref (q 13))]) hx hb dX1_moveOnce_4 rfl hl (by decide) rfl (fun ls hl => ?_)
  refine lv_iconst (v := 0) hx hb dX1_moveOnce_5 (by decide) ?_
  refine lv_istore_n (lv' := [(2, .int 0), (1, .int w215), (0, .ref (q 13))]) hx hb dX1_moveOnce_6 rfl hl (by decide) rfl (fun ls hl => ?_)
  exact HL7 _ w215 0 z0 H locs ls i215 (iv_w (iv_lit (n := 0) 0 (by decide)) (by decide) (by decide)) hJ hH (lv_sub hl [2, 1, 0] rfl) rfl
set_option maxHeartbeats 4000000 in
set_option maxRecDepth 100000 in
theorem g_J6_bitCount_0f7a4 (l : Launch) (D : va_G) (cy : Nat → ClassId) (q : Nat → Nat) (hq : bJ 66 q) (z0 : zS) (hI : IvC z0) (p0 : Int32) : bCi l yJ6_bitCount_0f7a4 wsJ6_bitCount_0f7a4 ({ frames := 0, cells := 0, slots := 0, locals := 0 }) D cy 66 (enC cy) q z0 [.int p0] (fun v z => jJ IvC 0 0 0 z0 z ∧ iv 0 63 v) := by
  refine hM_i cJ6_bitCount_0f7a4 (by decide) rfl (own := RJ6) rfl hq (Nat.le_of_ble_eq_true rfl) ?_
  intro p e s m args below meth c Q ls H locs hx hb hml hown hts hK hZ hH hl hret
  have hl : lv_has ls 1 [(0, .int p0)] := hl
  have hJ : jJ IvC 0 0 0 z0 z0 := jJ_rf _ _ _ hI
  refine lv_iload_n hx hb dJ6_bitCount_0f7a4_0 rfl (lv_at hl 0 rfl) ?_
  refine lv_iload_n hx hb dJ6_bitCount_0f7a4_1 rfl (lv_at hl 0 rfl) ?_
  refine lv_iconst (v := 1) hx hb dJ6_bitCount_0f7a4_2 (by decide) ?_
  refine lv_iushr hx hb dJ6_bitCount_0f7a4_3 rfl ?_
  refine lv_topi (fun w16 _ => ?_)
  refine lv_ldcw hx hb hown (hts (.constant RJ6 265 (1431655765)) (List.mem_of_getElem? (i := 1) rfl)) dJ6_bitCount_0f7a4_4 ?_
  refine lv_iand hx hb dJ6_bitCount_0f7a4_7 ?_
  refine h_i (a := 0) (b := 1431655765) (iv_and2 (iv_all w16) (iv_lit (n := 1431655765) 1431655765 (by decide)) (by decide) (by decide)) (fun w17 i17 => ?_)
  refine lv_isub hx hb dJ6_bitCount_0f7a4_8 ?_
  refine lv_topi (fun w18 _ => ?_)
  refine lv_istore_n (lv' := [(0, .int w18)]) hx hb dJ6_bitCount_0f7a4_9 rfl hl (by decide) rfl (fun ls hl => ?_)
  refine lv_iload_n hx hb dJ6_bitCount_0f7a4_10 rfl (lv_at hl 0 rfl) ?_
  refine lv_ldcw hx hb hown (hts (.constant RJ6 266 (858993459)) (List.mem_of_getElem? (i := 2) rfl)) dJ6_bitCount_0f7a4_11 ?_
  refine lv_iand hx hb dJ6_bitCount_0f7a4_14 ?_
  refine h_i (a := 0) (b := 858993459) (iv_and2 (iv_all w18) (iv_lit (n := 858993459) 858993459 (by decide)) (by decide) (by decide)) (fun w19 i19 => ?_)
  refine lv_iload_n hx hb dJ6_bitCount_0f7a4_15 rfl (lv_at hl 0 rfl) ?_
  refine lv_iconst (v := 2) hx hb dJ6_bitCount_0f7a4_16 (by decide) ?_
  refine lv_iushr hx hb dJ6_bitCount_0f7a4_17 rfl ?_
  refine lv_topi (fun w20 _ => ?_)
  refine lv_ldcw hx hb hown (hts (.constant RJ6 266 (858993459)) (List.mem_of_getElem? (i := 2) rfl)) dJ6_bitCount_0f7a4_18 ?_
  refine lv_iand hx hb dJ6_bitCount_0f7a4_21 ?_
  refine h_i (a := 0) (b := 858993459) (iv_and2 (iv_all w20) (iv_lit (n := 858993459) 858993459 (by decide)) (by decide) (by decide)) (fun w21 i21 => ?_)
  refine lv_iadd hx hb dJ6_bitCount_0f7a4_22 ?_
  refine h_i (a := 0) (b := 1717986918) (iv_add i19 i21 (by decide) (by decide) (by decide) (by decide)) (fun w22 i22 => ?_)
  refine lv_istore_n (lv' := [(0, .int w22)]) hx hb dJ6_bitCount_0f7a4_23 rfl hl (by decide) rfl (fun ls hl => ?_)
  refine lv_iload_n hx hb dJ6_bitCount_0f7a4_24 rfl (lv_at hl 0 rfl) ?_
  refine lv_iload_n hx hb dJ6_bitCount_0f7a4_25 rfl (lv_at hl 0 rfl) ?_
  refine lv_iconst (v := 4) hx hb dJ6_bitCount_0f7a4_26 (by decide) ?_
  refine lv_iushr hx hb dJ6_bitCount_0f7a4_27 rfl ?_
  refine lv_topi (fun w23 _ => ?_)
  refine lv_iadd hx hb dJ6_bitCount_0f7a4_28 ?_
  refine lv_topi (fun w24 _ => ?_)
  refine lv_ldcw hx hb hown (hts (.constant RJ6 267 (252645135)) (List.mem_of_getElem? (i := 3) rfl)) dJ6_bitCount_0f7a4_29 ?_
  refine lv_iand hx hb dJ6_bitCount_0f7a4_32 ?_
  refine h_i (a := 0) (b := 252645135) (iv_and2 (iv_all w24) (iv_lit (n := 252645135) 252645135 (by decide)) (by decide) (by decide)) (fun w25 i25 => ?_)
  refine lv_istore_n (lv' := [(0, .int w25)]) hx hb dJ6_bitCount_0f7a4_33 rfl hl (by decide) rfl (fun ls hl => ?_)
  refine lv_iload_n hx hb dJ6_bitCount_0f7a4_34 rfl (lv_at hl 0 rfl) ?_
  refine lv_iload_n hx hb dJ6_bitCount_0f7a4_35 rfl (lv_at hl 0 rfl) ?_
  refine lv_bipush (v := 8) hx hb dJ6_bitCount_0f7a4_36 (by decide) ?_
  refine lv_iushr hx hb dJ6_bitCount_0f7a4_38 rfl ?_
  refine lv_topi (fun w26 _ => ?_)
  refine lv_iadd hx hb dJ6_bitCount_0f7a4_39 ?_
  refine lv_topi (fun w27 _ => ?_)
  refine lv_istore_n (lv' := [(0, .int w27)]) hx hb dJ6_bitCount_0f7a4_40 rfl hl (by decide) rfl (fun ls hl => ?_)
  refine lv_iload_n hx hb dJ6_bitCount_0f7a4_41 rfl (lv_at hl 0 rfl) ?_
  refine lv_iload_n hx hb dJ6_bitCount_0f7a4_42 rfl (lv_at hl 0 rfl) ?_
  refine lv_bipush (v := 16) hx hb dJ6_bitCount_0f7a4_43 (by decide) ?_
  refine lv_iushr hx hb dJ6_bitCount_0f7a4_45 rfl ?_
  refine lv_topi (fun w28 _ => ?_)
  refine lv_iadd hx hb dJ6_bitCount_0f7a4_46 ?_
  refine lv_topi (fun w29 _ => ?_)
  refine lv_istore_n (lv' := [(0, .int w29)]) hx hb dJ6_bitCount_0f7a4_47 rfl hl (by decide) rfl (fun ls hl => ?_)
  refine lv_iload_n hx hb dJ6_bitCount_0f7a4_48 rfl (lv_at hl 0 rfl) ?_
  refine lv_bipush (v := 63) hx hb dJ6_bitCount_0f7a4_49 (by decide) ?_
  refine lv_iand hx hb dJ6_bitCount_0f7a4_51 ?_
  refine h_i (a := 0) (b := 63) (iv_and2 (iv_all w29) (iv_lit (n := 63) 63 (by decide)) (by decide) (by decide)) (fun w30 i30 => ?_)
  exact hret _ z0 H locs _ _ ⟨hJ, i30⟩ hH dJ6_bitCount_0f7a4_52
set_option maxHeartbeats 4000000 in
set_option maxRecDepth 100000 in
theorem g_X1_someTaskIsTooMuch_55 (l : Launch) (D : va_G) (cy : Nat → ClassId) (q : Nat → Nat) (hq : bJ 66 q) (z0 : zS) (hI : IvC z0)  : bCi l yX1_someTaskIsTooMuch wsX1_someTaskIsTooMuch ({ frames := 3, cells := 0, slots := 0, locals := 74 }) D cy 66 (enC cy) q z0 [.ref (q 55)] (fun v z => jJ IvC 0 0 0 z0 z ∧ iv 0 1 v) := by
  refine hM_z cX1_someTaskIsTooMuch (by decide) rfl (own := RX1) rfl hq (Nat.le_of_ble_eq_true rfl) ?_
  intro p e s m args below meth c Q ls H locs hx hb hml hown hts hK hZ hH hl hret
  have hl : lv_has ls 2 [(0, .ref (q 55))] := hl
  have hJ : jJ IvC 0 0 0 z0 z0 := jJ_rf _ _ _ hI
  have HL2 : ∀ (n : Nat) (x1_2 : Int32) (H : Heap) (locs : List Loc) (ls : Array Slot), iv 0 10 x1_2 → bH D 66 (enC cy) q z0 s.heap H locs → lv_has ls 2 [(0, .ref (q 55)), (1, .int x1_2)] → (10 - x1_2.toInt).toNat = n → W p l e ({ frames := 3, cells := 0, slots := 0, locals := 74 }) s m args below meth c H locs 0 0 Q (F0 m 2 ls []) := by
    intro n2
    induction n2 using Nat.strongRecOn with
    | ind n2 ih2 =>
      intro x1_2 H locs ls h1_2 hH hl hn2
      refine lv_iload_n hx hb dX1_someTaskIsTooMuch_2 rfl (lv_at hl 1 rfl) ?_
      refine lv_aload_n hx hb dX1_someTaskIsTooMuch_3 rfl (lv_at hl 0 rfl) ?_
      refine b_get (ci := 1) (C := RX1) (T := TX1) (Nf := 2) (v := .ref (q 1)) hx hb hts in_X1_someTaskIsTooMuch_X1 hown hK hH 55 (by decide) rfl rfl 0 (by decide) (hts (.fieldLink RX1 15 "StationLine$Putting" "bench" "LStationLine$Bench;") (List.mem_of_getElem? (i := 1) rfl)) rfl dX1_someTaskIsTooMuch_4 ?_
      refine b_get (ci := 0) (C := RX0) (T := TX0) (Nf := 11) (v := .int (z0.1 0)) hx hb hts in_X1_someTaskIsTooMuch_X0 hown hK hH 1 (by decide) rfl rfl 0 (by decide) (hts (.fieldLink RX1 25 "StationLine$Bench" "size" "I") (List.mem_of_getElem? (i := 2) rfl)) rfl dX1_someTaskIsTooMuch_7 ?_
      have i78 := IvC_s0 hJ.1
      refine lv_icmp_ge (tgt := 41) hx hb dX1_someTaskIsTooMuch_10 (by decide) (fun c79 => ?_) (fun c79 => ?_)
      · skip
        refine lv_iconst (v := 0) hx hb dX1_someTaskIsTooMuch_41 (by decide) ?_
        exact hret _ z0 H locs _ _ (iv_w (iv_lit (n := 0) 0 (by decide)) (by decide) (by decide)) ⟨hJ, (iv_w (iv_lit (n := 0) 0 (by decide)) (by decide) (by decide))⟩ hH dX1_someTaskIsTooMuch_42
      · skip
        have k81a : iv 0 9 x1_2 := iv_ltl (iv_nLe c79) h1_2 i78 (by decide)
        have k81b : iv 1 10 (z0.1 0) := iv_ltr (iv_nLe c79) h1_2 i78 (by decide)
        refine lv_aload_n hx hb dX1_someTaskIsTooMuch_13 rfl (lv_at hl 0 rfl) ?_
        refine b_get (ci := 1) (C := RX1) (T := TX1) (Nf := 2) (v := .ref (q 1)) hx hb hts in_X1_someTaskIsTooMuch_X1 hown hK hH 55 (by decide) rfl rfl 0 (by decide) (hts (.fieldLink RX1 15 "StationLine$Putting" "bench" "LStationLine$Bench;") (List.mem_of_getElem? (i := 1) rfl)) rfl dX1_someTaskIsTooMuch_14 ?_
        refine lv_iconst (v := 1) hx hb dX1_someTaskIsTooMuch_17 (by decide) ?_
        refine lv_iload_n hx hb dX1_someTaskIsTooMuch_18 rfl (lv_at hl 1 rfl) ?_
        refine lv_ishl hx hb dX1_someTaskIsTooMuch_19 ?_
        refine h_i (a := 1) (b := 512) (iv_bit k81a (by decide) (by decide)) (fun w82 i82 => ?_)
        refine b_calli (As := [.int w82]) (rest := []) ⟨hx, hb, hml, hown, hts⟩ 1 0 (g_X0_loadOf_1 l D cy q hH.2.1 z0 hJ.1 w82) (cwV 1 hts gX1_someTaskIsTooMuch_X0_loadOf rfl rfl rfl (by decide +kernel) ⟨Nat.le_of_ble_eq_true rfl, Nat.le_of_ble_eq_true rfl⟩) hK hZ hH (by decide) rfl rfl rfl hl.1 rfl (Nat.le_of_ble_eq_true rfl) ⟨Nat.zero_le _, Nat.zero_le _⟩ dX1_someTaskIsTooMuch_20 (fun w83 z83 H locs hp hH => ?_)
        rw [Ag_0 hp.1.2] at hH
        refine lv_aload_n hx hb dX1_someTaskIsTooMuch_23 rfl (lv_at hl 0 rfl) ?_
        refine b_get (ci := 1) (C := RX1) (T := TX1) (Nf := 2) (v := .ref (q 1)) hx hb hts in_X1_someTaskIsTooMuch_X1 hown hK hH 55 (by decide) rfl rfl 0 (by decide) (hts (.fieldLink RX1 15 "StationLine$Putting" "bench" "LStationLine$Bench;") (List.mem_of_getElem? (i := 1) rfl)) rfl dX1_someTaskIsTooMuch_24 ?_
        refine b_calli (As := []) (rest := [.int w83]) ⟨hx, hb, hml, hown, hts⟩ 1 0 (g_X0_room_1 l D cy q hH.2.1 z0 hJ.1 ) (cwV 0 hts gX1_someTaskIsTooMuch_X0_room rfl rfl rfl (by decide +kernel) ⟨Nat.le_of_ble_eq_true rfl, Nat.le_of_ble_eq_true rfl⟩) hK hZ hH (by decide) rfl rfl rfl hl.1 rfl (Nat.le_of_ble_eq_true rfl) ⟨Nat.zero_le _, Nat.zero_le _⟩ dX1_someTaskIsTooMuch_27 (fun w84 z84 H locs hp hH => ?_)
        rw [Ag_0 hp.1.2] at hH
        refine lv_icmp_le (tgt := 35) hx hb dX1_someTaskIsTooMuch_30 (by decide) (fun c85 => ?_) (fun c85 => ?_)
        · skip
          have j87 : iv 1 10 (x1_2 + 1) := iv_add k81a (iv_lit (n := 1) 1 (by decide)) (by decide) (by decide) (by decide) (by decide)
          have e87 : (x1_2 + 1).toInt = x1_2.toInt + 1 := (iv_addE k81a (iv_lit (n := 1) 1 (by decide)) (by decide) (by decide)).trans rfl
          refine lv_iinc (v := (x1_2 + 1)) (lv' := [(1, .int (x1_2 + 1)), (0, .ref (q 55))]) hx hb dX1_someTaskIsTooMuch_35 hl (k := 1) rfl rfl (by decide) rfl (fun ls hl => ?_)
          refine lv_goto (tgt := 2) hx hb dX1_someTaskIsTooMuch_38 (by decide) ?_
          exact ih2 _ (ms_up e87 j87.2 hn2) (x1_2 + 1)  H locs ls (iv_w j87 (by decide) (by decide))  hH (lv_sub hl [1, 0] rfl) rfl
        · skip
          have k88a : iv (-2147483648) 2147483646 w84 := iv_ltl (iv_nLe c85) (iv_all w84) (iv_all w83) (by decide)
          have k88b : iv (-2147483647) 2147483647 w83 := iv_ltr (iv_nLe c85) (iv_all w84) (iv_all w83) (by decide)
          refine lv_iconst (v := 1) hx hb dX1_someTaskIsTooMuch_33 (by decide) ?_
          exact hret _ z0 H locs _ _ (iv_w (iv_lit (n := 1) 1 (by decide)) (by decide) (by decide)) ⟨hJ, (iv_w (iv_lit (n := 1) 1 (by decide)) (by decide) (by decide))⟩ hH dX1_someTaskIsTooMuch_34
  refine lv_iconst (v := 0) hx hb dX1_someTaskIsTooMuch_0 (by decide) ?_
  refine lv_istore_n (lv' := [(1, .int 0), (0, .ref (q 55))]) hx hb dX1_someTaskIsTooMuch_1 rfl hl (by decide) rfl (fun ls hl => ?_)
  exact HL2 _ 0  H locs ls (iv_w (iv_lit (n := 0) 0 (by decide)) (by decide) (by decide))  hH (lv_sub hl [1, 0] rfl) rfl
set_option maxHeartbeats 4000000 in
set_option maxRecDepth 100000 in
theorem g_X1_worthByRule_55 (l : Launch) (D : va_G) (cy : Nat → ClassId) (q : Nat → Nat) (hq : bJ 66 q) (z0 : zS) (hI : IvC z0) (p0 : Int32) (p1 : Int32) (hp1 : iv 0 9 p1) : bCi l yX1_worthByRule wsX1_worthByRule ({ frames := 3, cells := 0, slots := 0, locals := 74 }) D cy 66 (enC cy) q z0 [.ref (q 55), .int p0, .int p1] (fun v z => jJ IvC 0 0 0 z0 z ∧ iv (-2147483648) 2147483647 v) := by
  refine hM_i cX1_worthByRule (by decide) rfl (own := RX1) rfl hq (Nat.le_of_ble_eq_true rfl) ?_
  intro p e s m args below meth c Q ls H locs hx hb hml hown hts hK hZ hH hl hret
  have hl : lv_has ls 3 [(0, .ref (q 55)), (1, .int p0), (2, .int p1)] := hl
  have hJ : jJ IvC 0 0 0 z0 z0 := jJ_rf _ _ _ hI
  refine lv_iload_n hx hb dX1_worthByRule_0 rfl (lv_at hl 1 rfl) ?_
  rcases (show (p0.toInt < 0 ∨ 2 < p0.toInt) ∨ (¬ p0.toInt < 0 ∧ ¬ 2 < p0.toInt) by omega) with h9 | h9
  · refine lv_tableOut (tgt := 73) hx hb dX1_worthByRule_1 h9 (by decide) ?_
    refine lv_iload_n hx hb dX1_worthByRule_73 rfl (lv_at hl 2 rfl) ?_
    refine lv_ineg hx hb dX1_worthByRule_74 ?_
    refine lv_topi (fun w10 _ => ?_)
    exact hret _ z0 H locs _ _ ⟨hJ, (iv_all w10)⟩ hH dX1_worthByRule_75
  · rcases (show p0.toInt = 0 ∨ p0.toInt = 1 ∨ p0.toInt = 2 by omega) with e9 | e9 | e9
    · refine lv_tableIn (off := 27) (tgt := 28) hx hb dX1_worthByRule_1 h9.1 h9.2 (by rw [e9]; rfl) (by decide) ?_
      have k9 : iv 0 0 p0 := iv_lit p0 e9
      refine lv_aload_n hx hb dX1_worthByRule_28 rfl (lv_at hl 0 rfl) ?_
      refine b_get (ci := 1) (C := RX1) (T := TX1) (Nf := 2) (v := .ref (q 1)) hx hb hts in_X1_worthByRule_X1 hown hK hH 55 (by decide) rfl rfl 0 (by decide) (hts (.fieldLink RX1 15 "StationLine$Putting" "bench" "LStationLine$Bench;") (List.mem_of_getElem? (i := 1) rfl)) rfl dX1_worthByRule_29 ?_
      refine lv_iconst (v := 1) hx hb dX1_worthByRule_32 (by decide) ?_
      refine lv_iload_n hx hb dX1_worthByRule_33 rfl (lv_at hl 2 rfl) ?_
      refine lv_ishl hx hb dX1_worthByRule_34 ?_
      refine h_i (a := 1) (b := 512) (iv_bit hp1 (by decide) (by decide)) (fun w11 i11 => ?_)
      refine b_calli (As := [.int w11]) (rest := []) ⟨hx, hb, hml, hown, hts⟩ 1 0 (g_X0_loadOf_1 l D cy q hH.2.1 z0 hJ.1 w11) (cwV 1 hts gX1_worthByRule_X0_loadOf rfl rfl rfl (by decide +kernel) ⟨Nat.le_of_ble_eq_true rfl, Nat.le_of_ble_eq_true rfl⟩) hK hZ hH (by decide) rfl rfl rfl hl.1 rfl (Nat.le_of_ble_eq_true rfl) ⟨Nat.zero_le _, Nat.zero_le _⟩ dX1_worthByRule_35 (fun w12 z12 H locs hp hH => ?_)
      rw [Ag_0 hp.1.2] at hH
      exact hret _ z0 H locs _ _ ⟨hJ, (iv_all w12)⟩ hH dX1_worthByRule_38
    · refine lv_tableIn (off := 38) (tgt := 39) hx hb dX1_worthByRule_1 h9.1 h9.2 (by rw [e9]; rfl) (by decide) ?_
      have k9 : iv 1 1 p0 := iv_lit p0 e9
      refine lv_aload_n hx hb dX1_worthByRule_39 rfl (lv_at hl 0 rfl) ?_
      refine b_get (ci := 1) (C := RX1) (T := TX1) (Nf := 2) (v := .ref (q 1)) hx hb hts in_X1_worthByRule_X1 hown hK hH 55 (by decide) rfl rfl 0 (by decide) (hts (.fieldLink RX1 15 "StationLine$Putting" "bench" "LStationLine$Bench;") (List.mem_of_getElem? (i := 1) rfl)) rfl dX1_worthByRule_40 ?_
      refine lv_iconst (v := 1) hx hb dX1_worthByRule_43 (by decide) ?_
      refine lv_iload_n hx hb dX1_worthByRule_44 rfl (lv_at hl 2 rfl) ?_
      refine lv_ishl hx hb dX1_worthByRule_45 ?_
      refine h_i (a := 1) (b := 512) (iv_bit hp1 (by decide) (by decide)) (fun w13 i13 => ?_)
      refine lv_aload_n hx hb dX1_worthByRule_46 rfl (lv_at hl 0 rfl) ?_
      refine b_get (ci := 1) (C := RX1) (T := TX1) (Nf := 2) (v := .ref (q 1)) hx hb hts in_X1_worthByRule_X1 hown hK hH 55 (by decide) rfl rfl 0 (by decide) (hts (.fieldLink RX1 15 "StationLine$Putting" "bench" "LStationLine$Bench;") (List.mem_of_getElem? (i := 1) rfl)) rfl dX1_worthByRule_47 ?_
      refine b_get (ci := 0) (C := RX0) (T := TX0) (Nf := 11) (v := .ref (q 9)) hx hb hts in_X1_worthByRule_X0 hown hK hH 1 (by decide) rfl rfl 7 (by decide) (hts (.fieldLink RX1 100 "StationLine$Bench" "following" "[I") (List.mem_of_getElem? (i := 2) rfl)) rfl dX1_worthByRule_50 ?_
      refine lv_iload_n hx hb dX1_worthByRule_53 rfl (lv_at hl 2 rfl) ?_
      refine b_iald (v := z0.2.1 9 (p1 : Int32).toNatClampNeg) hx hb hK hH 9 (by decide) rfl (iv_in hp1 (by decide) (by decide)) rfl dX1_worthByRule_54 ?_
      refine lv_ior hx hb dX1_worthByRule_55 ?_
      refine lv_topi (fun w14 _ => ?_)
      refine b_calli (As := [.int w14]) (rest := []) ⟨hx, hb, hml, hown, hts⟩ 1 0 (g_X0_loadOf_1 l D cy q hH.2.1 z0 hJ.1 w14) (cwV 1 hts gX1_worthByRule_X0_loadOf rfl rfl rfl (by decide +kernel) ⟨Nat.le_of_ble_eq_true rfl, Nat.le_of_ble_eq_true rfl⟩) hK hZ hH (by decide) rfl rfl rfl hl.1 rfl (Nat.le_of_ble_eq_true rfl) ⟨Nat.zero_le _, Nat.zero_le _⟩ dX1_worthByRule_56 (fun w15 z15 H locs hp hH => ?_)
      rw [Ag_0 hp.1.2] at hH
      exact hret _ z0 H locs _ _ ⟨hJ, (iv_all w15)⟩ hH dX1_worthByRule_59
    · refine lv_tableIn (off := 59) (tgt := 60) hx hb dX1_worthByRule_1 h9.1 h9.2 (by rw [e9]; rfl) (by decide) ?_
      have k9 : iv 2 2 p0 := iv_lit p0 e9
      refine lv_aload_n hx hb dX1_worthByRule_60 rfl (lv_at hl 0 rfl) ?_
      refine b_get (ci := 1) (C := RX1) (T := TX1) (Nf := 2) (v := .ref (q 1)) hx hb hts in_X1_worthByRule_X1 hown hK hH 55 (by decide) rfl rfl 0 (by decide) (hts (.fieldLink RX1 15 "StationLine$Putting" "bench" "LStationLine$Bench;") (List.mem_of_getElem? (i := 1) rfl)) rfl dX1_worthByRule_61 ?_
      refine b_get (ci := 0) (C := RX0) (T := TX0) (Nf := 11) (v := .ref (q 9)) hx hb hts in_X1_worthByRule_X0 hown hK hH 1 (by decide) rfl rfl 7 (by decide) (hts (.fieldLink RX1 100 "StationLine$Bench" "following" "[I") (List.mem_of_getElem? (i := 2) rfl)) rfl dX1_worthByRule_64 ?_
      refine lv_iload_n hx hb dX1_worthByRule_67 rfl (lv_at hl 2 rfl) ?_
      refine b_iald (v := z0.2.1 9 (p1 : Int32).toNatClampNeg) hx hb hK hH 9 (by decide) rfl (iv_in hp1 (by decide) (by decide)) rfl dX1_worthByRule_68 ?_
      refine b_stati (As := [.int (z0.2.1 9 (p1 : Int32).toNatClampNeg)]) (rest := []) ⟨hx, hb, hml, hown, hts⟩ (g_J6_bitCount_0f7a4 l D cy q hH.2.1 z0 hJ.1 (z0.2.1 9 (p1 : Int32).toNatClampNeg)) (va_cwS 1 hts gX1_worthByRule_J6_bitCount_0f7a4 rfl rfl rfl (by decide +kernel) ⟨Nat.le_of_ble_eq_true rfl, Nat.le_of_ble_eq_true rfl⟩) hK hZ hH rfl hl.1 rfl (Nat.le_of_ble_eq_true rfl) ⟨Nat.zero_le _, Nat.zero_le _⟩ dX1_worthByRule_69 (fun w16 z16 H locs hp hH => ?_)
      rw [Ag_0 hp.1.2] at hH
      have i16 := hp.2
      exact hret _ z0 H locs _ _ ⟨hJ, (iv_w i16 (by decide) (by decide))⟩ hH dX1_worthByRule_72
set_option maxHeartbeats 4000000 in
set_option maxRecDepth 100000 in
theorem g_X1_firstByRule_55 (l : Launch) (D : va_G) (cy : Nat → ClassId) (q : Nat → Nat) (hq : bJ 66 q) (z0 : zS) (hI : IvC z0) (p0 : Int32) (p1 : Int32) (p2 : Int32) : bCi l yX1_firstByRule wsX1_firstByRule ({ frames := 4, cells := 0, slots := 0, locals := 96 }) D cy 66 (enC cy) q z0 [.ref (q 55), .int p0, .int p1, .int p2] (fun v z => jJ IvC 0 0 0 z0 z ∧ iv (-1) 9 v) := by
  refine hM_i cX1_firstByRule (by decide) rfl (own := RX1) rfl hq (Nat.le_of_ble_eq_true rfl) ?_
  intro p e s m args below meth c Q ls H locs hx hb hml hown hts hK hZ hH hl hret
  have hl : lv_has ls 9 [(0, .ref (q 55)), (1, .int p0), (2, .int p1), (3, .int p2)] := hl
  have hJ : jJ IvC 0 0 0 z0 z0 := jJ_rf _ _ _ hI
  have HL9 : ∀ (n : Nat) (x4_9 : Int32) (x5_9 : Int32) (x6_9 : Int32) (H : Heap) (locs : List Loc) (ls : Array Slot), iv (-1) 9 x4_9 → iv 0 10 x6_9 → bH D 66 (enC cy) q z0 s.heap H locs → lv_has ls 9 [(0, .ref (q 55)), (1, .int p0), (2, .int p1), (3, .int p2), (4, .int x4_9), (5, .int x5_9), (6, .int x6_9)] → (10 - x6_9.toInt).toNat = n → W p l e ({ frames := 4, cells := 0, slots := 0, locals := 96 }) s m args below meth c H locs 0 0 Q (F0 m 9 ls []) := by
    intro n9
    induction n9 using Nat.strongRecOn with
    | ind n9 ih9 =>
      intro x4_9 x5_9 x6_9 H locs ls h4_9 h6_9 hH hl hn9
      have HJ100 : ∀ (x4_100 : Int32) (x5_100 : Int32) (H : Heap) (locs : List Loc) (ls : Array Slot), iv (-1) 9 x4_100 → iv 0 9 x6_9 → iv 1 10 (z0.1 0) → bH D 66 (enC cy) q z0 s.heap H locs → lv_has ls 9 [(0, .ref (q 55)), (1, .int p0), (2, .int p1), (3, .int p2), (4, .int x4_100), (5, .int x5_100), (6, .int x6_9)] → W p l e ({ frames := 4, cells := 0, slots := 0, locals := 96 }) s m args below meth c H locs 0 0 Q (F0 m 100 ls []) := by
        intro x4_100 x5_100 H locs ls h4_100 h6_100 gh0_100 hH hl
        have j191 : iv 1 10 (x6_9 + 1) := iv_add h6_100 (iv_lit (n := 1) 1 (by decide)) (by decide) (by decide) (by decide) (by decide)
        have e191 : (x6_9 + 1).toInt = x6_9.toInt + 1 := (iv_addE h6_100 (iv_lit (n := 1) 1 (by decide)) (by decide) (by decide)).trans rfl
        refine lv_iinc (v := (x6_9 + 1)) (lv' := [(6, .int (x6_9 + 1)), (0, .ref (q 55)), (1, .int p0), (2, .int p1), (3, .int p2), (4, .int x4_100), (5, .int x5_100)]) hx hb dX1_firstByRule_100 hl (k := 6) rfl rfl (by decide) rfl (fun ls hl => ?_)
        refine lv_goto (tgt := 9) hx hb dX1_firstByRule_103 (by decide) ?_
        exact ih9 _ (ms_up e191 j191.2 hn9) x4_100 x5_100 (x6_9 + 1)  H locs ls h4_100 (iv_w j191 (by decide) (by decide))  hH (lv_sub hl [1, 2, 3, 4, 5, 6, 0] rfl) rfl
      have HJ92 : ∀ (x8_92 : Int32) (H : Heap) (locs : List Loc) (ls : Array Slot), iv 0 9 x6_9 → iv 1 10 (z0.1 0) → bH D 66 (enC cy) q z0 s.heap H locs → lv_has ls 9 [(0, .ref (q 55)), (1, .int p0), (2, .int p1), (3, .int p2), (6, .int x6_9), (8, .int x8_92)] → W p l e ({ frames := 4, cells := 0, slots := 0, locals := 96 }) s m args below meth c H locs 0 0 Q (F0 m 92 ls []) := by
        intro x8_92 H locs ls h6_92 gh0_92 hH hl
        refine lv_iload hx hb dX1_firstByRule_92 (lv_at hl 4 rfl) ?_
        refine lv_istore (lv' := [(4, .int x6_9), (0, .ref (q 55)), (1, .int p0), (2, .int p1), (3, .int p2), (6, .int x6_9), (8, .int x8_92)]) hx hb dX1_firstByRule_94 hl (by decide) rfl (fun ls hl => ?_)
        refine lv_iload hx hb dX1_firstByRule_96 (lv_at hl 6 rfl) ?_
        refine lv_istore (lv' := [(5, .int x8_92), (4, .int x6_9), (0, .ref (q 55)), (1, .int p0), (2, .int p1), (3, .int p2), (6, .int x6_9), (8, .int x8_92)]) hx hb dX1_firstByRule_98 hl (by decide) rfl (fun ls hl => ?_)
        exact HJ100 x6_9 x8_92  H locs ls (iv_w h6_92 (by decide) (by decide)) h6_92 gh0_92  hH (lv_sub hl [2, 3, 4, 5, 1, 0, 6] rfl)
      refine lv_iload hx hb dX1_firstByRule_9 (lv_at hl 6 rfl) ?_
      refine lv_aload_n hx hb dX1_firstByRule_11 rfl (lv_at hl 0 rfl) ?_
      refine b_get (ci := 1) (C := RX1) (T := TX1) (Nf := 2) (v := .ref (q 1)) hx hb hts in_X1_firstByRule_X1 hown hK hH 55 (by decide) rfl rfl 0 (by decide) (hts (.fieldLink RX1 15 "StationLine$Putting" "bench" "LStationLine$Bench;") (List.mem_of_getElem? (i := 1) rfl)) rfl dX1_firstByRule_12 ?_
      refine b_get (ci := 0) (C := RX0) (T := TX0) (Nf := 11) (v := .int (z0.1 0)) hx hb hts in_X1_firstByRule_X0 hown hK hH 1 (by decide) rfl rfl 0 (by decide) (hts (.fieldLink RX1 25 "StationLine$Bench" "size" "I") (List.mem_of_getElem? (i := 2) rfl)) rfl dX1_firstByRule_15 ?_
      have i192 := IvC_s0 hJ.1
      refine lv_icmp_ge (tgt := 106) hx hb dX1_firstByRule_18 (by decide) (fun c193 => ?_) (fun c193 => ?_)
      · skip
        refine lv_iload hx hb dX1_firstByRule_106 (lv_at hl 4 rfl) ?_
        exact hret _ z0 H locs _ _ ⟨hJ, h4_9⟩ hH dX1_firstByRule_108
      · skip
        have k195a : iv 0 9 x6_9 := iv_ltl (iv_nLe c193) h6_9 i192 (by decide)
        have k195b : iv 1 10 (z0.1 0) := iv_ltr (iv_nLe c193) h6_9 i192 (by decide)
        refine lv_iconst (v := 1) hx hb dX1_firstByRule_21 (by decide) ?_
        refine lv_iload hx hb dX1_firstByRule_22 (lv_at hl 6 rfl) ?_
        refine lv_ishl hx hb dX1_firstByRule_24 ?_
        refine h_i (a := 1) (b := 512) (iv_bit k195a (by decide) (by decide)) (fun w196 i196 => ?_)
        refine lv_istore (lv' := [(7, .int w196), (0, .ref (q 55)), (1, .int p0), (2, .int p1), (3, .int p2), (4, .int x4_9), (5, .int x5_9), (6, .int x6_9)]) hx hb dX1_firstByRule_25 hl (by decide) rfl (fun ls hl => ?_)
        refine lv_iload_n hx hb dX1_firstByRule_27 rfl (lv_at hl 3 rfl) ?_
        refine lv_iload hx hb dX1_firstByRule_28 (lv_at hl 0 rfl) ?_
        refine lv_iand hx hb dX1_firstByRule_30 ?_
        refine h_i (a := 0) (b := 512) (iv_and2 (iv_all p1) i196 (by decide) (by decide)) (fun w197 i197 => ?_)
        refine lv_if_ne (tgt := 100) hx hb dX1_firstByRule_31 (by decide) (fun c198 => ?_) (fun c198 => ?_)
        · skip
          have k199a : iv 1 512 w197 := iv_neLo (iv_nEq c198) i197 (by decide) (by decide)
          exact HJ100 x4_9 x5_9  H locs ls h4_9 k195a k195b  hH (lv_sub hl [1, 2, 3, 4, 5, 6, 7] rfl)
        · skip
          have k200a : iv 0 0 w197 := iv_eql (iv_Eq c198) i197 (iv_lit (n := 0) 0 (by decide)) (by decide) (by decide)
          refine lv_aload_n hx hb dX1_firstByRule_34 rfl (lv_at hl 1 rfl) ?_
          refine b_get (ci := 1) (C := RX1) (T := TX1) (Nf := 2) (v := .ref (q 1)) hx hb hts in_X1_firstByRule_X1 hown hK hH 55 (by decide) rfl rfl 0 (by decide) (hts (.fieldLink RX1 15 "StationLine$Putting" "bench" "LStationLine$Bench;") (List.mem_of_getElem? (i := 1) rfl)) rfl dX1_firstByRule_35 ?_
          refine lv_iload hx hb dX1_firstByRule_38 (lv_at hl 7 rfl) ?_
          refine lv_iload_n hx hb dX1_firstByRule_40 rfl (lv_at hl 3 rfl) ?_
          refine b_calli (As := [.int x6_9, .int p1]) (rest := []) ⟨hx, hb, hml, hown, hts⟩ 1 0 (g_X0_isOpen_1 l D cy q hH.2.1 z0 hJ.1 x6_9 k195a p1) (cwV 2 hts gX1_firstByRule_X0_isOpen rfl rfl rfl (by decide +kernel) ⟨Nat.le_of_ble_eq_true rfl, Nat.le_of_ble_eq_true rfl⟩) hK hZ hH (by decide) rfl rfl rfl hl.1 rfl (Nat.le_of_ble_eq_true rfl) ⟨Nat.zero_le _, Nat.zero_le _⟩ dX1_firstByRule_41 (fun w201 z201 H locs hp hH => ?_)
          rw [Ag_0 hp.1.2] at hH
          have i201 := hp.2
          refine lv_if_eq (tgt := 100) hx hb dX1_firstByRule_44 (by decide) (fun c202 => ?_) (fun c202 => ?_)
          · skip
            have k203a : iv 0 0 w201 := iv_eql (iv_Eq c202) i201 (iv_lit (n := 0) 0 (by decide)) (by decide) (by decide)
            exact HJ100 x4_9 x5_9  H locs ls h4_9 k195a k195b  hH (lv_sub hl [1, 2, 3, 4, 5, 6, 7] rfl)
          · skip
            have k204a : iv 1 1 w201 := iv_neLo (iv_nEq c202) i201 (by decide) (by decide)
            refine lv_aload_n hx hb dX1_firstByRule_47 rfl (lv_at hl 1 rfl) ?_
            refine b_get (ci := 1) (C := RX1) (T := TX1) (Nf := 2) (v := .ref (q 1)) hx hb hts in_X1_firstByRule_X1 hown hK hH 55 (by decide) rfl rfl 0 (by decide) (hts (.fieldLink RX1 15 "StationLine$Putting" "bench" "LStationLine$Bench;") (List.mem_of_getElem? (i := 1) rfl)) rfl dX1_firstByRule_48 ?_
            refine lv_iload_n hx hb dX1_firstByRule_51 rfl (lv_at hl 4 rfl) ?_
            refine lv_iload hx hb dX1_firstByRule_52 (lv_at hl 0 rfl) ?_
            refine lv_ior hx hb dX1_firstByRule_54 ?_
            refine lv_topi (fun w205 _ => ?_)
            refine b_calli (As := [.int w205]) (rest := []) ⟨hx, hb, hml, hown, hts⟩ 1 0 (g_X0_loadOf_1 l D cy q hH.2.1 z0 hJ.1 w205) (cwV 1 hts gX1_firstByRule_X0_loadOf rfl rfl rfl (by decide +kernel) ⟨Nat.le_of_ble_eq_true rfl, Nat.le_of_ble_eq_true rfl⟩) hK hZ hH (by decide) rfl rfl rfl hl.1 rfl (Nat.le_of_ble_eq_true rfl) ⟨Nat.zero_le _, Nat.zero_le _⟩ dX1_firstByRule_55 (fun w206 z206 H locs hp hH => ?_)
            rw [Ag_0 hp.1.2] at hH
            refine lv_aload_n hx hb dX1_firstByRule_58 rfl (lv_at hl 1 rfl) ?_
            refine b_get (ci := 1) (C := RX1) (T := TX1) (Nf := 2) (v := .ref (q 1)) hx hb hts in_X1_firstByRule_X1 hown hK hH 55 (by decide) rfl rfl 0 (by decide) (hts (.fieldLink RX1 15 "StationLine$Putting" "bench" "LStationLine$Bench;") (List.mem_of_getElem? (i := 1) rfl)) rfl dX1_firstByRule_59 ?_
            refine b_calli (As := []) (rest := [.int w206]) ⟨hx, hb, hml, hown, hts⟩ 1 0 (g_X0_room_1 l D cy q hH.2.1 z0 hJ.1 ) (cwV 0 hts gX1_firstByRule_X0_room rfl rfl rfl (by decide +kernel) ⟨Nat.le_of_ble_eq_true rfl, Nat.le_of_ble_eq_true rfl⟩) hK hZ hH (by decide) rfl rfl rfl hl.1 rfl (Nat.le_of_ble_eq_true rfl) ⟨Nat.zero_le _, Nat.zero_le _⟩ dX1_firstByRule_62 (fun w207 z207 H locs hp hH => ?_)
            rw [Ag_0 hp.1.2] at hH
            refine lv_icmp_le (tgt := 71) hx hb dX1_firstByRule_65 (by decide) (fun c208 => ?_) (fun c208 => ?_)
            · skip
              refine lv_aload_n hx hb dX1_firstByRule_71 rfl (lv_at hl 1 rfl) ?_
              refine lv_iload_n hx hb dX1_firstByRule_72 rfl (lv_at hl 2 rfl) ?_
              refine lv_iload hx hb dX1_firstByRule_73 (lv_at hl 7 rfl) ?_
              refine b_calli (As := [.int p0, .int x6_9]) (rest := []) ⟨hx, hb, hml, hown, hts⟩ 55 1 (g_X1_worthByRule_55 l D cy q hH.2.1 z0 hJ.1 p0 x6_9 k195a) (cwV 2 hts gX1_firstByRule_X1_worthByRule rfl rfl rfl (by decide +kernel) ⟨Nat.le_of_ble_eq_true rfl, Nat.le_of_ble_eq_true rfl⟩) hK hZ hH (by decide) rfl rfl rfl hl.1 rfl (Nat.le_of_ble_eq_true rfl) ⟨Nat.zero_le _, Nat.zero_le _⟩ dX1_firstByRule_75 (fun w210 z210 H locs hp hH => ?_)
              rw [Ag_0 hp.1.2] at hH
              refine lv_istore (lv' := [(8, .int w210), (7, .int w196), (0, .ref (q 55)), (1, .int p0), (2, .int p1), (3, .int p2), (4, .int x4_9), (5, .int x5_9), (6, .int x6_9)]) hx hb dX1_firstByRule_78 hl (by decide) rfl (fun ls hl => ?_)
              refine lv_iload hx hb dX1_firstByRule_80 (lv_at hl 6 rfl) ?_
              refine lv_if_lt (tgt := 92) hx hb dX1_firstByRule_82 (by decide) (fun c211 => ?_) (fun c211 => ?_)
              · skip
                have k212a : iv (-1) (-1) x4_9 := iv_ltl (iv_Lt c211) h4_9 (iv_lit (n := 0) 0 (by decide)) (by decide)
                exact HJ92 w210  H locs ls k195a k195b  hH (lv_sub hl [2, 3, 4, 5, 8, 0] rfl)
              · skip
                have k213b : iv 0 9 x4_9 := iv_ler (iv_nLt c211) (iv_lit (n := 0) 0 (by decide)) h4_9
                refine lv_iload hx hb dX1_firstByRule_85 (lv_at hl 0 rfl) ?_
                refine lv_iload hx hb dX1_firstByRule_87 (lv_at hl 7 rfl) ?_
                refine lv_icmp_le (tgt := 100) hx hb dX1_firstByRule_89 (by decide) (fun c214 => ?_) (fun c214 => ?_)
                · skip
                  exact HJ100 x4_9 x5_9  H locs ls (iv_w k213b (by decide) (by decide)) k195a k195b  hH (lv_sub hl [2, 3, 4, 5, 6, 7, 8] rfl)
                · skip
                  have k216a : iv (-2147483648) 2147483646 x5_9 := iv_ltl (iv_nLe c214) (iv_all x5_9) (iv_all w210) (by decide)
                  have k216b : iv (-2147483647) 2147483647 w210 := iv_ltr (iv_nLe c214) (iv_all x5_9) (iv_all w210) (by decide)
                  exact HJ92 w210  H locs ls k195a k195b  hH (lv_sub hl [2, 3, 4, 5, 8, 0] rfl)
            · skip
              have k217a : iv (-2147483648) 2147483646 w207 := iv_ltl (iv_nLe c208) (iv_all w207) (iv_all w206) (by decide)
              have k217b : iv (-2147483647) 2147483647 w206 := iv_ltr (iv_nLe c208) (iv_all w207) (iv_all w206) (by decide)
              refine lv_goto (tgt := 100) hx hb dX1_firstByRule_68 (by decide) ?_
              exact HJ100 x4_9 x5_9  H locs ls h4_9 k195a k195b  hH (lv_sub hl [1, 2, 3, 4, 5, 6, 7] rfl)
  refine lv_iconst (v := (-1)) hx hb dX1_firstByRule_0 (by decide) ?_
  refine lv_istore (lv' := [(4, .int (-1)), (0, .ref (q 55)), (1, .int p0), (2, .int p1), (3, .int p2)]) hx hb dX1_firstByRule_1 hl (by decide) rfl (fun ls hl => ?_)
  refine lv_iconst (v := 0) hx hb dX1_firstByRule_3 (by decide) ?_
  refine lv_istore (lv' := [(5, .int 0), (4, .int (-1)), (0, .ref (q 55)), (1, .int p0), (2, .int p1), (3, .int p2)]) hx hb dX1_firstByRule_4 hl (by decide) rfl (fun ls hl => ?_)
  refine lv_iconst (v := 0) hx hb dX1_firstByRule_6 (by decide) ?_
  refine lv_istore (lv' := [(6, .int 0), (5, .int 0), (4, .int (-1)), (0, .ref (q 55)), (1, .int p0), (2, .int p1), (3, .int p2)]) hx hb dX1_firstByRule_7 hl (by decide) rfl (fun ls hl => ?_)
  exact HL9 _ (-1) 0 0  H locs ls (iv_w (iv_lit (n := (-1)) (-1) (by decide)) (by decide) (by decide)) (iv_w (iv_lit (n := 0) 0 (by decide)) (by decide) (by decide))  hH (lv_sub hl [3, 4, 5, 6, 2, 1, 0] rfl) rfl
set_option maxHeartbeats 4000000 in
set_option maxRecDepth 100000 in
theorem g_X1_putByRule_55 (l : Launch) (D : va_G) (cy : Nat → ClassId) (q : Nat → Nat) (hq : bJ 66 q) (z0 : zS) (hI : IvC z0) (p0 : Int32) : bCi l yX1_putByRule wsX1_putByRule ({ frames := 5, cells := 0, slots := 0, locals := 124 }) D cy 66 (enC cy) q z0 [.ref (q 55), .int p0] (fun v z => jJ IvC 0 72057594037927936 0 z0 z ∧ iv 0 1 v) := by
  refine hM_z cX1_putByRule (by decide) rfl (own := RX1) rfl hq (Nat.le_of_ble_eq_true rfl) ?_
  intro p e s m args below meth c Q ls H locs hx hb hml hown hts hK hZ hH hl hret
  have hl : lv_has ls 7 [(0, .ref (q 55)), (1, .int p0)] := hl
  have hJ : jJ IvC 0 72057594037927936 0 z0 z0 := jJ_rf _ _ _ hI
  have HL27 : ∀ (n : Nat) (x2_27 : Int32) (x3_27 : Int32) (x4_27 : Int32) (x5_27 : Int32) (z_27 : zS) (H : Heap) (locs : List Loc) (ls : Array Slot), iv 0 1023 x2_27 → iv 0 1023 x3_27 → iv 1 10 x4_27 → iv 0 20 x5_27 → jJ IvC 0 72057594037927936 0 z0 z_27 → bH D 66 (enC cy) q z_27 s.heap H locs → lv_has ls 7 [(0, .ref (q 55)), (1, .int p0), (2, .int x2_27), (3, .int x3_27), (4, .int x4_27), (5, .int x5_27)] → (20 - x5_27.toInt).toNat = n → W p l e ({ frames := 5, cells := 0, slots := 0, locals := 124 }) s m args below meth c H locs 0 0 Q (F0 m 27 ls []) := by
    intro n27
    induction n27 using Nat.strongRecOn with
    | ind n27 ih27 =>
      intro x2_27 x3_27 x4_27 x5_27 z_27 H locs ls h2_27 h3_27 h4_27 h5_27 hJ hH hl hn27
      have HJ108 : ∀ (z_108 : zS) (H : Heap) (locs : List Loc) (ls : Array Slot), jJ IvC 0 72057594037927936 0 z0 z_108 → bH D 66 (enC cy) q z_108 s.heap H locs → lv_has ls 7 [(0, .ref (q 55)), (2, .int x2_27)] → W p l e ({ frames := 5, cells := 0, slots := 0, locals := 124 }) s m args below meth c H locs 0 0 Q (F0 m 108 ls []) := by
        intro z_108 H locs ls hJ hH hl
        refine lv_iload_n hx hb dX1_putByRule_108 rfl (lv_at hl 1 rfl) ?_
        refine lv_aload_n hx hb dX1_putByRule_109 rfl (lv_at hl 0 rfl) ?_
        refine b_get (ci := 1) (C := RX1) (T := TX1) (Nf := 2) (v := .ref (q 1)) hx hb hts in_X1_putByRule_X1 hown hK hH 55 (by decide) rfl rfl 0 (by decide) (hts (.fieldLink RX1 15 "StationLine$Putting" "bench" "LStationLine$Bench;") (List.mem_of_getElem? (i := 2) rfl)) rfl dX1_putByRule_110 ?_
        refine b_calli (As := []) (rest := [.int x2_27]) ⟨hx, hb, hml, hown, hts⟩ 1 0 (g_X0_all_1 l D cy q hH.2.1 z_108 hJ.1 ) (cwV 0 hts gX1_putByRule_X0_all rfl rfl rfl (by decide +kernel) ⟨Nat.le_of_ble_eq_true rfl, Nat.le_of_ble_eq_true rfl⟩) hK hZ hH (by decide) rfl rfl rfl hl.1 rfl (Nat.le_of_ble_eq_true rfl) ⟨Nat.zero_le _, Nat.zero_le _⟩ dX1_putByRule_113 (fun w210 z210 H locs hp hH => ?_)
        rw [Ag_0 hp.1.2] at hH
        have i210 := hp.2
        refine lv_icmp_ne (tgt := 123) hx hb dX1_putByRule_116 (by decide) (fun c211 => ?_) (fun c211 => ?_)
        · skip
          refine lv_iconst (v := 0) hx hb dX1_putByRule_123 (by decide) ?_
          exact hret _ z_108 H locs _ _ (iv_w (iv_lit (n := 0) 0 (by decide)) (by decide) (by decide)) ⟨hJ, (iv_w (iv_lit (n := 0) 0 (by decide)) (by decide) (by decide))⟩ hH dX1_putByRule_124
        · skip
          refine lv_iconst (v := 1) hx hb dX1_putByRule_119 (by decide) ?_
          refine lv_goto (tgt := 124) hx hb dX1_putByRule_120 (by decide) ?_
          exact hret _ z_108 H locs _ _ (iv_w (iv_lit (n := 1) 1 (by decide)) (by decide) (by decide)) ⟨hJ, (iv_w (iv_lit (n := 1) 1 (by decide)) (by decide) (by decide))⟩ hH dX1_putByRule_124
      have HJ102 : ∀ (x2_102 : Int32) (x3_102 : Int32) (x4_102 : Int32) (z_102 : zS) (H : Heap) (locs : List Loc) (ls : Array Slot), iv 0 1023 x2_102 → iv 0 1023 x3_102 → iv 1 10 x4_102 → iv 0 19 x5_27 → jJ IvC 0 72057594037927936 0 z0 z_102 → bH D 66 (enC cy) q z_102 s.heap H locs → lv_has ls 7 [(0, .ref (q 55)), (1, .int p0), (2, .int x2_102), (3, .int x3_102), (4, .int x4_102), (5, .int x5_27)] → W p l e ({ frames := 5, cells := 0, slots := 0, locals := 124 }) s m args below meth c H locs 0 0 Q (F0 m 102 ls []) := by
        intro x2_102 x3_102 x4_102 z_102 H locs ls h2_102 h3_102 h4_102 h5_102 hJ hH hl
        have j214 : iv 1 20 (x5_27 + 1) := iv_add h5_102 (iv_lit (n := 1) 1 (by decide)) (by decide) (by decide) (by decide) (by decide)
        have e214 : (x5_27 + 1).toInt = x5_27.toInt + 1 := (iv_addE h5_102 (iv_lit (n := 1) 1 (by decide)) (by decide) (by decide)).trans rfl
        refine lv_iinc (v := (x5_27 + 1)) (lv' := [(5, .int (x5_27 + 1)), (0, .ref (q 55)), (1, .int p0), (2, .int x2_102), (3, .int x3_102), (4, .int x4_102)]) hx hb dX1_putByRule_102 hl (k := 5) rfl rfl (by decide) rfl (fun ls hl => ?_)
        refine lv_goto (tgt := 27) hx hb dX1_putByRule_105 (by decide) ?_
        exact ih27 _ (ms_up e214 j214.2 hn27) x2_102 x3_102 x4_102 (x5_27 + 1) z_102 H locs ls h2_102 h3_102 h4_102 (iv_w j214 (by decide) (by decide)) hJ hH (lv_sub hl [1, 2, 3, 4, 5, 0] rfl) rfl
      refine lv_iload hx hb dX1_putByRule_27 (lv_at hl 5 rfl) ?_
      refine lv_bipush (v := 20) hx hb dX1_putByRule_29 (by decide) ?_
      refine lv_icmp_ge (tgt := 108) hx hb dX1_putByRule_31 (by decide) (fun c215 => ?_) (fun c215 => ?_)
      · skip
        have k216b : iv 20 20 x5_27 := iv_ler (iv_Le c215) (iv_lit (n := 20) 20 (by decide)) h5_27
        exact HJ108  z_27 H locs ls  hJ hH (lv_sub hl [0, 2] rfl)
      · skip
        have k217a : iv 0 19 x5_27 := iv_ltl (iv_nLe c215) h5_27 (iv_lit (n := 20) 20 (by decide)) (by decide)
        refine lv_iload_n hx hb dX1_putByRule_34 rfl (lv_at hl 2 rfl) ?_
        refine lv_aload_n hx hb dX1_putByRule_35 rfl (lv_at hl 0 rfl) ?_
        refine b_get (ci := 1) (C := RX1) (T := TX1) (Nf := 2) (v := .ref (q 1)) hx hb hts in_X1_putByRule_X1 hown hK hH 55 (by decide) rfl rfl 0 (by decide) (hts (.fieldLink RX1 15 "StationLine$Putting" "bench" "LStationLine$Bench;") (List.mem_of_getElem? (i := 2) rfl)) rfl dX1_putByRule_36 ?_
        refine b_calli (As := []) (rest := [.int x2_27]) ⟨hx, hb, hml, hown, hts⟩ 1 0 (g_X0_all_1 l D cy q hH.2.1 z_27 hJ.1 ) (cwV 0 hts gX1_putByRule_X0_all rfl rfl rfl (by decide +kernel) ⟨Nat.le_of_ble_eq_true rfl, Nat.le_of_ble_eq_true rfl⟩) hK hZ hH (by decide) rfl rfl rfl hl.1 rfl (Nat.le_of_ble_eq_true rfl) ⟨Nat.zero_le _, Nat.zero_le _⟩ dX1_putByRule_39 (fun w218 z218 H locs hp hH => ?_)
        rw [Ag_0 hp.1.2] at hH
        have i218 := hp.2
        refine lv_icmp_eq (tgt := 108) hx hb dX1_putByRule_42 (by decide) (fun c219 => ?_) (fun c219 => ?_)
        · skip
          exact HJ108  z_27 H locs ls  hJ hH (lv_sub hl [0, 2] rfl)
        · skip
          refine lv_aload_n hx hb dX1_putByRule_45 rfl (lv_at hl 0 rfl) ?_
          refine lv_iload_n hx hb dX1_putByRule_46 rfl (lv_at hl 1 rfl) ?_
          refine lv_iload_n hx hb dX1_putByRule_47 rfl (lv_at hl 2 rfl) ?_
          refine lv_iload_n hx hb dX1_putByRule_48 rfl (lv_at hl 3 rfl) ?_
          refine b_calli (As := [.int p0, .int x2_27, .int x3_27]) (rest := []) ⟨hx, hb, hml, hown, hts⟩ 55 1 (g_X1_firstByRule_55 l D cy q hH.2.1 z_27 hJ.1 p0 x2_27 x3_27) (cwV 3 hts gX1_putByRule_X1_firstByRule rfl rfl rfl (by decide +kernel) ⟨Nat.le_of_ble_eq_true rfl, Nat.le_of_ble_eq_true rfl⟩) hK hZ hH (by decide) rfl rfl rfl hl.1 rfl (Nat.le_of_ble_eq_true rfl) ⟨Nat.zero_le _, Nat.zero_le _⟩ dX1_putByRule_49 (fun w222 z222 H locs hp hH => ?_)
          rw [Ag_0 hp.1.2] at hH
          have i222 := hp.2
          refine lv_istore (lv' := [(6, .int w222), (0, .ref (q 55)), (1, .int p0), (2, .int x2_27), (3, .int x3_27), (4, .int x4_27), (5, .int x5_27)]) hx hb dX1_putByRule_52 hl (by decide) rfl (fun ls hl => ?_)
          refine lv_iload hx hb dX1_putByRule_54 (lv_at hl 0 rfl) ?_
          refine lv_if_lt (tgt := 85) hx hb dX1_putByRule_56 (by decide) (fun c223 => ?_) (fun c223 => ?_)
          · skip
            have k224a : iv (-1) (-1) w222 := iv_ltl (iv_Lt c223) i222 (iv_lit (n := 0) 0 (by decide)) (by decide)
            refine lv_iload hx hb dX1_putByRule_85 (lv_at hl 5 rfl) ?_
            refine lv_bipush (v := 10) hx hb dX1_putByRule_87 (by decide) ?_
            refine lv_icmp_ge (tgt := 100) hx hb dX1_putByRule_89 (by decide) (fun c225 => ?_) (fun c225 => ?_)
            · skip
              have k226b : iv 10 10 x4_27 := iv_ler (iv_Le c225) (iv_lit (n := 10) 10 (by decide)) h4_27
              refine lv_iconst (v := 0) hx hb dX1_putByRule_100 (by decide) ?_
              exact hret _ z_27 H locs _ _ (iv_w (iv_lit (n := 0) 0 (by decide)) (by decide) (by decide)) ⟨hJ, (iv_w (iv_lit (n := 0) 0 (by decide)) (by decide) (by decide))⟩ hH dX1_putByRule_101
            · skip
              have k227a : iv 1 9 x4_27 := iv_ltl (iv_nLe c225) h4_27 (iv_lit (n := 10) 10 (by decide)) (by decide)
              have j228 : iv 2 10 (x4_27 + 1) := iv_add k227a (iv_lit (n := 1) 1 (by decide)) (by decide) (by decide) (by decide) (by decide)
              have e228 : (x4_27 + 1).toInt = x4_27.toInt + 1 := (iv_addE k227a (iv_lit (n := 1) 1 (by decide)) (by decide) (by decide)).trans rfl
              refine lv_iinc (v := (x4_27 + 1)) (lv' := [(4, .int (x4_27 + 1)), (6, .int w222), (0, .ref (q 55)), (1, .int p0), (2, .int x2_27), (3, .int x3_27), (5, .int x5_27)]) hx hb dX1_putByRule_92 hl (k := 5) rfl rfl (by decide) rfl (fun ls hl => ?_)
              refine lv_iconst (v := 0) hx hb dX1_putByRule_95 (by decide) ?_
              refine lv_istore_n (lv' := [(3, .int 0), (4, .int (x4_27 + 1)), (6, .int w222), (0, .ref (q 55)), (1, .int p0), (2, .int x2_27), (5, .int x5_27)]) hx hb dX1_putByRule_96 rfl hl (by decide) rfl (fun ls hl => ?_)
              refine lv_goto (tgt := 102) hx hb dX1_putByRule_97 (by decide) ?_
              exact HJ102 x2_27 0 (x4_27 + 1) z_27 H locs ls h2_27 (iv_w (iv_lit (n := 0) 0 (by decide)) (by decide) (by decide)) (iv_w j228 (by decide) (by decide)) k217a hJ hH (lv_sub hl [3, 4, 5, 0, 1, 6] rfl)
          · skip
            have k229b : iv 0 9 w222 := iv_ler (iv_nLt c223) (iv_lit (n := 0) 0 (by decide)) i222
            refine lv_aload_n hx hb dX1_putByRule_59 rfl (lv_at hl 1 rfl) ?_
            refine b_get (ci := 1) (C := RX1) (T := TX1) (Nf := 2) (v := .ref (q 56)) hx hb hts in_X1_putByRule_X1 hown hK hH 55 (by decide) rfl rfl 1 (by decide) (hts (.fieldLink RX1 9 "StationLine$Putting" "row" "[I") (List.mem_of_getElem? (i := 1) rfl)) rfl dX1_putByRule_60 ?_
            refine lv_iload hx hb dX1_putByRule_63 (lv_at hl 0 rfl) ?_
            refine lv_iload hx hb dX1_putByRule_65 (lv_at hl 5 rfl) ?_
            refine b_iast hx hb hK hH 56 (by decide) rfl (iv_in k229b (by decide) (by decide)) (upA z_27 56 (upd (z_27.2.1 56) (w222 : Int32).toNatClampNeg x4_27)) rfl (enC_A _ _ _ _ _) dX1_putByRule_67 (fun H locs hH => ?_)
            obtain ⟨z230, hz230⟩ : ∃ w : zS, w = upA z_27 56 (upd (z_27.2.1 56) (w222 : Int32).toNatClampNeg x4_27) := ⟨_, rfl⟩
            rw [← hz230] at hH
            have hJ : jJ IvC 0 72057594037927936 0 z0 z230 := by rw [hz230]; exact jJ_A hJ (by decide) (IvC_A56 hJ.1 _ (iv_w h4_27 (by decide) (by decide)))
            refine lv_iload_n hx hb dX1_putByRule_68 rfl (lv_at hl 3 rfl) ?_
            refine lv_iconst (v := 1) hx hb dX1_putByRule_69 (by decide) ?_
            refine lv_iload hx hb dX1_putByRule_70 (lv_at hl 0 rfl) ?_
            refine lv_ishl hx hb dX1_putByRule_72 ?_
            refine h_i (a := 1) (b := 512) (iv_bit k229b (by decide) (by decide)) (fun w231 i231 => ?_)
            refine lv_ior hx hb dX1_putByRule_73 ?_
            refine h_i (a := 0) (b := 1023) (iv_or 10 (b := 1023) (d := 512) (iv_w h2_27 (by decide) (by decide)) (iv_w i231 (by decide) (by decide)) (by decide) (by decide) (by decide) (by decide)) (fun w232 i232 => ?_)
            refine lv_istore_n (lv' := [(2, .int w232), (6, .int w222), (0, .ref (q 55)), (1, .int p0), (3, .int x3_27), (4, .int x4_27), (5, .int x5_27)]) hx hb dX1_putByRule_74 rfl hl (by decide) rfl (fun ls hl => ?_)
            refine lv_iload_n hx hb dX1_putByRule_75 rfl (lv_at hl 4 rfl) ?_
            refine lv_iconst (v := 1) hx hb dX1_putByRule_76 (by decide) ?_
            refine lv_iload hx hb dX1_putByRule_77 (lv_at hl 1 rfl) ?_
            refine lv_ishl hx hb dX1_putByRule_79 ?_
            refine h_i (a := 1) (b := 512) (iv_bit k229b (by decide) (by decide)) (fun w233 i233 => ?_)
            refine lv_ior hx hb dX1_putByRule_80 ?_
            refine h_i (a := 0) (b := 1023) (iv_or 10 (b := 1023) (d := 512) (iv_w h3_27 (by decide) (by decide)) (iv_w i233 (by decide) (by decide)) (by decide) (by decide) (by decide) (by decide)) (fun w234 i234 => ?_)
            refine lv_istore_n (lv' := [(3, .int w234), (2, .int w232), (6, .int w222), (0, .ref (q 55)), (1, .int p0), (4, .int x4_27), (5, .int x5_27)]) hx hb dX1_putByRule_81 rfl hl (by decide) rfl (fun ls hl => ?_)
            refine lv_goto (tgt := 102) hx hb dX1_putByRule_82 (by decide) ?_
            exact HJ102 w232 w234 x4_27 z230 H locs ls i232 i234 h4_27 k217a hJ hH (lv_sub hl [3, 4, 1, 0, 5, 6] rfl)
  refine lv_aload_n hx hb dX1_putByRule_0 rfl (lv_at hl 0 rfl) ?_
  refine b_calli (As := []) (rest := []) ⟨hx, hb, hml, hown, hts⟩ 55 1 (g_X1_someTaskIsTooMuch_55 l D cy q hH.2.1 z0 hJ.1 ) (cwV 0 hts gX1_putByRule_X1_someTaskIsTooMuch rfl rfl rfl (by decide +kernel) ⟨Nat.le_of_ble_eq_true rfl, Nat.le_of_ble_eq_true rfl⟩) hK hZ hH (by decide) rfl rfl rfl hl.1 rfl (Nat.le_of_ble_eq_true rfl) ⟨Nat.zero_le _, Nat.zero_le _⟩ dX1_putByRule_1 (fun w235 z235 H locs hp hH => ?_)
  rw [Ag_0 hp.1.2] at hH
  have i235 := hp.2
  refine lv_if_eq (tgt := 9) hx hb dX1_putByRule_4 (by decide) (fun c236 => ?_) (fun c236 => ?_)
  · skip
    have k237a : iv 0 0 w235 := iv_eql (iv_Eq c236) i235 (iv_lit (n := 0) 0 (by decide)) (by decide) (by decide)
    refine lv_aload_n hx hb dX1_putByRule_9 rfl (lv_at hl 0 rfl) ?_
    refine b_get (ci := 1) (C := RX1) (T := TX1) (Nf := 2) (v := .ref (q 56)) hx hb hts in_X1_putByRule_X1 hown hK hH 55 (by decide) rfl rfl 1 (by decide) (hts (.fieldLink RX1 9 "StationLine$Putting" "row" "[I") (List.mem_of_getElem? (i := 1) rfl)) rfl dX1_putByRule_10 ?_
    refine lv_iconst (v := 0) hx hb dX1_putByRule_13 (by decide) ?_
    refine b_statv (As := [.ref (q 56), .int 0]) (rest := []) ⟨hx, hb, hml, hown, hts⟩ (c_fill l D cy 66 (enC cy) q hH.2.1 z0 56 10 0 (by decide) (by decide) (fun _ => rfl) (fun w f => enC_A _ _ _ _ _)) (va_cwS 2 hts gX1_putByRule_J7_fill_53178 rfl rfl rfl (by decide +kernel) ⟨Nat.le_of_ble_eq_true rfl, Nat.le_of_ble_eq_true rfl⟩) hK hZ hH rfl hl.1 rfl (Nat.le_of_ble_eq_true rfl) ⟨Nat.zero_le _, Nat.zero_le _⟩ dX1_putByRule_14 (fun z1 H locs hp hH => ?_)
    obtain ⟨ff, rfl, hff⟩ := hp
    obtain ⟨z238, hz238⟩ : ∃ w : zS, w = upA z0 56 ff := ⟨_, rfl⟩
    rw [← hz238] at hH
    have hJ : jJ IvC 0 72057594037927936 0 z0 z238 := by rw [hz238]; exact jJ_A hJ (by decide) (IvC_R56 hJ.1 (rw_fill hff (iv_w (iv_lit (n := 0) 0 (by decide)) (by decide) (by decide))))
    refine lv_iconst (v := 0) hx hb dX1_putByRule_17 (by decide) ?_
    refine lv_istore_n (lv' := [(2, .int 0), (0, .ref (q 55)), (1, .int p0)]) hx hb dX1_putByRule_18 rfl hl (by decide) rfl (fun ls hl => ?_)
    refine lv_iconst (v := 0) hx hb dX1_putByRule_19 (by decide) ?_
    refine lv_istore_n (lv' := [(3, .int 0), (2, .int 0), (0, .ref (q 55)), (1, .int p0)]) hx hb dX1_putByRule_20 rfl hl (by decide) rfl (fun ls hl => ?_)
    refine lv_iconst (v := 1) hx hb dX1_putByRule_21 (by decide) ?_
    refine lv_istore (lv' := [(4, .int 1), (3, .int 0), (2, .int 0), (0, .ref (q 55)), (1, .int p0)]) hx hb dX1_putByRule_22 hl (by decide) rfl (fun ls hl => ?_)
    refine lv_iconst (v := 0) hx hb dX1_putByRule_24 (by decide) ?_
    refine lv_istore (lv' := [(5, .int 0), (4, .int 1), (3, .int 0), (2, .int 0), (0, .ref (q 55)), (1, .int p0)]) hx hb dX1_putByRule_25 hl (by decide) rfl (fun ls hl => ?_)
    exact HL27 _ 0 0 1 0 z238 H locs ls (iv_w (iv_lit (n := 0) 0 (by decide)) (by decide) (by decide)) (iv_w (iv_lit (n := 0) 0 (by decide)) (by decide) (by decide)) (iv_w (iv_lit (n := 1) 1 (by decide)) (by decide) (by decide)) (iv_w (iv_lit (n := 0) 0 (by decide)) (by decide) (by decide)) hJ hH (lv_sub hl [4, 5, 3, 2, 1, 0] rfl) rfl
  · skip
    have k239a : iv 1 1 w235 := iv_neLo (iv_nEq c236) i235 (by decide) (by decide)
    refine lv_iconst (v := 0) hx hb dX1_putByRule_7 (by decide) ?_
    exact hret _ z0 H locs _ _ (iv_w (iv_lit (n := 0) 0 (by decide)) (by decide) (by decide)) ⟨hJ, (iv_w (iv_lit (n := 0) 0 (by decide)) (by decide) (by decide))⟩ hH dX1_putByRule_8
set_option maxHeartbeats 4000000 in
set_option maxRecDepth 100000 in
theorem g_X2_leastStep (l : Launch) (D : va_G) (cy : Nat → ClassId) (q : Nat → Nat) (hq : bJ 66 q) (z0 : zS) (hI : IvC z0) (p1 : Int32) (hp1 : iv 0 9 p1) (p2 : Int32) : bCi l yX2_leastStep wsX2_leastStep ({ frames := 0, cells := 0, slots := 0, locals := 0 }) D cy 66 (enC cy) q z0 [.ref (q 1), .int p1, .int p2] (fun v z => jJ IvC 0 0 0 z0 z ∧ iv 0 9 v ∧ (LsP (z0.2.1 7) (z0.1 0).toNatClampNeg p1 p2 v)) := by
  refine hM_i cX2_leastStep (by decide) rfl (own := RX2) rfl hq (Nat.le_of_ble_eq_true rfl) ?_
  intro p e s m args below meth c Q ls H locs hx hb hml hown hts hK hZ hH hl hret
  have hl : lv_has ls 4 [(0, .ref (q 1)), (1, .int p1), (2, .int p2)] := hl
  have hJ : jJ IvC 0 0 0 z0 z0 := jJ_rf _ _ _ hI
  have e00 : (0 : Int32).toInt = 0 := (by decide); have e01 : (1 : Int32).toInt = 1 := (by decide); have e02 : (2 : Int32).toInt = 2 := (by decide); have e03 : (3 : Int32).toInt = 3 := (by decide); have e010 : (10 : Int32).toInt = 10 := (by decide)
  have HL2 : ∀ (n : Nat) (x3_2 : Int32) (H : Heap) (locs : List Loc) (ls : Array Slot), iv 0 10 x3_2 → (LsI (z0.2.1 7) p1 p2 (x3_2 : Int32).toNatClampNeg) → bH D 66 (enC cy) q z0 s.heap H locs → lv_has ls 4 [(0, .ref (q 1)), (1, .int p1), (2, .int p2), (3, .int x3_2)] → (10 - x3_2.toInt).toNat = n → W p l e ({ frames := 0, cells := 0, slots := 0, locals := 0 }) s m args below meth c H locs 0 0 Q (F0 m 2 ls []) := by
    intro n2
    induction n2 using Nat.strongRecOn with
    | ind n2 ih2 =>
      intro x3_2 H locs ls h3_2 ex_2 hH hl hn2
      have := h3_2.1; have := h3_2.2
      refine lv_iload_n hx hb dX2_leastStep_2 rfl (lv_at hl 3 rfl) ?_
      refine lv_aload_n hx hb dX2_leastStep_3 rfl (lv_at hl 0 rfl) ?_
      refine b_get (ci := 0) (C := RX0) (T := TX0) (Nf := 11) (v := .int (z0.1 0)) hx hb hts in_X2_leastStep_X0 hown hK hH 1 (by decide) rfl rfl 0 (by decide) (hts (.fieldLink RX2 29 "StationLine$Bench" "size" "I") (List.mem_of_getElem? (i := 1) rfl)) rfl dX2_leastStep_4 ?_
      have i113 := IvC_s0 hJ.1
      have := i113.1; have := i113.2
      refine lv_icmp_ge (tgt := 39) hx hb dX2_leastStep_7 (by decide) (fun c114 => ?_) (fun c114 => ?_)
      · skip
        have r114 := (iv_Le c114)
        refine lv_iload_n hx hb dX2_leastStep_39 rfl (lv_at hl 1 rfl) ?_
        exact hret _ z0 H locs _ _ ⟨hJ, hp1, (fun t ht q => absurd q (ex_2 t (by have := iv_nat (IvC_s0 hI) (by decide); have := iv_nat h3_2 (by decide); omega)))⟩ hH dX2_leastStep_40
      · skip
        have r114 := (iv_nLe c114)
        have k116a : iv 0 9 x3_2 := iv_ltl (iv_nLe c114) h3_2 i113 (by decide)
        have k116b : iv 1 10 (z0.1 0) := iv_ltr (iv_nLe c114) h3_2 i113 (by decide)
        refine lv_iload_n hx hb dX2_leastStep_10 rfl (lv_at hl 2 rfl) ?_
        refine lv_iconst (v := 1) hx hb dX2_leastStep_11 (by decide) ?_
        refine lv_iload_n hx hb dX2_leastStep_12 rfl (lv_at hl 3 rfl) ?_
        refine lv_ishl hx hb dX2_leastStep_13 ?_
        have i117 : iv 1 512 ((1 : Int32) <<< (x3_2 &&& 31)) := (iv_bit k116a (by decide) (by decide))
        refine lv_iand hx hb dX2_leastStep_14 ?_
        have i118 : iv 0 512 (p2 &&& ((1 : Int32) <<< (x3_2 &&& 31))) := (iv_and2 (iv_all p2) i117 (by decide) (by decide))
        refine lv_if_eq (tgt := 33) hx hb dX2_leastStep_15 (by decide) (fun c119 => ?_) (fun c119 => ?_)
        · skip
          have r119 := (iv_Eq c119)
          have k120a : iv 0 0 (p2 &&& ((1 : Int32) <<< (x3_2 &&& 31))) := iv_eql (iv_Eq c119) i118 (iv_lit (n := 0) 0 (by decide)) (by decide) (by decide)
          have j121 : iv 1 10 (x3_2 + 1) := iv_add k116a (iv_lit (n := 1) 1 (by decide)) (by decide) (by decide) (by decide) (by decide)
          have e121 : (x3_2 + 1).toInt = x3_2.toInt + 1 := (iv_addE k116a (iv_lit (n := 1) 1 (by decide)) (by decide) (by decide)).trans rfl
          refine lv_iinc (v := (x3_2 + 1)) (lv' := [(3, .int (x3_2 + 1)), (0, .ref (q 1)), (1, .int p1), (2, .int p2)]) hx hb dX2_leastStep_33 hl (k := 3) rfl rfl (by decide) rfl (fun ls hl => ?_)
          refine lv_goto (tgt := 2) hx hb dX2_leastStep_36 (by decide) ?_
          exact ih2 _ (ms_up e121 j121.2 hn2) (x3_2 + 1)  H locs ls (iv_w j121 (by decide) (by decide)) (LsI_s ex_2 (by have := iv_nat k116a (by decide); have := iv_nat j121 (by decide); omega) (fun q => bit_eq (iv_w k116a (by decide) (by decide)) c119 q.1))  hH (lv_sub hl [1, 2, 3, 0] rfl) rfl
        · skip
          have r119 := (iv_nEq c119)
          have k122a : iv 1 512 (p2 &&& ((1 : Int32) <<< (x3_2 &&& 31))) := iv_neLo (iv_nEq c119) i118 (by decide) (by decide)
          refine lv_aload_n hx hb dX2_leastStep_18 rfl (lv_at hl 0 rfl) ?_
          refine b_get (ci := 0) (C := RX0) (T := TX0) (Nf := 11) (v := .ref (q 7)) hx hb hts in_X2_leastStep_X0 hown hK hH 1 (by decide) rfl rfl 5 (by decide) (hts (.fieldLink RX2 32 "StationLine$Bench" "before" "[I") (List.mem_of_getElem? (i := 2) rfl)) rfl dX2_leastStep_19 ?_
          refine lv_iload_n hx hb dX2_leastStep_22 rfl (lv_at hl 3 rfl) ?_
          refine b_iald (v := z0.2.1 7 (x3_2 : Int32).toNatClampNeg) hx hb hK hH 7 (by decide) rfl (iv_in k116a (by decide) (by decide)) rfl dX2_leastStep_23 ?_
          refine lv_iconst (v := 1) hx hb dX2_leastStep_24 (by decide) ?_
          refine lv_iload_n hx hb dX2_leastStep_25 rfl (lv_at hl 1 rfl) ?_
          refine lv_ishl hx hb dX2_leastStep_26 ?_
          have i123 : iv 1 512 ((1 : Int32) <<< (p1 &&& 31)) := (iv_bit hp1 (by decide) (by decide))
          refine lv_iand hx hb dX2_leastStep_27 ?_
          have i124 : iv 0 512 ((z0.2.1 7 (x3_2 : Int32).toNatClampNeg) &&& ((1 : Int32) <<< (p1 &&& 31))) := (iv_and2 (iv_all (z0.2.1 7 (x3_2 : Int32).toNatClampNeg)) i123 (by decide) (by decide))
          refine lv_if_eq (tgt := 33) hx hb dX2_leastStep_28 (by decide) (fun c125 => ?_) (fun c125 => ?_)
          · skip
            have r125 := (iv_Eq c125)
            have k126a : iv 0 0 ((z0.2.1 7 (x3_2 : Int32).toNatClampNeg) &&& ((1 : Int32) <<< (p1 &&& 31))) := iv_eql (iv_Eq c125) i124 (iv_lit (n := 0) 0 (by decide)) (by decide) (by decide)
            have j127 : iv 1 10 (x3_2 + 1) := iv_add k116a (iv_lit (n := 1) 1 (by decide)) (by decide) (by decide) (by decide) (by decide)
            have e127 : (x3_2 + 1).toInt = x3_2.toInt + 1 := (iv_addE k116a (iv_lit (n := 1) 1 (by decide)) (by decide) (by decide)).trans rfl
            refine lv_iinc (v := (x3_2 + 1)) (lv' := [(3, .int (x3_2 + 1)), (0, .ref (q 1)), (1, .int p1), (2, .int p2)]) hx hb dX2_leastStep_33 hl (k := 3) rfl rfl (by decide) rfl (fun ls hl => ?_)
            refine lv_goto (tgt := 2) hx hb dX2_leastStep_36 (by decide) ?_
            exact ih2 _ (ms_up e127 j127.2 hn2) (x3_2 + 1)  H locs ls (iv_w j127 (by decide) (by decide)) (LsI_s ex_2 (by have := iv_nat k116a (by decide); have := iv_nat j127 (by decide); omega) (fun q => bit_eq hp1 c125 q.2))  hH (lv_sub hl [1, 2, 3, 0] rfl) rfl
          · skip
            have r125 := (iv_nEq c125)
            have k128a : iv 1 512 ((z0.2.1 7 (x3_2 : Int32).toNatClampNeg) &&& ((1 : Int32) <<< (p1 &&& 31))) := iv_neLo (iv_nEq c125) i124 (by decide) (by decide)
            refine lv_iload_n hx hb dX2_leastStep_31 rfl (lv_at hl 3 rfl) ?_
            exact hret _ z0 H locs _ _ ⟨hJ, k116a, (fun t _ _ => ⟨(iv_w k116a (by decide) (by decide)), (by have := iv_nat (IvC_s0 hI) (by decide); have := iv_nat k116a (by decide); omega), ⟨bit_ne (iv_w k116a (by decide) (by decide)) c119, bit_ne hp1 c125⟩, ex_2⟩)⟩ hH dX2_leastStep_32
  refine lv_iconst (v := 0) hx hb dX2_leastStep_0 (by decide) ?_
  refine lv_istore_n (lv' := [(3, .int 0), (0, .ref (q 1)), (1, .int p1), (2, .int p2)]) hx hb dX2_leastStep_1 rfl hl (by decide) rfl (fun ls hl => ?_)
  exact HL2 _ 0  H locs ls (iv_w (iv_lit (n := 0) 0 (by decide)) (by decide) (by decide)) LsI_0  hH (lv_sub hl [1, 2, 3, 0] rfl) rfl
set_option maxHeartbeats 4000000 in
set_option maxRecDepth 100000 in
theorem g_X2_layersUpTo_29 (l : Launch) (D : va_G) (cy : Nat → ClassId) (q : Nat → Nat) (hq : bJ 66 q) (z0 : zS) (hI : IvC z0) (p1 : Int32) (hp1 : iv 0 9 p1) (p2 : Int32) (hp2 : iv 0 9 p2) : bCi l yX2_layersUpTo wsX2_layersUpTo ({ frames := 0, cells := 0, slots := 0, locals := 0 }) D cy 66 (enC cy) q z0 [.ref (q 29), .ref (q 1), .int p1, .int p2] (fun v z => jJ IvC 0 2147483648 0 z0 z ∧ iv 0 10 v ∧ (LyP (z0.2.1 7) (z0.1 0).toNatClampNeg p1.toNatClampNeg p2.toNatClampNeg (z.2.1 31) v)) := by
  refine hM_i cX2_layersUpTo (by decide) rfl (own := RX2) rfl hq (Nat.le_of_ble_eq_true rfl) ?_
  intro p e s m args below meth c Q ls H locs hx hb hml hown hts hK hZ hH hl hret
  have hl : lv_has ls 8 [(0, .ref (q 29)), (1, .ref (q 1)), (2, .int p1), (3, .int p2)] := hl
  have hJ : jJ IvC 0 2147483648 0 z0 z0 := jJ_rf _ _ _ hI
  have e00 : (0 : Int32).toInt = 0 := (by decide); have e01 : (1 : Int32).toInt = 1 := (by decide); have e02 : (2 : Int32).toInt = 2 := (by decide); have e03 : (3 : Int32).toInt = 3 := (by decide); have e010 : (10 : Int32).toInt = 10 := (by decide)
  have HL16 : ∀ (n : Nat) (x4_16 : Int32) (x5_16 : Int32) (z_16 : zS) (H : Heap) (locs : List Loc) (ls : Array Slot), iv 0 10 x5_16 → (LyI (z0.2.1 7) (z0.1 0).toNatClampNeg p1.toNatClampNeg (z_16.2.1 31) x4_16 (x5_16 : Int32).toNatClampNeg ∧ NoB (z_16.2.1 31) p2.toNatClampNeg (x5_16 : Int32).toNatClampNeg) → jJ IvC 0 2147483648 0 z0 z_16 → bH D 66 (enC cy) q z_16 s.heap H locs → lv_has ls 8 [(0, .ref (q 29)), (1, .ref (q 1)), (3, .int p2), (4, .int x4_16), (5, .int x5_16)] → (10 - x5_16.toInt).toNat = n → W p l e ({ frames := 0, cells := 0, slots := 0, locals := 0 }) s m args below meth c H locs 0 0 Q (F0 m 16 ls []) := by
    intro n16
    induction n16 using Nat.strongRecOn with
    | ind n16 ih16 =>
      intro x4_16 x5_16 z_16 H locs ls h5_16 ex_16 hJ hH hl hn16
      have := h5_16.1; have := h5_16.2
      have HL43 : ∀ (n : Nat) (x6_43 : Int32) (x7_43 : Int32) (z_43 : zS) (H : Heap) (locs : List Loc) (ls : Array Slot), iv 0 9 x5_16 → iv 0 10 x7_43 → (z_43.2.1 31 = z_16.2.1 31 ∧ NxI (z0.2.1 7) (z_16.2.1 31 (x5_16 : Int32).toNatClampNeg) x6_43 (x7_43 : Int32).toNatClampNeg ∧ (x7_43 : Int32).toInt ≤ (z0.1 0).toInt ∧ ¬ bitN (z_16.2.1 31 (x5_16 : Int32).toNatClampNeg) p2.toNatClampNeg) → jJ IvC 0 2147483648 0 z0 z_43 → bH D 66 (enC cy) q z_43 s.heap H locs → lv_has ls 8 [(0, .ref (q 29)), (1, .ref (q 1)), (3, .int p2), (4, .int x4_16), (5, .int x5_16), (6, .int x6_43), (7, .int x7_43)] → (10 - x7_43.toInt).toNat = n → W p l e ({ frames := 0, cells := 0, slots := 0, locals := 0 }) s m args below meth c H locs 0 0 Q (F0 m 43 ls []) := by
        intro n43
        induction n43 using Nat.strongRecOn with
        | ind n43 ih43 =>
          intro x6_43 x7_43 z_43 H locs ls h5_43 h7_43 ex_43 hJ hH hl hn43
          have := h5_43.1; have := h5_43.2; have := h7_43.1; have := h7_43.2
          have hq0 := iv_Eq (hJ.2.1 0 (by decide))
          refine lv_iload hx hb dX2_layersUpTo_43 (lv_at hl 6 rfl) ?_
          refine lv_aload_n hx hb dX2_layersUpTo_45 rfl (lv_at hl 1 rfl) ?_
          refine b_get (ci := 0) (C := RX0) (T := TX0) (Nf := 11) (v := .int (z_43.1 0)) hx hb hts in_X2_layersUpTo_X0 hown hK hH 1 (by decide) rfl rfl 0 (by decide) (hts (.fieldLink RX2 29 "StationLine$Bench" "size" "I") (List.mem_of_getElem? (i := 2) rfl)) rfl dX2_layersUpTo_46 ?_
          have i288 := IvC_s0 hJ.1
          have := i288.1; have := i288.2
          refine lv_icmp_ge (tgt := 85) hx hb dX2_layersUpTo_49 (by decide) (fun c289 => ?_) (fun c289 => ?_)
          · skip
            have r289 := (iv_Le c289)
            have j291 : iv 1 10 (x5_16 + 1) := iv_add h5_43 (iv_lit (n := 1) 1 (by decide)) (by decide) (by decide) (by decide) (by decide)
            have e291 : (x5_16 + 1).toInt = x5_16.toInt + 1 := (iv_addE h5_43 (iv_lit (n := 1) 1 (by decide)) (by decide) (by decide)).trans rfl
            refine lv_iinc (v := (x5_16 + 1)) (lv' := [(5, .int (x5_16 + 1)), (0, .ref (q 29)), (1, .ref (q 1)), (3, .int p2), (4, .int x4_16), (6, .int x6_43), (7, .int x7_43)]) hx hb dX2_layersUpTo_85 hl (k := 4) rfl rfl (by decide) rfl (fun ls hl => ?_)
            refine lv_aload_n hx hb dX2_layersUpTo_88 rfl (lv_at hl 1 rfl) ?_
            refine b_get (ci := 2) (C := RX2) (T := TX2) (Nf := 3) (v := .ref (q 31)) hx hb hts in_X2_layersUpTo_X2 hown hK hH 29 (by decide) rfl rfl 2 (by decide) (hts (.fieldLink RX2 19 "StationLine$Ring" "layers" "[I") (List.mem_of_getElem? (i := 1) rfl)) rfl dX2_layersUpTo_89 ?_
            refine lv_iload hx hb dX2_layersUpTo_92 (lv_at hl 0 rfl) ?_
            refine lv_iload hx hb dX2_layersUpTo_94 (lv_at hl 5 rfl) ?_
            refine lv_iload hx hb dX2_layersUpTo_96 (lv_at hl 4 rfl) ?_
            refine lv_iconst (v := (-1)) hx hb dX2_layersUpTo_98 (by decide) ?_
            refine lv_ixor hx hb dX2_layersUpTo_99 ?_
            refine lv_iand hx hb dX2_layersUpTo_100 ?_
            refine b_iast hx hb hK hH 31 (by decide) rfl (iv_in j291 (by decide) (by decide)) (upA z_43 31 (upd (z_43.2.1 31) (x5_16 + 1 : Int32).toNatClampNeg (x6_43 &&& (x4_16 ^^^ (-1))))) rfl (enC_A _ _ _ _ _) dX2_layersUpTo_101 (fun H locs hH => ?_)
            obtain ⟨z294, hz294⟩ : ∃ w : zS, w = upA z_43 31 (upd (z_43.2.1 31) (x5_16 + 1 : Int32).toNatClampNeg (x6_43 &&& (x4_16 ^^^ (-1)))) := ⟨_, rfl⟩
            rw [← hz294] at hH
            have hJ : jJ IvC 0 2147483648 0 z0 z294 := by rw [hz294]; exact jJ_A hJ (by decide) (IvC_A hJ.1 (by decide))
            refine lv_iload hx hb dX2_layersUpTo_102 (lv_at hl 4 rfl) ?_
            refine lv_iload hx hb dX2_layersUpTo_104 (lv_at hl 5 rfl) ?_
            refine lv_ior hx hb dX2_layersUpTo_106 ?_
            refine lv_istore (lv' := [(4, .int (x4_16 ||| x6_43)), (5, .int (x5_16 + 1)), (0, .ref (q 29)), (1, .ref (q 1)), (3, .int p2), (6, .int x6_43), (7, .int x7_43)]) hx hb dX2_layersUpTo_107 hl (by decide) rfl (fun ls hl => ?_)
            refine lv_goto (tgt := 16) hx hb dX2_layersUpTo_109 (by decide) ?_
            exact ih16 _ (ms_up e291 j291.2 hn16) (x4_16 ||| x6_43) (x5_16 + 1) z294 H locs ls (iv_w j291 (by decide) (by decide)) ⟨LyI_s (by have := iv_nat (IvC_s0 hI) (by decide); have := (IvC_s0 hI).2; omega) ex_16.1 ((show (x7_43 : Int32).toNatClampNeg = (z0.1 0).toNatClampNeg from (by have := ex_43.2.2.1; have := iv_Eq (hJ.2.1 0 (by decide)); have := iv_nat (IvC_s0 hI) (by decide); have := iv_nat h7_43 (by decide); omega)) ▸ ex_43.2.1) (show (x5_16 + 1 : Int32).toNatClampNeg = (x5_16 : Int32).toNatClampNeg + 1 by have := iv_nat h5_43 (by decide); have := iv_nat j291 (by decide); omega) (show z294.2.1 31 = upd (z_16.2.1 31) (x5_16 + 1 : Int32).toNatClampNeg (x6_43 &&& (x4_16 ^^^ (-1))) by rw [hz294, upA_e, ex_43.1]), NoB_s ex_16.2 ex_43.2.2.2 (show (x5_16 + 1 : Int32).toNatClampNeg = (x5_16 : Int32).toNatClampNeg + 1 by have := iv_nat h5_43 (by decide); have := iv_nat j291 (by decide); omega) (show z294.2.1 31 = upd (z_16.2.1 31) (x5_16 + 1 : Int32).toNatClampNeg (x6_43 &&& (x4_16 ^^^ (-1))) by rw [hz294, upA_e, ex_43.1])⟩ hJ hH (lv_sub hl [2, 3, 4, 0, 1] rfl) rfl
          · skip
            have r289 := (iv_nLe c289)
            have k296a : iv 0 9 x7_43 := iv_ltl (iv_nLe c289) h7_43 i288 (by decide)
            have k296b : iv 1 10 (z_43.1 0) := iv_ltr (iv_nLe c289) h7_43 i288 (by decide)
            refine lv_aload_n hx hb dX2_layersUpTo_52 rfl (lv_at hl 0 rfl) ?_
            refine b_get (ci := 2) (C := RX2) (T := TX2) (Nf := 3) (v := .ref (q 31)) hx hb hts in_X2_layersUpTo_X2 hown hK hH 29 (by decide) rfl rfl 2 (by decide) (hts (.fieldLink RX2 19 "StationLine$Ring" "layers" "[I") (List.mem_of_getElem? (i := 1) rfl)) rfl dX2_layersUpTo_53 ?_
            refine lv_iload hx hb dX2_layersUpTo_56 (lv_at hl 4 rfl) ?_
            refine b_iald (v := z_43.2.1 31 (x5_16 : Int32).toNatClampNeg) hx hb hK hH 31 (by decide) rfl (iv_in h5_43 (by decide) (by decide)) rfl dX2_layersUpTo_58 ?_
            refine lv_iconst (v := 1) hx hb dX2_layersUpTo_59 (by decide) ?_
            refine lv_iload hx hb dX2_layersUpTo_60 (lv_at hl 6 rfl) ?_
            refine lv_ishl hx hb dX2_layersUpTo_62 ?_
            have i297 : iv 1 512 ((1 : Int32) <<< (x7_43 &&& 31)) := (iv_bit k296a (by decide) (by decide))
            refine lv_iand hx hb dX2_layersUpTo_63 ?_
            have i298 : iv 0 512 ((z_43.2.1 31 (x5_16 : Int32).toNatClampNeg) &&& ((1 : Int32) <<< (x7_43 &&& 31))) := (iv_and2 (iv_all (z_43.2.1 31 (x5_16 : Int32).toNatClampNeg)) i297 (by decide) (by decide))
            refine lv_if_eq (tgt := 79) hx hb dX2_layersUpTo_64 (by decide) (fun c299 => ?_) (fun c299 => ?_)
            · skip
              have r299 := (iv_Eq c299)
              have k300a : iv 0 0 ((z_43.2.1 31 (x5_16 : Int32).toNatClampNeg) &&& ((1 : Int32) <<< (x7_43 &&& 31))) := iv_eql (iv_Eq c299) i298 (iv_lit (n := 0) 0 (by decide)) (by decide) (by decide)
              have j301 : iv 1 10 (x7_43 + 1) := iv_add k296a (iv_lit (n := 1) 1 (by decide)) (by decide) (by decide) (by decide) (by decide)
              have e301 : (x7_43 + 1).toInt = x7_43.toInt + 1 := (iv_addE k296a (iv_lit (n := 1) 1 (by decide)) (by decide) (by decide)).trans rfl
              refine lv_iinc (v := (x7_43 + 1)) (lv' := [(7, .int (x7_43 + 1)), (0, .ref (q 29)), (1, .ref (q 1)), (3, .int p2), (4, .int x4_16), (5, .int x5_16), (6, .int x6_43)]) hx hb dX2_layersUpTo_79 hl (k := 6) rfl rfl (by decide) rfl (fun ls hl => ?_)
              refine lv_goto (tgt := 43) hx hb dX2_layersUpTo_82 (by decide) ?_
              exact ih43 _ (ms_up e301 j301.2 hn43) x6_43 (x7_43 + 1) z_43 H locs ls h5_43 (iv_w j301 (by decide) (by decide)) ⟨ex_43.1, NxI_n ex_43.2.1 (by have := iv_nat k296a (by decide); have := iv_nat j301 (by decide); omega) (by rw [← ex_43.1]; exact bit_eq (iv_w k296a (by decide) (by decide)) c299), by have := iv_Eq (hJ.2.1 0 (by decide)); omega, ex_43.2.2.2⟩ hJ hH (lv_sub hl [1, 2, 3, 4, 5, 6, 0] rfl) rfl
            · skip
              have r299 := (iv_nEq c299)
              have k302a : iv 1 512 ((z_43.2.1 31 (x5_16 : Int32).toNatClampNeg) &&& ((1 : Int32) <<< (x7_43 &&& 31))) := iv_neLo (iv_nEq c299) i298 (by decide) (by decide)
              refine lv_iload hx hb dX2_layersUpTo_67 (lv_at hl 5 rfl) ?_
              refine lv_aload_n hx hb dX2_layersUpTo_69 rfl (lv_at hl 1 rfl) ?_
              refine b_get (ci := 0) (C := RX0) (T := TX0) (Nf := 11) (v := .ref (q 7)) hx hb hts in_X2_layersUpTo_X0 hown hK hH 1 (by decide) rfl rfl 5 (by decide) (hts (.fieldLink RX2 32 "StationLine$Bench" "before" "[I") (List.mem_of_getElem? (i := 3) rfl)) rfl dX2_layersUpTo_70 ?_
              refine lv_iload hx hb dX2_layersUpTo_73 (lv_at hl 6 rfl) ?_
              refine b_iald (v := z_43.2.1 7 (x7_43 : Int32).toNatClampNeg) hx hb hK hH 7 (by decide) rfl (iv_in k296a (by decide) (by decide)) rfl dX2_layersUpTo_75 ?_
              refine lv_ior hx hb dX2_layersUpTo_76 ?_
              refine lv_istore (lv' := [(6, .int (x6_43 ||| (z_43.2.1 7 (x7_43 : Int32).toNatClampNeg))), (0, .ref (q 29)), (1, .ref (q 1)), (3, .int p2), (4, .int x4_16), (5, .int x5_16), (7, .int x7_43)]) hx hb dX2_layersUpTo_77 hl (by decide) rfl (fun ls hl => ?_)
              have j304 : iv 1 10 (x7_43 + 1) := iv_add k296a (iv_lit (n := 1) 1 (by decide)) (by decide) (by decide) (by decide) (by decide)
              have e304 : (x7_43 + 1).toInt = x7_43.toInt + 1 := (iv_addE k296a (iv_lit (n := 1) 1 (by decide)) (by decide) (by decide)).trans rfl
              refine lv_iinc (v := (x7_43 + 1)) (lv' := [(7, .int (x7_43 + 1)), (6, .int (x6_43 ||| (z_43.2.1 7 (x7_43 : Int32).toNatClampNeg))), (0, .ref (q 29)), (1, .ref (q 1)), (3, .int p2), (4, .int x4_16), (5, .int x5_16)]) hx hb dX2_layersUpTo_79 hl (k := 6) rfl rfl (by decide) rfl (fun ls hl => ?_)
              refine lv_goto (tgt := 43) hx hb dX2_layersUpTo_82 (by decide) ?_
              exact ih43 _ (ms_up e304 j304.2 hn43) (x6_43 ||| (z_43.2.1 7 (x7_43 : Int32).toNatClampNeg)) (x7_43 + 1) z_43 H locs ls h5_43 (iv_w j304 (by decide) (by decide)) ⟨ex_43.1, (by have h7 := hJ.2.2.1 7 (by decide); rw [h7]; exact NxI_y ex_43.2.1 (by have := iv_nat k296a (by decide); have := iv_nat j304 (by decide); omega) (by rw [← ex_43.1]; exact bit_ne (iv_w k296a (by decide) (by decide)) c299)), by have := iv_Eq (hJ.2.1 0 (by decide)); omega, ex_43.2.2.2⟩ hJ hH (lv_sub hl [2, 3, 4, 5, 6, 1, 0] rfl) rfl
      have hq0 := iv_Eq (hJ.2.1 0 (by decide))
      refine lv_iload hx hb dX2_layersUpTo_16 (lv_at hl 4 rfl) ?_
      refine lv_bipush (v := 10) hx hb dX2_layersUpTo_18 (by decide) ?_
      refine lv_icmp_ge (tgt := 112) hx hb dX2_layersUpTo_20 (by decide) (fun c305 => ?_) (fun c305 => ?_)
      · skip
        have r305 := (iv_Le c305)
        have k306b : iv 10 10 x5_16 := iv_ler (iv_Le c305) (iv_lit (n := 10) 10 (by decide)) h5_16
        refine lv_iload hx hb dX2_layersUpTo_112 (lv_at hl 4 rfl) ?_
        exact hret _ z_16 H locs _ _ ⟨hJ, (iv_w k306b (by decide) (by decide)), (LyP_of (by have := iv_nat (IvC_s0 hI) (by decide); have := (IvC_s0 hI).2; omega) (iv_w k306b (by decide) (by decide)) ex_16.1 ex_16.2 (Or.inl (by have e10 : (10 : Int32).toInt = 10 := (by decide); omega)))⟩ hH dX2_layersUpTo_114
      · skip
        have r305 := (iv_nLe c305)
        have k307a : iv 0 9 x5_16 := iv_ltl (iv_nLe c305) h5_16 (iv_lit (n := 10) 10 (by decide)) (by decide)
        refine lv_aload_n hx hb dX2_layersUpTo_23 rfl (lv_at hl 0 rfl) ?_
        refine b_get (ci := 2) (C := RX2) (T := TX2) (Nf := 3) (v := .ref (q 31)) hx hb hts in_X2_layersUpTo_X2 hown hK hH 29 (by decide) rfl rfl 2 (by decide) (hts (.fieldLink RX2 19 "StationLine$Ring" "layers" "[I") (List.mem_of_getElem? (i := 1) rfl)) rfl dX2_layersUpTo_24 ?_
        refine lv_iload hx hb dX2_layersUpTo_27 (lv_at hl 4 rfl) ?_
        refine b_iald (v := z_16.2.1 31 (x5_16 : Int32).toNatClampNeg) hx hb hK hH 31 (by decide) rfl (iv_in k307a (by decide) (by decide)) rfl dX2_layersUpTo_29 ?_
        refine lv_iconst (v := 1) hx hb dX2_layersUpTo_30 (by decide) ?_
        refine lv_iload_n hx hb dX2_layersUpTo_31 rfl (lv_at hl 2 rfl) ?_
        refine lv_ishl hx hb dX2_layersUpTo_32 ?_
        have i308 : iv 1 512 ((1 : Int32) <<< (p2 &&& 31)) := (iv_bit hp2 (by decide) (by decide))
        refine lv_iand hx hb dX2_layersUpTo_33 ?_
        have i309 : iv 0 512 ((z_16.2.1 31 (x5_16 : Int32).toNatClampNeg) &&& ((1 : Int32) <<< (p2 &&& 31))) := (iv_and2 (iv_all (z_16.2.1 31 (x5_16 : Int32).toNatClampNeg)) i308 (by decide) (by decide))
        refine lv_if_ne (tgt := 112) hx hb dX2_layersUpTo_34 (by decide) (fun c310 => ?_) (fun c310 => ?_)
        · skip
          have r310 := (iv_nEq c310)
          have k311a : iv 1 512 ((z_16.2.1 31 (x5_16 : Int32).toNatClampNeg) &&& ((1 : Int32) <<< (p2 &&& 31))) := iv_neLo (iv_nEq c310) i309 (by decide) (by decide)
          refine lv_iload hx hb dX2_layersUpTo_112 (lv_at hl 4 rfl) ?_
          exact hret _ z_16 H locs _ _ ⟨hJ, (iv_w k307a (by decide) (by decide)), (LyP_of (by have := iv_nat (IvC_s0 hI) (by decide); have := (IvC_s0 hI).2; omega) (iv_w k307a (by decide) (by decide)) ex_16.1 ex_16.2 (Or.inr (bit_ne hp2 c310)))⟩ hH dX2_layersUpTo_114
        · skip
          have r310 := (iv_Eq c310)
          have k312a : iv 0 0 ((z_16.2.1 31 (x5_16 : Int32).toNatClampNeg) &&& ((1 : Int32) <<< (p2 &&& 31))) := iv_eql (iv_Eq c310) i309 (iv_lit (n := 0) 0 (by decide)) (by decide) (by decide)
          refine lv_iconst (v := 0) hx hb dX2_layersUpTo_37 (by decide) ?_
          refine lv_istore (lv' := [(6, .int 0), (0, .ref (q 29)), (1, .ref (q 1)), (3, .int p2), (4, .int x4_16), (5, .int x5_16)]) hx hb dX2_layersUpTo_38 hl (by decide) rfl (fun ls hl => ?_)
          refine lv_iconst (v := 0) hx hb dX2_layersUpTo_40 (by decide) ?_
          refine lv_istore (lv' := [(7, .int 0), (6, .int 0), (0, .ref (q 29)), (1, .ref (q 1)), (3, .int p2), (4, .int x4_16), (5, .int x5_16)]) hx hb dX2_layersUpTo_41 hl (by decide) rfl (fun ls hl => ?_)
          exact HL43 _ 0 0 z_16 H locs ls k307a (iv_w (iv_lit (n := 0) 0 (by decide)) (by decide) (by decide)) ⟨rfl, NxI_0, by have := (IvC_s0 hI).1; omega, bit_eq hp2 c310⟩ hJ hH (lv_sub hl [2, 3, 4, 5, 6, 1, 0] rfl) rfl
  refine lv_iconst (v := 1) hx hb dX2_layersUpTo_0 (by decide) ?_
  refine lv_iload_n hx hb dX2_layersUpTo_1 rfl (lv_at hl 2 rfl) ?_
  refine lv_ishl hx hb dX2_layersUpTo_2 ?_
  have i313 : iv 1 512 ((1 : Int32) <<< (p1 &&& 31)) := (iv_bit hp1 (by decide) (by decide))
  refine lv_istore (lv' := [(4, .int ((1 : Int32) <<< (p1 &&& 31))), (0, .ref (q 29)), (1, .ref (q 1)), (2, .int p1), (3, .int p2)]) hx hb dX2_layersUpTo_3 hl (by decide) rfl (fun ls hl => ?_)
  refine lv_aload_n hx hb dX2_layersUpTo_5 rfl (lv_at hl 1 rfl) ?_
  refine b_get (ci := 2) (C := RX2) (T := TX2) (Nf := 3) (v := .ref (q 31)) hx hb hts in_X2_layersUpTo_X2 hown hK hH 29 (by decide) rfl rfl 2 (by decide) (hts (.fieldLink RX2 19 "StationLine$Ring" "layers" "[I") (List.mem_of_getElem? (i := 1) rfl)) rfl dX2_layersUpTo_6 ?_
  refine lv_iconst (v := 0) hx hb dX2_layersUpTo_9 (by decide) ?_
  refine lv_iload hx hb dX2_layersUpTo_10 (lv_at hl 0 rfl) ?_
  refine b_iast hx hb hK hH 31 (by decide) rfl (by unfold vp_in; decide) (upA z0 31 (upd (z0.2.1 31) (0 : Int32).toNatClampNeg ((1 : Int32) <<< (p1 &&& 31)))) rfl (enC_A _ _ _ _ _) dX2_layersUpTo_12 (fun H locs hH => ?_)
  obtain ⟨z314, hz314⟩ : ∃ w : zS, w = upA z0 31 (upd (z0.2.1 31) (0 : Int32).toNatClampNeg ((1 : Int32) <<< (p1 &&& 31))) := ⟨_, rfl⟩
  rw [← hz314] at hH
  have hJ : jJ IvC 0 2147483648 0 z0 z314 := by rw [hz314]; exact jJ_A hJ (by decide) (IvC_A hJ.1 (by decide))
  refine lv_iconst (v := 0) hx hb dX2_layersUpTo_13 (by decide) ?_
  refine lv_istore (lv' := [(5, .int 0), (4, .int ((1 : Int32) <<< (p1 &&& 31))), (0, .ref (q 29)), (1, .ref (q 1)), (2, .int p1), (3, .int p2)]) hx hb dX2_layersUpTo_14 hl (by decide) rfl (fun ls hl => ?_)
  exact HL16 _ ((1 : Int32) <<< (p1 &&& 31)) 0 z314 H locs ls (iv_w (iv_lit (n := 0) 0 (by decide)) (by decide) (by decide)) ⟨LyI_0 (by have := iv_nat (IvC_s0 hI) (by decide); have := (IvC_s0 hI).2; omega) hp1 (show z314.2.1 31 = _ by rw [hz314]; exact upA_e), NoB_0⟩ hJ hH (lv_sub hl [2, 3, 5, 1, 0] rfl) rfl
set_option maxHeartbeats 4000000 in
set_option maxRecDepth 100000 in
theorem g_X2_trace_29 (l : Launch) (D : va_G) (cy : Nat → ClassId) (q : Nat → Nat) (hq : bJ 66 q) (z0 : zS) (hI : IvC z0) (p1 : Int32) (hp1 : iv 0 9 p1) (p2 : Int32) (hp2 : iv 0 9 p2) : bCv l yX2_trace wsX2_trace ({ frames := 1, cells := 0, slots := 0, locals := 27 }) D cy 66 (enC cy) q z0 [.ref (q 29), .ref (q 1), .int p1, .int p2] (fun z => jJ IvC 128 3221225472 0 z0 z ∧ (RgA (z0.2.1 7) (z0.1 0).toNatClampNeg p1 p2 (z.1 7) (z.2.1 30))) := by
  refine hM_v cX2_trace (by decide) rfl (own := RX2) rfl hq (Nat.le_of_ble_eq_true rfl) ?_
  intro p e s m args below meth c Q ls H locs hx hb hml hown hts hK hZ hH hl hret
  have hl : lv_has ls 7 [(0, .ref (q 29)), (1, .ref (q 1)), (2, .int p1), (3, .int p2)] := hl
  have hJ : jJ IvC 128 3221225472 0 z0 z0 := jJ_rf _ _ _ hI
  have e00 : (0 : Int32).toInt = 0 := (by decide); have e01 : (1 : Int32).toInt = 1 := (by decide); have e02 : (2 : Int32).toInt = 2 := (by decide); have e03 : (3 : Int32).toInt = 3 := (by decide); have e010 : (10 : Int32).toInt = 10 := (by decide)
  have HL36 : ∀ (n : Nat) (x5_36 : Int32) (x6_36 : Int32) (z_36 : zS) (H : Heap) (locs : List Loc) (ls : Array Slot), iv 0 9 x5_36 → iv (-1) 9 x6_36 → (TrI (z0.2.1 7) (z0.1 0).toNatClampNeg p1 p2 (z_36.1 7) (z_36.2.1 30) (z_36.2.1 31) x5_36 x6_36) → jJ IvC 128 3221225472 0 z0 z_36 → bH D 66 (enC cy) q z_36 s.heap H locs → lv_has ls 7 [(0, .ref (q 29)), (1, .ref (q 1)), (5, .int x5_36), (6, .int x6_36)] → (x6_36.toInt - (-1)).toNat = n → W p l e ({ frames := 1, cells := 0, slots := 0, locals := 27 }) s m args below meth c H locs 0 0 Q (F0 m 36 ls []) := by
    intro n36
    induction n36 using Nat.strongRecOn with
    | ind n36 ih36 =>
      intro x5_36 x6_36 z_36 H locs ls h5_36 h6_36 ex_36 hJ hH hl hn36
      have := h5_36.1; have := h5_36.2; have := h6_36.1; have := h6_36.2
      refine lv_iload hx hb dX2_trace_36 (lv_at hl 3 rfl) ?_
      refine lv_if_lt (tgt := 92) hx hb dX2_trace_38 (by decide) (fun c60 => ?_) (fun c60 => ?_)
      · skip
        have r60 := (iv_Lt c60)
        have k61a : iv (-1) (-1) x6_36 := iv_ltl (iv_Lt c60) h6_36 (iv_lit (n := 0) 0 (by decide)) (by decide)
        exact hret z_36 H locs _ _ ⟨hJ, (RgA_lo ex_36 (by omega))⟩ hH dX2_trace_92
      · skip
        have r60 := (iv_nLt c60)
        have k62b : iv 0 9 x6_36 := iv_ler (iv_nLt c60) (iv_lit (n := 0) 0 (by decide)) h6_36
        refine lv_aload_n hx hb dX2_trace_41 rfl (lv_at hl 0 rfl) ?_
        refine b_get (ci := 2) (C := RX2) (T := TX2) (Nf := 3) (v := .int (z_36.1 7)) hx hb hts in_X2_trace_X2 hown hK hH 29 (by decide) rfl rfl 1 (by decide) (hts (.fieldLink RX2 15 "StationLine$Ring" "size" "I") (List.mem_of_getElem? (i := 2) rfl)) rfl dX2_trace_42 ?_
        have i63 := IvC_s7 hJ.1
        have := i63.1; have := i63.2
        refine lv_bipush (v := 10) hx hb dX2_trace_45 (by decide) ?_
        refine lv_icmp_ge (tgt := 92) hx hb dX2_trace_47 (by decide) (fun c64 => ?_) (fun c64 => ?_)
        · skip
          have r64 := (iv_Le c64)
          have k65b : iv 10 10 (z_36.1 7) := iv_ler (iv_Le c64) (iv_lit (n := 10) 10 (by decide)) i63
          exact hret z_36 H locs _ _ ⟨hJ, (RgA_hi (by have := iv_nat (IvC_s0 hI) (by decide); have := (IvC_s0 hI).2; omega) ex_36 (by omega) (by omega))⟩ hH dX2_trace_92
        · skip
          have r64 := (iv_nLe c64)
          have k66a : iv 0 9 (z_36.1 7) := iv_ltl (iv_nLe c64) i63 (iv_lit (n := 10) 10 (by decide)) (by decide)
          refine lv_aload_n hx hb dX2_trace_50 rfl (lv_at hl 0 rfl) ?_
          refine b_get (ci := 2) (C := RX2) (T := TX2) (Nf := 3) (v := .ref (q 30)) hx hb hts in_X2_trace_X2 hown hK hH 29 (by decide) rfl rfl 0 (by decide) (hts (.fieldLink RX2 9 "StationLine$Ring" "row" "[I") (List.mem_of_getElem? (i := 1) rfl)) rfl dX2_trace_51 ?_
          refine lv_aload_n hx hb dX2_trace_54 rfl (lv_at hl 0 rfl) ?_
          refine b_get (ci := 2) (C := RX2) (T := TX2) (Nf := 3) (v := .int (z_36.1 7)) hx hb hts in_X2_trace_X2 hown hK hH 29 (by decide) rfl rfl 1 (by decide) (hts (.fieldLink RX2 15 "StationLine$Ring" "size" "I") (List.mem_of_getElem? (i := 2) rfl)) rfl dX2_trace_55 ?_
          have := k66a.1; have := k66a.2
          refine lv_iload hx hb dX2_trace_58 (lv_at hl 2 rfl) ?_
          refine b_iast hx hb hK hH 30 (by decide) rfl (iv_in k66a (by decide) (by decide)) (upA z_36 30 (upd (z_36.2.1 30) (z_36.1 7 : Int32).toNatClampNeg x5_36)) rfl (enC_A _ _ _ _ _) dX2_trace_60 (fun H locs hH => ?_)
          obtain ⟨z67, hz67⟩ : ∃ w : zS, w = upA z_36 30 (upd (z_36.2.1 30) (z_36.1 7 : Int32).toNatClampNeg x5_36) := ⟨_, rfl⟩
          rw [← hz67] at hH
          have hJ : jJ IvC 128 3221225472 0 z0 z67 := by rw [hz67]; exact jJ_A hJ (by decide) (IvC_A hJ.1 (by decide))
          have g68 : iv 0 9 (z67.1 7) := by rw [hz67]; exact k66a
          refine lv_aload_n hx hb dX2_trace_61 rfl (lv_at hl 0 rfl) ?_
          refine lv_dup hx hb dX2_trace_62 rfl ?_
          refine b_get (ci := 2) (C := RX2) (T := TX2) (Nf := 3) (v := .int (z67.1 7)) hx hb hts in_X2_trace_X2 hown hK hH 29 (by decide) rfl rfl 1 (by decide) (hts (.fieldLink RX2 15 "StationLine$Ring" "size" "I") (List.mem_of_getElem? (i := 2) rfl)) rfl dX2_trace_63 ?_
          have := g68.1; have := g68.2
          refine lv_iconst (v := 1) hx hb dX2_trace_66 (by decide) ?_
          refine lv_iadd hx hb dX2_trace_67 ?_
          have i69 : iv 1 10 ((z67.1 7) + 1) := (iv_add g68 (iv_lit (n := 1) 1 (by decide)) (by decide) (by decide) (by decide) (by decide))
          have e69 : ((z67.1 7) + 1).toInt = (z67.1 7).toInt + 1 := ((iv_addE g68 (iv_lit (n := 1) 1 (by decide)) (by decide) (by decide)).trans rfl)
          have := i69.1; have := i69.2
          refine b_put (ci := 2) (C := RX2) (T := TX2) (Nf := 3) (v := .int ((z67.1 7) + 1)) (ty := .int) hx hb hts in_X2_trace_X2 tyX2 tyX2_ok nmX2 hown hK hH 29 (by decide) rfl rfl 1 (by decide) (hts (.fieldLink RX2 15 "StationLine$Ring" "size" "I") (List.mem_of_getElem? (i := 2) rfl)) rfl (by decide +kernel) rfl rfl (Nat.le_of_ble_eq_true rfl) (upS z67 7 ((z67.1 7) + 1)) rfl (enC_S7 _ _ _ _) dX2_trace_68 (fun H locs hH => ?_)
          obtain ⟨z70, hz70⟩ : ∃ w : zS, w = upS z67 7 ((z67.1 7) + 1) := ⟨_, rfl⟩
          rw [← hz70] at hH
          have hJ : jJ IvC 128 3221225472 0 z0 z70 := by rw [hz70]; exact jJ_S hJ (by decide) (IvC_S7 hJ.1 (iv_w i69 (by decide) (by decide)))
          have g71 : iv 1 10 (z70.1 7) := by rw [hz70]; exact i69
          refine lv_aload_n hx hb dX2_trace_71 rfl (lv_at hl 1 rfl) ?_
          refine lv_iload hx hb dX2_trace_72 (lv_at hl 2 rfl) ?_
          refine lv_aload_n hx hb dX2_trace_74 rfl (lv_at hl 0 rfl) ?_
          refine b_get (ci := 2) (C := RX2) (T := TX2) (Nf := 3) (v := .ref (q 31)) hx hb hts in_X2_trace_X2 hown hK hH 29 (by decide) rfl rfl 2 (by decide) (hts (.fieldLink RX2 19 "StationLine$Ring" "layers" "[I") (List.mem_of_getElem? (i := 3) rfl)) rfl dX2_trace_75 ?_
          refine lv_iload hx hb dX2_trace_78 (lv_at hl 3 rfl) ?_
          refine b_iald (v := z70.2.1 31 (x6_36 : Int32).toNatClampNeg) hx hb hK hH 31 (by decide) rfl (iv_in k62b (by decide) (by decide)) rfl dX2_trace_80 ?_
          refine b_stati (As := [.ref (q 1), .int x5_36, .int (z70.2.1 31 (x6_36 : Int32).toNatClampNeg)]) (rest := []) ⟨hx, hb, hml, hown, hts⟩ (g_X2_leastStep l D cy q hH.2.1 z70 hJ.1 x5_36 h5_36 (z70.2.1 31 (x6_36 : Int32).toNatClampNeg)) (va_cwS 3 hts gX2_trace_X2_leastStep rfl rfl rfl (by decide +kernel) ⟨Nat.le_of_ble_eq_true rfl, Nat.le_of_ble_eq_true rfl⟩) hK hZ hH rfl hl.1 rfl (Nat.le_of_ble_eq_true rfl) ⟨Nat.zero_le _, Nat.zero_le _⟩ dX2_trace_81 (fun w72 z72 H locs hp hH => ?_)
          rw [Ag_0 hp.1.2] at hH
          have i72 := hp.2.1
          have := i72.1; have := i72.2
          have f72_0 := hp.2.2
          refine lv_istore (lv' := [(5, .int w72), (0, .ref (q 29)), (1, .ref (q 1)), (6, .int x6_36)]) hx hb dX2_trace_84 hl (by decide) rfl (fun ls hl => ?_)
          have j73 : iv (-1) 8 (x6_36 + (-1)) := iv_add k62b (iv_lit (n := (-1)) (-1) (by decide)) (by decide) (by decide) (by decide) (by decide)
          have e73 : (x6_36 + (-1)).toInt = x6_36.toInt + (-1) := (iv_addE k62b (iv_lit (n := (-1)) (-1) (by decide)) (by decide) (by decide)).trans rfl
          obtain ⟨y73, hy73⟩ : ∃ y : Int32, x6_36 + (-1) = y := ⟨_, rfl⟩
          rw [hy73] at j73 e73
          refine lv_iinc (v := y73) (lv' := [(6, .int y73), (5, .int w72), (0, .ref (q 29)), (1, .ref (q 1))]) hx hb dX2_trace_86 hl (k := 3) rfl hy73 (by decide) rfl (fun ls hl => ?_)
          refine lv_goto (tgt := 36) hx hb dX2_trace_89 (by decide) ?_
          exact ih36 _ (ms_down e73 j73.1 hn36) w72 y73 z70 H locs ls i72 (iv_w j73 (by decide) (by decide)) (by rw [show z70.2.1 31 = z_36.2.1 31 by rw [hz70, hz67]; rfl]; exact TrI_s ex_36 (iv_w k66a (by decide) (by decide)) (show z70.2.1 30 = upd (z_36.2.1 30) (z_36.1 7).toNatClampNeg x5_36 by rw [hz70]; show z67.2.1 30 = _; rw [hz67]; exact upA_e) (show (z70.1 7).toInt = (z_36.1 7).toInt + 1 by rw [show z70.1 7 = z_36.1 7 + 1 by rw [hz70, hz67]; rfl]; exact (iv_addE k66a (iv_lit (n := 1) 1 (by decide)) (by decide) (by decide)).trans rfl) (iv_w k62b (by decide) (by decide)) (show z70.2.1 31 _ = _ by rw [hz70, hz67]; rfl) (by have h9 := f72_0; rw [show z70.2.1 7 = z0.2.1 7 from hJ.2.2.1 7 (by decide), show z70.1 0 = z0.1 0 from hJ.2.1 0 (by decide)] at h9; exact h9) (by omega)) hJ hH (lv_sub hl [2, 3, 1, 0] rfl) rfl
  refine lv_aload_n hx hb dX2_trace_0 rfl (lv_at hl 0 rfl) ?_
  refine b_get (ci := 2) (C := RX2) (T := TX2) (Nf := 3) (v := .ref (q 30)) hx hb hts in_X2_trace_X2 hown hK hH 29 (by decide) rfl rfl 0 (by decide) (hts (.fieldLink RX2 9 "StationLine$Ring" "row" "[I") (List.mem_of_getElem? (i := 1) rfl)) rfl dX2_trace_1 ?_
  refine lv_iconst (v := 0) hx hb dX2_trace_4 (by decide) ?_
  refine lv_iload_n hx hb dX2_trace_5 rfl (lv_at hl 2 rfl) ?_
  refine b_iast hx hb hK hH 30 (by decide) rfl (by unfold vp_in; decide) (upA z0 30 (upd (z0.2.1 30) (0 : Int32).toNatClampNeg p1)) rfl (enC_A _ _ _ _ _) dX2_trace_6 (fun H locs hH => ?_)
  obtain ⟨z74, hz74⟩ : ∃ w : zS, w = upA z0 30 (upd (z0.2.1 30) (0 : Int32).toNatClampNeg p1) := ⟨_, rfl⟩
  rw [← hz74] at hH
  have hJ : jJ IvC 128 3221225472 0 z0 z74 := by rw [hz74]; exact jJ_A hJ (by decide) (IvC_A hJ.1 (by decide))
  refine lv_aload_n hx hb dX2_trace_7 rfl (lv_at hl 0 rfl) ?_
  refine lv_iconst (v := 1) hx hb dX2_trace_8 (by decide) ?_
  refine b_put (ci := 2) (C := RX2) (T := TX2) (Nf := 3) (v := .int 1) (ty := .int) hx hb hts in_X2_trace_X2 tyX2 tyX2_ok nmX2 hown hK hH 29 (by decide) rfl rfl 1 (by decide) (hts (.fieldLink RX2 15 "StationLine$Ring" "size" "I") (List.mem_of_getElem? (i := 2) rfl)) rfl (by decide +kernel) rfl rfl (Nat.le_of_ble_eq_true rfl) (upS z74 7 1) rfl (enC_S7 _ _ _ _) dX2_trace_9 (fun H locs hH => ?_)
  obtain ⟨z75, hz75⟩ : ∃ w : zS, w = upS z74 7 1 := ⟨_, rfl⟩
  rw [← hz75] at hH
  have hJ : jJ IvC 128 3221225472 0 z0 z75 := by rw [hz75]; exact jJ_S hJ (by decide) (IvC_S7 hJ.1 (iv_w (iv_lit (n := 1) 1 (by decide)) (by decide) (by decide)))
  have g76 : iv 1 1 (z75.1 7) := by rw [hz75]; exact (iv_lit (n := 1) 1 (by decide))
  refine lv_iload_n hx hb dX2_trace_12 rfl (lv_at hl 2 rfl) ?_
  refine lv_iload_n hx hb dX2_trace_13 rfl (lv_at hl 3 rfl) ?_
  refine lv_icmp_ne (tgt := 18) hx hb dX2_trace_14 (by decide) (fun c77 => ?_) (fun c77 => ?_)
  · skip
    have r77 := (iv_nEq c77)
    refine lv_aload_n hx hb dX2_trace_18 rfl (lv_at hl 0 rfl) ?_
    refine lv_aload_n hx hb dX2_trace_19 rfl (lv_at hl 1 rfl) ?_
    refine lv_iload_n hx hb dX2_trace_20 rfl (lv_at hl 2 rfl) ?_
    refine lv_iload_n hx hb dX2_trace_21 rfl (lv_at hl 3 rfl) ?_
    refine b_calli (As := [.ref (q 1), .int p1, .int p2]) (rest := []) ⟨hx, hb, hml, hown, hts⟩ 29 2 (g_X2_layersUpTo_29 l D cy q hH.2.1 z75 hJ.1 p1 hp1 p2 hp2) (cwV 3 hts gX2_trace_X2_layersUpTo rfl rfl rfl (by decide +kernel) ⟨Nat.le_of_ble_eq_true rfl, Nat.le_of_ble_eq_true rfl⟩) hK hZ hH (by decide) rfl rfl rfl hl.1 rfl (Nat.le_of_ble_eq_true rfl) ⟨Nat.zero_le _, Nat.zero_le _⟩ dX2_trace_22 (fun w79 z79 H locs hp hH => ?_)
    have hJ := jJ_tr hJ hp.1 (by decide) (by decide) (by decide)
    have i79 := hp.2.1
    have := i79.1; have := i79.2
    have f79_0 := hp.2.2
    have hA79 := hp.1.2
    have g80 : iv 1 1 (z79.1 7) := by rw [(hp.1).2.1 7 (by decide)]; exact g76
    refine lv_istore (lv' := [(4, .int w79), (0, .ref (q 29)), (1, .ref (q 1)), (2, .int p1), (3, .int p2)]) hx hb dX2_trace_25 hl (by decide) rfl (fun ls hl => ?_)
    refine lv_iload_n hx hb dX2_trace_27 rfl (lv_at hl 4 rfl) ?_
    refine lv_istore (lv' := [(5, .int p2), (4, .int w79), (0, .ref (q 29)), (1, .ref (q 1)), (2, .int p1), (3, .int p2)]) hx hb dX2_trace_28 hl (by decide) rfl (fun ls hl => ?_)
    refine lv_iload hx hb dX2_trace_30 (lv_at hl 1 rfl) ?_
    refine lv_iconst (v := 1) hx hb dX2_trace_32 (by decide) ?_
    refine lv_isub hx hb dX2_trace_33 ?_
    have i81 : iv (-1) 9 (w79 - 1) := (iv_sub i79 (iv_lit (n := 1) 1 (by decide)) (by decide) (by decide) (by decide) (by decide))
    have e81 : (w79 - 1).toInt = w79.toInt - 1 := ((iv_subE i79 (iv_lit (n := 1) 1 (by decide)) (by decide) (by decide)).trans rfl)
    have := i81.1; have := i81.2
    refine lv_istore (lv' := [(6, .int (w79 - 1)), (5, .int p2), (4, .int w79), (0, .ref (q 29)), (1, .ref (q 1)), (2, .int p1), (3, .int p2)]) hx hb dX2_trace_34 hl (by decide) rfl (fun ls hl => ?_)
    exact HL36 _ p2 (w79 - 1) z79 H locs ls hp2 i81 (TrI_0 (by rw [((hA79.2.1 30 (by decide))), show z75.2.1 30 = z74.2.1 30 by rw [hz75]; rfl, hz74, upA_e, show (0 : Int32).toNatClampNeg = 0 by decide]; exact pk_us) (by rw [((hA79.1 7 (by decide))), hz75]; show (1 : Int32).toInt = 1; decide) (by have h9 := f79_0; rw [show z75.2.1 7 = z0.2.1 7 by rw [hz75, hz74]; rfl, show z75.1 0 = z0.1 0 by rw [hz75, hz74]; rfl] at h9; exact h9) (e81)) hJ hH (lv_sub hl [3, 4, 1, 0] rfl) rfl
  · skip
    have r77 := (iv_Eq c77)
    exact hret z75 H locs _ _ ⟨hJ, (RgA_eq c77 (by rw [hz75]; show z74.2.1 30 0 = _; rw [hz74, upA_e, show (0 : Int32).toNatClampNeg = 0 by decide]; exact pk_us) (by rw [hz75]; show (1 : Int32).toInt = 1; decide))⟩ hH dX2_trace_17
set_option maxHeartbeats 4000000 in
set_option maxRecDepth 100000 in
theorem g_X3_meet (l : Launch) (D : va_G) (cy : Nat → ClassId) (q : Nat → Nat) (hq : bJ 66 q) (z0 : zS) (hI : IvC z0) (p0 : Int32) (p1 : Int32) : bCi l yX3_meet wsX3_meet ({ frames := 0, cells := 0, slots := 0, locals := 0 }) D cy 66 (enC cy) q z0 [.int p0, .int p1] (fun v z => jJ IvC 0 0 0 z0 z ∧ iv (-2147483648) 2147483647 v) := by
  refine hM_i cX3_meet (by decide) rfl (own := RX3) rfl hq (Nat.le_of_ble_eq_true rfl) ?_
  intro p e s m args below meth c Q ls H locs hx hb hml hown hts hK hZ hH hl hret
  have hl : lv_has ls 2 [(0, .int p0), (1, .int p1)] := hl
  have hJ : jJ IvC 0 0 0 z0 z0 := jJ_rf _ _ _ hI
  have HJ9 : ∀ (H : Heap) (locs : List Loc) (ls : Array Slot), bH D 66 (enC cy) q z0 s.heap H locs → lv_has ls 2 [(0, .int p0)] → W p l e ({ frames := 0, cells := 0, slots := 0, locals := 0 }) s m args below meth c H locs 0 0 Q (F0 m 9 ls []) := by
    intro H locs ls hH hl
    refine lv_iload_n hx hb dX3_meet_9 rfl (lv_at hl 0 rfl) ?_
    exact hret _ z0 H locs _ _ ⟨hJ, (iv_all p0)⟩ hH dX3_meet_10
  refine lv_iload_n hx hb dX3_meet_0 rfl (lv_at hl 1 rfl) ?_
  refine lv_if_eq (tgt := 9) hx hb dX3_meet_1 (by decide) (fun c10 => ?_) (fun c10 => ?_)
  · skip
    have k11a : iv 0 0 p1 := iv_eql (iv_Eq c10) (iv_all p1) (iv_lit (n := 0) 0 (by decide)) (by decide) (by decide)
    exact HJ9   H locs ls   hH (lv_sub hl [0] rfl)
  · skip
    refine lv_iload_n hx hb dX3_meet_4 rfl (lv_at hl 0 rfl) ?_
    refine lv_iload_n hx hb dX3_meet_5 rfl (lv_at hl 1 rfl) ?_
    refine lv_icmp_ne (tgt := 11) hx hb dX3_meet_6 (by decide) (fun c13 => ?_) (fun c13 => ?_)
    · skip
      refine lv_iload_n hx hb dX3_meet_11 rfl (lv_at hl 0 rfl) ?_
      refine lv_if_ne (tgt := 19) hx hb dX3_meet_12 (by decide) (fun c15 => ?_) (fun c15 => ?_)
      · skip
        refine lv_iconst (v := (-1)) hx hb dX3_meet_19 (by decide) ?_
        exact hret _ z0 H locs _ _ ⟨hJ, (iv_w (iv_lit (n := (-1)) (-1) (by decide)) (by decide) (by decide))⟩ hH dX3_meet_20
      · skip
        have k17a : iv 0 0 p0 := iv_eql (iv_Eq c15) (iv_all p0) (iv_lit (n := 0) 0 (by decide)) (by decide) (by decide)
        refine lv_iload_n hx hb dX3_meet_15 rfl (lv_at hl 1 rfl) ?_
        refine lv_goto (tgt := 20) hx hb dX3_meet_16 (by decide) ?_
        exact hret _ z0 H locs _ _ ⟨hJ, (iv_all p1)⟩ hH dX3_meet_20
    · skip
      exact HJ9   H locs ls   hH (lv_sub hl [0] rfl)
set_option maxHeartbeats 4000000 in
set_option maxRecDepth 100000 in
theorem g_X3_isFine_32 (l : Launch) (D : va_G) (cy : Nat → ClassId) (q : Nat → Nat) (hq : bJ 66 q) (z0 : zS) (hI : IvC z0) (p0 : Int32) : bCi l yX3_isFine wsX3_isFine ({ frames := 1, cells := 0, slots := 0, locals := 22 }) D cy 66 (enC cy) q z0 [.ref (q 32), .int p0] (fun v z => jJ IvC 0 0 0 z0 z ∧ iv 0 1 v) := by
  refine hM_z cX3_isFine (by decide) rfl (own := RX3) rfl hq (Nat.le_of_ble_eq_true rfl) ?_
  intro p e s m args below meth c Q ls H locs hx hb hml hown hts hK hZ hH hl hret
  have hl : lv_has ls 3 [(0, .ref (q 32)), (1, .int p0)] := hl
  have hJ : jJ IvC 0 0 0 z0 z0 := jJ_rf _ _ _ hI
  have HL2 : ∀ (n : Nat) (x2_2 : Int32) (H : Heap) (locs : List Loc) (ls : Array Slot), iv 0 10 x2_2 → bH D 66 (enC cy) q z0 s.heap H locs → lv_has ls 3 [(0, .ref (q 32)), (1, .int p0), (2, .int x2_2)] → (10 - x2_2.toInt).toNat = n → W p l e ({ frames := 1, cells := 0, slots := 0, locals := 22 }) s m args below meth c H locs 0 0 Q (F0 m 2 ls []) := by
    intro n2
    induction n2 using Nat.strongRecOn with
    | ind n2 ih2 =>
      intro x2_2 H locs ls h2_2 hH hl hn2
      have HJ35 : ∀ (H : Heap) (locs : List Loc) (ls : Array Slot), iv 0 9 x2_2 → iv 1 10 (z0.1 0) → bH D 66 (enC cy) q z0 s.heap H locs → lv_has ls 3 [(0, .ref (q 32)), (1, .int p0), (2, .int x2_2)] → W p l e ({ frames := 1, cells := 0, slots := 0, locals := 22 }) s m args below meth c H locs 0 0 Q (F0 m 35 ls []) := by
        intro H locs ls h2_35 gh0_35 hH hl
        have j98 : iv 1 10 (x2_2 + 1) := iv_add h2_35 (iv_lit (n := 1) 1 (by decide)) (by decide) (by decide) (by decide) (by decide)
        have e98 : (x2_2 + 1).toInt = x2_2.toInt + 1 := (iv_addE h2_35 (iv_lit (n := 1) 1 (by decide)) (by decide) (by decide)).trans rfl
        refine lv_iinc (v := (x2_2 + 1)) (lv' := [(2, .int (x2_2 + 1)), (0, .ref (q 32)), (1, .int p0)]) hx hb dX3_isFine_35 hl (k := 2) rfl rfl (by decide) rfl (fun ls hl => ?_)
        refine lv_goto (tgt := 2) hx hb dX3_isFine_38 (by decide) ?_
        exact ih2 _ (ms_up e98 j98.2 hn2) (x2_2 + 1)  H locs ls (iv_w j98 (by decide) (by decide))  hH (lv_sub hl [1, 2, 0] rfl) rfl
      refine lv_iload_n hx hb dX3_isFine_2 rfl (lv_at hl 2 rfl) ?_
      refine lv_aload_n hx hb dX3_isFine_3 rfl (lv_at hl 0 rfl) ?_
      refine b_get (ci := 3) (C := RX3) (T := TX3) (Nf := 11) (v := .ref (q 1)) hx hb hts in_X3_isFine_X3 hown hK hH 32 (by decide) rfl rfl 0 (by decide) (hts (.fieldLink RX3 46 "StationLine$Search" "bench" "LStationLine$Bench;") (List.mem_of_getElem? (i := 1) rfl)) rfl dX3_isFine_4 ?_
      refine b_get (ci := 0) (C := RX0) (T := TX0) (Nf := 11) (v := .int (z0.1 0)) hx hb hts in_X3_isFine_X0 hown hK hH 1 (by decide) rfl rfl 0 (by decide) (hts (.fieldLink RX3 86 "StationLine$Bench" "size" "I") (List.mem_of_getElem? (i := 2) rfl)) rfl dX3_isFine_7 ?_
      have i99 := IvC_s0 hJ.1
      refine lv_icmp_ge (tgt := 41) hx hb dX3_isFine_10 (by decide) (fun c100 => ?_) (fun c100 => ?_)
      · skip
        refine lv_iconst (v := 1) hx hb dX3_isFine_41 (by decide) ?_
        exact hret _ z0 H locs _ _ (iv_w (iv_lit (n := 1) 1 (by decide)) (by decide) (by decide)) ⟨hJ, (iv_w (iv_lit (n := 1) 1 (by decide)) (by decide) (by decide))⟩ hH dX3_isFine_42
      · skip
        have k102a : iv 0 9 x2_2 := iv_ltl (iv_nLe c100) h2_2 i99 (by decide)
        have k102b : iv 1 10 (z0.1 0) := iv_ltr (iv_nLe c100) h2_2 i99 (by decide)
        refine lv_iload_n hx hb dX3_isFine_13 rfl (lv_at hl 1 rfl) ?_
        refine lv_iconst (v := 1) hx hb dX3_isFine_14 (by decide) ?_
        refine lv_iload_n hx hb dX3_isFine_15 rfl (lv_at hl 2 rfl) ?_
        refine lv_ishl hx hb dX3_isFine_16 ?_
        refine h_i (a := 1) (b := 512) (iv_bit k102a (by decide) (by decide)) (fun w103 i103 => ?_)
        refine lv_iand hx hb dX3_isFine_17 ?_
        refine h_i (a := 0) (b := 512) (iv_and2 (iv_all p0) i103 (by decide) (by decide)) (fun w104 i104 => ?_)
        refine lv_if_eq (tgt := 35) hx hb dX3_isFine_18 (by decide) (fun c105 => ?_) (fun c105 => ?_)
        · skip
          have k106a : iv 0 0 w104 := iv_eql (iv_Eq c105) i104 (iv_lit (n := 0) 0 (by decide)) (by decide) (by decide)
          exact HJ35   H locs ls k102a k102b  hH (lv_sub hl [0, 1, 2] rfl)
        · skip
          have k107a : iv 1 512 w104 := iv_neLo (iv_nEq c105) i104 (by decide) (by decide)
          refine lv_aload_n hx hb dX3_isFine_21 rfl (lv_at hl 0 rfl) ?_
          refine b_get (ci := 3) (C := RX3) (T := TX3) (Nf := 11) (v := .ref (q 1)) hx hb hts in_X3_isFine_X3 hown hK hH 32 (by decide) rfl rfl 0 (by decide) (hts (.fieldLink RX3 46 "StationLine$Search" "bench" "LStationLine$Bench;") (List.mem_of_getElem? (i := 1) rfl)) rfl dX3_isFine_22 ?_
          refine lv_iload_n hx hb dX3_isFine_25 rfl (lv_at hl 2 rfl) ?_
          refine lv_iload_n hx hb dX3_isFine_26 rfl (lv_at hl 1 rfl) ?_
          refine b_calli (As := [.int x2_2, .int p0]) (rest := []) ⟨hx, hb, hml, hown, hts⟩ 1 0 (g_X0_isOpen_1 l D cy q hH.2.1 z0 hJ.1 x2_2 k102a p0) (cwV 2 hts gX3_isFine_X0_isOpen rfl rfl rfl (by decide +kernel) ⟨Nat.le_of_ble_eq_true rfl, Nat.le_of_ble_eq_true rfl⟩) hK hZ hH (by decide) rfl rfl rfl hl.1 rfl (Nat.le_of_ble_eq_true rfl) ⟨Nat.zero_le _, Nat.zero_le _⟩ dX3_isFine_27 (fun w108 z108 H locs hp hH => ?_)
          rw [Ag_0 hp.1.2] at hH
          have i108 := hp.2
          refine lv_if_ne (tgt := 35) hx hb dX3_isFine_30 (by decide) (fun c109 => ?_) (fun c109 => ?_)
          · skip
            have k110a : iv 1 1 w108 := iv_neLo (iv_nEq c109) i108 (by decide) (by decide)
            exact HJ35   H locs ls k102a k102b  hH (lv_sub hl [0, 1, 2] rfl)
          · skip
            have k111a : iv 0 0 w108 := iv_eql (iv_Eq c109) i108 (iv_lit (n := 0) 0 (by decide)) (by decide) (by decide)
            refine lv_iconst (v := 0) hx hb dX3_isFine_33 (by decide) ?_
            exact hret _ z0 H locs _ _ (iv_w (iv_lit (n := 0) 0 (by decide)) (by decide) (by decide)) ⟨hJ, (iv_w (iv_lit (n := 0) 0 (by decide)) (by decide) (by decide))⟩ hH dX3_isFine_34
  refine lv_iconst (v := 0) hx hb dX3_isFine_0 (by decide) ?_
  refine lv_istore_n (lv' := [(2, .int 0), (0, .ref (q 32)), (1, .int p0)]) hx hb dX3_isFine_1 rfl hl (by decide) rfl (fun ls hl => ?_)
  exact HL2 _ 0  H locs ls (iv_w (iv_lit (n := 0) 0 (by decide)) (by decide) (by decide))  hH (lv_sub hl [1, 2, 0] rfl) rfl
set_option maxHeartbeats 4000000 in
set_option maxRecDepth 100000 in
theorem g_X3_joinLoads_32 (l : Launch) (D : va_G) (cy : Nat → ClassId) (q : Nat → Nat) (hq : bJ 66 q) (z0 : zS) (hI : IvC z0) (p0 : Int32) (hp0 : iv 0 2 p0) (p1 : Int32) : bCv l yX3_joinLoads wsX3_joinLoads ({ frames := 2, cells := 0, slots := 0, locals := 50 }) D cy 66 (enC cy) q z0 [.ref (q 32), .int p0, .int p1] (fun z => jJ IvC 0 558345748480 0 z0 z) := by
  refine hM_v cX3_joinLoads (by decide) rfl (own := RX3) rfl hq (Nat.le_of_ble_eq_true rfl) ?_
  intro p e s m args below meth c Q ls H locs hx hb hml hown hts hK hZ hH hl hret
  have hl : lv_has ls 7 [(0, .ref (q 32)), (1, .int p0), (2, .int p1)] := hl
  have hJ : jJ IvC 0 558345748480 0 z0 z0 := jJ_rf _ _ _ hI
  have HL9 : ∀ (n : Nat) (x3_9 : Int32) (z_9 : zS) (H : Heap) (locs : List Loc) (ls : Array Slot), iv 0 10 x3_9 → jJ IvC 0 558345748480 0 z0 z_9 → bH D 66 (enC cy) q z_9 s.heap H locs → lv_has ls 7 [(0, .ref (q 32)), (1, .int p0), (2, .int p1), (3, .int x3_9)] → (10 - x3_9.toInt).toNat = n → W p l e ({ frames := 2, cells := 0, slots := 0, locals := 50 }) s m args below meth c H locs 0 0 Q (F0 m 9 ls []) := by
    intro n9
    induction n9 using Nat.strongRecOn with
    | ind n9 ih9 =>
      intro x3_9 z_9 H locs ls h3_9 hJ hH hl hn9
      have HL43 : ∀ (n : Nat) (x4_43 : Int32) (x5_43 : Int32) (x6_43 : Int32) (z_43 : zS) (H : Heap) (locs : List Loc) (ls : Array Slot), iv 0 9 x3_9 → iv 1 512 x4_43 → iv 0 512 x6_43 → iv 1 10 (z_43.1 0) → jJ IvC 0 558345748480 0 z0 z_43 → bH D 66 (enC cy) q z_43 s.heap H locs → lv_has ls 7 [(0, .ref (q 32)), (1, .int p0), (2, .int p1), (3, .int x3_9), (4, .int x4_43), (5, .int x5_43), (6, .int x6_43)] → (512 - x6_43.toInt).toNat = n → W p l e ({ frames := 2, cells := 0, slots := 0, locals := 50 }) s m args below meth c H locs 0 0 Q (F0 m 43 ls []) := by
        intro n43
        induction n43 using Nat.strongRecOn with
        | ind n43 ih43 =>
          intro x4_43 x5_43 x6_43 z_43 H locs ls h3_43 h4_43 h6_43 gh0_43 hJ hH hl hn43
          refine lv_iload hx hb dX3_joinLoads_43 (lv_at hl 6 rfl) ?_
          refine lv_iload hx hb dX3_joinLoads_45 (lv_at hl 4 rfl) ?_
          refine lv_icmp_ge (tgt := 76) hx hb dX3_joinLoads_47 (by decide) (fun c481 => ?_) (fun c481 => ?_)
          · skip
            have k482b : iv 1 512 x6_43 := iv_ler (iv_Le c481) h4_43 h6_43
            have j483 : iv 1 10 (x3_9 + 1) := iv_add h3_43 (iv_lit (n := 1) 1 (by decide)) (by decide) (by decide) (by decide) (by decide)
            have e483 : (x3_9 + 1).toInt = x3_9.toInt + 1 := (iv_addE h3_43 (iv_lit (n := 1) 1 (by decide)) (by decide) (by decide)).trans rfl
            refine lv_iinc (v := (x3_9 + 1)) (lv' := [(3, .int (x3_9 + 1)), (0, .ref (q 32)), (1, .int p0), (2, .int p1), (4, .int x4_43), (5, .int x5_43), (6, .int x6_43)]) hx hb dX3_joinLoads_76 hl (k := 3) rfl rfl (by decide) rfl (fun ls hl => ?_)
            refine lv_goto (tgt := 9) hx hb dX3_joinLoads_79 (by decide) ?_
            exact ih9 _ (ms_up e483 j483.2 hn9) (x3_9 + 1) z_43 H locs ls (iv_w j483 (by decide) (by decide)) hJ hH (lv_sub hl [1, 2, 3, 0] rfl) rfl
          · skip
            have k484a : iv 0 511 x6_43 := iv_ltl (iv_nLe c481) h6_43 h4_43 (by decide)
            refine lv_aload_n hx hb dX3_joinLoads_50 rfl (lv_at hl 0 rfl) ?_
            refine b_get (ci := 3) (C := RX3) (T := TX3) (Nf := 11) (v := .ref (q 39)) hx hb hts in_X3_joinLoads_X3 hown hK hH 32 (by decide) rfl rfl 8 (by decide) (hts (.fieldLink RX3 35 "StationLine$Search" "scratch" "[I") (List.mem_of_getElem? (i := 1) rfl)) rfl dX3_joinLoads_51 ?_
            refine lv_iload hx hb dX3_joinLoads_54 (lv_at hl 4 rfl) ?_
            refine lv_iload hx hb dX3_joinLoads_56 (lv_at hl 6 rfl) ?_
            refine lv_ior hx hb dX3_joinLoads_58 ?_
            refine h_i (a := 0) (b := 1023) (iv_or 10 (b := 512) (d := 511) (iv_w h4_43 (by decide) (by decide)) (iv_w k484a (by decide) (by decide)) (by decide) (by decide) (by decide) (by decide)) (fun w485 i485 => ?_)
            refine lv_aload_n hx hb dX3_joinLoads_59 rfl (lv_at hl 0 rfl) ?_
            refine b_get (ci := 3) (C := RX3) (T := TX3) (Nf := 11) (v := .ref (q 39)) hx hb hts in_X3_joinLoads_X3 hown hK hH 32 (by decide) rfl rfl 8 (by decide) (hts (.fieldLink RX3 35 "StationLine$Search" "scratch" "[I") (List.mem_of_getElem? (i := 1) rfl)) rfl dX3_joinLoads_60 ?_
            refine lv_iload hx hb dX3_joinLoads_63 (lv_at hl 6 rfl) ?_
            refine b_iald (v := z_43.2.1 39 (x6_43 : Int32).toNatClampNeg) hx hb hK hH 39 (by decide) rfl (iv_in k484a (by decide) (by decide)) rfl dX3_joinLoads_65 ?_
            refine lv_iload hx hb dX3_joinLoads_66 (lv_at hl 5 rfl) ?_
            refine lv_iadd hx hb dX3_joinLoads_68 ?_
            refine lv_topi (fun w486 _ => ?_)
            refine b_iast hx hb hK hH 39 (by decide) rfl (iv_in i485 (by decide) (by decide)) (upA z_43 39 (upd (z_43.2.1 39) (w485 : Int32).toNatClampNeg w486)) rfl (enC_A _ _ _ _ _) dX3_joinLoads_69 (fun H locs hH => ?_)
            obtain ⟨z487, hz487⟩ : ∃ w : zS, w = upA z_43 39 (upd (z_43.2.1 39) (w485 : Int32).toNatClampNeg w486) := ⟨_, rfl⟩
            rw [← hz487] at hH
            have hJ : jJ IvC 0 558345748480 0 z0 z487 := by rw [hz487]; exact jJ_A hJ (by decide) (IvC_A hJ.1 (by decide))
            have g488 : iv 1 10 (z487.1 0) := by rw [hz487]; exact gh0_43
            have j489 : iv 1 512 (x6_43 + 1) := iv_add k484a (iv_lit (n := 1) 1 (by decide)) (by decide) (by decide) (by decide) (by decide)
            have e489 : (x6_43 + 1).toInt = x6_43.toInt + 1 := (iv_addE k484a (iv_lit (n := 1) 1 (by decide)) (by decide) (by decide)).trans rfl
            refine lv_iinc (v := (x6_43 + 1)) (lv' := [(6, .int (x6_43 + 1)), (0, .ref (q 32)), (1, .int p0), (2, .int p1), (3, .int x3_9), (4, .int x4_43), (5, .int x5_43)]) hx hb dX3_joinLoads_70 hl (k := 6) rfl rfl (by decide) rfl (fun ls hl => ?_)
            refine lv_goto (tgt := 43) hx hb dX3_joinLoads_73 (by decide) ?_
            exact ih43 _ (ms_up e489 j489.2 hn43) x4_43 x5_43 (x6_43 + 1) z487 H locs ls h3_43 h4_43 (iv_w j489 (by decide) (by decide)) g488 hJ hH (lv_sub hl [1, 2, 3, 4, 5, 6, 0] rfl) rfl
      have HL84 : ∀ (n : Nat) (x3_84 : Int32) (z_84 : zS) (H : Heap) (locs : List Loc) (ls : Array Slot), iv 1 1024 x3_84 → jJ IvC 0 558345748480 0 z0 z_84 → bH D 66 (enC cy) q z_84 s.heap H locs → lv_has ls 7 [(0, .ref (q 32)), (3, .int x3_84)] → (1024 - x3_84.toInt).toNat = n → W p l e ({ frames := 2, cells := 0, slots := 0, locals := 50 }) s m args below meth c H locs 0 0 Q (F0 m 84 ls []) := by
        intro n84
        induction n84 using Nat.strongRecOn with
        | ind n84 ih84 =>
          intro x3_84 z_84 H locs ls h3_84 hJ hH hl hn84
          refine lv_iload_n hx hb dX3_joinLoads_84 rfl (lv_at hl 1 rfl) ?_
          refine lv_aload_n hx hb dX3_joinLoads_85 rfl (lv_at hl 0 rfl) ?_
          refine b_get (ci := 3) (C := RX3) (T := TX3) (Nf := 11) (v := .int (z_84.1 8)) hx hb hts in_X3_joinLoads_X3 hown hK hH 32 (by decide) rfl rfl 1 (by decide) (hts (.fieldLink RX3 9 "StationLine$Search" "all" "I") (List.mem_of_getElem? (i := 5) rfl)) rfl dX3_joinLoads_86 ?_
          have i490 := IvC_s8 hJ.1
          refine lv_icmp_gt (tgt := 123) hx hb dX3_joinLoads_89 (by decide) (fun c491 => ?_) (fun c491 => ?_)
          · skip
            exact hret z_84 H locs _ _ hJ hH dX3_joinLoads_123
          · skip
            have k493a : iv 1 1023 x3_84 := iv_lel (iv_nLt c491) h3_84 i490
            have k493b : iv 1 1023 (z_84.1 8) := iv_ler (iv_nLt c491) h3_84 i490
            refine lv_aload_n hx hb dX3_joinLoads_92 rfl (lv_at hl 0 rfl) ?_
            refine b_get (ci := 3) (C := RX3) (T := TX3) (Nf := 11) (v := .ref (q 33)) hx hb hts in_X3_joinLoads_X3 hown hK hH 32 (by decide) rfl rfl 2 (by decide) (hts (.fieldLink RX3 15 "StationLine$Search" "loads" "[I") (List.mem_of_getElem? (i := 6) rfl)) rfl dX3_joinLoads_93 ?_
            refine lv_iload_n hx hb dX3_joinLoads_96 rfl (lv_at hl 1 rfl) ?_
            refine lv_aload_n hx hb dX3_joinLoads_97 rfl (lv_at hl 0 rfl) ?_
            refine b_get (ci := 3) (C := RX3) (T := TX3) (Nf := 11) (v := .ref (q 1)) hx hb hts in_X3_joinLoads_X3 hown hK hH 32 (by decide) rfl rfl 0 (by decide) (hts (.fieldLink RX3 46 "StationLine$Search" "bench" "LStationLine$Bench;") (List.mem_of_getElem? (i := 2) rfl)) rfl dX3_joinLoads_98 ?_
            refine lv_aload_n hx hb dX3_joinLoads_101 rfl (lv_at hl 0 rfl) ?_
            refine b_get (ci := 3) (C := RX3) (T := TX3) (Nf := 11) (v := .ref (q 33)) hx hb hts in_X3_joinLoads_X3 hown hK hH 32 (by decide) rfl rfl 2 (by decide) (hts (.fieldLink RX3 15 "StationLine$Search" "loads" "[I") (List.mem_of_getElem? (i := 6) rfl)) rfl dX3_joinLoads_102 ?_
            refine lv_iload_n hx hb dX3_joinLoads_105 rfl (lv_at hl 1 rfl) ?_
            refine b_iald (v := z_84.2.1 33 (x3_84 : Int32).toNatClampNeg) hx hb hK hH 33 (by decide) rfl (iv_in k493a (by decide) (by decide)) rfl dX3_joinLoads_106 ?_
            refine lv_aload_n hx hb dX3_joinLoads_107 rfl (lv_at hl 0 rfl) ?_
            refine b_get (ci := 3) (C := RX3) (T := TX3) (Nf := 11) (v := .ref (q 39)) hx hb hts in_X3_joinLoads_X3 hown hK hH 32 (by decide) rfl rfl 8 (by decide) (hts (.fieldLink RX3 35 "StationLine$Search" "scratch" "[I") (List.mem_of_getElem? (i := 1) rfl)) rfl dX3_joinLoads_108 ?_
            refine lv_iload_n hx hb dX3_joinLoads_111 rfl (lv_at hl 1 rfl) ?_
            refine b_iald (v := z_84.2.1 39 (x3_84 : Int32).toNatClampNeg) hx hb hK hH 39 (by decide) rfl (iv_in k493a (by decide) (by decide)) rfl dX3_joinLoads_112 ?_
            refine b_calli (As := [.int (z_84.2.1 33 (x3_84 : Int32).toNatClampNeg), .int (z_84.2.1 39 (x3_84 : Int32).toNatClampNeg)]) (rest := [.int x3_84, .ref (q 33)]) ⟨hx, hb, hml, hown, hts⟩ 1 0 (g_X0_joined_1 l D cy q hH.2.1 z_84 hJ.1 (z_84.2.1 33 (x3_84 : Int32).toNatClampNeg) (z_84.2.1 39 (x3_84 : Int32).toNatClampNeg)) (cwV 2 hts gX3_joinLoads_X0_joined rfl rfl rfl (by decide +kernel) ⟨Nat.le_of_ble_eq_true rfl, Nat.le_of_ble_eq_true rfl⟩) hK hZ hH (by decide) rfl rfl rfl hl.1 rfl (Nat.le_of_ble_eq_true rfl) ⟨Nat.zero_le _, Nat.zero_le _⟩ dX3_joinLoads_113 (fun w494 z494 H locs hp hH => ?_)
            rw [Ag_0 hp.1.2] at hH
            refine b_iast hx hb hK hH 33 (by decide) rfl (iv_in k493a (by decide) (by decide)) (upA z_84 33 (upd (z_84.2.1 33) (x3_84 : Int32).toNatClampNeg w494)) rfl (enC_A _ _ _ _ _) dX3_joinLoads_116 (fun H locs hH => ?_)
            obtain ⟨z495, hz495⟩ : ∃ w : zS, w = upA z_84 33 (upd (z_84.2.1 33) (x3_84 : Int32).toNatClampNeg w494) := ⟨_, rfl⟩
            rw [← hz495] at hH
            have hJ : jJ IvC 0 558345748480 0 z0 z495 := by rw [hz495]; exact jJ_A hJ (by decide) (IvC_A hJ.1 (by decide))
            have g496 : iv 1 1023 (z495.1 8) := by rw [hz495]; exact k493b
            have j497 : iv 2 1024 (x3_84 + 1) := iv_add k493a (iv_lit (n := 1) 1 (by decide)) (by decide) (by decide) (by decide) (by decide)
            have e497 : (x3_84 + 1).toInt = x3_84.toInt + 1 := (iv_addE k493a (iv_lit (n := 1) 1 (by decide)) (by decide) (by decide)).trans rfl
            refine lv_iinc (v := (x3_84 + 1)) (lv' := [(3, .int (x3_84 + 1)), (0, .ref (q 32))]) hx hb dX3_joinLoads_117 hl (k := 1) rfl rfl (by decide) rfl (fun ls hl => ?_)
            refine lv_goto (tgt := 84) hx hb dX3_joinLoads_120 (by decide) ?_
            exact ih84 _ (ms_up e497 j497.2 hn84) (x3_84 + 1) z495 H locs ls (iv_w j497 (by decide) (by decide)) hJ hH (lv_sub hl [1, 0] rfl) rfl
      refine lv_iload_n hx hb dX3_joinLoads_9 rfl (lv_at hl 3 rfl) ?_
      refine lv_aload_n hx hb dX3_joinLoads_10 rfl (lv_at hl 0 rfl) ?_
      refine b_get (ci := 3) (C := RX3) (T := TX3) (Nf := 11) (v := .ref (q 1)) hx hb hts in_X3_joinLoads_X3 hown hK hH 32 (by decide) rfl rfl 0 (by decide) (hts (.fieldLink RX3 46 "StationLine$Search" "bench" "LStationLine$Bench;") (List.mem_of_getElem? (i := 2) rfl)) rfl dX3_joinLoads_11 ?_
      refine b_get (ci := 0) (C := RX0) (T := TX0) (Nf := 11) (v := .int (z_9.1 0)) hx hb hts in_X3_joinLoads_X0 hown hK hH 1 (by decide) rfl rfl 0 (by decide) (hts (.fieldLink RX3 86 "StationLine$Bench" "size" "I") (List.mem_of_getElem? (i := 3) rfl)) rfl dX3_joinLoads_14 ?_
      have i498 := IvC_s0 hJ.1
      refine lv_icmp_ge (tgt := 82) hx hb dX3_joinLoads_17 (by decide) (fun c499 => ?_) (fun c499 => ?_)
      · skip
        refine lv_iconst (v := 1) hx hb dX3_joinLoads_82 (by decide) ?_
        refine lv_istore_n (lv' := [(3, .int 1), (0, .ref (q 32)), (1, .int p0), (2, .int p1)]) hx hb dX3_joinLoads_83 rfl hl (by decide) rfl (fun ls hl => ?_)
        exact HL84 _ 1 z_9 H locs ls (iv_w (iv_lit (n := 1) 1 (by decide)) (by decide) (by decide)) hJ hH (lv_sub hl [1, 0] rfl) rfl
      · skip
        have k501a : iv 0 9 x3_9 := iv_ltl (iv_nLe c499) h3_9 i498 (by decide)
        have k501b : iv 1 10 (z_9.1 0) := iv_ltr (iv_nLe c499) h3_9 i498 (by decide)
        refine lv_iconst (v := 1) hx hb dX3_joinLoads_20 (by decide) ?_
        refine lv_iload_n hx hb dX3_joinLoads_21 rfl (lv_at hl 3 rfl) ?_
        refine lv_ishl hx hb dX3_joinLoads_22 ?_
        refine h_i (a := 1) (b := 512) (iv_bit k501a (by decide) (by decide)) (fun w502 i502 => ?_)
        refine lv_istore (lv' := [(4, .int w502), (0, .ref (q 32)), (1, .int p0), (2, .int p1), (3, .int x3_9)]) hx hb dX3_joinLoads_23 hl (by decide) rfl (fun ls hl => ?_)
        refine lv_iload_n hx hb dX3_joinLoads_25 rfl (lv_at hl 3 rfl) ?_
        refine lv_aload_n hx hb dX3_joinLoads_26 rfl (lv_at hl 1 rfl) ?_
        refine b_get (ci := 3) (C := RX3) (T := TX3) (Nf := 11) (v := .ref (q 1)) hx hb hts in_X3_joinLoads_X3 hown hK hH 32 (by decide) rfl rfl 0 (by decide) (hts (.fieldLink RX3 46 "StationLine$Search" "bench" "LStationLine$Bench;") (List.mem_of_getElem? (i := 2) rfl)) rfl dX3_joinLoads_27 ?_
        refine b_get (ci := 0) (C := RX0) (T := TX0) (Nf := 11) (v := .ref (q 3)) hx hb hts in_X3_joinLoads_X0 hown hK hH 1 (by decide) rfl rfl 4 (by decide) (hts (.fieldLink RX3 114 "StationLine$Bench" "times" "[[I") (List.mem_of_getElem? (i := 4) rfl)) rfl dX3_joinLoads_30 ?_
        refine lv_iload_n hx hb dX3_joinLoads_33 rfl (lv_at hl 2 rfl) ?_
        refine h_aaldE (n := 3) hx hb hK hH 3 3 4 (by decide) rfl rfl (iv_in hp0 (by decide) (by decide)) dX3_joinLoads_34 (fun k503 hk503 ek503 => ?_)
        refine lv_iload_n hx hb dX3_joinLoads_35 rfl (lv_at hl 4 rfl) ?_
        refine b_iald (v := z_9.2.1 k503 (x3_9 : Int32).toNatClampNeg) hx hb hK hH k503 (Nat.lt_of_lt_of_le hk503.2 (by decide)) (enC_g4 cy q _ k503 hk503) (iv_in k501a (by decide) (by decide)) rfl dX3_joinLoads_36 ?_
        refine lv_imul hx hb dX3_joinLoads_37 ?_
        refine lv_topi (fun w504 _ => ?_)
        refine lv_istore (lv' := [(5, .int w504), (4, .int w502), (0, .ref (q 32)), (1, .int p0), (2, .int p1), (3, .int x3_9)]) hx hb dX3_joinLoads_38 hl (by decide) rfl (fun ls hl => ?_)
        refine lv_iconst (v := 0) hx hb dX3_joinLoads_40 (by decide) ?_
        refine lv_istore (lv' := [(6, .int 0), (5, .int w504), (4, .int w502), (0, .ref (q 32)), (1, .int p0), (2, .int p1), (3, .int x3_9)]) hx hb dX3_joinLoads_41 hl (by decide) rfl (fun ls hl => ?_)
        exact HL43 _ w502 w504 0 z_9 H locs ls k501a i502 (iv_w (iv_lit (n := 0) 0 (by decide)) (by decide) (by decide)) k501b hJ hH (lv_sub hl [3, 4, 5, 6, 2, 1, 0] rfl) rfl
  refine lv_aload_n hx hb dX3_joinLoads_0 rfl (lv_at hl 0 rfl) ?_
  refine b_get (ci := 3) (C := RX3) (T := TX3) (Nf := 11) (v := .ref (q 39)) hx hb hts in_X3_joinLoads_X3 hown hK hH 32 (by decide) rfl rfl 8 (by decide) (hts (.fieldLink RX3 35 "StationLine$Search" "scratch" "[I") (List.mem_of_getElem? (i := 1) rfl)) rfl dX3_joinLoads_1 ?_
  refine lv_iconst (v := 0) hx hb dX3_joinLoads_4 (by decide) ?_
  refine lv_iconst (v := 0) hx hb dX3_joinLoads_5 (by decide) ?_
  refine b_iast hx hb hK hH 39 (by decide) rfl (by unfold vp_in; decide) (upA z0 39 (upd (z0.2.1 39) (0 : Int32).toNatClampNeg 0)) rfl (enC_A _ _ _ _ _) dX3_joinLoads_6 (fun H locs hH => ?_)
  obtain ⟨z505, hz505⟩ : ∃ w : zS, w = upA z0 39 (upd (z0.2.1 39) (0 : Int32).toNatClampNeg 0) := ⟨_, rfl⟩
  rw [← hz505] at hH
  have hJ : jJ IvC 0 558345748480 0 z0 z505 := by rw [hz505]; exact jJ_A hJ (by decide) (IvC_A hJ.1 (by decide))
  refine lv_iconst (v := 0) hx hb dX3_joinLoads_7 (by decide) ?_
  refine lv_istore_n (lv' := [(3, .int 0), (0, .ref (q 32)), (1, .int p0), (2, .int p1)]) hx hb dX3_joinLoads_8 rfl hl (by decide) rfl (fun ls hl => ?_)
  exact HL9 _ 0 z505 H locs ls (iv_w (iv_lit (n := 0) 0 (by decide)) (by decide) (by decide)) hJ hH (lv_sub hl [1, 2, 3, 0] rfl) rfl
set_option maxHeartbeats 4000000 in
set_option maxRecDepth 100000 in
theorem g_X3_fillLoads_32 (l : Launch) (D : va_G) (cy : Nat → ClassId) (q : Nat → Nat) (hq : bJ 66 q) (z0 : zS) (hI : IvC z0)  : bCv l yX3_fillLoads wsX3_fillLoads ({ frames := 3, cells := 0, slots := 0, locals := 76 }) D cy 66 (enC cy) q z0 [.ref (q 32)] (fun z => jJ IvC 0 558345748480 0 z0 z) := by
  refine hM_v cX3_fillLoads (by decide) rfl (own := RX3) rfl hq (Nat.le_of_ble_eq_true rfl) ?_
  intro p e s m args below meth c Q ls H locs hx hb hml hown hts hK hZ hH hl hret
  have hl : lv_has ls 3 [(0, .ref (q 32))] := hl
  have hJ : jJ IvC 0 558345748480 0 z0 z0 := jJ_rf _ _ _ hI
  have HL10 : ∀ (n : Nat) (x1_10 : Int32) (z_10 : zS) (H : Heap) (locs : List Loc) (ls : Array Slot), iv 0 3 x1_10 → jJ IvC 0 558345748480 0 z0 z_10 → bH D 66 (enC cy) q z_10 s.heap H locs → lv_has ls 3 [(0, .ref (q 32)), (1, .int x1_10)] → (3 - x1_10.toInt).toNat = n → W p l e ({ frames := 3, cells := 0, slots := 0, locals := 76 }) s m args below meth c H locs 0 0 Q (F0 m 10 ls []) := by
    intro n10
    induction n10 using Nat.strongRecOn with
    | ind n10 ih10 =>
      intro x1_10 z_10 H locs ls h1_10 hJ hH hl hn10
      have HJ34 : ∀ (z_34 : zS) (H : Heap) (locs : List Loc) (ls : Array Slot), iv 0 2 x1_10 → jJ IvC 0 558345748480 0 z0 z_34 → bH D 66 (enC cy) q z_34 s.heap H locs → lv_has ls 3 [(0, .ref (q 32)), (1, .int x1_10)] → W p l e ({ frames := 3, cells := 0, slots := 0, locals := 76 }) s m args below meth c H locs 0 0 Q (F0 m 34 ls []) := by
        intro z_34 H locs ls h1_34 hJ hH hl
        have j34 : iv 1 3 (x1_10 + 1) := iv_add h1_34 (iv_lit (n := 1) 1 (by decide)) (by decide) (by decide) (by decide) (by decide)
        have e34 : (x1_10 + 1).toInt = x1_10.toInt + 1 := (iv_addE h1_34 (iv_lit (n := 1) 1 (by decide)) (by decide) (by decide)).trans rfl
        refine lv_iinc (v := (x1_10 + 1)) (lv' := [(1, .int (x1_10 + 1)), (0, .ref (q 32))]) hx hb dX3_fillLoads_34 hl (k := 1) rfl rfl (by decide) rfl (fun ls hl => ?_)
        refine lv_goto (tgt := 10) hx hb dX3_fillLoads_37 (by decide) ?_
        exact ih10 _ (ms_up e34 j34.2 hn10) (x1_10 + 1) z_34 H locs ls (iv_w j34 (by decide) (by decide)) hJ hH (lv_sub hl [1, 0] rfl) rfl
      refine lv_iload_n hx hb dX3_fillLoads_10 rfl (lv_at hl 1 rfl) ?_
      refine lv_iconst (v := 3) hx hb dX3_fillLoads_11 (by decide) ?_
      refine lv_icmp_ge (tgt := 40) hx hb dX3_fillLoads_12 (by decide) (fun c35 => ?_) (fun c35 => ?_)
      · skip
        have k36b : iv 3 3 x1_10 := iv_ler (iv_Le c35) (iv_lit (n := 3) 3 (by decide)) h1_10
        exact hret z_10 H locs _ _ hJ hH dX3_fillLoads_40
      · skip
        have k37a : iv 0 2 x1_10 := iv_ltl (iv_nLe c35) h1_10 (iv_lit (n := 3) 3 (by decide)) (by decide)
        refine lv_aload_n hx hb dX3_fillLoads_15 rfl (lv_at hl 0 rfl) ?_
        refine b_get (ci := 3) (C := RX3) (T := TX3) (Nf := 11) (v := .ref (q 1)) hx hb hts in_X3_fillLoads_X3 hown hK hH 32 (by decide) rfl rfl 0 (by decide) (hts (.fieldLink RX3 46 "StationLine$Search" "bench" "LStationLine$Bench;") (List.mem_of_getElem? (i := 2) rfl)) rfl dX3_fillLoads_16 ?_
        refine lv_iload_n hx hb dX3_fillLoads_19 rfl (lv_at hl 1 rfl) ?_
        refine b_calli (As := [.int x1_10]) (rest := []) ⟨hx, hb, hml, hown, hts⟩ 1 0 (g_X0_weight_1 l D cy q hH.2.1 z_10 hJ.1 x1_10 k37a) (cwV 1 hts gX3_fillLoads_X0_weight rfl rfl rfl (by decide +kernel) ⟨Nat.le_of_ble_eq_true rfl, Nat.le_of_ble_eq_true rfl⟩) hK hZ hH (by decide) rfl rfl rfl hl.1 rfl (Nat.le_of_ble_eq_true rfl) ⟨Nat.zero_le _, Nat.zero_le _⟩ dX3_fillLoads_20 (fun w38 z38 H locs hp hH => ?_)
        rw [Ag_0 hp.1.2] at hH
        refine lv_istore_n (lv' := [(2, .int w38), (0, .ref (q 32)), (1, .int x1_10)]) hx hb dX3_fillLoads_23 rfl hl (by decide) rfl (fun ls hl => ?_)
        refine lv_iload_n hx hb dX3_fillLoads_24 rfl (lv_at hl 0 rfl) ?_
        refine lv_if_le (tgt := 34) hx hb dX3_fillLoads_25 (by decide) (fun c39 => ?_) (fun c39 => ?_)
        · skip
          have k40a : iv (-2147483648) 0 w38 := iv_lel (iv_Le c39) (iv_all w38) (iv_lit (n := 0) 0 (by decide))
          exact HJ34  z_10 H locs ls k37a hJ hH (lv_sub hl [1, 2] rfl)
        · skip
          have k41b : iv 1 2147483647 w38 := iv_ltr (iv_nLe c39) (iv_lit (n := 0) 0 (by decide)) (iv_all w38) (by decide)
          refine lv_aload_n hx hb dX3_fillLoads_28 rfl (lv_at hl 1 rfl) ?_
          refine lv_iload_n hx hb dX3_fillLoads_29 rfl (lv_at hl 2 rfl) ?_
          refine lv_iload_n hx hb dX3_fillLoads_30 rfl (lv_at hl 0 rfl) ?_
          refine b_callv (As := [.int x1_10, .int w38]) (rest := []) ⟨hx, hb, hml, hown, hts⟩ 32 3 (g_X3_joinLoads_32 l D cy q hH.2.1 z_10 hJ.1 x1_10 k37a w38) (cwV 2 hts gX3_fillLoads_X3_joinLoads rfl rfl rfl (by decide +kernel) ⟨Nat.le_of_ble_eq_true rfl, Nat.le_of_ble_eq_true rfl⟩) hK hZ hH (by decide) rfl rfl rfl hl.1 rfl (Nat.le_of_ble_eq_true rfl) ⟨Nat.zero_le _, Nat.zero_le _⟩ dX3_fillLoads_31 (fun z42 H locs hp hH => ?_)
          have hJ := jJ_tr hJ hp (by decide) (by decide) (by decide)
          have hA42 := hp.2
          exact HJ34  z42 H locs ls k37a hJ hH (lv_sub hl [1, 2] rfl)
  refine lv_aload_n hx hb dX3_fillLoads_0 rfl (lv_at hl 0 rfl) ?_
  refine b_get (ci := 3) (C := RX3) (T := TX3) (Nf := 11) (v := .ref (q 33)) hx hb hts in_X3_fillLoads_X3 hown hK hH 32 (by decide) rfl rfl 2 (by decide) (hts (.fieldLink RX3 15 "StationLine$Search" "loads" "[I") (List.mem_of_getElem? (i := 1) rfl)) rfl dX3_fillLoads_1 ?_
  refine lv_iconst (v := 0) hx hb dX3_fillLoads_4 (by decide) ?_
  refine b_statv (As := [.ref (q 33), .int 0]) (rest := []) ⟨hx, hb, hml, hown, hts⟩ (c_fill l D cy 66 (enC cy) q hH.2.1 z0 33 1024 0 (by decide) (by decide) (fun _ => rfl) (fun w f => enC_A _ _ _ _ _)) (va_cwS 2 hts gX3_fillLoads_J7_fill_53178 rfl rfl rfl (by decide +kernel) ⟨Nat.le_of_ble_eq_true rfl, Nat.le_of_ble_eq_true rfl⟩) hK hZ hH rfl hl.1 rfl (Nat.le_of_ble_eq_true rfl) ⟨Nat.zero_le _, Nat.zero_le _⟩ dX3_fillLoads_5 (fun z1 H locs hp hH => ?_)
  obtain ⟨ff, rfl, hff⟩ := hp
  obtain ⟨z43, hz43⟩ : ∃ w : zS, w = upA z0 33 ff := ⟨_, rfl⟩
  rw [← hz43] at hH
  have hJ : jJ IvC 0 558345748480 0 z0 z43 := by rw [hz43]; exact jJ_A hJ (by decide) (IvC_A hJ.1 (by decide))
  refine lv_iconst (v := 0) hx hb dX3_fillLoads_8 (by decide) ?_
  refine lv_istore_n (lv' := [(1, .int 0), (0, .ref (q 32))]) hx hb dX3_fillLoads_9 rfl hl (by decide) rfl (fun ls hl => ?_)
  exact HL10 _ 0 z43 H locs ls (iv_w (iv_lit (n := 0) 0 (by decide)) (by decide) (by decide)) hJ hH (lv_sub hl [1, 0] rfl) rfl
set_option maxHeartbeats 4000000 in
set_option maxRecDepth 100000 in
theorem g_X3_fillAllowed_32 (l : Launch) (D : va_G) (cy : Nat → ClassId) (q : Nat → Nat) (hq : bJ 66 q) (z0 : zS) (hI : IvC z0)  : bCv l yX3_fillAllowed wsX3_fillAllowed ({ frames := 1, cells := 0, slots := 0, locals := 21 }) D cy 66 (enC cy) q z0 [.ref (q 32)] (fun z => jJ IvC 0 584115552256 0 z0 z) := by
  refine hM_v cX3_fillAllowed (by decide) rfl (own := RX3) rfl hq (Nat.le_of_ble_eq_true rfl) ?_
  intro p e s m args below meth c Q ls H locs hx hb hml hown hts hK hZ hH hl hret
  have hl : lv_has ls 6 [(0, .ref (q 32))] := hl
  have hJ : jJ IvC 0 584115552256 0 z0 z0 := jJ_rf _ _ _ hI
  have HL18 : ∀ (n : Nat) (x2_18 : Int32) (z_18 : zS) (H : Heap) (locs : List Loc) (ls : Array Slot), iv 0 10 x2_18 → jJ IvC 0 584115552256 0 z0 z_18 → bH D 66 (enC cy) q z_18 s.heap H locs → lv_has ls 6 [(0, .ref (q 32)), (1, .ref (q 39)), (2, .int x2_18)] → (10 - x2_18.toInt).toNat = n → W p l e ({ frames := 1, cells := 0, slots := 0, locals := 21 }) s m args below meth c H locs 0 0 Q (F0 m 18 ls []) := by
    intro n18
    induction n18 using Nat.strongRecOn with
    | ind n18 ih18 =>
      intro x2_18 z_18 H locs ls h2_18 hJ hH hl hn18
      have HL36 : ∀ (n : Nat) (x3_36 : Int32) (x4_36 : Int32) (z_36 : zS) (H : Heap) (locs : List Loc) (ls : Array Slot), iv 0 9 x2_18 → iv 1 512 x3_36 → iv 0 512 x4_36 → iv 1 10 (z_36.1 0) → jJ IvC 0 584115552256 0 z0 z_36 → bH D 66 (enC cy) q z_36 s.heap H locs → lv_has ls 6 [(0, .ref (q 32)), (1, .ref (q 39)), (2, .int x2_18), (3, .int x3_36), (4, .int x4_36)] → (512 - x4_36.toInt).toNat = n → W p l e ({ frames := 1, cells := 0, slots := 0, locals := 21 }) s m args below meth c H locs 0 0 Q (F0 m 36 ls []) := by
        intro n36
        induction n36 using Nat.strongRecOn with
        | ind n36 ih36 =>
          intro x3_36 x4_36 z_36 H locs ls h2_36 h3_36 h4_36 gh0_36 hJ hH hl hn36
          have HJ82 : ∀ (t0_82 : Int32) (z_82 : zS) (H : Heap) (locs : List Loc) (ls : Array Slot), iv 0 511 x4_36 → iv 0 1 t0_82 → iv 1 10 (z_82.1 0) → jJ IvC 0 584115552256 0 z0 z_82 → bH D 66 (enC cy) q z_82 s.heap H locs → lv_has ls 6 [(0, .ref (q 32)), (1, .ref (q 39)), (2, .int x2_18), (3, .int x3_36), (4, .int x4_36)] → W p l e ({ frames := 1, cells := 0, slots := 0, locals := 21 }) s m args below meth c H locs 0 0 Q (F0 m 82 ls [.int t0_82]) := by
            intro t0_82 z_82 H locs ls h4_82 g0_82 gh0_82 hJ hH hl
            have HJ120 : ∀ (t0_120 : Int32) (t1_120 : Int32) (z_120 : zS) (H : Heap) (locs : List Loc) (ls : Array Slot), iv 0 1023 t1_120 → iv 1 10 (z_120.1 0) → jJ IvC 0 584115552256 0 z0 z_120 → bH D 66 (enC cy) q z_120 s.heap H locs → lv_has ls 6 [(0, .ref (q 32)), (1, .ref (q 39)), (2, .int x2_18), (3, .int x3_36), (4, .int x4_36)] → W p l e ({ frames := 1, cells := 0, slots := 0, locals := 21 }) s m args below meth c H locs 0 0 Q (F0 m 120 ls [.int t0_120, .int t1_120, .ref (q 35)]) := by
              intro t0_120 t1_120 z_120 H locs ls g1_120 gh0_120 hJ hH hl
              refine b_iast hx hb hK hH 35 (by decide) rfl (iv_in g1_120 (by decide) (by decide)) (upA z_120 35 (upd (z_120.2.1 35) (t1_120 : Int32).toNatClampNeg t0_120)) rfl (enC_A _ _ _ _ _) dX3_fillAllowed_120 (fun H locs hH => ?_)
              obtain ⟨z830, hz830⟩ : ∃ w : zS, w = upA z_120 35 (upd (z_120.2.1 35) (t1_120 : Int32).toNatClampNeg t0_120) := ⟨_, rfl⟩
              rw [← hz830] at hH
              have hJ : jJ IvC 0 584115552256 0 z0 z830 := by rw [hz830]; exact jJ_A hJ (by decide) (IvC_A hJ.1 (by decide))
              have g831 : iv 1 10 (z830.1 0) := by rw [hz830]; exact gh0_120
              have j832 : iv 1 512 (x4_36 + 1) := iv_add h4_82 (iv_lit (n := 1) 1 (by decide)) (by decide) (by decide) (by decide) (by decide)
              have e832 : (x4_36 + 1).toInt = x4_36.toInt + 1 := (iv_addE h4_82 (iv_lit (n := 1) 1 (by decide)) (by decide) (by decide)).trans rfl
              refine lv_iinc (v := (x4_36 + 1)) (lv' := [(4, .int (x4_36 + 1)), (0, .ref (q 32)), (1, .ref (q 39)), (2, .int x2_18), (3, .int x3_36)]) hx hb dX3_fillAllowed_121 hl (k := 4) rfl rfl (by decide) rfl (fun ls hl => ?_)
              refine lv_goto (tgt := 36) hx hb dX3_fillAllowed_124 (by decide) ?_
              exact ih36 _ (ms_up e832 j832.2 hn36) x3_36 (x4_36 + 1) z830 H locs ls h2_36 h3_36 (iv_w j832 (by decide) (by decide)) g831 hJ hH (lv_sub hl [1, 2, 3, 4, 0] rfl) rfl
            refine lv_istore (lv' := [(5, .int t0_82), (0, .ref (q 32)), (1, .ref (q 39)), (2, .int x2_18), (3, .int x3_36), (4, .int x4_36)]) hx hb dX3_fillAllowed_82 hl (by decide) rfl (fun ls hl => ?_)
            refine lv_aload_n hx hb dX3_fillAllowed_84 rfl (lv_at hl 1 rfl) ?_
            refine b_get (ci := 3) (C := RX3) (T := TX3) (Nf := 11) (v := .ref (q 35)) hx hb hts in_X3_fillAllowed_X3 hown hK hH 32 (by decide) rfl rfl 4 (by decide) (hts (.fieldLink RX3 23 "StationLine$Search" "allowed" "[I") (List.mem_of_getElem? (i := 2) rfl)) rfl dX3_fillAllowed_85 ?_
            refine lv_iload_n hx hb dX3_fillAllowed_88 rfl (lv_at hl 4 rfl) ?_
            refine lv_iload hx hb dX3_fillAllowed_89 (lv_at hl 5 rfl) ?_
            refine lv_ior hx hb dX3_fillAllowed_91 ?_
            refine h_i (a := 0) (b := 1023) (iv_or 10 (b := 512) (d := 511) (iv_w h3_36 (by decide) (by decide)) (iv_w h4_82 (by decide) (by decide)) (by decide) (by decide) (by decide) (by decide)) (fun w833 i833 => ?_)
            refine lv_iload hx hb dX3_fillAllowed_92 (lv_at hl 0 rfl) ?_
            refine lv_if_eq (tgt := 101) hx hb dX3_fillAllowed_94 (by decide) (fun c834 => ?_) (fun c834 => ?_)
            · skip
              have k835a : iv 0 0 t0_82 := iv_eql (iv_Eq c834) g0_82 (iv_lit (n := 0) 0 (by decide)) (by decide) (by decide)
              refine lv_aload_n hx hb dX3_fillAllowed_101 rfl (lv_at hl 1 rfl) ?_
              refine b_get (ci := 3) (C := RX3) (T := TX3) (Nf := 11) (v := .ref (q 35)) hx hb hts in_X3_fillAllowed_X3 hown hK hH 32 (by decide) rfl rfl 4 (by decide) (hts (.fieldLink RX3 23 "StationLine$Search" "allowed" "[I") (List.mem_of_getElem? (i := 2) rfl)) rfl dX3_fillAllowed_102 ?_
              refine lv_iload hx hb dX3_fillAllowed_105 (lv_at hl 5 rfl) ?_
              refine b_iald (v := z_82.2.1 35 (x4_36 : Int32).toNatClampNeg) hx hb hK hH 35 (by decide) rfl (iv_in h4_82 (by decide) (by decide)) rfl dX3_fillAllowed_107 ?_
              refine lv_aload_n hx hb dX3_fillAllowed_108 rfl (lv_at hl 1 rfl) ?_
              refine b_get (ci := 3) (C := RX3) (T := TX3) (Nf := 11) (v := .ref (q 1)) hx hb hts in_X3_fillAllowed_X3 hown hK hH 32 (by decide) rfl rfl 0 (by decide) (hts (.fieldLink RX3 46 "StationLine$Search" "bench" "LStationLine$Bench;") (List.mem_of_getElem? (i := 3) rfl)) rfl dX3_fillAllowed_109 ?_
              refine b_get (ci := 0) (C := RX0) (T := TX0) (Nf := 11) (v := .ref (q 12)) hx hb hts in_X3_fillAllowed_X0 hown hK hH 1 (by decide) rfl rfl 10 (by decide) (hts (.fieldLink RX3 127 "StationLine$Bench" "held" "[I") (List.mem_of_getElem? (i := 7) rfl)) rfl dX3_fillAllowed_112 ?_
              refine lv_iload_n hx hb dX3_fillAllowed_115 rfl (lv_at hl 3 rfl) ?_
              refine b_iald (v := z_82.2.1 12 (x2_18 : Int32).toNatClampNeg) hx hb hK hH 12 (by decide) rfl (iv_in h2_36 (by decide) (by decide)) rfl dX3_fillAllowed_116 ?_
              refine b_stati (As := [.int (z_82.2.1 35 (x4_36 : Int32).toNatClampNeg), .int (z_82.2.1 12 (x2_18 : Int32).toNatClampNeg)]) (rest := [.int w833, .ref (q 35)]) ⟨hx, hb, hml, hown, hts⟩ (g_X3_meet l D cy q hH.2.1 z_82 hJ.1 (z_82.2.1 35 (x4_36 : Int32).toNatClampNeg) (z_82.2.1 12 (x2_18 : Int32).toNatClampNeg)) (va_cwS 2 hts gX3_fillAllowed_X3_meet rfl rfl rfl (by decide +kernel) ⟨Nat.le_of_ble_eq_true rfl, Nat.le_of_ble_eq_true rfl⟩) hK hZ hH rfl hl.1 rfl (Nat.le_of_ble_eq_true rfl) ⟨Nat.zero_le _, Nat.zero_le _⟩ dX3_fillAllowed_117 (fun w836 z836 H locs hp hH => ?_)
              rw [Ag_0 hp.1.2] at hH
              exact HJ120 w836 w833 z_82 H locs ls i833 gh0_82 hJ hH (lv_sub hl [1, 2, 3, 4, 5] rfl)
            · skip
              have k837a : iv 1 1 t0_82 := iv_neLo (iv_nEq c834) g0_82 (by decide) (by decide)
              refine lv_iconst (v := (-1)) hx hb dX3_fillAllowed_97 (by decide) ?_
              refine lv_goto (tgt := 120) hx hb dX3_fillAllowed_98 (by decide) ?_
              exact HJ120 (-1) w833 z_82 H locs ls i833 gh0_82 hJ hH (lv_sub hl [1, 2, 3, 4, 5] rfl)
          refine lv_iload hx hb dX3_fillAllowed_36 (lv_at hl 4 rfl) ?_
          refine lv_iload_n hx hb dX3_fillAllowed_38 rfl (lv_at hl 3 rfl) ?_
          refine lv_icmp_ge (tgt := 127) hx hb dX3_fillAllowed_39 (by decide) (fun c838 => ?_) (fun c838 => ?_)
          · skip
            have k839b : iv 1 512 x4_36 := iv_ler (iv_Le c838) h3_36 h4_36
            have j840 : iv 1 10 (x2_18 + 1) := iv_add h2_36 (iv_lit (n := 1) 1 (by decide)) (by decide) (by decide) (by decide) (by decide)
            have e840 : (x2_18 + 1).toInt = x2_18.toInt + 1 := (iv_addE h2_36 (iv_lit (n := 1) 1 (by decide)) (by decide) (by decide)).trans rfl
            refine lv_iinc (v := (x2_18 + 1)) (lv' := [(2, .int (x2_18 + 1)), (0, .ref (q 32)), (1, .ref (q 39)), (3, .int x3_36), (4, .int x4_36)]) hx hb dX3_fillAllowed_127 hl (k := 2) rfl rfl (by decide) rfl (fun ls hl => ?_)
            refine lv_goto (tgt := 18) hx hb dX3_fillAllowed_130 (by decide) ?_
            exact ih18 _ (ms_up e840 j840.2 hn18) (x2_18 + 1) z_36 H locs ls (iv_w j840 (by decide) (by decide)) hJ hH (lv_sub hl [1, 2, 0] rfl) rfl
          · skip
            have k841a : iv 0 511 x4_36 := iv_ltl (iv_nLe c838) h4_36 h3_36 (by decide)
            refine lv_aload_n hx hb dX3_fillAllowed_42 rfl (lv_at hl 1 rfl) ?_
            refine lv_iload_n hx hb dX3_fillAllowed_43 rfl (lv_at hl 3 rfl) ?_
            refine lv_iload hx hb dX3_fillAllowed_44 (lv_at hl 4 rfl) ?_
            refine lv_ior hx hb dX3_fillAllowed_46 ?_
            refine h_i (a := 0) (b := 1023) (iv_or 10 (b := 512) (d := 511) (iv_w h3_36 (by decide) (by decide)) (iv_w k841a (by decide) (by decide)) (by decide) (by decide) (by decide) (by decide)) (fun w842 i842 => ?_)
            refine lv_aload_n hx hb dX3_fillAllowed_47 rfl (lv_at hl 1 rfl) ?_
            refine lv_iload hx hb dX3_fillAllowed_48 (lv_at hl 4 rfl) ?_
            refine b_iald (v := z_36.2.1 39 (x4_36 : Int32).toNatClampNeg) hx hb hK hH 39 (by decide) rfl (iv_in k841a (by decide) (by decide)) rfl dX3_fillAllowed_50 ?_
            refine lv_aload_n hx hb dX3_fillAllowed_51 rfl (lv_at hl 0 rfl) ?_
            refine b_get (ci := 3) (C := RX3) (T := TX3) (Nf := 11) (v := .ref (q 1)) hx hb hts in_X3_fillAllowed_X3 hown hK hH 32 (by decide) rfl rfl 0 (by decide) (hts (.fieldLink RX3 46 "StationLine$Search" "bench" "LStationLine$Bench;") (List.mem_of_getElem? (i := 3) rfl)) rfl dX3_fillAllowed_52 ?_
            refine b_get (ci := 0) (C := RX0) (T := TX0) (Nf := 11) (v := .ref (q 10)) hx hb hts in_X3_fillAllowed_X0 hown hK hH 1 (by decide) rfl rfl 8 (by decide) (hts (.fieldLink RX3 121 "StationLine$Bench" "together" "[I") (List.mem_of_getElem? (i := 5) rfl)) rfl dX3_fillAllowed_55 ?_
            refine lv_iload_n hx hb dX3_fillAllowed_58 rfl (lv_at hl 2 rfl) ?_
            refine b_iald (v := z_36.2.1 10 (x2_18 : Int32).toNatClampNeg) hx hb hK hH 10 (by decide) rfl (iv_in h2_36 (by decide) (by decide)) rfl dX3_fillAllowed_59 ?_
            refine lv_ior hx hb dX3_fillAllowed_60 ?_
            refine lv_topi (fun w843 _ => ?_)
            refine b_iast hx hb hK hH 39 (by decide) rfl (iv_in i842 (by decide) (by decide)) (upA z_36 39 (upd (z_36.2.1 39) (w842 : Int32).toNatClampNeg w843)) rfl (enC_A _ _ _ _ _) dX3_fillAllowed_61 (fun H locs hH => ?_)
            obtain ⟨z844, hz844⟩ : ∃ w : zS, w = upA z_36 39 (upd (z_36.2.1 39) (w842 : Int32).toNatClampNeg w843) := ⟨_, rfl⟩
            rw [← hz844] at hH
            have hJ : jJ IvC 0 584115552256 0 z0 z844 := by rw [hz844]; exact jJ_A hJ (by decide) (IvC_A hJ.1 (by decide))
            have g845 : iv 1 10 (z844.1 0) := by rw [hz844]; exact gh0_36
            refine lv_aload_n hx hb dX3_fillAllowed_62 rfl (lv_at hl 0 rfl) ?_
            refine b_get (ci := 3) (C := RX3) (T := TX3) (Nf := 11) (v := .ref (q 1)) hx hb hts in_X3_fillAllowed_X3 hown hK hH 32 (by decide) rfl rfl 0 (by decide) (hts (.fieldLink RX3 46 "StationLine$Search" "bench" "LStationLine$Bench;") (List.mem_of_getElem? (i := 3) rfl)) rfl dX3_fillAllowed_63 ?_
            refine b_get (ci := 0) (C := RX0) (T := TX0) (Nf := 11) (v := .ref (q 11)) hx hb hts in_X3_fillAllowed_X0 hown hK hH 1 (by decide) rfl rfl 9 (by decide) (hts (.fieldLink RX3 124 "StationLine$Bench" "apart" "[I") (List.mem_of_getElem? (i := 6) rfl)) rfl dX3_fillAllowed_66 ?_
            refine lv_iload_n hx hb dX3_fillAllowed_69 rfl (lv_at hl 2 rfl) ?_
            refine b_iald (v := z844.2.1 11 (x2_18 : Int32).toNatClampNeg) hx hb hK hH 11 (by decide) rfl (iv_in h2_36 (by decide) (by decide)) rfl dX3_fillAllowed_70 ?_
            refine lv_iload hx hb dX3_fillAllowed_71 (lv_at hl 4 rfl) ?_
            refine lv_iand hx hb dX3_fillAllowed_73 ?_
            refine h_i (a := 0) (b := 511) (iv_and2 (iv_all (z844.2.1 11 (x2_18 : Int32).toNatClampNeg)) k841a (by decide) (by decide)) (fun w846 i846 => ?_)
            refine lv_if_eq (tgt := 81) hx hb dX3_fillAllowed_74 (by decide) (fun c847 => ?_) (fun c847 => ?_)
            · skip
              have k848a : iv 0 0 w846 := iv_eql (iv_Eq c847) i846 (iv_lit (n := 0) 0 (by decide)) (by decide) (by decide)
              refine lv_iconst (v := 0) hx hb dX3_fillAllowed_81 (by decide) ?_
              exact HJ82 0 z844 H locs ls k841a (iv_w (iv_lit (n := 0) 0 (by decide)) (by decide) (by decide)) g845 hJ hH (lv_sub hl [0, 1, 2, 3, 4] rfl)
            · skip
              have k849a : iv 1 511 w846 := iv_neLo (iv_nEq c847) i846 (by decide) (by decide)
              refine lv_iconst (v := 1) hx hb dX3_fillAllowed_77 (by decide) ?_
              refine lv_goto (tgt := 82) hx hb dX3_fillAllowed_78 (by decide) ?_
              exact HJ82 1 z844 H locs ls k841a (iv_w (iv_lit (n := 1) 1 (by decide)) (by decide) (by decide)) g845 hJ hH (lv_sub hl [0, 1, 2, 3, 4] rfl)
      have HL135 : ∀ (n : Nat) (x2_135 : Int32) (z_135 : zS) (H : Heap) (locs : List Loc) (ls : Array Slot), iv 1 1024 x2_135 → jJ IvC 0 584115552256 0 z0 z_135 → bH D 66 (enC cy) q z_135 s.heap H locs → lv_has ls 6 [(0, .ref (q 32)), (1, .ref (q 39)), (2, .int x2_135)] → (1024 - x2_135.toInt).toNat = n → W p l e ({ frames := 1, cells := 0, slots := 0, locals := 21 }) s m args below meth c H locs 0 0 Q (F0 m 135 ls []) := by
        intro n135
        induction n135 using Nat.strongRecOn with
        | ind n135 ih135 =>
          intro x2_135 z_135 H locs ls h2_135 hJ hH hl hn135
          have HJ160 : ∀ (z_160 : zS) (H : Heap) (locs : List Loc) (ls : Array Slot), iv 1 1023 x2_135 → iv 1 1023 (z_160.1 8) → jJ IvC 0 584115552256 0 z0 z_160 → bH D 66 (enC cy) q z_160 s.heap H locs → lv_has ls 6 [(0, .ref (q 32)), (1, .ref (q 39)), (2, .int x2_135)] → W p l e ({ frames := 1, cells := 0, slots := 0, locals := 21 }) s m args below meth c H locs 0 0 Q (F0 m 160 ls []) := by
            intro z_160 H locs ls h2_160 gh8_160 hJ hH hl
            have j850 : iv 2 1024 (x2_135 + 1) := iv_add h2_160 (iv_lit (n := 1) 1 (by decide)) (by decide) (by decide) (by decide) (by decide)
            have e850 : (x2_135 + 1).toInt = x2_135.toInt + 1 := (iv_addE h2_160 (iv_lit (n := 1) 1 (by decide)) (by decide) (by decide)).trans rfl
            refine lv_iinc (v := (x2_135 + 1)) (lv' := [(2, .int (x2_135 + 1)), (0, .ref (q 32)), (1, .ref (q 39))]) hx hb dX3_fillAllowed_160 hl (k := 2) rfl rfl (by decide) rfl (fun ls hl => ?_)
            refine lv_goto (tgt := 135) hx hb dX3_fillAllowed_163 (by decide) ?_
            exact ih135 _ (ms_up e850 j850.2 hn135) (x2_135 + 1) z_160 H locs ls (iv_w j850 (by decide) (by decide)) hJ hH (lv_sub hl [1, 2, 0] rfl) rfl
          refine lv_iload_n hx hb dX3_fillAllowed_135 rfl (lv_at hl 2 rfl) ?_
          refine lv_aload_n hx hb dX3_fillAllowed_136 rfl (lv_at hl 0 rfl) ?_
          refine b_get (ci := 3) (C := RX3) (T := TX3) (Nf := 11) (v := .int (z_135.1 8)) hx hb hts in_X3_fillAllowed_X3 hown hK hH 32 (by decide) rfl rfl 1 (by decide) (hts (.fieldLink RX3 9 "StationLine$Search" "all" "I") (List.mem_of_getElem? (i := 8) rfl)) rfl dX3_fillAllowed_137 ?_
          have i851 := IvC_s8 hJ.1
          refine lv_icmp_gt (tgt := 166) hx hb dX3_fillAllowed_140 (by decide) (fun c852 => ?_) (fun c852 => ?_)
          · skip
            exact hret z_135 H locs _ _ hJ hH dX3_fillAllowed_166
          · skip
            have k854a : iv 1 1023 x2_135 := iv_lel (iv_nLt c852) h2_135 i851
            have k854b : iv 1 1023 (z_135.1 8) := iv_ler (iv_nLt c852) h2_135 i851
            refine lv_aload_n hx hb dX3_fillAllowed_143 rfl (lv_at hl 1 rfl) ?_
            refine lv_iload_n hx hb dX3_fillAllowed_144 rfl (lv_at hl 2 rfl) ?_
            refine b_iald (v := z_135.2.1 39 (x2_135 : Int32).toNatClampNeg) hx hb hK hH 39 (by decide) rfl (iv_in k854a (by decide) (by decide)) rfl dX3_fillAllowed_145 ?_
            refine lv_iload_n hx hb dX3_fillAllowed_146 rfl (lv_at hl 2 rfl) ?_
            refine lv_iconst (v := (-1)) hx hb dX3_fillAllowed_147 (by decide) ?_
            refine lv_ixor hx hb dX3_fillAllowed_148 ?_
            refine lv_topi (fun w855 _ => ?_)
            refine lv_iand hx hb dX3_fillAllowed_149 ?_
            refine lv_topi (fun w856 _ => ?_)
            refine lv_if_eq (tgt := 160) hx hb dX3_fillAllowed_150 (by decide) (fun c857 => ?_) (fun c857 => ?_)
            · skip
              have k858a : iv 0 0 w856 := iv_eql (iv_Eq c857) (iv_all w856) (iv_lit (n := 0) 0 (by decide)) (by decide) (by decide)
              exact HJ160  z_135 H locs ls k854a k854b hJ hH (lv_sub hl [0, 1, 2] rfl)
            · skip
              refine lv_aload_n hx hb dX3_fillAllowed_153 rfl (lv_at hl 0 rfl) ?_
              refine b_get (ci := 3) (C := RX3) (T := TX3) (Nf := 11) (v := .ref (q 35)) hx hb hts in_X3_fillAllowed_X3 hown hK hH 32 (by decide) rfl rfl 4 (by decide) (hts (.fieldLink RX3 23 "StationLine$Search" "allowed" "[I") (List.mem_of_getElem? (i := 2) rfl)) rfl dX3_fillAllowed_154 ?_
              refine lv_iload_n hx hb dX3_fillAllowed_157 rfl (lv_at hl 2 rfl) ?_
              refine lv_iconst (v := (-1)) hx hb dX3_fillAllowed_158 (by decide) ?_
              refine b_iast hx hb hK hH 35 (by decide) rfl (iv_in k854a (by decide) (by decide)) (upA z_135 35 (upd (z_135.2.1 35) (x2_135 : Int32).toNatClampNeg (-1))) rfl (enC_A _ _ _ _ _) dX3_fillAllowed_159 (fun H locs hH => ?_)
              obtain ⟨z860, hz860⟩ : ∃ w : zS, w = upA z_135 35 (upd (z_135.2.1 35) (x2_135 : Int32).toNatClampNeg (-1)) := ⟨_, rfl⟩
              rw [← hz860] at hH
              have hJ : jJ IvC 0 584115552256 0 z0 z860 := by rw [hz860]; exact jJ_A hJ (by decide) (IvC_A hJ.1 (by decide))
              have g861 : iv 1 1023 (z860.1 8) := by rw [hz860]; exact k854b
              exact HJ160  z860 H locs ls k854a g861 hJ hH (lv_sub hl [0, 1, 2] rfl)
      refine lv_iload_n hx hb dX3_fillAllowed_18 rfl (lv_at hl 2 rfl) ?_
      refine lv_aload_n hx hb dX3_fillAllowed_19 rfl (lv_at hl 0 rfl) ?_
      refine b_get (ci := 3) (C := RX3) (T := TX3) (Nf := 11) (v := .ref (q 1)) hx hb hts in_X3_fillAllowed_X3 hown hK hH 32 (by decide) rfl rfl 0 (by decide) (hts (.fieldLink RX3 46 "StationLine$Search" "bench" "LStationLine$Bench;") (List.mem_of_getElem? (i := 3) rfl)) rfl dX3_fillAllowed_20 ?_
      refine b_get (ci := 0) (C := RX0) (T := TX0) (Nf := 11) (v := .int (z_18.1 0)) hx hb hts in_X3_fillAllowed_X0 hown hK hH 1 (by decide) rfl rfl 0 (by decide) (hts (.fieldLink RX3 86 "StationLine$Bench" "size" "I") (List.mem_of_getElem? (i := 4) rfl)) rfl dX3_fillAllowed_23 ?_
      have i862 := IvC_s0 hJ.1
      refine lv_icmp_ge (tgt := 133) hx hb dX3_fillAllowed_26 (by decide) (fun c863 => ?_) (fun c863 => ?_)
      · skip
        refine lv_iconst (v := 1) hx hb dX3_fillAllowed_133 (by decide) ?_
        refine lv_istore_n (lv' := [(2, .int 1), (0, .ref (q 32)), (1, .ref (q 39))]) hx hb dX3_fillAllowed_134 rfl hl (by decide) rfl (fun ls hl => ?_)
        exact HL135 _ 1 z_18 H locs ls (iv_w (iv_lit (n := 1) 1 (by decide)) (by decide) (by decide)) hJ hH (lv_sub hl [1, 2, 0] rfl) rfl
      · skip
        have k865a : iv 0 9 x2_18 := iv_ltl (iv_nLe c863) h2_18 i862 (by decide)
        have k865b : iv 1 10 (z_18.1 0) := iv_ltr (iv_nLe c863) h2_18 i862 (by decide)
        refine lv_iconst (v := 1) hx hb dX3_fillAllowed_29 (by decide) ?_
        refine lv_iload_n hx hb dX3_fillAllowed_30 rfl (lv_at hl 2 rfl) ?_
        refine lv_ishl hx hb dX3_fillAllowed_31 ?_
        refine h_i (a := 1) (b := 512) (iv_bit k865a (by decide) (by decide)) (fun w866 i866 => ?_)
        refine lv_istore_n (lv' := [(3, .int w866), (0, .ref (q 32)), (1, .ref (q 39)), (2, .int x2_18)]) hx hb dX3_fillAllowed_32 rfl hl (by decide) rfl (fun ls hl => ?_)
        refine lv_iconst (v := 0) hx hb dX3_fillAllowed_33 (by decide) ?_
        refine lv_istore (lv' := [(4, .int 0), (3, .int w866), (0, .ref (q 32)), (1, .ref (q 39)), (2, .int x2_18)]) hx hb dX3_fillAllowed_34 hl (by decide) rfl (fun ls hl => ?_)
        exact HL36 _ w866 0 z_18 H locs ls k865a i866 (iv_w (iv_lit (n := 0) 0 (by decide)) (by decide) (by decide)) k865b hJ hH (lv_sub hl [2, 3, 4, 1, 0] rfl) rfl
  refine lv_aload_n hx hb dX3_fillAllowed_0 rfl (lv_at hl 0 rfl) ?_
  refine b_get (ci := 3) (C := RX3) (T := TX3) (Nf := 11) (v := .ref (q 39)) hx hb hts in_X3_fillAllowed_X3 hown hK hH 32 (by decide) rfl rfl 8 (by decide) (hts (.fieldLink RX3 35 "StationLine$Search" "scratch" "[I") (List.mem_of_getElem? (i := 1) rfl)) rfl dX3_fillAllowed_1 ?_
  refine lv_astore_n (lv' := [(1, .ref (q 39)), (0, .ref (q 32))]) hx hb dX3_fillAllowed_4 rfl hl (by decide) rfl (fun ls hl => ?_)
  refine lv_aload_n hx hb dX3_fillAllowed_5 rfl (lv_at hl 0 rfl) ?_
  refine lv_iconst (v := 0) hx hb dX3_fillAllowed_6 (by decide) ?_
  refine lv_iconst (v := 0) hx hb dX3_fillAllowed_7 (by decide) ?_
  refine b_iast hx hb hK hH 39 (by decide) rfl (by unfold vp_in; decide) (upA z0 39 (upd (z0.2.1 39) (0 : Int32).toNatClampNeg 0)) rfl (enC_A _ _ _ _ _) dX3_fillAllowed_8 (fun H locs hH => ?_)
  obtain ⟨z867, hz867⟩ : ∃ w : zS, w = upA z0 39 (upd (z0.2.1 39) (0 : Int32).toNatClampNeg 0) := ⟨_, rfl⟩
  rw [← hz867] at hH
  have hJ : jJ IvC 0 584115552256 0 z0 z867 := by rw [hz867]; exact jJ_A hJ (by decide) (IvC_A hJ.1 (by decide))
  refine lv_aload_n hx hb dX3_fillAllowed_9 rfl (lv_at hl 1 rfl) ?_
  refine b_get (ci := 3) (C := RX3) (T := TX3) (Nf := 11) (v := .ref (q 35)) hx hb hts in_X3_fillAllowed_X3 hown hK hH 32 (by decide) rfl rfl 4 (by decide) (hts (.fieldLink RX3 23 "StationLine$Search" "allowed" "[I") (List.mem_of_getElem? (i := 2) rfl)) rfl dX3_fillAllowed_10 ?_
  refine lv_iconst (v := 0) hx hb dX3_fillAllowed_13 (by decide) ?_
  refine lv_iconst (v := 0) hx hb dX3_fillAllowed_14 (by decide) ?_
  refine b_iast hx hb hK hH 35 (by decide) rfl (by unfold vp_in; decide) (upA z867 35 (upd (z867.2.1 35) (0 : Int32).toNatClampNeg 0)) rfl (enC_A _ _ _ _ _) dX3_fillAllowed_15 (fun H locs hH => ?_)
  obtain ⟨z868, hz868⟩ : ∃ w : zS, w = upA z867 35 (upd (z867.2.1 35) (0 : Int32).toNatClampNeg 0) := ⟨_, rfl⟩
  rw [← hz868] at hH
  have hJ : jJ IvC 0 584115552256 0 z0 z868 := by rw [hz868]; exact jJ_A hJ (by decide) (IvC_A hJ.1 (by decide))
  refine lv_iconst (v := 0) hx hb dX3_fillAllowed_16 (by decide) ?_
  refine lv_istore_n (lv' := [(2, .int 0), (1, .ref (q 39)), (0, .ref (q 32))]) hx hb dX3_fillAllowed_17 rfl hl (by decide) rfl (fun ls hl => ?_)
  exact HL18 _ 0 z868 H locs ls (iv_w (iv_lit (n := 0) 0 (by decide)) (by decide) (by decide)) hJ hH (lv_sub hl [2, 1, 0] rfl) rfl
set_option maxHeartbeats 4000000 in
set_option maxRecDepth 100000 in
theorem g_X3_prepare_32 (l : Launch) (D : va_G) (cy : Nat → ClassId) (q : Nat → Nat) (hq : bJ 66 q) (z0 : zS) (hI : IvC z0)  : bCv l yX3_prepare wsX3_prepare ({ frames := 4, cells := 0, slots := 0, locals := 98 }) D cy 66 (enC cy) q z0 [.ref (q 32)] (fun z => jJ IvC 256 609885356032 0 z0 z) := by
  refine hM_v cX3_prepare (by decide) rfl (own := RX3) rfl hq (Nat.le_of_ble_eq_true rfl) ?_
  intro p e s m args below meth c Q ls H locs hx hb hml hown hts hK hZ hH hl hret
  have hl : lv_has ls 2 [(0, .ref (q 32))] := hl
  have hJ : jJ IvC 256 609885356032 0 z0 z0 := jJ_rf _ _ _ hI
  have HL21 : ∀ (n : Nat) (x1_21 : Int32) (z_21 : zS) (H : Heap) (locs : List Loc) (ls : Array Slot), iv 0 1024 x1_21 → jJ IvC 256 609885356032 0 z0 z_21 → bH D 66 (enC cy) q z_21 s.heap H locs → lv_has ls 2 [(0, .ref (q 32)), (1, .int x1_21)] → (1024 - x1_21.toInt).toNat = n → W p l e ({ frames := 4, cells := 0, slots := 0, locals := 98 }) s m args below meth c H locs 0 0 Q (F0 m 21 ls []) := by
    intro n21
    induction n21 using Nat.strongRecOn with
    | ind n21 ih21 =>
      intro x1_21 z_21 H locs ls h1_21 hJ hH hl hn21
      refine lv_iload_n hx hb dX3_prepare_21 rfl (lv_at hl 1 rfl) ?_
      refine lv_aload_n hx hb dX3_prepare_22 rfl (lv_at hl 0 rfl) ?_
      refine b_get (ci := 3) (C := RX3) (T := TX3) (Nf := 11) (v := .int (z_21.1 8)) hx hb hts in_X3_prepare_X3 hown hK hH 32 (by decide) rfl rfl 1 (by decide) (hts (.fieldLink RX3 9 "StationLine$Search" "all" "I") (List.mem_of_getElem? (i := 2) rfl)) rfl dX3_prepare_23 ?_
      have i180 := IvC_s8 hJ.1
      refine lv_icmp_gt (tgt := 46) hx hb dX3_prepare_26 (by decide) (fun c181 => ?_) (fun c181 => ?_)
      · skip
        have k182b : iv 1 1024 x1_21 := iv_ltr (iv_Lt c181) i180 h1_21 (by decide)
        exact hret z_21 H locs _ _ hJ hH dX3_prepare_46
      · skip
        have k183a : iv 0 1023 x1_21 := iv_lel (iv_nLt c181) h1_21 i180
        refine lv_aload_n hx hb dX3_prepare_29 rfl (lv_at hl 0 rfl) ?_
        refine b_get (ci := 3) (C := RX3) (T := TX3) (Nf := 11) (v := .ref (q 34)) hx hb hts in_X3_prepare_X3 hown hK hH 32 (by decide) rfl rfl 3 (by decide) (hts (.fieldLink RX3 19 "StationLine$Search" "fine" "[Z") (List.mem_of_getElem? (i := 3) rfl)) rfl dX3_prepare_30 ?_
        refine lv_iload_n hx hb dX3_prepare_33 rfl (lv_at hl 1 rfl) ?_
        refine lv_aload_n hx hb dX3_prepare_34 rfl (lv_at hl 0 rfl) ?_
        refine lv_iload_n hx hb dX3_prepare_35 rfl (lv_at hl 1 rfl) ?_
        refine b_calli (As := [.int x1_21]) (rest := [.int x1_21, .ref (q 34)]) ⟨hx, hb, hml, hown, hts⟩ 32 3 (g_X3_isFine_32 l D cy q hH.2.1 z_21 hJ.1 x1_21) (cwV 1 hts gX3_prepare_X3_isFine rfl rfl rfl (by decide +kernel) ⟨Nat.le_of_ble_eq_true rfl, Nat.le_of_ble_eq_true rfl⟩) hK hZ hH (by decide) rfl rfl rfl hl.1 rfl (Nat.le_of_ble_eq_true rfl) ⟨Nat.zero_le _, Nat.zero_le _⟩ dX3_prepare_36 (fun w184 z184 H locs hp hH => ?_)
        rw [Ag_0 hp.1.2] at hH
        have i184 := hp.2
        refine b_zast hx hb hK hH 34 (by decide) rfl (iv_in k183a (by decide) (by decide)) (upA z_21 34 (upd (z_21.2.1 34) (x1_21 : Int32).toNatClampNeg (vp_nar .boolean w184))) rfl (enC_A _ _ _ _ _) dX3_prepare_39 (fun H locs hH => ?_)
        obtain ⟨z185, hz185⟩ : ∃ w : zS, w = upA z_21 34 (upd (z_21.2.1 34) (x1_21 : Int32).toNatClampNeg (vp_nar .boolean w184)) := ⟨_, rfl⟩
        rw [← hz185] at hH
        have hJ : jJ IvC 256 609885356032 0 z0 z185 := by rw [hz185]; exact jJ_A hJ (by decide) (IvC_A hJ.1 (by decide))
        have j186 : iv 1 1024 (x1_21 + 1) := iv_add k183a (iv_lit (n := 1) 1 (by decide)) (by decide) (by decide) (by decide) (by decide)
        have e186 : (x1_21 + 1).toInt = x1_21.toInt + 1 := (iv_addE k183a (iv_lit (n := 1) 1 (by decide)) (by decide) (by decide)).trans rfl
        refine lv_iinc (v := (x1_21 + 1)) (lv' := [(1, .int (x1_21 + 1)), (0, .ref (q 32))]) hx hb dX3_prepare_40 hl (k := 1) rfl rfl (by decide) rfl (fun ls hl => ?_)
        refine lv_goto (tgt := 21) hx hb dX3_prepare_43 (by decide) ?_
        exact ih21 _ (ms_up e186 j186.2 hn21) (x1_21 + 1) z185 H locs ls (iv_w j186 (by decide) (by decide)) hJ hH (lv_sub hl [1, 0] rfl) rfl
  refine lv_aload_n hx hb dX3_prepare_0 rfl (lv_at hl 0 rfl) ?_
  refine lv_aload_n hx hb dX3_prepare_1 rfl (lv_at hl 0 rfl) ?_
  refine b_get (ci := 3) (C := RX3) (T := TX3) (Nf := 11) (v := .ref (q 1)) hx hb hts in_X3_prepare_X3 hown hK hH 32 (by decide) rfl rfl 0 (by decide) (hts (.fieldLink RX3 46 "StationLine$Search" "bench" "LStationLine$Bench;") (List.mem_of_getElem? (i := 1) rfl)) rfl dX3_prepare_2 ?_
  refine b_calli (As := []) (rest := [.ref (q 32)]) ⟨hx, hb, hml, hown, hts⟩ 1 0 (g_X0_all_1 l D cy q hH.2.1 z0 hJ.1 ) (cwV 0 hts gX3_prepare_X0_all rfl rfl rfl (by decide +kernel) ⟨Nat.le_of_ble_eq_true rfl, Nat.le_of_ble_eq_true rfl⟩) hK hZ hH (by decide) rfl rfl rfl hl.1 rfl (Nat.le_of_ble_eq_true rfl) ⟨Nat.zero_le _, Nat.zero_le _⟩ dX3_prepare_5 (fun w187 z187 H locs hp hH => ?_)
  rw [Ag_0 hp.1.2] at hH
  have i187 := hp.2
  refine b_put (ci := 3) (C := RX3) (T := TX3) (Nf := 11) (v := .int w187) (ty := .int) hx hb hts in_X3_prepare_X3 tyX3 tyX3_ok nmX3 hown hK hH 32 (by decide) rfl rfl 1 (by decide) (hts (.fieldLink RX3 9 "StationLine$Search" "all" "I") (List.mem_of_getElem? (i := 2) rfl)) rfl (by decide +kernel) rfl rfl (Nat.le_of_ble_eq_true rfl) (upS z0 8 w187) rfl (enC_S8 _ _ _ _) dX3_prepare_8 (fun H locs hH => ?_)
  obtain ⟨z188, hz188⟩ : ∃ w : zS, w = upS z0 8 w187 := ⟨_, rfl⟩
  rw [← hz188] at hH
  have hJ : jJ IvC 256 609885356032 0 z0 z188 := by rw [hz188]; exact jJ_S hJ (by decide) (IvC_S8 hJ.1 (iv_w i187 (by decide) (by decide)))
  have g189 : iv 0 1023 (z188.1 8) := by rw [hz188]; exact i187
  refine lv_aload_n hx hb dX3_prepare_11 rfl (lv_at hl 0 rfl) ?_
  refine b_callv (As := []) (rest := []) ⟨hx, hb, hml, hown, hts⟩ 32 3 (g_X3_fillLoads_32 l D cy q hH.2.1 z188 hJ.1 ) (cwV 0 hts gX3_prepare_X3_fillLoads rfl rfl rfl (by decide +kernel) ⟨Nat.le_of_ble_eq_true rfl, Nat.le_of_ble_eq_true rfl⟩) hK hZ hH (by decide) rfl rfl rfl hl.1 rfl (Nat.le_of_ble_eq_true rfl) ⟨Nat.zero_le _, Nat.zero_le _⟩ dX3_prepare_12 (fun z190 H locs hp hH => ?_)
  have hJ := jJ_tr hJ hp (by decide) (by decide) (by decide)
  have hA190 := hp.2
  refine lv_aload_n hx hb dX3_prepare_15 rfl (lv_at hl 0 rfl) ?_
  refine b_callv (As := []) (rest := []) ⟨hx, hb, hml, hown, hts⟩ 32 3 (g_X3_fillAllowed_32 l D cy q hH.2.1 z190 hJ.1 ) (cwV 0 hts gX3_prepare_X3_fillAllowed rfl rfl rfl (by decide +kernel) ⟨Nat.le_of_ble_eq_true rfl, Nat.le_of_ble_eq_true rfl⟩) hK hZ hH (by decide) rfl rfl rfl hl.1 rfl (Nat.le_of_ble_eq_true rfl) ⟨Nat.zero_le _, Nat.zero_le _⟩ dX3_prepare_16 (fun z191 H locs hp hH => ?_)
  have hJ := jJ_tr hJ hp (by decide) (by decide) (by decide)
  have hA191 := hp.2
  refine lv_iconst (v := 0) hx hb dX3_prepare_19 (by decide) ?_
  refine lv_istore_n (lv' := [(1, .int 0), (0, .ref (q 32))]) hx hb dX3_prepare_20 rfl hl (by decide) rfl (fun ls hl => ?_)
  exact HL21 _ 0 z191 H locs ls (iv_w (iv_lit (n := 0) 0 (by decide)) (by decide) (by decide)) hJ hH (lv_sub hl [1, 0] rfl) rfl
set_option maxHeartbeats 4000000 in
set_option maxRecDepth 100000 in
theorem g_X3_spread_32 (l : Launch) (D : va_G) (cy : Nat → ClassId) (q : Nat → Nat) (hq : bJ 66 q) (z0 : zS) (hI : IvC z0) (p0 : Int32) (hp0 : iv 0 1023 p0) (p1 : Int32) : bCv l yX3_spread wsX3_spread ({ frames := 0, cells := 0, slots := 0, locals := 0 }) D cy 66 (enC cy) q z0 [.ref (q 32), .int p0, .int p1] (fun z => jJ IvC 0 137438953472 0 z0 z) := by
  refine hM_v cX3_spread (by decide) rfl (own := RX3) rfl hq (Nat.le_of_ble_eq_true rfl) ?_
  intro p e s m args below meth c Q ls H locs hx hb hml hown hts hK hZ hH hl hret
  have hl : lv_has ls 7 [(0, .ref (q 32)), (1, .int p0), (2, .int p1)] := hl
  have hJ : jJ IvC 0 137438953472 0 z0 z0 := jJ_rf _ _ _ hI
  have HL12 : ∀ (n : Nat) (x3_12 : Int32) (x4_12 : Int32) (z_12 : zS) (H : Heap) (locs : List Loc) (ls : Array Slot), iv 0 1023 x3_12 → iv 0 1023 x4_12 → jJ IvC 0 137438953472 0 z0 z_12 → bH D 66 (enC cy) q z_12 s.heap H locs → lv_has ls 7 [(0, .ref (q 32)), (1, .int p0), (2, .int p1), (3, .int x3_12), (4, .int x4_12)] → (x4_12.toInt - 0).toNat = n → W p l e ({ frames := 0, cells := 0, slots := 0, locals := 0 }) s m args below meth c H locs 0 0 Q (F0 m 12 ls []) := by
    intro n12
    induction n12 using Nat.strongRecOn with
    | ind n12 ih12 =>
      intro x3_12 x4_12 z_12 H locs ls h3_12 h4_12 hJ hH hl hn12
      have HJ91 : ∀ (z_91 : zS) (H : Heap) (locs : List Loc) (ls : Array Slot), iv 1 1023 x4_12 → jJ IvC 0 137438953472 0 z0 z_91 → bH D 66 (enC cy) q z_91 s.heap H locs → lv_has ls 7 [(0, .ref (q 32)), (1, .int p0), (2, .int p1), (3, .int x3_12), (4, .int x4_12)] → W p l e ({ frames := 0, cells := 0, slots := 0, locals := 0 }) s m args below meth c H locs 0 0 Q (F0 m 91 ls []) := by
        intro z_91 H locs ls h4_91 hJ hH hl
        refine lv_iload hx hb dX3_spread_91 (lv_at hl 4 rfl) ?_
        refine lv_iconst (v := 1) hx hb dX3_spread_93 (by decide) ?_
        refine lv_isub hx hb dX3_spread_94 ?_
        refine h_iE (a := 0) (b := 1022) (t := x4_12.toInt - 1) (iv_sub h4_91 (iv_lit (n := 1) 1 (by decide)) (by decide) (by decide) (by decide) (by decide)) ((iv_subE h4_91 (iv_lit (n := 1) 1 (by decide)) (by decide) (by decide)).trans rfl) (fun w28 i28 e28 => ?_)
        refine lv_iload_n hx hb dX3_spread_95 rfl (lv_at hl 3 rfl) ?_
        refine lv_iand hx hb dX3_spread_96 ?_
        refine h_iL (a := 0) (b := 1022) (iv_and i28 h3_12 (by decide) (by decide)) (iv_andlt i28 (by decide)) (fun w29 i29 e29 => ?_)
        refine lv_istore (lv' := [(4, .int w29), (0, .ref (q 32)), (1, .int p0), (2, .int p1), (3, .int x3_12)]) hx hb dX3_spread_97 hl (by decide) rfl (fun ls hl => ?_)
        refine lv_goto (tgt := 12) hx hb dX3_spread_99 (by decide) ?_
        exact ih12 _ (by have := e29; have := e28; have := hn12; have := i29.1; have := i29.2; omega) x3_12 w29 z_91 H locs ls h3_12 (iv_w i29 (by decide) (by decide)) hJ hH (lv_sub hl [1, 2, 3, 4, 0] rfl) rfl
      have HJ58 : ∀ (t0_58 : Int32) (z_58 : zS) (H : Heap) (locs : List Loc) (ls : Array Slot), iv 1 1023 x4_12 → jJ IvC 0 137438953472 0 z0 z_58 → bH D 66 (enC cy) q z_58 s.heap H locs → lv_has ls 7 [(0, .ref (q 32)), (1, .int p0), (2, .int p1), (3, .int x3_12), (4, .int x4_12)] → W p l e ({ frames := 0, cells := 0, slots := 0, locals := 0 }) s m args below meth c H locs 0 0 Q (F0 m 58 ls [.int t0_58]) := by
        intro t0_58 z_58 H locs ls h4_58 hJ hH hl
        refine lv_istore (lv' := [(6, .int t0_58), (0, .ref (q 32)), (1, .int p0), (2, .int p1), (3, .int x3_12), (4, .int x4_12)]) hx hb dX3_spread_58 hl (by decide) rfl (fun ls hl => ?_)
        refine lv_iload hx hb dX3_spread_60 (lv_at hl 0 rfl) ?_
        refine lv_iload_n hx hb dX3_spread_62 rfl (lv_at hl 3 rfl) ?_
        refine lv_icmp_lt (tgt := 91) hx hb dX3_spread_63 (by decide) (fun c30 => ?_) (fun c30 => ?_)
        · skip
          have k31a : iv (-2147483648) 2147483646 t0_58 := iv_ltl (iv_Lt c30) (iv_all t0_58) (iv_all p1) (by decide)
          have k31b : iv (-2147483647) 2147483647 p1 := iv_ltr (iv_Lt c30) (iv_all t0_58) (iv_all p1) (by decide)
          exact HJ91  z_58 H locs ls h4_58 hJ hH (lv_sub hl [1, 2, 3, 4, 5] rfl)
        · skip
          refine lv_iload hx hb dX3_spread_66 (lv_at hl 0 rfl) ?_
          refine lv_aload_n hx hb dX3_spread_68 rfl (lv_at hl 1 rfl) ?_
          refine b_get (ci := 3) (C := RX3) (T := TX3) (Nf := 11) (v := .ref (q 37)) hx hb hts in_X3_spread_X3 hown hK hH 32 (by decide) rfl rfl 6 (by decide) (hts (.fieldLink RX3 29 "StationLine$Search" "soonest" "[I") (List.mem_of_getElem? (i := 4) rfl)) rfl dX3_spread_69 ?_
          refine lv_iload_n hx hb dX3_spread_72 rfl (lv_at hl 2 rfl) ?_
          refine lv_iload hx hb dX3_spread_73 (lv_at hl 5 rfl) ?_
          refine lv_ior hx hb dX3_spread_75 ?_
          refine h_i (a := 0) (b := 1023) (iv_or 10 (b := 1023) (d := 1023) (iv_w hp0 (by decide) (by decide)) (iv_w h4_58 (by decide) (by decide)) (by decide) (by decide) (by decide) (by decide)) (fun w33 i33 => ?_)
          refine b_iald (v := z_58.2.1 37 (w33 : Int32).toNatClampNeg) hx hb hK hH 37 (by decide) rfl (iv_in i33 (by decide) (by decide)) rfl dX3_spread_76 ?_
          refine lv_icmp_ge (tgt := 91) hx hb dX3_spread_77 (by decide) (fun c34 => ?_) (fun c34 => ?_)
          · skip
            exact HJ91  z_58 H locs ls h4_58 hJ hH (lv_sub hl [1, 2, 3, 4, 5] rfl)
          · skip
            have k36a : iv (-2147483648) 2147483646 t0_58 := iv_ltl (iv_nLe c34) (iv_all t0_58) (iv_all (z_58.2.1 37 (w33 : Int32).toNatClampNeg)) (by decide)
            have k36b : iv (-2147483647) 2147483647 (z_58.2.1 37 (w33 : Int32).toNatClampNeg) := iv_ltr (iv_nLe c34) (iv_all t0_58) (iv_all (z_58.2.1 37 (w33 : Int32).toNatClampNeg)) (by decide)
            refine lv_aload_n hx hb dX3_spread_80 rfl (lv_at hl 1 rfl) ?_
            refine b_get (ci := 3) (C := RX3) (T := TX3) (Nf := 11) (v := .ref (q 37)) hx hb hts in_X3_spread_X3 hown hK hH 32 (by decide) rfl rfl 6 (by decide) (hts (.fieldLink RX3 29 "StationLine$Search" "soonest" "[I") (List.mem_of_getElem? (i := 4) rfl)) rfl dX3_spread_81 ?_
            refine lv_iload_n hx hb dX3_spread_84 rfl (lv_at hl 2 rfl) ?_
            refine lv_iload hx hb dX3_spread_85 (lv_at hl 5 rfl) ?_
            refine lv_ior hx hb dX3_spread_87 ?_
            refine h_i (a := 0) (b := 1023) (iv_or 10 (b := 1023) (d := 1023) (iv_w hp0 (by decide) (by decide)) (iv_w h4_58 (by decide) (by decide)) (by decide) (by decide) (by decide) (by decide)) (fun w37 i37 => ?_)
            refine lv_iload hx hb dX3_spread_88 (lv_at hl 0 rfl) ?_
            refine b_iast hx hb hK hH 37 (by decide) rfl (iv_in i37 (by decide) (by decide)) (upA z_58 37 (upd (z_58.2.1 37) (w37 : Int32).toNatClampNeg t0_58)) rfl (enC_A _ _ _ _ _) dX3_spread_90 (fun H locs hH => ?_)
            obtain ⟨z38, hz38⟩ : ∃ w : zS, w = upA z_58 37 (upd (z_58.2.1 37) (w37 : Int32).toNatClampNeg t0_58) := ⟨_, rfl⟩
            rw [← hz38] at hH
            have hJ : jJ IvC 0 137438953472 0 z0 z38 := by rw [hz38]; exact jJ_A hJ (by decide) (IvC_A hJ.1 (by decide))
            exact HJ91  z38 H locs ls h4_58 hJ hH (lv_sub hl [1, 2, 3, 4, 5] rfl)
      refine lv_iload hx hb dX3_spread_12 (lv_at hl 4 rfl) ?_
      refine lv_if_le (tgt := 102) hx hb dX3_spread_14 (by decide) (fun c39 => ?_) (fun c39 => ?_)
      · skip
        have k40a : iv 0 0 x4_12 := iv_lel (iv_Le c39) h4_12 (iv_lit (n := 0) 0 (by decide))
        exact hret z_12 H locs _ _ hJ hH dX3_spread_102
      · skip
        have k41b : iv 1 1023 x4_12 := iv_ltr (iv_nLe c39) (iv_lit (n := 0) 0 (by decide)) h4_12 (by decide)
        refine lv_aload_n hx hb dX3_spread_17 rfl (lv_at hl 0 rfl) ?_
        refine b_get (ci := 3) (C := RX3) (T := TX3) (Nf := 11) (v := .ref (q 36)) hx hb hts in_X3_spread_X3 hown hK hH 32 (by decide) rfl rfl 5 (by decide) (hts (.fieldLink RX3 26 "StationLine$Search" "places" "[I") (List.mem_of_getElem? (i := 2) rfl)) rfl dX3_spread_18 ?_
        refine lv_iload hx hb dX3_spread_21 (lv_at hl 4 rfl) ?_
        refine b_iald (v := z_12.2.1 36 (x4_12 : Int32).toNatClampNeg) hx hb hK hH 36 (by decide) rfl (iv_in k41b (by decide) (by decide)) rfl dX3_spread_23 ?_
        refine lv_istore (lv' := [(5, .int (z_12.2.1 36 (x4_12 : Int32).toNatClampNeg)), (0, .ref (q 32)), (1, .int p0), (2, .int p1), (3, .int x3_12), (4, .int x4_12)]) hx hb dX3_spread_24 hl (by decide) rfl (fun ls hl => ?_)
        refine lv_iload hx hb dX3_spread_26 (lv_at hl 0 rfl) ?_
        refine lv_iconst (v := (-1)) hx hb dX3_spread_28 (by decide) ?_
        refine lv_icmp_eq (tgt := 91) hx hb dX3_spread_29 (by decide) (fun c42 => ?_) (fun c42 => ?_)
        · skip
          have k43a : iv (-1) (-1) (z_12.2.1 36 (x4_12 : Int32).toNatClampNeg) := iv_eql (iv_Eq c42) (iv_all (z_12.2.1 36 (x4_12 : Int32).toNatClampNeg)) (iv_lit (n := (-1)) (-1) (by decide)) (by decide) (by decide)
          exact HJ91  z_12 H locs ls k41b hJ hH (lv_sub hl [1, 2, 3, 4, 5] rfl)
        · skip
          refine lv_aload_n hx hb dX3_spread_32 rfl (lv_at hl 1 rfl) ?_
          refine b_get (ci := 3) (C := RX3) (T := TX3) (Nf := 11) (v := .ref (q 34)) hx hb hts in_X3_spread_X3 hown hK hH 32 (by decide) rfl rfl 3 (by decide) (hts (.fieldLink RX3 19 "StationLine$Search" "fine" "[Z") (List.mem_of_getElem? (i := 3) rfl)) rfl dX3_spread_33 ?_
          refine lv_iload_n hx hb dX3_spread_36 rfl (lv_at hl 2 rfl) ?_
          refine lv_iload hx hb dX3_spread_37 (lv_at hl 5 rfl) ?_
          refine lv_ior hx hb dX3_spread_39 ?_
          refine h_i (a := 0) (b := 1023) (iv_or 10 (b := 1023) (d := 1023) (iv_w hp0 (by decide) (by decide)) (iv_w k41b (by decide) (by decide)) (by decide) (by decide) (by decide) (by decide)) (fun w45 i45 => ?_)
          refine b_zald (v := z_12.2.1 34 (w45 : Int32).toNatClampNeg) hx hb hK hH 34 (by decide) rfl (iv_in i45 (by decide) (by decide)) rfl dX3_spread_40 ?_
          refine lv_if_ne (tgt := 47) hx hb dX3_spread_41 (by decide) (fun c46 => ?_) (fun c46 => ?_)
          · skip
            refine lv_iload hx hb dX3_spread_47 (lv_at hl 0 rfl) ?_
            refine lv_if_ne (tgt := 56) hx hb dX3_spread_49 (by decide) (fun c48 => ?_) (fun c48 => ?_)
            · skip
              refine lv_iload hx hb dX3_spread_56 (lv_at hl 0 rfl) ?_
              exact HJ58 (z_12.2.1 36 (x4_12 : Int32).toNatClampNeg) z_12 H locs ls k41b hJ hH (lv_sub hl [1, 2, 3, 4, 5] rfl)
            · skip
              have k50a : iv 0 0 (z_12.2.1 36 (x4_12 : Int32).toNatClampNeg) := iv_eql (iv_Eq c48) (iv_all (z_12.2.1 36 (x4_12 : Int32).toNatClampNeg)) (iv_lit (n := 0) 0 (by decide)) (by decide) (by decide)
              refine lv_iload_n hx hb dX3_spread_52 rfl (lv_at hl 3 rfl) ?_
              refine lv_goto (tgt := 58) hx hb dX3_spread_53 (by decide) ?_
              exact HJ58 p1 z_12 H locs ls k41b hJ hH (lv_sub hl [1, 2, 3, 4, 5] rfl)
          · skip
            have k51a : iv 0 0 (z_12.2.1 34 (w45 : Int32).toNatClampNeg) := iv_eql (iv_Eq c46) (iv_all (z_12.2.1 34 (w45 : Int32).toNatClampNeg)) (iv_lit (n := 0) 0 (by decide)) (by decide) (by decide)
            refine lv_goto (tgt := 91) hx hb dX3_spread_44 (by decide) ?_
            exact HJ91  z_12 H locs ls k41b hJ hH (lv_sub hl [1, 2, 3, 4, 5] rfl)
  refine lv_aload_n hx hb dX3_spread_0 rfl (lv_at hl 0 rfl) ?_
  refine b_get (ci := 3) (C := RX3) (T := TX3) (Nf := 11) (v := .int (z0.1 8)) hx hb hts in_X3_spread_X3 hown hK hH 32 (by decide) rfl rfl 1 (by decide) (hts (.fieldLink RX3 9 "StationLine$Search" "all" "I") (List.mem_of_getElem? (i := 1) rfl)) rfl dX3_spread_1 ?_
  have i52 := IvC_s8 hJ.1
  refine lv_iload_n hx hb dX3_spread_4 rfl (lv_at hl 1 rfl) ?_
  refine lv_iconst (v := (-1)) hx hb dX3_spread_5 (by decide) ?_
  refine lv_ixor hx hb dX3_spread_6 ?_
  refine lv_topi (fun w53 _ => ?_)
  refine lv_iand hx hb dX3_spread_7 ?_
  refine h_iL (a := 0) (b := 1023) (iv_and i52 (iv_all w53) (by decide) (by decide)) (iv_andlt i52 (by decide)) (fun w54 i54 e54 => ?_)
  refine lv_istore_n (lv' := [(3, .int w54), (0, .ref (q 32)), (1, .int p0), (2, .int p1)]) hx hb dX3_spread_8 rfl hl (by decide) rfl (fun ls hl => ?_)
  refine lv_iload_n hx hb dX3_spread_9 rfl (lv_at hl 0 rfl) ?_
  refine lv_istore (lv' := [(4, .int w54), (3, .int w54), (0, .ref (q 32)), (1, .int p0), (2, .int p1)]) hx hb dX3_spread_10 hl (by decide) rfl (fun ls hl => ?_)
  exact HL12 _ w54 w54 z0 H locs ls i54 i54 hJ hH (lv_sub hl [2, 3, 4, 1, 0] rfl) rfl
set_option maxHeartbeats 4000000 in
set_option maxRecDepth 100000 in
theorem g_X3_lengthWithin_32 (l : Launch) (D : va_G) (cy : Nat → ClassId) (q : Nat → Nat) (hq : bJ 66 q) (z0 : zS) (hI : IvC z0) (p0 : Int32) : bCi l yX3_lengthWithin wsX3_lengthWithin ({ frames := 1, cells := 0, slots := 0, locals := 26 }) D cy 66 (enC cy) q z0 [.ref (q 32), .int p0] (fun v z => jJ IvC 0 206158430208 0 z0 z ∧ iv (-2147483648) 2147483647 v) := by
  refine hM_i cX3_lengthWithin (by decide) rfl (own := RX3) rfl hq (Nat.le_of_ble_eq_true rfl) ?_
  intro p e s m args below meth c Q ls H locs hx hb hml hown hts hK hZ hH hl hret
  have hl : lv_has ls 3 [(0, .ref (q 32)), (1, .int p0)] := hl
  have hJ : jJ IvC 0 206158430208 0 z0 z0 := jJ_rf _ _ _ hI
  have HL2 : ∀ (n : Nat) (x2_2 : Int32) (z_2 : zS) (H : Heap) (locs : List Loc) (ls : Array Slot), iv 0 1024 x2_2 → jJ IvC 0 206158430208 0 z0 z_2 → bH D 66 (enC cy) q z_2 s.heap H locs → lv_has ls 3 [(0, .ref (q 32)), (1, .int p0), (2, .int x2_2)] → (1024 - x2_2.toInt).toNat = n → W p l e ({ frames := 1, cells := 0, slots := 0, locals := 26 }) s m args below meth c H locs 0 0 Q (F0 m 2 ls []) := by
    intro n2
    induction n2 using Nat.strongRecOn with
    | ind n2 ih2 =>
      intro x2_2 z_2 H locs ls h2_2 hJ hH hl hn2
      have HL59 : ∀ (n : Nat) (x2_59 : Int32) (z_59 : zS) (H : Heap) (locs : List Loc) (ls : Array Slot), iv 0 1023 x2_59 → jJ IvC 0 206158430208 0 z0 z_59 → bH D 66 (enC cy) q z_59 s.heap H locs → lv_has ls 3 [(0, .ref (q 32)), (2, .int x2_59)] → (1023 - x2_59.toInt).toNat = n → W p l e ({ frames := 1, cells := 0, slots := 0, locals := 26 }) s m args below meth c H locs 0 0 Q (F0 m 59 ls []) := by
        intro n59
        induction n59 using Nat.strongRecOn with
        | ind n59 ih59 =>
          intro x2_59 z_59 H locs ls h2_59 hJ hH hl hn59
          have HJ91 : ∀ (z_91 : zS) (H : Heap) (locs : List Loc) (ls : Array Slot), iv 0 1022 x2_59 → iv 1 1023 (z_91.1 8) → jJ IvC 0 206158430208 0 z0 z_91 → bH D 66 (enC cy) q z_91 s.heap H locs → lv_has ls 3 [(0, .ref (q 32)), (2, .int x2_59)] → W p l e ({ frames := 1, cells := 0, slots := 0, locals := 26 }) s m args below meth c H locs 0 0 Q (F0 m 91 ls []) := by
            intro z_91 H locs ls h2_91 gh8_91 hJ hH hl
            have j587 : iv 1 1023 (x2_59 + 1) := iv_add h2_91 (iv_lit (n := 1) 1 (by decide)) (by decide) (by decide) (by decide) (by decide)
            have e587 : (x2_59 + 1).toInt = x2_59.toInt + 1 := (iv_addE h2_91 (iv_lit (n := 1) 1 (by decide)) (by decide) (by decide)).trans rfl
            refine lv_iinc (v := (x2_59 + 1)) (lv' := [(2, .int (x2_59 + 1)), (0, .ref (q 32))]) hx hb dX3_lengthWithin_91 hl (k := 1) rfl rfl (by decide) rfl (fun ls hl => ?_)
            refine lv_goto (tgt := 59) hx hb dX3_lengthWithin_94 (by decide) ?_
            exact ih59 _ (ms_up e587 j587.2 hn59) (x2_59 + 1) z_91 H locs ls (iv_w j587 (by decide) (by decide)) hJ hH (lv_sub hl [1, 0] rfl) rfl
          refine lv_iload_n hx hb dX3_lengthWithin_59 rfl (lv_at hl 1 rfl) ?_
          refine lv_aload_n hx hb dX3_lengthWithin_60 rfl (lv_at hl 0 rfl) ?_
          refine b_get (ci := 3) (C := RX3) (T := TX3) (Nf := 11) (v := .int (z_59.1 8)) hx hb hts in_X3_lengthWithin_X3 hown hK hH 32 (by decide) rfl rfl 1 (by decide) (hts (.fieldLink RX3 9 "StationLine$Search" "all" "I") (List.mem_of_getElem? (i := 1) rfl)) rfl dX3_lengthWithin_61 ?_
          have i588 := IvC_s8 hJ.1
          refine lv_icmp_ge (tgt := 97) hx hb dX3_lengthWithin_64 (by decide) (fun c589 => ?_) (fun c589 => ?_)
          · skip
            refine lv_aload_n hx hb dX3_lengthWithin_97 rfl (lv_at hl 0 rfl) ?_
            refine b_get (ci := 3) (C := RX3) (T := TX3) (Nf := 11) (v := .ref (q 37)) hx hb hts in_X3_lengthWithin_X3 hown hK hH 32 (by decide) rfl rfl 6 (by decide) (hts (.fieldLink RX3 29 "StationLine$Search" "soonest" "[I") (List.mem_of_getElem? (i := 5) rfl)) rfl dX3_lengthWithin_98 ?_
            refine lv_aload_n hx hb dX3_lengthWithin_101 rfl (lv_at hl 0 rfl) ?_
            refine b_get (ci := 3) (C := RX3) (T := TX3) (Nf := 11) (v := .int (z_59.1 8)) hx hb hts in_X3_lengthWithin_X3 hown hK hH 32 (by decide) rfl rfl 1 (by decide) (hts (.fieldLink RX3 9 "StationLine$Search" "all" "I") (List.mem_of_getElem? (i := 1) rfl)) rfl dX3_lengthWithin_102 ?_
            refine b_iald (v := z_59.2.1 37 (z_59.1 8 : Int32).toNatClampNeg) hx hb hK hH 37 (by decide) rfl (iv_in i588 (by decide) (by decide)) rfl dX3_lengthWithin_105 ?_
            exact hret _ z_59 H locs _ _ ⟨hJ, (iv_all (z_59.2.1 37 (z_59.1 8 : Int32).toNatClampNeg))⟩ hH dX3_lengthWithin_106
          · skip
            have k591a : iv 0 1022 x2_59 := iv_ltl (iv_nLe c589) h2_59 i588 (by decide)
            have k591b : iv 1 1023 (z_59.1 8) := iv_ltr (iv_nLe c589) h2_59 i588 (by decide)
            refine lv_aload_n hx hb dX3_lengthWithin_67 rfl (lv_at hl 0 rfl) ?_
            refine b_get (ci := 3) (C := RX3) (T := TX3) (Nf := 11) (v := .ref (q 37)) hx hb hts in_X3_lengthWithin_X3 hown hK hH 32 (by decide) rfl rfl 6 (by decide) (hts (.fieldLink RX3 29 "StationLine$Search" "soonest" "[I") (List.mem_of_getElem? (i := 5) rfl)) rfl dX3_lengthWithin_68 ?_
            refine lv_iload_n hx hb dX3_lengthWithin_71 rfl (lv_at hl 1 rfl) ?_
            refine b_iald (v := z_59.2.1 37 (x2_59 : Int32).toNatClampNeg) hx hb hK hH 37 (by decide) rfl (iv_in k591a (by decide) (by decide)) rfl dX3_lengthWithin_72 ?_
            refine lv_bipush (v := 10) hx hb dX3_lengthWithin_73 (by decide) ?_
            refine lv_icmp_ge (tgt := 91) hx hb dX3_lengthWithin_75 (by decide) (fun c592 => ?_) (fun c592 => ?_)
            · skip
              have k593b : iv 10 2147483647 (z_59.2.1 37 (x2_59 : Int32).toNatClampNeg) := iv_ler (iv_Le c592) (iv_lit (n := 10) 10 (by decide)) (iv_all (z_59.2.1 37 (x2_59 : Int32).toNatClampNeg))
              exact HJ91  z_59 H locs ls k591a k591b hJ hH (lv_sub hl [0, 1] rfl)
            · skip
              have k594a : iv (-2147483648) 9 (z_59.2.1 37 (x2_59 : Int32).toNatClampNeg) := iv_ltl (iv_nLe c592) (iv_all (z_59.2.1 37 (x2_59 : Int32).toNatClampNeg)) (iv_lit (n := 10) 10 (by decide)) (by decide)
              refine lv_aload_n hx hb dX3_lengthWithin_78 rfl (lv_at hl 0 rfl) ?_
              refine lv_iload_n hx hb dX3_lengthWithin_79 rfl (lv_at hl 1 rfl) ?_
              refine lv_aload_n hx hb dX3_lengthWithin_80 rfl (lv_at hl 0 rfl) ?_
              refine b_get (ci := 3) (C := RX3) (T := TX3) (Nf := 11) (v := .ref (q 37)) hx hb hts in_X3_lengthWithin_X3 hown hK hH 32 (by decide) rfl rfl 6 (by decide) (hts (.fieldLink RX3 29 "StationLine$Search" "soonest" "[I") (List.mem_of_getElem? (i := 5) rfl)) rfl dX3_lengthWithin_81 ?_
              refine lv_iload_n hx hb dX3_lengthWithin_84 rfl (lv_at hl 1 rfl) ?_
              refine b_iald (v := z_59.2.1 37 (x2_59 : Int32).toNatClampNeg) hx hb hK hH 37 (by decide) rfl (iv_in k591a (by decide) (by decide)) rfl dX3_lengthWithin_85 ?_
              refine lv_iconst (v := 1) hx hb dX3_lengthWithin_86 (by decide) ?_
              refine lv_iadd hx hb dX3_lengthWithin_87 ?_
              refine lv_topi (fun w595 _ => ?_)
              refine b_callv (As := [.int x2_59, .int w595]) (rest := []) ⟨hx, hb, hml, hown, hts⟩ 32 3 (g_X3_spread_32 l D cy q hH.2.1 z_59 hJ.1 x2_59 (iv_w k591a (by decide) (by decide)) w595) (cwV 2 hts gX3_lengthWithin_X3_spread rfl rfl rfl (by decide +kernel) ⟨Nat.le_of_ble_eq_true rfl, Nat.le_of_ble_eq_true rfl⟩) hK hZ hH (by decide) rfl rfl rfl hl.1 rfl (Nat.le_of_ble_eq_true rfl) ⟨Nat.zero_le _, Nat.zero_le _⟩ dX3_lengthWithin_88 (fun z596 H locs hp hH => ?_)
              have hJ := jJ_tr hJ hp (by decide) (by decide) (by decide)
              have hA596 := hp.2
              have g597 : iv 1 1023 (z596.1 8) := by rw [(hp).2.1 8 (by decide)]; exact k591b
              exact HJ91  z596 H locs ls k591a g597 hJ hH (lv_sub hl [0, 1] rfl)
      have HJ35 : ∀ (t0_35 : Int32) (t1_35 : Int32) (z_35 : zS) (H : Heap) (locs : List Loc) (ls : Array Slot), iv 0 1023 x2_2 → iv 0 1023 t1_35 → jJ IvC 0 206158430208 0 z0 z_35 → bH D 66 (enC cy) q z_35 s.heap H locs → lv_has ls 3 [(0, .ref (q 32)), (1, .int p0), (2, .int x2_2)] → W p l e ({ frames := 1, cells := 0, slots := 0, locals := 26 }) s m args below meth c H locs 0 0 Q (F0 m 35 ls [.int t0_35, .int t1_35, .ref (q 36)]) := by
        intro t0_35 t1_35 z_35 H locs ls h2_35 g1_35 hJ hH hl
        refine b_iast hx hb hK hH 36 (by decide) rfl (iv_in g1_35 (by decide) (by decide)) (upA z_35 36 (upd (z_35.2.1 36) (t1_35 : Int32).toNatClampNeg t0_35)) rfl (enC_A _ _ _ _ _) dX3_lengthWithin_35 (fun H locs hH => ?_)
        obtain ⟨z598, hz598⟩ : ∃ w : zS, w = upA z_35 36 (upd (z_35.2.1 36) (t1_35 : Int32).toNatClampNeg t0_35) := ⟨_, rfl⟩
        rw [← hz598] at hH
        have hJ : jJ IvC 0 206158430208 0 z0 z598 := by rw [hz598]; exact jJ_A hJ (by decide) (IvC_A hJ.1 (by decide))
        refine lv_aload_n hx hb dX3_lengthWithin_36 rfl (lv_at hl 0 rfl) ?_
        refine b_get (ci := 3) (C := RX3) (T := TX3) (Nf := 11) (v := .ref (q 37)) hx hb hts in_X3_lengthWithin_X3 hown hK hH 32 (by decide) rfl rfl 6 (by decide) (hts (.fieldLink RX3 29 "StationLine$Search" "soonest" "[I") (List.mem_of_getElem? (i := 5) rfl)) rfl dX3_lengthWithin_37 ?_
        refine lv_iload_n hx hb dX3_lengthWithin_40 rfl (lv_at hl 2 rfl) ?_
        refine lv_bipush (v := 11) hx hb dX3_lengthWithin_41 (by decide) ?_
        refine b_iast hx hb hK hH 37 (by decide) rfl (iv_in h2_35 (by decide) (by decide)) (upA z598 37 (upd (z598.2.1 37) (x2_2 : Int32).toNatClampNeg 11)) rfl (enC_A _ _ _ _ _) dX3_lengthWithin_43 (fun H locs hH => ?_)
        obtain ⟨z599, hz599⟩ : ∃ w : zS, w = upA z598 37 (upd (z598.2.1 37) (x2_2 : Int32).toNatClampNeg 11) := ⟨_, rfl⟩
        rw [← hz599] at hH
        have hJ : jJ IvC 0 206158430208 0 z0 z599 := by rw [hz599]; exact jJ_A hJ (by decide) (IvC_A hJ.1 (by decide))
        have j600 : iv 1 1024 (x2_2 + 1) := iv_add h2_35 (iv_lit (n := 1) 1 (by decide)) (by decide) (by decide) (by decide) (by decide)
        have e600 : (x2_2 + 1).toInt = x2_2.toInt + 1 := (iv_addE h2_35 (iv_lit (n := 1) 1 (by decide)) (by decide) (by decide)).trans rfl
        refine lv_iinc (v := (x2_2 + 1)) (lv' := [(2, .int (x2_2 + 1)), (0, .ref (q 32)), (1, .int p0)]) hx hb dX3_lengthWithin_44 hl (k := 2) rfl rfl (by decide) rfl (fun ls hl => ?_)
        refine lv_goto (tgt := 2) hx hb dX3_lengthWithin_47 (by decide) ?_
        exact ih2 _ (ms_up e600 j600.2 hn2) (x2_2 + 1) z599 H locs ls (iv_w j600 (by decide) (by decide)) hJ hH (lv_sub hl [1, 2, 0] rfl) rfl
      refine lv_iload_n hx hb dX3_lengthWithin_2 rfl (lv_at hl 2 rfl) ?_
      refine lv_aload_n hx hb dX3_lengthWithin_3 rfl (lv_at hl 0 rfl) ?_
      refine b_get (ci := 3) (C := RX3) (T := TX3) (Nf := 11) (v := .int (z_2.1 8)) hx hb hts in_X3_lengthWithin_X3 hown hK hH 32 (by decide) rfl rfl 1 (by decide) (hts (.fieldLink RX3 9 "StationLine$Search" "all" "I") (List.mem_of_getElem? (i := 1) rfl)) rfl dX3_lengthWithin_4 ?_
      have i601 := IvC_s8 hJ.1
      refine lv_icmp_gt (tgt := 50) hx hb dX3_lengthWithin_7 (by decide) (fun c602 => ?_) (fun c602 => ?_)
      · skip
        have k603b : iv 1 1024 x2_2 := iv_ltr (iv_Lt c602) i601 h2_2 (by decide)
        refine lv_aload_n hx hb dX3_lengthWithin_50 rfl (lv_at hl 0 rfl) ?_
        refine b_get (ci := 3) (C := RX3) (T := TX3) (Nf := 11) (v := .ref (q 37)) hx hb hts in_X3_lengthWithin_X3 hown hK hH 32 (by decide) rfl rfl 6 (by decide) (hts (.fieldLink RX3 29 "StationLine$Search" "soonest" "[I") (List.mem_of_getElem? (i := 5) rfl)) rfl dX3_lengthWithin_51 ?_
        refine lv_iconst (v := 0) hx hb dX3_lengthWithin_54 (by decide) ?_
        refine lv_iconst (v := 0) hx hb dX3_lengthWithin_55 (by decide) ?_
        refine b_iast hx hb hK hH 37 (by decide) rfl (by unfold vp_in; decide) (upA z_2 37 (upd (z_2.2.1 37) (0 : Int32).toNatClampNeg 0)) rfl (enC_A _ _ _ _ _) dX3_lengthWithin_56 (fun H locs hH => ?_)
        obtain ⟨z604, hz604⟩ : ∃ w : zS, w = upA z_2 37 (upd (z_2.2.1 37) (0 : Int32).toNatClampNeg 0) := ⟨_, rfl⟩
        rw [← hz604] at hH
        have hJ : jJ IvC 0 206158430208 0 z0 z604 := by rw [hz604]; exact jJ_A hJ (by decide) (IvC_A hJ.1 (by decide))
        refine lv_iconst (v := 0) hx hb dX3_lengthWithin_57 (by decide) ?_
        refine lv_istore_n (lv' := [(2, .int 0), (0, .ref (q 32)), (1, .int p0)]) hx hb dX3_lengthWithin_58 rfl hl (by decide) rfl (fun ls hl => ?_)
        exact HL59 _ 0 z604 H locs ls (iv_w (iv_lit (n := 0) 0 (by decide)) (by decide) (by decide)) hJ hH (lv_sub hl [1, 0] rfl) rfl
      · skip
        have k605a : iv 0 1023 x2_2 := iv_lel (iv_nLt c602) h2_2 i601
        refine lv_aload_n hx hb dX3_lengthWithin_10 rfl (lv_at hl 0 rfl) ?_
        refine b_get (ci := 3) (C := RX3) (T := TX3) (Nf := 11) (v := .ref (q 36)) hx hb hts in_X3_lengthWithin_X3 hown hK hH 32 (by decide) rfl rfl 5 (by decide) (hts (.fieldLink RX3 26 "StationLine$Search" "places" "[I") (List.mem_of_getElem? (i := 2) rfl)) rfl dX3_lengthWithin_11 ?_
        refine lv_iload_n hx hb dX3_lengthWithin_14 rfl (lv_at hl 2 rfl) ?_
        refine lv_aload_n hx hb dX3_lengthWithin_15 rfl (lv_at hl 0 rfl) ?_
        refine b_get (ci := 3) (C := RX3) (T := TX3) (Nf := 11) (v := .ref (q 33)) hx hb hts in_X3_lengthWithin_X3 hown hK hH 32 (by decide) rfl rfl 2 (by decide) (hts (.fieldLink RX3 15 "StationLine$Search" "loads" "[I") (List.mem_of_getElem? (i := 3) rfl)) rfl dX3_lengthWithin_16 ?_
        refine lv_iload_n hx hb dX3_lengthWithin_19 rfl (lv_at hl 2 rfl) ?_
        refine b_iald (v := z_2.2.1 33 (x2_2 : Int32).toNatClampNeg) hx hb hK hH 33 (by decide) rfl (iv_in k605a (by decide) (by decide)) rfl dX3_lengthWithin_20 ?_
        refine lv_iload_n hx hb dX3_lengthWithin_21 rfl (lv_at hl 1 rfl) ?_
        refine lv_icmp_le (tgt := 29) hx hb dX3_lengthWithin_22 (by decide) (fun c606 => ?_) (fun c606 => ?_)
        · skip
          refine lv_aload_n hx hb dX3_lengthWithin_29 rfl (lv_at hl 0 rfl) ?_
          refine b_get (ci := 3) (C := RX3) (T := TX3) (Nf := 11) (v := .ref (q 35)) hx hb hts in_X3_lengthWithin_X3 hown hK hH 32 (by decide) rfl rfl 4 (by decide) (hts (.fieldLink RX3 23 "StationLine$Search" "allowed" "[I") (List.mem_of_getElem? (i := 4) rfl)) rfl dX3_lengthWithin_30 ?_
          refine lv_iload_n hx hb dX3_lengthWithin_33 rfl (lv_at hl 2 rfl) ?_
          refine b_iald (v := z_2.2.1 35 (x2_2 : Int32).toNatClampNeg) hx hb hK hH 35 (by decide) rfl (iv_in k605a (by decide) (by decide)) rfl dX3_lengthWithin_34 ?_
          exact HJ35 (z_2.2.1 35 (x2_2 : Int32).toNatClampNeg) x2_2 z_2 H locs ls k605a k605a hJ hH (lv_sub hl [0, 1, 2] rfl)
        · skip
          have k608a : iv (-2147483648) 2147483646 p0 := iv_ltl (iv_nLe c606) (iv_all p0) (iv_all (z_2.2.1 33 (x2_2 : Int32).toNatClampNeg)) (by decide)
          have k608b : iv (-2147483647) 2147483647 (z_2.2.1 33 (x2_2 : Int32).toNatClampNeg) := iv_ltr (iv_nLe c606) (iv_all p0) (iv_all (z_2.2.1 33 (x2_2 : Int32).toNatClampNeg)) (by decide)
          refine lv_iconst (v := (-1)) hx hb dX3_lengthWithin_25 (by decide) ?_
          refine lv_goto (tgt := 35) hx hb dX3_lengthWithin_26 (by decide) ?_
          exact HJ35 (-1) x2_2 z_2 H locs ls k605a k605a hJ hH (lv_sub hl [0, 1, 2] rfl)
  refine lv_iconst (v := 0) hx hb dX3_lengthWithin_0 (by decide) ?_
  refine lv_istore_n (lv' := [(2, .int 0), (0, .ref (q 32)), (1, .int p0)]) hx hb dX3_lengthWithin_1 rfl hl (by decide) rfl (fun ls hl => ?_)
  exact HL2 _ 0 z0 H locs ls (iv_w (iv_lit (n := 0) 0 (by decide)) (by decide) (by decide)) hJ hH (lv_sub hl [1, 2, 0] rfl) rfl
set_option maxHeartbeats 4000000 in
set_option maxRecDepth 100000 in
theorem g_X3_leastLength_32 (l : Launch) (D : va_G) (cy : Nat → ClassId) (q : Nat → Nat) (hq : bJ 66 q) (z0 : zS) (hI : IvC z0)  : bCi l yX3_leastLength wsX3_leastLength ({ frames := 5, cells := 0, slots := 0, locals := 119 }) D cy 66 (enC cy) q z0 [.ref (q 32)] (fun v z => jJ IvC 256 816043786240 0 z0 z ∧ iv (-2147483648) 10 v) := by
  refine hM_i cX3_leastLength (by decide) rfl (own := RX3) rfl hq (Nat.le_of_ble_eq_true rfl) ?_
  intro p e s m args below meth c Q ls H locs hx hb hml hown hts hK hZ hH hl hret
  have hl : lv_has ls 2 [(0, .ref (q 32))] := hl
  have hJ : jJ IvC 256 816043786240 0 z0 z0 := jJ_rf _ _ _ hI
  refine lv_aload_n hx hb dX3_leastLength_0 rfl (lv_at hl 0 rfl) ?_
  refine b_callv (As := []) (rest := []) ⟨hx, hb, hml, hown, hts⟩ 32 3 (g_X3_prepare_32 l D cy q hH.2.1 z0 hJ.1 ) (cwV 0 hts gX3_leastLength_X3_prepare rfl rfl rfl (by decide +kernel) ⟨Nat.le_of_ble_eq_true rfl, Nat.le_of_ble_eq_true rfl⟩) hK hZ hH (by decide) rfl rfl rfl hl.1 rfl (Nat.le_of_ble_eq_true rfl) ⟨Nat.zero_le _, Nat.zero_le _⟩ dX3_leastLength_1 (fun z7 H locs hp hH => ?_)
  have hJ := jJ_tr hJ hp (by decide) (by decide) (by decide)
  have hA7 := hp.2
  refine lv_aload_n hx hb dX3_leastLength_4 rfl (lv_at hl 0 rfl) ?_
  refine lv_aload_n hx hb dX3_leastLength_5 rfl (lv_at hl 0 rfl) ?_
  refine b_get (ci := 3) (C := RX3) (T := TX3) (Nf := 11) (v := .ref (q 1)) hx hb hts in_X3_leastLength_X3 hown hK hH 32 (by decide) rfl rfl 0 (by decide) (hts (.fieldLink RX3 46 "StationLine$Search" "bench" "LStationLine$Bench;") (List.mem_of_getElem? (i := 1) rfl)) rfl dX3_leastLength_6 ?_
  refine b_calli (As := []) (rest := [.ref (q 32)]) ⟨hx, hb, hml, hown, hts⟩ 1 0 (g_X0_room_1 l D cy q hH.2.1 z7 hJ.1 ) (cwV 0 hts gX3_leastLength_X0_room rfl rfl rfl (by decide +kernel) ⟨Nat.le_of_ble_eq_true rfl, Nat.le_of_ble_eq_true rfl⟩) hK hZ hH (by decide) rfl rfl rfl hl.1 rfl (Nat.le_of_ble_eq_true rfl) ⟨Nat.zero_le _, Nat.zero_le _⟩ dX3_leastLength_9 (fun w8 z8 H locs hp hH => ?_)
  rw [Ag_0 hp.1.2] at hH
  refine b_calli (As := [.int w8]) (rest := []) ⟨hx, hb, hml, hown, hts⟩ 32 3 (g_X3_lengthWithin_32 l D cy q hH.2.1 z7 hJ.1 w8) (cwV 1 hts gX3_leastLength_X3_lengthWithin rfl rfl rfl (by decide +kernel) ⟨Nat.le_of_ble_eq_true rfl, Nat.le_of_ble_eq_true rfl⟩) hK hZ hH (by decide) rfl rfl rfl hl.1 rfl (Nat.le_of_ble_eq_true rfl) ⟨Nat.zero_le _, Nat.zero_le _⟩ dX3_leastLength_12 (fun w9 z9 H locs hp hH => ?_)
  have hJ := jJ_tr hJ hp.1 (by decide) (by decide) (by decide)
  have hA9 := hp.1.2
  refine lv_istore_n (lv' := [(1, .int w9), (0, .ref (q 32))]) hx hb dX3_leastLength_15 rfl hl (by decide) rfl (fun ls hl => ?_)
  refine lv_iload_n hx hb dX3_leastLength_16 rfl (lv_at hl 0 rfl) ?_
  refine lv_bipush (v := 10) hx hb dX3_leastLength_17 (by decide) ?_
  refine lv_icmp_le (tgt := 27) hx hb dX3_leastLength_19 (by decide) (fun c10 => ?_) (fun c10 => ?_)
  · skip
    have k11a : iv (-2147483648) 10 w9 := iv_lel (iv_Le c10) (iv_all w9) (iv_lit (n := 10) 10 (by decide))
    refine lv_iload_n hx hb dX3_leastLength_27 rfl (lv_at hl 0 rfl) ?_
    exact hret _ z9 H locs _ _ ⟨hJ, k11a⟩ hH dX3_leastLength_28
  · skip
    have k12b : iv 11 2147483647 w9 := iv_ltr (iv_nLe c10) (iv_lit (n := 10) 10 (by decide)) (iv_all w9) (by decide)
    refine lv_bipush (v := (-4)) hx hb dX3_leastLength_22 (by decide) ?_
    refine lv_goto (tgt := 28) hx hb dX3_leastLength_24 (by decide) ?_
    exact hret _ z9 H locs _ _ ⟨hJ, (iv_w (iv_lit (n := (-4)) (-4) (by decide)) (by decide) (by decide))⟩ hH dX3_leastLength_28
