set_option maxHeartbeats 4000000 in
set_option maxRecDepth 100000 in
theorem g_X5_of_0 (l : Launch) (D : va_G) (cy : Nat → ClassId) (q : Nat → Nat) (hq : bJ 66 q) (z0 : zS) (hI : IvC z0) (p0 : Int32) (p1 : Int32) : bCi l yX5_of wsX5_of ({ frames := 3, cells := 0, slots := 0, locals := 74 }) D cy 66 (enC cy) q z0 [.ref (q 0), .int p0, .int p1] (fun v z => jJ IvC 0 0 0 z0 z ∧ iv (-2147483648) 2147483647 v) := by
  refine hM_i cX5_of (by decide) rfl (own := RX5) rfl hq (Nat.le_of_ble_eq_true rfl) ?_
  intro p e s m args below meth c Q ls H locs hx hb hml hown hts hK hZ hH hl hret
  have hl : lv_has ls 3 [(0, .ref (q 0)), (1, .int p0), (2, .int p1)] := hl
  have hJ : jJ IvC 0 0 0 z0 z0 := jJ_rf _ _ _ hI
  have HJ64 : ∀ (H : Heap) (locs : List Loc) (ls : Array Slot), iv 0 9 p0 → iv 0 2 p1 → bH D 66 (enC cy) q z0 s.heap H locs → lv_has ls 3 [(0, .ref (q 0)), (1, .int p0), (2, .int p1)] → W p l e ({ frames := 3, cells := 0, slots := 0, locals := 74 }) s m args below meth c H locs 0 0 Q (F0 m 64 ls []) := by
    intro H locs ls h1_64 h2_64 hH hl
    refine lv_aload_n hx hb dX5_of_64 rfl (lv_at hl 0 rfl) ?_
    refine b_get (ci := 5) (C := RX5) (T := TX5) (Nf := 12) (v := .ref (q 1)) hx hb hts in_X5_of_X5 hown hK hH 0 (by decide) rfl rfl 0 (by decide) (hts (.fieldLink RX5 12 "StationLine" "bench" "LStationLine$Bench;") (List.mem_of_getElem? (i := 1) rfl)) rfl dX5_of_65 ?_
    refine b_get (ci := 0) (C := RX0) (T := TX0) (Nf := 11) (v := .ref (q 3)) hx hb hts in_X5_of_X0 hown hK hH 1 (by decide) rfl rfl 4 (by decide) (hts (.fieldLink RX5 87 "StationLine$Bench" "times" "[[I") (List.mem_of_getElem? (i := 2) rfl)) rfl dX5_of_68 ?_
    refine lv_iload_n hx hb dX5_of_71 rfl (lv_at hl 2 rfl) ?_
    refine h_aaldE (n := 3) hx hb hK hH 3 3 4 (by decide) rfl rfl (iv_in h2_64 (by decide) (by decide)) dX5_of_72 (fun k13 hk13 ek13 => ?_)
    refine lv_iload_n hx hb dX5_of_73 rfl (lv_at hl 1 rfl) ?_
    refine b_iald (v := z0.2.1 k13 (p0 : Int32).toNatClampNeg) hx hb hK hH k13 (Nat.lt_of_lt_of_le hk13.2 (by decide)) (enC_g4 cy q _ k13 hk13) (iv_in h1_64 (by decide) (by decide)) rfl dX5_of_74 ?_
    exact hret _ z0 H locs _ _ ⟨hJ, (iv_all (z0.2.1 k13 (p0 : Int32).toNatClampNeg))⟩ hH dX5_of_75
  refine lv_aload_n hx hb dX5_of_0 rfl (lv_at hl 0 rfl) ?_
  refine b_get (ci := 5) (C := RX5) (T := TX5) (Nf := 12) (v := .ref (q 1)) hx hb hts in_X5_of_X5 hown hK hH 0 (by decide) rfl rfl 0 (by decide) (hts (.fieldLink RX5 12 "StationLine" "bench" "LStationLine$Bench;") (List.mem_of_getElem? (i := 1) rfl)) rfl dX5_of_1 ?_
  refine lv_iload_n hx hb dX5_of_4 rfl (lv_at hl 1 rfl) ?_
  refine b_calli (As := [.int p0]) (rest := []) ⟨hx, hb, hml, hown, hts⟩ 1 0 (g_X0_has_1 l D cy q hH.2.1 z0 hJ.1 p0) (cwV 1 hts gX5_of_X0_has rfl rfl rfl (by decide +kernel) ⟨Nat.le_of_ble_eq_true rfl, Nat.le_of_ble_eq_true rfl⟩) hK hZ hH (by decide) rfl rfl rfl hl.1 rfl (Nat.le_of_ble_eq_true rfl) ⟨Nat.zero_le _, Nat.zero_le _⟩ dX5_of_5 (fun w14 z14 H locs hp hH => ?_)
  rw [Ag_0 hp.1.2] at hH
  have i14 := hp.2.1
  have tr14_0 := hp.2.2.1
  have f14_0 := hp.2.2.2
  refine lv_if_ne (tgt := 14) hx hb dX5_of_8 (by decide) (fun c15 => ?_) (fun c15 => ?_)
  · skip
    have k16 : iv 0 9 p0 := (tr14_0).resolve_left c15
    have k17a : iv 1 1 w14 := iv_neLo (iv_nEq c15) i14 (by decide) (by decide)
    refine lv_iload_n hx hb dX5_of_14 rfl (lv_at hl 2 rfl) ?_
    rcases (show (p1.toInt < 0 ∨ 8 < p1.toInt) ∨ (¬ p1.toInt < 0 ∧ ¬ 8 < p1.toInt) by omega) with h18 | h18
    · refine lv_tableOut (tgt := 137) hx hb dX5_of_15 h18 (by decide) ?_
      refine lv_bipush (v := (-2)) hx hb dX5_of_137 (by decide) ?_
      exact hret _ z0 H locs _ _ ⟨hJ, (iv_w (iv_lit (n := (-2)) (-2) (by decide)) (by decide) (by decide))⟩ hH dX5_of_139
    · rcases (show p1.toInt = 0 ∨ p1.toInt = 1 ∨ p1.toInt = 2 ∨ p1.toInt = 3 ∨ p1.toInt = 4 ∨ p1.toInt = 5 ∨ p1.toInt = 6 ∨ p1.toInt = 7 ∨ p1.toInt = 8 by omega) with e18 | e18 | e18 | e18 | e18 | e18 | e18 | e18 | e18
      · refine lv_tableIn (off := 49) (tgt := 64) hx hb dX5_of_15 h18.1 h18.2 (by rw [e18]; rfl) (by decide) ?_
        have k18 : iv 0 0 p1 := iv_lit p1 e18
        exact HJ64   H locs ls k16 (iv_w k18 (by decide) (by decide))  hH (lv_sub hl [0, 1, 2] rfl)
      · refine lv_tableIn (off := 49) (tgt := 64) hx hb dX5_of_15 h18.1 h18.2 (by rw [e18]; rfl) (by decide) ?_
        have k18 : iv 1 1 p1 := iv_lit p1 e18
        exact HJ64   H locs ls k16 (iv_w k18 (by decide) (by decide))  hH (lv_sub hl [0, 1, 2] rfl)
      · refine lv_tableIn (off := 49) (tgt := 64) hx hb dX5_of_15 h18.1 h18.2 (by rw [e18]; rfl) (by decide) ?_
        have k18 : iv 2 2 p1 := iv_lit p1 e18
        exact HJ64   H locs ls k16 (iv_w k18 (by decide) (by decide))  hH (lv_sub hl [0, 1, 2] rfl)
      · refine lv_tableIn (off := 61) (tgt := 76) hx hb dX5_of_15 h18.1 h18.2 (by rw [e18]; rfl) (by decide) ?_
        have k18 : iv 3 3 p1 := iv_lit p1 e18
        refine lv_aload_n hx hb dX5_of_76 rfl (lv_at hl 0 rfl) ?_
        refine b_get (ci := 5) (C := RX5) (T := TX5) (Nf := 12) (v := .ref (q 1)) hx hb hts in_X5_of_X5 hown hK hH 0 (by decide) rfl rfl 0 (by decide) (hts (.fieldLink RX5 12 "StationLine" "bench" "LStationLine$Bench;") (List.mem_of_getElem? (i := 1) rfl)) rfl dX5_of_77 ?_
        refine b_get (ci := 0) (C := RX0) (T := TX0) (Nf := 11) (v := .ref (q 7)) hx hb hts in_X5_of_X0 hown hK hH 1 (by decide) rfl rfl 5 (by decide) (hts (.fieldLink RX5 133 "StationLine$Bench" "before" "[I") (List.mem_of_getElem? (i := 3) rfl)) rfl dX5_of_80 ?_
        refine lv_iload_n hx hb dX5_of_83 rfl (lv_at hl 1 rfl) ?_
        refine b_iald (v := z0.2.1 7 (p0 : Int32).toNatClampNeg) hx hb hK hH 7 (by decide) rfl (iv_in k16 (by decide) (by decide)) rfl dX5_of_84 ?_
        exact hret _ z0 H locs _ _ ⟨hJ, (iv_all (z0.2.1 7 (p0 : Int32).toNatClampNeg))⟩ hH dX5_of_85
      · refine lv_tableIn (off := 71) (tgt := 86) hx hb dX5_of_15 h18.1 h18.2 (by rw [e18]; rfl) (by decide) ?_
        have k18 : iv 4 4 p1 := iv_lit p1 e18
        refine lv_aload_n hx hb dX5_of_86 rfl (lv_at hl 0 rfl) ?_
        refine b_get (ci := 5) (C := RX5) (T := TX5) (Nf := 12) (v := .ref (q 1)) hx hb hts in_X5_of_X5 hown hK hH 0 (by decide) rfl rfl 0 (by decide) (hts (.fieldLink RX5 12 "StationLine" "bench" "LStationLine$Bench;") (List.mem_of_getElem? (i := 1) rfl)) rfl dX5_of_87 ?_
        refine b_get (ci := 0) (C := RX0) (T := TX0) (Nf := 11) (v := .ref (q 8)) hx hb hts in_X5_of_X0 hown hK hH 1 (by decide) rfl rfl 6 (by decide) (hts (.fieldLink RX5 97 "StationLine$Bench" "leading" "[I") (List.mem_of_getElem? (i := 4) rfl)) rfl dX5_of_90 ?_
        refine lv_iload_n hx hb dX5_of_93 rfl (lv_at hl 1 rfl) ?_
        refine b_iald (v := z0.2.1 8 (p0 : Int32).toNatClampNeg) hx hb hK hH 8 (by decide) rfl (iv_in k16 (by decide) (by decide)) rfl dX5_of_94 ?_
        exact hret _ z0 H locs _ _ ⟨hJ, (iv_all (z0.2.1 8 (p0 : Int32).toNatClampNeg))⟩ hH dX5_of_95
      · refine lv_tableIn (off := 81) (tgt := 96) hx hb dX5_of_15 h18.1 h18.2 (by rw [e18]; rfl) (by decide) ?_
        have k18 : iv 5 5 p1 := iv_lit p1 e18
        refine lv_aload_n hx hb dX5_of_96 rfl (lv_at hl 0 rfl) ?_
        refine b_get (ci := 5) (C := RX5) (T := TX5) (Nf := 12) (v := .ref (q 1)) hx hb hts in_X5_of_X5 hown hK hH 0 (by decide) rfl rfl 0 (by decide) (hts (.fieldLink RX5 12 "StationLine" "bench" "LStationLine$Bench;") (List.mem_of_getElem? (i := 1) rfl)) rfl dX5_of_97 ?_
        refine b_get (ci := 0) (C := RX0) (T := TX0) (Nf := 11) (v := .ref (q 9)) hx hb hts in_X5_of_X0 hown hK hH 1 (by decide) rfl rfl 7 (by decide) (hts (.fieldLink RX5 136 "StationLine$Bench" "following" "[I") (List.mem_of_getElem? (i := 5) rfl)) rfl dX5_of_100 ?_
        refine lv_iload_n hx hb dX5_of_103 rfl (lv_at hl 1 rfl) ?_
        refine b_iald (v := z0.2.1 9 (p0 : Int32).toNatClampNeg) hx hb hK hH 9 (by decide) rfl (iv_in k16 (by decide) (by decide)) rfl dX5_of_104 ?_
        exact hret _ z0 H locs _ _ ⟨hJ, (iv_all (z0.2.1 9 (p0 : Int32).toNatClampNeg))⟩ hH dX5_of_105
      · refine lv_tableIn (off := 91) (tgt := 106) hx hb dX5_of_15 h18.1 h18.2 (by rw [e18]; rfl) (by decide) ?_
        have k18 : iv 6 6 p1 := iv_lit p1 e18
        refine lv_aload_n hx hb dX5_of_106 rfl (lv_at hl 0 rfl) ?_
        refine b_get (ci := 5) (C := RX5) (T := TX5) (Nf := 12) (v := .ref (q 1)) hx hb hts in_X5_of_X5 hown hK hH 0 (by decide) rfl rfl 0 (by decide) (hts (.fieldLink RX5 12 "StationLine" "bench" "LStationLine$Bench;") (List.mem_of_getElem? (i := 1) rfl)) rfl dX5_of_107 ?_
        refine b_get (ci := 0) (C := RX0) (T := TX0) (Nf := 11) (v := .ref (q 12)) hx hb hts in_X5_of_X0 hown hK hH 1 (by decide) rfl rfl 10 (by decide) (hts (.fieldLink RX5 124 "StationLine$Bench" "held" "[I") (List.mem_of_getElem? (i := 6) rfl)) rfl dX5_of_110 ?_
        refine lv_iload_n hx hb dX5_of_113 rfl (lv_at hl 1 rfl) ?_
        refine b_iald (v := z0.2.1 12 (p0 : Int32).toNatClampNeg) hx hb hK hH 12 (by decide) rfl (iv_in k16 (by decide) (by decide)) rfl dX5_of_114 ?_
        exact hret _ z0 H locs _ _ ⟨hJ, (iv_all (z0.2.1 12 (p0 : Int32).toNatClampNeg))⟩ hH dX5_of_115
      · refine lv_tableIn (off := 101) (tgt := 116) hx hb dX5_of_15 h18.1 h18.2 (by rw [e18]; rfl) (by decide) ?_
        have k18 : iv 7 7 p1 := iv_lit p1 e18
        refine lv_aload_n hx hb dX5_of_116 rfl (lv_at hl 0 rfl) ?_
        refine b_get (ci := 5) (C := RX5) (T := TX5) (Nf := 12) (v := .ref (q 13)) hx hb hts in_X5_of_X5 hown hK hH 0 (by decide) rfl rfl 1 (by decide) (hts (.fieldLink RX5 21 "StationLine" "hand" "LStationLine$Putting;") (List.mem_of_getElem? (i := 7) rfl)) rfl dX5_of_117 ?_
        refine b_get (ci := 1) (C := RX1) (T := TX1) (Nf := 2) (v := .ref (q 14)) hx hb hts in_X5_of_X1 hown hK hH 13 (by decide) rfl rfl 1 (by decide) (hts (.fieldLink RX5 77 "StationLine$Putting" "row" "[I") (List.mem_of_getElem? (i := 8) rfl)) rfl dX5_of_120 ?_
        refine lv_iload_n hx hb dX5_of_123 rfl (lv_at hl 1 rfl) ?_
        refine b_iald (v := z0.2.1 14 (p0 : Int32).toNatClampNeg) hx hb hK hH 14 (by decide) rfl (iv_in k16 (by decide) (by decide)) rfl dX5_of_124 ?_
        have i19 : iv 0 10 (z0.2.1 14 (p0 : Int32).toNatClampNeg) := IvC_a14 hJ.1 _ (b_inlt (iv_in k16 (by decide) (by decide)))
        exact hret _ z0 H locs _ _ ⟨hJ, (iv_w i19 (by decide) (by decide))⟩ hH dX5_of_125
      · refine lv_tableIn (off := 111) (tgt := 126) hx hb dX5_of_15 h18.1 h18.2 (by rw [e18]; rfl) (by decide) ?_
        have k18 : iv 8 8 p1 := iv_lit p1 e18
        refine lv_aload_n hx hb dX5_of_126 rfl (lv_at hl 0 rfl) ?_
        refine b_get (ci := 5) (C := RX5) (T := TX5) (Nf := 12) (v := .ref (q 1)) hx hb hts in_X5_of_X5 hown hK hH 0 (by decide) rfl rfl 0 (by decide) (hts (.fieldLink RX5 12 "StationLine" "bench" "LStationLine$Bench;") (List.mem_of_getElem? (i := 1) rfl)) rfl dX5_of_127 ?_
        refine lv_iconst (v := 1) hx hb dX5_of_130 (by decide) ?_
        refine lv_iload_n hx hb dX5_of_131 rfl (lv_at hl 1 rfl) ?_
        refine lv_ishl hx hb dX5_of_132 ?_
        refine h_i (a := 1) (b := 512) (iv_bit k16 (by decide) (by decide)) (fun w20 i20 => ?_)
        refine b_calli (As := [.int w20]) (rest := []) ⟨hx, hb, hml, hown, hts⟩ 1 0 (g_X0_loadOf_1 l D cy q hH.2.1 z0 hJ.1 w20) (cwV 1 hts gX5_of_X0_loadOf rfl rfl rfl (by decide +kernel) ⟨Nat.le_of_ble_eq_true rfl, Nat.le_of_ble_eq_true rfl⟩) hK hZ hH (by decide) rfl rfl rfl hl.1 rfl (Nat.le_of_ble_eq_true rfl) ⟨Nat.zero_le _, Nat.zero_le _⟩ dX5_of_133 (fun w21 z21 H locs hp hH => ?_)
        rw [Ag_0 hp.1.2] at hH
        exact hret _ z0 H locs _ _ ⟨hJ, (iv_all w21)⟩ hH dX5_of_136
  · skip
    have k22a : iv 0 0 w14 := iv_eql (iv_Eq c15) i14 (iv_lit (n := 0) 0 (by decide)) (by decide) (by decide)
    refine lv_bipush (v := (-2)) hx hb dX5_of_11 (by decide) ?_
    exact hret _ z0 H locs _ _ ⟨hJ, (iv_w (iv_lit (n := (-2)) (-2) (by decide)) (by decide) (by decide))⟩ hH dX5_of_13
set_option maxHeartbeats 4000000 in
set_option maxRecDepth 100000 in
theorem g_X5_put_0 (l : Launch) (D : va_G) (cy : Nat → ClassId) (q : Nat → Nat) (hq : bJ 66 q) (z0 : zS) (hI : IvC z0) (p0 : Int32) (p1 : Int32) : bCi l yX5_put wsX5_put ({ frames := 1, cells := 0, slots := 0, locals := 21 }) D cy 66 (enC cy) q z0 [.ref (q 0), .int p0, .int p1] (fun v z => jJ IvC 0 16384 0 z0 z ∧ iv (-2) 10 v) := by
  refine hM_i cX5_put (by decide) rfl (own := RX5) rfl hq (Nat.le_of_ble_eq_true rfl) ?_
  intro p e s m args below meth c Q ls H locs hx hb hml hown hts hK hZ hH hl hret
  have hl : lv_has ls 4 [(0, .ref (q 0)), (1, .int p0), (2, .int p1)] := hl
  have hJ : jJ IvC 0 16384 0 z0 z0 := jJ_rf _ _ _ hI
  have HJ18 : ∀ (z_18 : zS) (H : Heap) (locs : List Loc) (ls : Array Slot), jJ IvC 0 16384 0 z0 z_18 → bH D 66 (enC cy) q z_18 s.heap H locs → lv_has ls 4 [] → W p l e ({ frames := 1, cells := 0, slots := 0, locals := 21 }) s m args below meth c H locs 0 0 Q (F0 m 18 ls []) := by
    intro z_18 H locs ls hJ hH hl
    refine lv_bipush (v := (-2)) hx hb dX5_put_18 (by decide) ?_
    exact hret _ z_18 H locs _ _ ⟨hJ, (iv_w (iv_lit (n := (-2)) (-2) (by decide)) (by decide) (by decide))⟩ hH dX5_put_20
  refine lv_aload_n hx hb dX5_put_0 rfl (lv_at hl 0 rfl) ?_
  refine b_get (ci := 5) (C := RX5) (T := TX5) (Nf := 12) (v := .ref (q 1)) hx hb hts in_X5_put_X5 hown hK hH 0 (by decide) rfl rfl 0 (by decide) (hts (.fieldLink RX5 12 "StationLine" "bench" "LStationLine$Bench;") (List.mem_of_getElem? (i := 1) rfl)) rfl dX5_put_1 ?_
  refine lv_iload_n hx hb dX5_put_4 rfl (lv_at hl 1 rfl) ?_
  refine b_calli (As := [.int p0]) (rest := []) ⟨hx, hb, hml, hown, hts⟩ 1 0 (g_X0_has_1 l D cy q hH.2.1 z0 hJ.1 p0) (cwV 1 hts gX5_put_X0_has rfl rfl rfl (by decide +kernel) ⟨Nat.le_of_ble_eq_true rfl, Nat.le_of_ble_eq_true rfl⟩) hK hZ hH (by decide) rfl rfl rfl hl.1 rfl (Nat.le_of_ble_eq_true rfl) ⟨Nat.zero_le _, Nat.zero_le _⟩ dX5_put_5 (fun w13 z13 H locs hp hH => ?_)
  rw [Ag_0 hp.1.2] at hH
  have i13 := hp.2.1
  have tr13_0 := hp.2.2.1
  have f13_0 := hp.2.2.2
  refine lv_if_eq (tgt := 18) hx hb dX5_put_8 (by decide) (fun c14 => ?_) (fun c14 => ?_)
  · skip
    have k15a : iv 0 0 w13 := iv_eql (iv_Eq c14) i13 (iv_lit (n := 0) 0 (by decide)) (by decide) (by decide)
    exact HJ18  z0 H locs ls  hJ hH (lv_sub hl [] rfl)
  · skip
    have k16 : iv 0 9 p0 := (tr13_0).resolve_left c14
    have k17a : iv 1 1 w13 := iv_neLo (iv_nEq c14) i13 (by decide) (by decide)
    refine lv_iload_n hx hb dX5_put_11 rfl (lv_at hl 2 rfl) ?_
    refine b_stati (As := [.int p1]) (rest := []) ⟨hx, hb, hml, hown, hts⟩ (g_X5_isStationOrNone l D cy q hH.2.1 z0 hJ.1 p1) (va_cwS 1 hts gX5_put_X5_isStationOrNone rfl rfl rfl (by decide +kernel) ⟨Nat.le_of_ble_eq_true rfl, Nat.le_of_ble_eq_true rfl⟩) hK hZ hH rfl hl.1 rfl (Nat.le_of_ble_eq_true rfl) ⟨Nat.zero_le _, Nat.zero_le _⟩ dX5_put_12 (fun w18 z18 H locs hp hH => ?_)
    rw [Ag_0 hp.1.2] at hH
    have i18 := hp.2.1
    have tr18_0 := hp.2.2.1
    have f18_0 := hp.2.2.2
    refine lv_if_ne (tgt := 21) hx hb dX5_put_15 (by decide) (fun c19 => ?_) (fun c19 => ?_)
    · skip
      have k20 : iv 0 10 p1 := (tr18_0).resolve_left c19
      have k21a : iv 1 1 w18 := iv_neLo (iv_nEq c19) i18 (by decide) (by decide)
      refine lv_aload_n hx hb dX5_put_21 rfl (lv_at hl 0 rfl) ?_
      refine b_get (ci := 5) (C := RX5) (T := TX5) (Nf := 12) (v := .ref (q 13)) hx hb hts in_X5_put_X5 hown hK hH 0 (by decide) rfl rfl 1 (by decide) (hts (.fieldLink RX5 21 "StationLine" "hand" "LStationLine$Putting;") (List.mem_of_getElem? (i := 2) rfl)) rfl dX5_put_22 ?_
      refine b_get (ci := 1) (C := RX1) (T := TX1) (Nf := 2) (v := .ref (q 14)) hx hb hts in_X5_put_X1 hown hK hH 13 (by decide) rfl rfl 1 (by decide) (hts (.fieldLink RX5 77 "StationLine$Putting" "row" "[I") (List.mem_of_getElem? (i := 3) rfl)) rfl dX5_put_25 ?_
      refine lv_iload_n hx hb dX5_put_28 rfl (lv_at hl 1 rfl) ?_
      refine b_iald (v := z0.2.1 14 (p0 : Int32).toNatClampNeg) hx hb hK hH 14 (by decide) rfl (iv_in k16 (by decide) (by decide)) rfl dX5_put_29 ?_
      have i22 : iv 0 10 (z0.2.1 14 (p0 : Int32).toNatClampNeg) := IvC_a14 hJ.1 _ (b_inlt (iv_in k16 (by decide) (by decide)))
      refine lv_istore_n (lv' := [(3, .int (z0.2.1 14 (p0 : Int32).toNatClampNeg)), (0, .ref (q 0)), (1, .int p0), (2, .int p1)]) hx hb dX5_put_30 rfl hl (by decide) rfl (fun ls hl => ?_)
      refine lv_aload_n hx hb dX5_put_31 rfl (lv_at hl 1 rfl) ?_
      refine b_get (ci := 5) (C := RX5) (T := TX5) (Nf := 12) (v := .ref (q 13)) hx hb hts in_X5_put_X5 hown hK hH 0 (by decide) rfl rfl 1 (by decide) (hts (.fieldLink RX5 21 "StationLine" "hand" "LStationLine$Putting;") (List.mem_of_getElem? (i := 2) rfl)) rfl dX5_put_32 ?_
      refine b_get (ci := 1) (C := RX1) (T := TX1) (Nf := 2) (v := .ref (q 14)) hx hb hts in_X5_put_X1 hown hK hH 13 (by decide) rfl rfl 1 (by decide) (hts (.fieldLink RX5 77 "StationLine$Putting" "row" "[I") (List.mem_of_getElem? (i := 3) rfl)) rfl dX5_put_35 ?_
      refine lv_iload_n hx hb dX5_put_38 rfl (lv_at hl 2 rfl) ?_
      refine lv_iload_n hx hb dX5_put_39 rfl (lv_at hl 3 rfl) ?_
      refine b_iast hx hb hK hH 14 (by decide) rfl (iv_in k16 (by decide) (by decide)) (upA z0 14 (upd (z0.2.1 14) (p0 : Int32).toNatClampNeg p1)) rfl (enC_A _ _ _ _ _) dX5_put_40 (fun H locs hH => ?_)
      obtain ⟨z23, hz23⟩ : ∃ w : zS, w = upA z0 14 (upd (z0.2.1 14) (p0 : Int32).toNatClampNeg p1) := ⟨_, rfl⟩
      rw [← hz23] at hH
      have hJ : jJ IvC 0 16384 0 z0 z23 := by rw [hz23]; exact jJ_A hJ (by decide) (IvC_A14 hJ.1 _ (iv_w k20 (by decide) (by decide)))
      refine lv_iload_n hx hb dX5_put_41 rfl (lv_at hl 0 rfl) ?_
      exact hret _ z23 H locs _ _ ⟨hJ, (iv_w i22 (by decide) (by decide))⟩ hH dX5_put_42
    · skip
      have k24a : iv 0 0 w18 := iv_eql (iv_Eq c19) i18 (iv_lit (n := 0) 0 (by decide)) (by decide) (by decide)
      exact HJ18  z0 H locs ls  hJ hH (lv_sub hl [] rfl)
set_option maxHeartbeats 4000000 in
set_option maxRecDepth 100000 in
theorem g_X5_cause_0 (l : Launch) (D : va_G) (cy : Nat → ClassId) (q : Nat → Nat) (hq : bJ 66 q) (z0 : zS) (hI : IvC z0) (p0 : Int32) : bCi l yX5_cause wsX5_cause ({ frames := 4, cells := 0, slots := 0, locals := 97 }) D cy 66 (enC cy) q z0 [.ref (q 0), .int p0] (fun v z => jJ IvC 0 0 0 z0 z ∧ iv (-2) 6 v) := by
  refine hM_i cX5_cause (by decide) rfl (own := RX5) rfl hq (Nat.le_of_ble_eq_true rfl) ?_
  intro p e s m args below meth c Q ls H locs hx hb hml hown hts hK hZ hH hl hret
  have hl : lv_has ls 2 [(0, .ref (q 0)), (1, .int p0)] := hl
  have hJ : jJ IvC 0 0 0 z0 z0 := jJ_rf _ _ _ hI
  refine lv_aload_n hx hb dX5_cause_0 rfl (lv_at hl 0 rfl) ?_
  refine b_get (ci := 5) (C := RX5) (T := TX5) (Nf := 12) (v := .ref (q 1)) hx hb hts in_X5_cause_X5 hown hK hH 0 (by decide) rfl rfl 0 (by decide) (hts (.fieldLink RX5 12 "StationLine" "bench" "LStationLine$Bench;") (List.mem_of_getElem? (i := 1) rfl)) rfl dX5_cause_1 ?_
  refine lv_iload_n hx hb dX5_cause_4 rfl (lv_at hl 1 rfl) ?_
  refine b_calli (As := [.int p0]) (rest := []) ⟨hx, hb, hml, hown, hts⟩ 1 0 (g_X0_has_1 l D cy q hH.2.1 z0 hJ.1 p0) (cwV 1 hts gX5_cause_X0_has rfl rfl rfl (by decide +kernel) ⟨Nat.le_of_ble_eq_true rfl, Nat.le_of_ble_eq_true rfl⟩) hK hZ hH (by decide) rfl rfl rfl hl.1 rfl (Nat.le_of_ble_eq_true rfl) ⟨Nat.zero_le _, Nat.zero_le _⟩ dX5_cause_5 (fun w7 z7 H locs hp hH => ?_)
  rw [Ag_0 hp.1.2] at hH
  have i7 := hp.2.1
  have tr7_0 := hp.2.2.1
  have f7_0 := hp.2.2.2
  refine lv_if_eq (tgt := 22) hx hb dX5_cause_8 (by decide) (fun c8 => ?_) (fun c8 => ?_)
  · skip
    have k9a : iv 0 0 w7 := iv_eql (iv_Eq c8) i7 (iv_lit (n := 0) 0 (by decide)) (by decide) (by decide)
    refine lv_bipush (v := (-2)) hx hb dX5_cause_22 (by decide) ?_
    exact hret _ z0 H locs _ _ ⟨hJ, (iv_w (iv_lit (n := (-2)) (-2) (by decide)) (by decide) (by decide))⟩ hH dX5_cause_24
  · skip
    have k10 : iv 0 9 p0 := (tr7_0).resolve_left c8
    have k11a : iv 1 1 w7 := iv_neLo (iv_nEq c8) i7 (by decide) (by decide)
    refine lv_aload_n hx hb dX5_cause_11 rfl (lv_at hl 0 rfl) ?_
    refine b_get (ci := 5) (C := RX5) (T := TX5) (Nf := 12) (v := .ref (q 13)) hx hb hts in_X5_cause_X5 hown hK hH 0 (by decide) rfl rfl 1 (by decide) (hts (.fieldLink RX5 21 "StationLine" "hand" "LStationLine$Putting;") (List.mem_of_getElem? (i := 2) rfl)) rfl dX5_cause_12 ?_
    refine lv_iload_n hx hb dX5_cause_15 rfl (lv_at hl 1 rfl) ?_
    refine b_calli (As := [.int p0]) (rest := []) ⟨hx, hb, hml, hown, hts⟩ 13 1 (g_X1_causeOf_13 l D cy q hH.2.1 z0 hJ.1 p0 k10) (cwV 1 hts gX5_cause_X1_causeOf rfl rfl rfl (by decide +kernel) ⟨Nat.le_of_ble_eq_true rfl, Nat.le_of_ble_eq_true rfl⟩) hK hZ hH (by decide) rfl rfl rfl hl.1 rfl (Nat.le_of_ble_eq_true rfl) ⟨Nat.zero_le _, Nat.zero_le _⟩ dX5_cause_16 (fun w12 z12 H locs hp hH => ?_)
    rw [Ag_0 hp.1.2] at hH
    have i12 := hp.2
    refine lv_goto (tgt := 24) hx hb dX5_cause_19 (by decide) ?_
    exact hret _ z0 H locs _ _ ⟨hJ, (iv_w i12 (by decide) (by decide))⟩ hH dX5_cause_24
set_option maxHeartbeats 4000000 in
set_option maxRecDepth 100000 in
theorem g_X5_clash_0 (l : Launch) (D : va_G) (cy : Nat → ClassId) (q : Nat → Nat) (hq : bJ 66 q) (z0 : zS) (hI : IvC z0)  : bCi l yX5_clash wsX5_clash ({ frames := 5, cells := 0, slots := 0, locals := 118 }) D cy 66 (enC cy) q z0 [.ref (q 0)] (fun v z => jJ IvC 0 0 0 z0 z ∧ iv (-1) 9 v) := by
  refine hM_i cX5_clash (by decide) rfl (own := RX5) rfl hq (Nat.le_of_ble_eq_true rfl) ?_
  intro p e s m args below meth c Q ls H locs hx hb hml hown hts hK hZ hH hl hret
  have hl : lv_has ls 1 [(0, .ref (q 0))] := hl
  have hJ : jJ IvC 0 0 0 z0 z0 := jJ_rf _ _ _ hI
  refine lv_aload_n hx hb dX5_clash_0 rfl (lv_at hl 0 rfl) ?_
  refine b_get (ci := 5) (C := RX5) (T := TX5) (Nf := 12) (v := .ref (q 13)) hx hb hts in_X5_clash_X5 hown hK hH 0 (by decide) rfl rfl 1 (by decide) (hts (.fieldLink RX5 21 "StationLine" "hand" "LStationLine$Putting;") (List.mem_of_getElem? (i := 1) rfl)) rfl dX5_clash_1 ?_
  refine b_calli (As := []) (rest := []) ⟨hx, hb, hml, hown, hts⟩ 13 1 (g_X1_firstClash_13 l D cy q hH.2.1 z0 hJ.1 ) (cwV 0 hts gX5_clash_X1_firstClash rfl rfl rfl (by decide +kernel) ⟨Nat.le_of_ble_eq_true rfl, Nat.le_of_ble_eq_true rfl⟩) hK hZ hH (by decide) rfl rfl rfl hl.1 rfl (Nat.le_of_ble_eq_true rfl) ⟨Nat.zero_le _, Nat.zero_le _⟩ dX5_clash_4 (fun w2 z2 H locs hp hH => ?_)
  rw [Ag_0 hp.1.2] at hH
  have i2 := hp.2
  exact hret _ z0 H locs _ _ ⟨hJ, i2⟩ hH dX5_clash_7
set_option maxHeartbeats 4000000 in
set_option maxRecDepth 100000 in
theorem g_X5_station_0 (l : Launch) (D : va_G) (cy : Nat → ClassId) (q : Nat → Nat) (hq : bJ 66 q) (z0 : zS) (hI : IvC z0) (p0 : Int32) (p1 : Int32) : bCi l yX5_station wsX5_station ({ frames := 3, cells := 0, slots := 0, locals := 74 }) D cy 66 (enC cy) q z0 [.ref (q 0), .int p0, .int p1] (fun v z => jJ IvC 0 0 0 z0 z ∧ iv (-2147483648) 2147483647 v) := by
  refine hM_i cX5_station (by decide) rfl (own := RX5) rfl hq (Nat.le_of_ble_eq_true rfl) ?_
  intro p e s m args below meth c Q ls H locs hx hb hml hown hts hK hZ hH hl hret
  have hl : lv_has ls 5 [(0, .ref (q 0)), (1, .int p0), (2, .int p1)] := hl
  have hJ : jJ IvC 0 0 0 z0 z0 := jJ_rf _ _ _ hI
  have HJ20 : ∀ (H : Heap) (locs : List Loc) (ls : Array Slot), bH D 66 (enC cy) q z0 s.heap H locs → lv_has ls 5 [] → W p l e ({ frames := 3, cells := 0, slots := 0, locals := 74 }) s m args below meth c H locs 0 0 Q (F0 m 20 ls []) := by
    intro H locs ls hH hl
    refine lv_bipush (v := (-2)) hx hb dX5_station_20 (by decide) ?_
    exact hret _ z0 H locs _ _ ⟨hJ, (iv_w (iv_lit (n := (-2)) (-2) (by decide)) (by decide) (by decide))⟩ hH dX5_station_22
  refine lv_iload_n hx hb dX5_station_0 rfl (lv_at hl 1 rfl) ?_
  refine lv_iconst (v := 1) hx hb dX5_station_1 (by decide) ?_
  refine lv_icmp_lt (tgt := 20) hx hb dX5_station_2 (by decide) (fun c23 => ?_) (fun c23 => ?_)
  · skip
    have k24a : iv (-2147483648) 0 p0 := iv_ltl (iv_Lt c23) (iv_all p0) (iv_lit (n := 1) 1 (by decide)) (by decide)
    exact HJ20   H locs ls   hH (lv_sub hl [] rfl)
  · skip
    have k25b : iv 1 2147483647 p0 := iv_ler (iv_nLt c23) (iv_lit (n := 1) 1 (by decide)) (iv_all p0)
    refine lv_iload_n hx hb dX5_station_5 rfl (lv_at hl 1 rfl) ?_
    refine lv_bipush (v := 10) hx hb dX5_station_6 (by decide) ?_
    refine lv_icmp_gt (tgt := 20) hx hb dX5_station_8 (by decide) (fun c26 => ?_) (fun c26 => ?_)
    · skip
      have k27b : iv 11 2147483647 p0 := iv_ltr (iv_Lt c26) (iv_lit (n := 10) 10 (by decide)) k25b (by decide)
      exact HJ20   H locs ls   hH (lv_sub hl [] rfl)
    · skip
      have k28a : iv 1 10 p0 := iv_lel (iv_nLt c26) k25b (iv_lit (n := 10) 10 (by decide))
      refine lv_iload_n hx hb dX5_station_11 rfl (lv_at hl 2 rfl) ?_
      refine lv_if_lt (tgt := 20) hx hb dX5_station_12 (by decide) (fun c29 => ?_) (fun c29 => ?_)
      · skip
        have k30a : iv (-2147483648) (-1) p1 := iv_ltl (iv_Lt c29) (iv_all p1) (iv_lit (n := 0) 0 (by decide)) (by decide)
        exact HJ20   H locs ls   hH (lv_sub hl [] rfl)
      · skip
        have k31b : iv 0 2147483647 p1 := iv_ler (iv_nLt c29) (iv_lit (n := 0) 0 (by decide)) (iv_all p1)
        refine lv_iload_n hx hb dX5_station_15 rfl (lv_at hl 2 rfl) ?_
        refine lv_iconst (v := 2) hx hb dX5_station_16 (by decide) ?_
        refine lv_icmp_le (tgt := 23) hx hb dX5_station_17 (by decide) (fun c32 => ?_) (fun c32 => ?_)
        · skip
          have k33a : iv 0 2 p1 := iv_lel (iv_Le c32) k31b (iv_lit (n := 2) 2 (by decide))
          refine lv_aload_n hx hb dX5_station_23 rfl (lv_at hl 0 rfl) ?_
          refine b_get (ci := 5) (C := RX5) (T := TX5) (Nf := 12) (v := .ref (q 13)) hx hb hts in_X5_station_X5 hown hK hH 0 (by decide) rfl rfl 1 (by decide) (hts (.fieldLink RX5 21 "StationLine" "hand" "LStationLine$Putting;") (List.mem_of_getElem? (i := 1) rfl)) rfl dX5_station_24 ?_
          refine lv_iload_n hx hb dX5_station_27 rfl (lv_at hl 1 rfl) ?_
          refine b_calli (As := [.int p0]) (rest := []) ⟨hx, hb, hml, hown, hts⟩ 13 1 (g_X1_setAt_13 l D cy q hH.2.1 z0 hJ.1 p0) (cwV 1 hts gX5_station_X1_setAt rfl rfl rfl (by decide +kernel) ⟨Nat.le_of_ble_eq_true rfl, Nat.le_of_ble_eq_true rfl⟩) hK hZ hH (by decide) rfl rfl rfl hl.1 rfl (Nat.le_of_ble_eq_true rfl) ⟨Nat.zero_le _, Nat.zero_le _⟩ dX5_station_28 (fun w34 z34 H locs hp hH => ?_)
          rw [Ag_0 hp.1.2] at hH
          have i34 := hp.2
          refine lv_istore_n (lv' := [(3, .int w34), (0, .ref (q 0)), (1, .int p0), (2, .int p1)]) hx hb dX5_station_31 rfl hl (by decide) rfl (fun ls hl => ?_)
          refine lv_iload_n hx hb dX5_station_32 rfl (lv_at hl 3 rfl) ?_
          refine lv_if_ne (tgt := 38) hx hb dX5_station_33 (by decide) (fun c35 => ?_) (fun c35 => ?_)
          · skip
            have k36a : iv 1 2 p1 := iv_neLo (iv_nEq c35) k33a (by decide) (by decide)
            refine lv_aload_n hx hb dX5_station_38 rfl (lv_at hl 1 rfl) ?_
            refine b_get (ci := 5) (C := RX5) (T := TX5) (Nf := 12) (v := .ref (q 1)) hx hb hts in_X5_station_X5 hown hK hH 0 (by decide) rfl rfl 0 (by decide) (hts (.fieldLink RX5 12 "StationLine" "bench" "LStationLine$Bench;") (List.mem_of_getElem? (i := 2) rfl)) rfl dX5_station_39 ?_
            refine lv_iload_n hx hb dX5_station_42 rfl (lv_at hl 0 rfl) ?_
            refine b_calli (As := [.int w34]) (rest := []) ⟨hx, hb, hml, hown, hts⟩ 1 0 (g_X0_loadOf_1 l D cy q hH.2.1 z0 hJ.1 w34) (cwV 1 hts gX5_station_X0_loadOf rfl rfl rfl (by decide +kernel) ⟨Nat.le_of_ble_eq_true rfl, Nat.le_of_ble_eq_true rfl⟩) hK hZ hH (by decide) rfl rfl rfl hl.1 rfl (Nat.le_of_ble_eq_true rfl) ⟨Nat.zero_le _, Nat.zero_le _⟩ dX5_station_43 (fun w37 z37 H locs hp hH => ?_)
            rw [Ag_0 hp.1.2] at hH
            refine lv_istore (lv' := [(4, .int w37), (3, .int w34), (0, .ref (q 0)), (1, .int p0), (2, .int p1)]) hx hb dX5_station_46 hl (by decide) rfl (fun ls hl => ?_)
            refine lv_iload_n hx hb dX5_station_48 rfl (lv_at hl 4 rfl) ?_
            refine lv_iconst (v := 1) hx hb dX5_station_49 (by decide) ?_
            refine lv_icmp_ne (tgt := 58) hx hb dX5_station_50 (by decide) (fun c38 => ?_) (fun c38 => ?_)
            · skip
              have k39a : iv 2 2 p1 := iv_neLo (iv_nEq c38) k36a (by decide) (by decide)
              refine lv_aload_n hx hb dX5_station_58 rfl (lv_at hl 2 rfl) ?_
              refine b_get (ci := 5) (C := RX5) (T := TX5) (Nf := 12) (v := .ref (q 1)) hx hb hts in_X5_station_X5 hown hK hH 0 (by decide) rfl rfl 0 (by decide) (hts (.fieldLink RX5 12 "StationLine" "bench" "LStationLine$Bench;") (List.mem_of_getElem? (i := 2) rfl)) rfl dX5_station_59 ?_
              refine b_calli (As := []) (rest := []) ⟨hx, hb, hml, hown, hts⟩ 1 0 (g_X0_room_1 l D cy q hH.2.1 z0 hJ.1 ) (cwV 0 hts gX5_station_X0_room rfl rfl rfl (by decide +kernel) ⟨Nat.le_of_ble_eq_true rfl, Nat.le_of_ble_eq_true rfl⟩) hK hZ hH (by decide) rfl rfl rfl hl.1 rfl (Nat.le_of_ble_eq_true rfl) ⟨Nat.zero_le _, Nat.zero_le _⟩ dX5_station_62 (fun w40 z40 H locs hp hH => ?_)
              rw [Ag_0 hp.1.2] at hH
              refine lv_iload hx hb dX5_station_65 (lv_at hl 0 rfl) ?_
              refine lv_isub hx hb dX5_station_67 ?_
              refine lv_topi (fun w41 _ => ?_)
              exact hret _ z0 H locs _ _ ⟨hJ, (iv_all w41)⟩ hH dX5_station_68
            · skip
              have k42a : iv 1 1 p1 := iv_eql (iv_Eq c38) k36a (iv_lit (n := 1) 1 (by decide)) (by decide) (by decide)
              refine lv_iload hx hb dX5_station_53 (lv_at hl 0 rfl) ?_
              refine lv_goto (tgt := 68) hx hb dX5_station_55 (by decide) ?_
              exact hret _ z0 H locs _ _ ⟨hJ, (iv_all w37)⟩ hH dX5_station_68
          · skip
            have k43a : iv 0 0 p1 := iv_eql (iv_Eq c35) k33a (iv_lit (n := 0) 0 (by decide)) (by decide) (by decide)
            refine lv_iload_n hx hb dX5_station_36 rfl (lv_at hl 0 rfl) ?_
            exact hret _ z0 H locs _ _ ⟨hJ, (iv_w i34 (by decide) (by decide))⟩ hH dX5_station_37
        · skip
          have k44b : iv 3 2147483647 p1 := iv_ltr (iv_nLe c32) (iv_lit (n := 2) 2 (by decide)) k31b (by decide)
          exact HJ20   H locs ls   hH (lv_sub hl [] rfl)
set_option maxHeartbeats 4000000 in
set_option maxRecDepth 100000 in
theorem g_X5_length_0 (l : Launch) (D : va_G) (cy : Nat → ClassId) (q : Nat → Nat) (hq : bJ 66 q) (z0 : zS) (hI : IvC z0)  : bCi l yX5_length wsX5_length ({ frames := 2, cells := 0, slots := 0, locals := 50 }) D cy 66 (enC cy) q z0 [.ref (q 0)] (fun v z => jJ IvC 0 0 0 z0 z ∧ iv 0 10 v) := by
  refine hM_i cX5_length (by decide) rfl (own := RX5) rfl hq (Nat.le_of_ble_eq_true rfl) ?_
  intro p e s m args below meth c Q ls H locs hx hb hml hown hts hK hZ hH hl hret
  have hl : lv_has ls 1 [(0, .ref (q 0))] := hl
  have hJ : jJ IvC 0 0 0 z0 z0 := jJ_rf _ _ _ hI
  refine lv_aload_n hx hb dX5_length_0 rfl (lv_at hl 0 rfl) ?_
  refine b_get (ci := 5) (C := RX5) (T := TX5) (Nf := 12) (v := .ref (q 13)) hx hb hts in_X5_length_X5 hown hK hH 0 (by decide) rfl rfl 1 (by decide) (hts (.fieldLink RX5 21 "StationLine" "hand" "LStationLine$Putting;") (List.mem_of_getElem? (i := 1) rfl)) rfl dX5_length_1 ?_
  refine b_calli (As := []) (rest := []) ⟨hx, hb, hml, hown, hts⟩ 13 1 (g_X1_greatest_13 l D cy q hH.2.1 z0 hJ.1 ) (cwV 0 hts gX5_length_X1_greatest rfl rfl rfl (by decide +kernel) ⟨Nat.le_of_ble_eq_true rfl, Nat.le_of_ble_eq_true rfl⟩) hK hZ hH (by decide) rfl rfl rfl hl.1 rfl (Nat.le_of_ble_eq_true rfl) ⟨Nat.zero_le _, Nat.zero_le _⟩ dX5_length_4 (fun w2 z2 H locs hp hH => ?_)
  rw [Ag_0 hp.1.2] at hH
  have i2 := hp.2
  exact hret _ z0 H locs _ _ ⟨hJ, i2⟩ hH dX5_length_7
set_option maxHeartbeats 4000000 in
set_option maxRecDepth 100000 in
theorem g_X5_squares_0 (l : Launch) (D : va_G) (cy : Nat → ClassId) (q : Nat → Nat) (hq : bJ 66 q) (z0 : zS) (hI : IvC z0)  : bCl l yX5_squares wsX5_squares ({ frames := 5, cells := 0, slots := 0, locals := 120 }) D cy 66 (enC cy) q z0 [.ref (q 0)] (fun v z => jJ IvC 0 0 0 z0 z) := by
  refine hM_l cX5_squares (by decide) rfl (own := RX5) rfl hq (Nat.le_of_ble_eq_true rfl) ?_
  intro p e s m args below meth c Q ls H locs hx hb hml hown hts hK hZ hH hl hret
  have hl : lv_has ls 1 [(0, .ref (q 0))] := hl
  have hJ : jJ IvC 0 0 0 z0 z0 := jJ_rf _ _ _ hI
  refine lv_aload_n hx hb dX5_squares_0 rfl (lv_at hl 0 rfl) ?_
  refine b_get (ci := 5) (C := RX5) (T := TX5) (Nf := 12) (v := .ref (q 13)) hx hb hts in_X5_squares_X5 hown hK hH 0 (by decide) rfl rfl 1 (by decide) (hts (.fieldLink RX5 21 "StationLine" "hand" "LStationLine$Putting;") (List.mem_of_getElem? (i := 1) rfl)) rfl dX5_squares_1 ?_
  refine b_calll (As := []) (rest := []) ⟨hx, hb, hml, hown, hts⟩ 13 1 (g_X1_squareSum_13 l D cy q hH.2.1 z0 hJ.1 ) (cwV 0 hts gX5_squares_X1_squareSum rfl rfl rfl (by decide +kernel) ⟨Nat.le_of_ble_eq_true rfl, Nat.le_of_ble_eq_true rfl⟩) hK hZ hH (by decide) rfl rfl rfl hl.1 rfl (Nat.le_of_ble_eq_true rfl) ⟨Nat.zero_le _, Nat.zero_le _⟩ dX5_squares_4 (fun w2 z2 H locs hp hH => ?_)
  rw [Ag_0 hp.2] at hH
  exact hret _ z0 H locs _ _ hJ hH dX5_squares_7
set_option maxHeartbeats 4000000 in
set_option maxRecDepth 100000 in
theorem g_X5_fewest_0 (l : Launch) (D : va_G) (cy : Nat → ClassId) (q : Nat → Nat) (hq : bJ 66 q) (z0 : zS) (hI : IvC z0)  : bCi l yX5_fewest wsX5_fewest ({ frames := 6, cells := 0, slots := 0, locals := 140 }) D cy 66 (enC cy) q z0 [.ref (q 0)] (fun v z => jJ IvC 256 816043786240 0 z0 z ∧ iv (-2147483648) 10 v) := by
  refine hM_i cX5_fewest (by decide) rfl (own := RX5) rfl hq (Nat.le_of_ble_eq_true rfl) ?_
  intro p e s m args below meth c Q ls H locs hx hb hml hown hts hK hZ hH hl hret
  have hl : lv_has ls 1 [(0, .ref (q 0))] := hl
  have hJ : jJ IvC 256 816043786240 0 z0 z0 := jJ_rf _ _ _ hI
  refine lv_aload_n hx hb dX5_fewest_0 rfl (lv_at hl 0 rfl) ?_
  refine b_get (ci := 5) (C := RX5) (T := TX5) (Nf := 12) (v := .ref (q 32)) hx hb hts in_X5_fewest_X5 hown hK hH 0 (by decide) rfl rfl 6 (by decide) (hts (.fieldLink RX5 45 "StationLine" "search" "LStationLine$Search;") (List.mem_of_getElem? (i := 1) rfl)) rfl dX5_fewest_1 ?_
  refine b_calli (As := []) (rest := []) ⟨hx, hb, hml, hown, hts⟩ 32 3 (g_X3_leastLength_32 l D cy q hH.2.1 z0 hJ.1 ) (cwV 0 hts gX5_fewest_X3_leastLength rfl rfl rfl (by decide +kernel) ⟨Nat.le_of_ble_eq_true rfl, Nat.le_of_ble_eq_true rfl⟩) hK hZ hH (by decide) rfl rfl rfl hl.1 rfl (Nat.le_of_ble_eq_true rfl) ⟨Nat.zero_le _, Nat.zero_le _⟩ dX5_fewest_4 (fun w2 z2 H locs hp hH => ?_)
  have hJ := jJ_tr hJ hp.1 (by decide) (by decide) (by decide)
  have i2 := hp.2
  have hA2 := hp.1.2
  exact hret _ z2 H locs _ _ ⟨hJ, i2⟩ hH dX5_fewest_7
set_option maxHeartbeats 4000000 in
set_option maxRecDepth 100000 in
theorem g_X5_many_0 (l : Launch) (D : va_G) (cy : Nat → ClassId) (q : Nat → Nat) (hq : bJ 66 q) (z0 : zS) (hI : IvC z0)  : bCl l yX5_many wsX5_many ({ frames := 6, cells := 0, slots := 0, locals := 140 }) D cy 66 (enC cy) q z0 [.ref (q 0)] (fun v z => jJ IvC 256 1090921693184 31522998368337920 z0 z) := by
  refine hM_l cX5_many (by decide) rfl (own := RX5) rfl hq (Nat.le_of_ble_eq_true rfl) ?_
  intro p e s m args below meth c Q ls H locs hx hb hml hown hts hK hZ hH hl hret
  have hl : lv_has ls 2 [(0, .ref (q 0))] := hl
  have hJ : jJ IvC 256 1090921693184 31522998368337920 z0 z0 := jJ_rf _ _ _ hI
  refine lv_aload_n hx hb dX5_many_0 rfl (lv_at hl 0 rfl) ?_
  refine b_get (ci := 5) (C := RX5) (T := TX5) (Nf := 12) (v := .ref (q 32)) hx hb hts in_X5_many_X5 hown hK hH 0 (by decide) rfl rfl 6 (by decide) (hts (.fieldLink RX5 45 "StationLine" "search" "LStationLine$Search;") (List.mem_of_getElem? (i := 1) rfl)) rfl dX5_many_1 ?_
  refine b_calli (As := []) (rest := []) ⟨hx, hb, hml, hown, hts⟩ 32 3 (g_X3_leastLength_32 l D cy q hH.2.1 z0 hJ.1 ) (cwV 0 hts gX5_many_X3_leastLength rfl rfl rfl (by decide +kernel) ⟨Nat.le_of_ble_eq_true rfl, Nat.le_of_ble_eq_true rfl⟩) hK hZ hH (by decide) rfl rfl rfl hl.1 rfl (Nat.le_of_ble_eq_true rfl) ⟨Nat.zero_le _, Nat.zero_le _⟩ dX5_many_4 (fun w6 z6 H locs hp hH => ?_)
  have hJ := jJ_tr hJ hp.1 (by decide) (by decide) (by decide)
  have i6 := hp.2
  have hA6 := hp.1.2
  refine lv_istore_n (lv' := [(1, .int w6), (0, .ref (q 0))]) hx hb dX5_many_7 rfl hl (by decide) rfl (fun ls hl => ?_)
  refine lv_iload_n hx hb dX5_many_8 rfl (lv_at hl 0 rfl) ?_
  refine lv_if_ge (tgt := 16) hx hb dX5_many_9 (by decide) (fun c7 => ?_) (fun c7 => ?_)
  · skip
    have k8b : iv 0 10 w6 := iv_ler (iv_Le c7) (iv_lit (n := 0) 0 (by decide)) i6
    refine lv_aload_n hx hb dX5_many_16 rfl (lv_at hl 1 rfl) ?_
    refine b_get (ci := 5) (C := RX5) (T := TX5) (Nf := 12) (v := .ref (q 32)) hx hb hts in_X5_many_X5 hown hK hH 0 (by decide) rfl rfl 6 (by decide) (hts (.fieldLink RX5 45 "StationLine" "search" "LStationLine$Search;") (List.mem_of_getElem? (i := 1) rfl)) rfl dX5_many_17 ?_
    refine lv_iload_n hx hb dX5_many_20 rfl (lv_at hl 0 rfl) ?_
    refine b_calll (As := [.int w6]) (rest := []) ⟨hx, hb, hml, hown, hts⟩ 32 3 (g_X3_waysFor_32 l D cy q hH.2.1 z6 hJ.1 w6 k8b) (cwV 1 hts gX5_many_X3_waysFor rfl rfl rfl (by decide +kernel) ⟨Nat.le_of_ble_eq_true rfl, Nat.le_of_ble_eq_true rfl⟩) hK hZ hH (by decide) rfl rfl rfl hl.1 rfl (Nat.le_of_ble_eq_true rfl) ⟨Nat.zero_le _, Nat.zero_le _⟩ dX5_many_21 (fun w9 z9 H locs hp hH => ?_)
    have hJ := jJ_tr hJ hp (by decide) (by decide) (by decide)
    have hA9 := hp.2
    exact hret _ z9 H locs _ _ hJ hH dX5_many_24
  · skip
    have k10a : iv (-2147483648) (-1) w6 := iv_ltl (iv_nLe c7) i6 (iv_lit (n := 0) 0 (by decide)) (by decide)
    refine lv_lconst (v := 0) hx hb dX5_many_12 (by decide) ?_
    refine lv_goto (tgt := 24) hx hb dX5_many_13 (by decide) ?_
    exact hret _ z6 H locs _ _ hJ hH dX5_many_24
set_option maxHeartbeats 4000000 in
set_option maxRecDepth 100000 in
theorem g_X5_best_0 (l : Launch) (D : va_G) (cy : Nat → ClassId) (q : Nat → Nat) (hq : bJ 66 q) (z0 : zS) (hI : IvC z0) (p0 : Int32) : bCi l yX5_best wsX5_best ({ frames := 6, cells := 0, slots := 0, locals := 140 }) D cy 66 (enC cy) q z0 [.ref (q 0), .int p0] (fun v z => jJ IvC 256 1090921709568 31522998368337920 z0 z ∧ iv (-4) 10 v) := by
  refine hM_i cX5_best (by decide) rfl (own := RX5) rfl hq (Nat.le_of_ble_eq_true rfl) ?_
  intro p e s m args below meth c Q ls H locs hx hb hml hown hts hK hZ hH hl hret
  have hl : lv_has ls 3 [(0, .ref (q 0)), (1, .int p0)] := hl
  have hJ : jJ IvC 256 1090921709568 31522998368337920 z0 z0 := jJ_rf _ _ _ hI
  refine lv_aload_n hx hb dX5_best_0 rfl (lv_at hl 0 rfl) ?_
  refine b_get (ci := 5) (C := RX5) (T := TX5) (Nf := 12) (v := .ref (q 32)) hx hb hts in_X5_best_X5 hown hK hH 0 (by decide) rfl rfl 6 (by decide) (hts (.fieldLink RX5 45 "StationLine" "search" "LStationLine$Search;") (List.mem_of_getElem? (i := 1) rfl)) rfl dX5_best_1 ?_
  refine b_calli (As := []) (rest := []) ⟨hx, hb, hml, hown, hts⟩ 32 3 (g_X3_leastLength_32 l D cy q hH.2.1 z0 hJ.1 ) (cwV 0 hts gX5_best_X3_leastLength rfl rfl rfl (by decide +kernel) ⟨Nat.le_of_ble_eq_true rfl, Nat.le_of_ble_eq_true rfl⟩) hK hZ hH (by decide) rfl rfl rfl hl.1 rfl (Nat.le_of_ble_eq_true rfl) ⟨Nat.zero_le _, Nat.zero_le _⟩ dX5_best_4 (fun w6 z6 H locs hp hH => ?_)
  have hJ := jJ_tr hJ hp.1 (by decide) (by decide) (by decide)
  have i6 := hp.2
  have hA6 := hp.1.2
  refine lv_istore_n (lv' := [(2, .int w6), (0, .ref (q 0)), (1, .int p0)]) hx hb dX5_best_7 rfl hl (by decide) rfl (fun ls hl => ?_)
  refine lv_iload_n hx hb dX5_best_8 rfl (lv_at hl 0 rfl) ?_
  refine lv_if_ge (tgt := 15) hx hb dX5_best_9 (by decide) (fun c7 => ?_) (fun c7 => ?_)
  · skip
    have k8b : iv 0 10 w6 := iv_ler (iv_Le c7) (iv_lit (n := 0) 0 (by decide)) i6
    refine lv_aload_n hx hb dX5_best_15 rfl (lv_at hl 1 rfl) ?_
    refine b_get (ci := 5) (C := RX5) (T := TX5) (Nf := 12) (v := .ref (q 32)) hx hb hts in_X5_best_X5 hown hK hH 0 (by decide) rfl rfl 6 (by decide) (hts (.fieldLink RX5 45 "StationLine" "search" "LStationLine$Search;") (List.mem_of_getElem? (i := 1) rfl)) rfl dX5_best_16 ?_
    refine lv_iload_n hx hb dX5_best_19 rfl (lv_at hl 0 rfl) ?_
    refine lv_iload_n hx hb dX5_best_20 rfl (lv_at hl 2 rfl) ?_
    refine lv_aload_n hx hb dX5_best_21 rfl (lv_at hl 1 rfl) ?_
    refine b_get (ci := 5) (C := RX5) (T := TX5) (Nf := 12) (v := .ref (q 13)) hx hb hts in_X5_best_X5 hown hK hH 0 (by decide) rfl rfl 1 (by decide) (hts (.fieldLink RX5 21 "StationLine" "hand" "LStationLine$Putting;") (List.mem_of_getElem? (i := 2) rfl)) rfl dX5_best_22 ?_
    refine b_get (ci := 1) (C := RX1) (T := TX1) (Nf := 2) (v := .ref (q 14)) hx hb hts in_X5_best_X1 hown hK hH 13 (by decide) rfl rfl 1 (by decide) (hts (.fieldLink RX5 77 "StationLine$Putting" "row" "[I") (List.mem_of_getElem? (i := 3) rfl)) rfl dX5_best_25 ?_
    refine b_callv (As := [.int w6, .int p0, .ref (q 14)]) (rest := []) ⟨hx, hb, hml, hown, hts⟩ 32 3 (g_X3_putFirst_32 l D cy q hH.2.1 z6 hJ.1 w6 k8b p0) (cwV 3 hts gX5_best_X3_putFirst rfl rfl rfl (by decide +kernel) ⟨Nat.le_of_ble_eq_true rfl, Nat.le_of_ble_eq_true rfl⟩) hK hZ hH (by decide) rfl rfl rfl hl.1 rfl (Nat.le_of_ble_eq_true rfl) ⟨Nat.zero_le _, Nat.zero_le _⟩ dX5_best_28 (fun z9 H locs hp hH => ?_)
    have hJ := jJ_tr hJ hp (by decide) (by decide) (by decide)
    have hA9 := hp.2
    refine lv_iload_n hx hb dX5_best_31 rfl (lv_at hl 0 rfl) ?_
    exact hret _ z9 H locs _ _ ⟨hJ, (iv_w k8b (by decide) (by decide))⟩ hH dX5_best_32
  · skip
    have k10a : iv (-2147483648) (-1) w6 := iv_ltl (iv_nLe c7) i6 (iv_lit (n := 0) 0 (by decide)) (by decide)
    refine lv_bipush (v := (-4)) hx hb dX5_best_12 (by decide) ?_
    exact hret _ z6 H locs _ _ ⟨hJ, (iv_w (iv_lit (n := (-4)) (-4) (by decide)) (by decide) (by decide))⟩ hH dX5_best_14
set_option maxHeartbeats 4000000 in
set_option maxRecDepth 100000 in
theorem g_X5_evenest_0 (l : Launch) (D : va_G) (cy : Nat → ClassId) (q : Nat → Nat) (hq : bJ 66 q) (z0 : zS) (hI : IvC z0)  : bCl l yX5_evenest wsX5_evenest ({ frames := 6, cells := 0, slots := 0, locals := 140 }) D cy 66 (enC cy) q z0 [.ref (q 0)] (fun v z => jJ IvC 256 1090921693184 31522998368337920 z0 z) := by
  refine hM_l cX5_evenest (by decide) rfl (own := RX5) rfl hq (Nat.le_of_ble_eq_true rfl) ?_
  intro p e s m args below meth c Q ls H locs hx hb hml hown hts hK hZ hH hl hret
  have hl : lv_has ls 2 [(0, .ref (q 0))] := hl
  have hJ : jJ IvC 256 1090921693184 31522998368337920 z0 z0 := jJ_rf _ _ _ hI
  refine lv_aload_n hx hb dX5_evenest_0 rfl (lv_at hl 0 rfl) ?_
  refine b_get (ci := 5) (C := RX5) (T := TX5) (Nf := 12) (v := .ref (q 32)) hx hb hts in_X5_evenest_X5 hown hK hH 0 (by decide) rfl rfl 6 (by decide) (hts (.fieldLink RX5 45 "StationLine" "search" "LStationLine$Search;") (List.mem_of_getElem? (i := 1) rfl)) rfl dX5_evenest_1 ?_
  refine b_calli (As := []) (rest := []) ⟨hx, hb, hml, hown, hts⟩ 32 3 (g_X3_leastLength_32 l D cy q hH.2.1 z0 hJ.1 ) (cwV 0 hts gX5_evenest_X3_leastLength rfl rfl rfl (by decide +kernel) ⟨Nat.le_of_ble_eq_true rfl, Nat.le_of_ble_eq_true rfl⟩) hK hZ hH (by decide) rfl rfl rfl hl.1 rfl (Nat.le_of_ble_eq_true rfl) ⟨Nat.zero_le _, Nat.zero_le _⟩ dX5_evenest_4 (fun w6 z6 H locs hp hH => ?_)
  have hJ := jJ_tr hJ hp.1 (by decide) (by decide) (by decide)
  have i6 := hp.2
  have hA6 := hp.1.2
  refine lv_istore_n (lv' := [(1, .int w6), (0, .ref (q 0))]) hx hb dX5_evenest_7 rfl hl (by decide) rfl (fun ls hl => ?_)
  refine lv_iload_n hx hb dX5_evenest_8 rfl (lv_at hl 0 rfl) ?_
  refine lv_if_ge (tgt := 18) hx hb dX5_evenest_9 (by decide) (fun c7 => ?_) (fun c7 => ?_)
  · skip
    have k8b : iv 0 10 w6 := iv_ler (iv_Le c7) (iv_lit (n := 0) 0 (by decide)) i6
    refine lv_aload_n hx hb dX5_evenest_18 rfl (lv_at hl 1 rfl) ?_
    refine b_get (ci := 5) (C := RX5) (T := TX5) (Nf := 12) (v := .ref (q 32)) hx hb hts in_X5_evenest_X5 hown hK hH 0 (by decide) rfl rfl 6 (by decide) (hts (.fieldLink RX5 45 "StationLine" "search" "LStationLine$Search;") (List.mem_of_getElem? (i := 1) rfl)) rfl dX5_evenest_19 ?_
    refine lv_iload_n hx hb dX5_evenest_22 rfl (lv_at hl 0 rfl) ?_
    refine b_calll (As := [.int w6]) (rest := []) ⟨hx, hb, hml, hown, hts⟩ 32 3 (g_X3_costFor_32 l D cy q hH.2.1 z6 hJ.1 w6 k8b) (cwV 1 hts gX5_evenest_X3_costFor rfl rfl rfl (by decide +kernel) ⟨Nat.le_of_ble_eq_true rfl, Nat.le_of_ble_eq_true rfl⟩) hK hZ hH (by decide) rfl rfl rfl hl.1 rfl (Nat.le_of_ble_eq_true rfl) ⟨Nat.zero_le _, Nat.zero_le _⟩ dX5_evenest_23 (fun w9 z9 H locs hp hH => ?_)
    have hJ := jJ_tr hJ hp (by decide) (by decide) (by decide)
    have hA9 := hp.2
    exact hret _ z9 H locs _ _ hJ hH dX5_evenest_26
  · skip
    have k10a : iv (-2147483648) (-1) w6 := iv_ltl (iv_nLe c7) i6 (iv_lit (n := 0) 0 (by decide)) (by decide)
    refine lv_ldc2 hx hb hown (hts (.constantLong RX5 173 (-1)) (List.mem_of_getElem? (i := 2) rfl)) dX5_evenest_12 ?_
    refine lv_goto (tgt := 26) hx hb dX5_evenest_15 (by decide) ?_
    exact hret _ z6 H locs _ _ hJ hH dX5_evenest_26
set_option maxHeartbeats 4000000 in
set_option maxRecDepth 100000 in
theorem g_X5_leastBeat_0 (l : Launch) (D : va_G) (cy : Nat → ClassId) (q : Nat → Nat) (hq : bJ 66 q) (z0 : zS) (hI : IvC z0) (p0 : Int32) : bCi l yX5_leastBeat wsX5_leastBeat ({ frames := 6, cells := 0, slots := 0, locals := 145 }) D cy 66 (enC cy) q z0 [.ref (q 0), .int p0] (fun v z => jJ IvC 256 816043786240 0 z0 z ∧ iv (-2147483648) 2147483647 v) := by
  refine hM_i cX5_leastBeat (by decide) rfl (own := RX5) rfl hq (Nat.le_of_ble_eq_true rfl) ?_
  intro p e s m args below meth c Q ls H locs hx hb hml hown hts hK hZ hH hl hret
  have hl : lv_has ls 2 [(0, .ref (q 0)), (1, .int p0)] := hl
  have hJ : jJ IvC 256 816043786240 0 z0 z0 := jJ_rf _ _ _ hI
  refine lv_iload_n hx hb dX5_leastBeat_0 rfl (lv_at hl 1 rfl) ?_
  refine b_stati (As := [.int p0]) (rest := []) ⟨hx, hb, hml, hown, hts⟩ (g_X5_isStation l D cy q hH.2.1 z0 hJ.1 p0) (va_cwS 1 hts gX5_leastBeat_X5_isStation rfl rfl rfl (by decide +kernel) ⟨Nat.le_of_ble_eq_true rfl, Nat.le_of_ble_eq_true rfl⟩) hK hZ hH rfl hl.1 rfl (Nat.le_of_ble_eq_true rfl) ⟨Nat.zero_le _, Nat.zero_le _⟩ dX5_leastBeat_1 (fun w7 z7 H locs hp hH => ?_)
  rw [Ag_0 hp.1.2] at hH
  have i7 := hp.2.1
  have tr7_0 := hp.2.2
  refine lv_if_eq (tgt := 18) hx hb dX5_leastBeat_4 (by decide) (fun c8 => ?_) (fun c8 => ?_)
  · skip
    have k9a : iv 0 0 w7 := iv_eql (iv_Eq c8) i7 (iv_lit (n := 0) 0 (by decide)) (by decide) (by decide)
    refine lv_bipush (v := (-2)) hx hb dX5_leastBeat_18 (by decide) ?_
    exact hret _ z0 H locs _ _ ⟨hJ, (iv_w (iv_lit (n := (-2)) (-2) (by decide)) (by decide) (by decide))⟩ hH dX5_leastBeat_20
  · skip
    have k10 : iv 1 10 p0 := (tr7_0).resolve_left c8
    have k11a : iv 1 1 w7 := iv_neLo (iv_nEq c8) i7 (by decide) (by decide)
    refine lv_aload_n hx hb dX5_leastBeat_7 rfl (lv_at hl 0 rfl) ?_
    refine b_get (ci := 5) (C := RX5) (T := TX5) (Nf := 12) (v := .ref (q 32)) hx hb hts in_X5_leastBeat_X5 hown hK hH 0 (by decide) rfl rfl 6 (by decide) (hts (.fieldLink RX5 45 "StationLine" "search" "LStationLine$Search;") (List.mem_of_getElem? (i := 1) rfl)) rfl dX5_leastBeat_8 ?_
    refine lv_iload_n hx hb dX5_leastBeat_11 rfl (lv_at hl 1 rfl) ?_
    refine b_calli (As := [.int p0]) (rest := []) ⟨hx, hb, hml, hown, hts⟩ 32 3 (g_X3_leastBeatFor_32 l D cy q hH.2.1 z0 hJ.1 p0 k10) (cwV 1 hts gX5_leastBeat_X3_leastBeatFor rfl rfl rfl (by decide +kernel) ⟨Nat.le_of_ble_eq_true rfl, Nat.le_of_ble_eq_true rfl⟩) hK hZ hH (by decide) rfl rfl rfl hl.1 rfl (Nat.le_of_ble_eq_true rfl) ⟨Nat.zero_le _, Nat.zero_le _⟩ dX5_leastBeat_12 (fun w12 z12 H locs hp hH => ?_)
    have hJ := jJ_tr hJ hp.1 (by decide) (by decide) (by decide)
    have hA12 := hp.1.2
    refine lv_goto (tgt := 20) hx hb dX5_leastBeat_15 (by decide) ?_
    exact hret _ z12 H locs _ _ ⟨hJ, (iv_all w12)⟩ hH dX5_leastBeat_20
set_option maxHeartbeats 4000000 in
set_option maxRecDepth 100000 in
theorem g_X5_bound_0 (l : Launch) (D : va_G) (cy : Nat → ClassId) (q : Nat → Nat) (hq : bJ 66 q) (z0 : zS) (hI : IvC z0) (p0 : Int32) : bCi l yX5_bound wsX5_bound ({ frames := 4, cells := 0, slots := 0, locals := 99 }) D cy 66 (enC cy) q z0 [.ref (q 0), .int p0] (fun v z => jJ IvC 0 0 0 z0 z ∧ iv (-2147483648) 2147483647 v) := by
  refine hM_i cX5_bound (by decide) rfl (own := RX5) rfl hq (Nat.le_of_ble_eq_true rfl) ?_
  intro p e s m args below meth c Q ls H locs hx hb hml hown hts hK hZ hH hl hret
  have hl : lv_has ls 2 [(0, .ref (q 0)), (1, .int p0)] := hl
  have hJ : jJ IvC 0 0 0 z0 z0 := jJ_rf _ _ _ hI
  refine lv_iload_n hx hb dX5_bound_0 rfl (lv_at hl 1 rfl) ?_
  rcases (show p0.toInt = 0 ∨ p0.toInt = 1 ∨ (¬ p0.toInt = 0 ∧ ¬ p0.toInt = 1) by omega) with e5 | e5 | e5
  · refine lv_lookup (off := 27) (tgt := 28) hx hb dX5_bound_1 (by decide) (by rw [e5]; rfl) (by decide) ?_
    refine lv_aload_n hx hb dX5_bound_28 rfl (lv_at hl 0 rfl) ?_
    refine lv_aload_n hx hb dX5_bound_29 rfl (lv_at hl 0 rfl) ?_
    refine b_get (ci := 5) (C := RX5) (T := TX5) (Nf := 12) (v := .ref (q 1)) hx hb hts in_X5_bound_X5 hown hK hH 0 (by decide) rfl rfl 0 (by decide) (hts (.fieldLink RX5 12 "StationLine" "bench" "LStationLine$Bench;") (List.mem_of_getElem? (i := 1) rfl)) rfl dX5_bound_30 ?_
    refine b_calli (As := []) (rest := [.ref (q 0)]) ⟨hx, hb, hml, hown, hts⟩ 1 0 (g_X0_all_1 l D cy q hH.2.1 z0 hJ.1 ) (cwV 0 hts gX5_bound_X0_all rfl rfl rfl (by decide +kernel) ⟨Nat.le_of_ble_eq_true rfl, Nat.le_of_ble_eq_true rfl⟩) hK hZ hH (by decide) rfl rfl rfl hl.1 rfl (Nat.le_of_ble_eq_true rfl) ⟨Nat.zero_le _, Nat.zero_le _⟩ dX5_bound_33 (fun w6 z6 H locs hp hH => ?_)
    rw [Ag_0 hp.1.2] at hH
    have i6 := hp.2
    refine b_calli (As := [.int w6]) (rest := []) ⟨hx, hb, hml, hown, hts⟩ 0 5 (g_X5_stationsFor_0 l D cy q hH.2.1 z0 hJ.1 w6) (cwV 1 hts gX5_bound_X5_stationsFor rfl rfl rfl (by decide +kernel) ⟨Nat.le_of_ble_eq_true rfl, Nat.le_of_ble_eq_true rfl⟩) hK hZ hH (by decide) rfl rfl rfl hl.1 rfl (Nat.le_of_ble_eq_true rfl) ⟨Nat.zero_le _, Nat.zero_le _⟩ dX5_bound_36 (fun w7 z7 H locs hp hH => ?_)
    rw [Ag_0 hp.1.2] at hH
    exact hret _ z0 H locs _ _ ⟨hJ, (iv_all w7)⟩ hH dX5_bound_39
  · refine lv_lookup (off := 39) (tgt := 40) hx hb dX5_bound_1 (by decide) (by rw [e5]; rfl) (by decide) ?_
    refine lv_aload_n hx hb dX5_bound_40 rfl (lv_at hl 0 rfl) ?_
    refine b_get (ci := 5) (C := RX5) (T := TX5) (Nf := 12) (v := .ref (q 1)) hx hb hts in_X5_bound_X5 hown hK hH 0 (by decide) rfl rfl 0 (by decide) (hts (.fieldLink RX5 12 "StationLine" "bench" "LStationLine$Bench;") (List.mem_of_getElem? (i := 1) rfl)) rfl dX5_bound_41 ?_
    refine b_calli (As := []) (rest := []) ⟨hx, hb, hml, hown, hts⟩ 1 0 (g_X0_halfRoomBound_1 l D cy q hH.2.1 z0 hJ.1 ) (cwV 0 hts gX5_bound_X0_halfRoomBound rfl rfl rfl (by decide +kernel) ⟨Nat.le_of_ble_eq_true rfl, Nat.le_of_ble_eq_true rfl⟩) hK hZ hH (by decide) rfl rfl rfl hl.1 rfl (Nat.le_of_ble_eq_true rfl) ⟨Nat.zero_le _, Nat.zero_le _⟩ dX5_bound_44 (fun w8 z8 H locs hp hH => ?_)
    rw [Ag_0 hp.1.2] at hH
    exact hret _ z0 H locs _ _ ⟨hJ, (iv_all w8)⟩ hH dX5_bound_47
  · refine lv_lookup (off := 47) (tgt := 48) hx hb dX5_bound_1 (by decide) (by simp only [Op.lookupswitch.offset]; (repeat' split) <;> omega) (by decide) ?_
    refine lv_bipush (v := (-2)) hx hb dX5_bound_48 (by decide) ?_
    exact hret _ z0 H locs _ _ ⟨hJ, (iv_w (iv_lit (n := (-2)) (-2) (by decide)) (by decide) (by decide))⟩ hH dX5_bound_50
set_option maxHeartbeats 4000000 in
set_option maxRecDepth 100000 in
theorem g_X5_early_0 (l : Launch) (D : va_G) (cy : Nat → ClassId) (q : Nat → Nat) (hq : bJ 66 q) (z0 : zS) (hI : IvC z0) (p0 : Int32) : bCi l yX5_early wsX5_early ({ frames := 4, cells := 0, slots := 0, locals := 95 }) D cy 66 (enC cy) q z0 [.ref (q 0), .int p0] (fun v z => jJ IvC 0 0 0 z0 z ∧ iv (-2147483648) 2147483647 v) := by
  refine hM_i cX5_early (by decide) rfl (own := RX5) rfl hq (Nat.le_of_ble_eq_true rfl) ?_
  intro p e s m args below meth c Q ls H locs hx hb hml hown hts hK hZ hH hl hret
  have hl : lv_has ls 2 [(0, .ref (q 0)), (1, .int p0)] := hl
  have hJ : jJ IvC 0 0 0 z0 z0 := jJ_rf _ _ _ hI
  refine lv_aload_n hx hb dX5_early_0 rfl (lv_at hl 0 rfl) ?_
  refine b_get (ci := 5) (C := RX5) (T := TX5) (Nf := 12) (v := .ref (q 1)) hx hb hts in_X5_early_X5 hown hK hH 0 (by decide) rfl rfl 0 (by decide) (hts (.fieldLink RX5 12 "StationLine" "bench" "LStationLine$Bench;") (List.mem_of_getElem? (i := 1) rfl)) rfl dX5_early_1 ?_
  refine lv_iload_n hx hb dX5_early_4 rfl (lv_at hl 1 rfl) ?_
  refine b_calli (As := [.int p0]) (rest := []) ⟨hx, hb, hml, hown, hts⟩ 1 0 (g_X0_has_1 l D cy q hH.2.1 z0 hJ.1 p0) (cwV 1 hts gX5_early_X0_has rfl rfl rfl (by decide +kernel) ⟨Nat.le_of_ble_eq_true rfl, Nat.le_of_ble_eq_true rfl⟩) hK hZ hH (by decide) rfl rfl rfl hl.1 rfl (Nat.le_of_ble_eq_true rfl) ⟨Nat.zero_le _, Nat.zero_le _⟩ dX5_early_5 (fun w9 z9 H locs hp hH => ?_)
  rw [Ag_0 hp.1.2] at hH
  have i9 := hp.2.1
  have tr9_0 := hp.2.2.1
  have f9_0 := hp.2.2.2
  refine lv_if_eq (tgt := 31) hx hb dX5_early_8 (by decide) (fun c10 => ?_) (fun c10 => ?_)
  · skip
    have k11a : iv 0 0 w9 := iv_eql (iv_Eq c10) i9 (iv_lit (n := 0) 0 (by decide)) (by decide) (by decide)
    refine lv_bipush (v := (-2)) hx hb dX5_early_31 (by decide) ?_
    exact hret _ z0 H locs _ _ ⟨hJ, (iv_w (iv_lit (n := (-2)) (-2) (by decide)) (by decide) (by decide))⟩ hH dX5_early_33
  · skip
    have k12 : iv 0 9 p0 := (tr9_0).resolve_left c10
    have k13a : iv 1 1 w9 := iv_neLo (iv_nEq c10) i9 (by decide) (by decide)
    refine lv_aload_n hx hb dX5_early_11 rfl (lv_at hl 0 rfl) ?_
    refine lv_iconst (v := 1) hx hb dX5_early_12 (by decide) ?_
    refine lv_iload_n hx hb dX5_early_13 rfl (lv_at hl 1 rfl) ?_
    refine lv_ishl hx hb dX5_early_14 ?_
    refine h_i (a := 1) (b := 512) (iv_bit k12 (by decide) (by decide)) (fun w14 i14 => ?_)
    refine lv_aload_n hx hb dX5_early_15 rfl (lv_at hl 0 rfl) ?_
    refine b_get (ci := 5) (C := RX5) (T := TX5) (Nf := 12) (v := .ref (q 1)) hx hb hts in_X5_early_X5 hown hK hH 0 (by decide) rfl rfl 0 (by decide) (hts (.fieldLink RX5 12 "StationLine" "bench" "LStationLine$Bench;") (List.mem_of_getElem? (i := 1) rfl)) rfl dX5_early_16 ?_
    refine b_get (ci := 0) (C := RX0) (T := TX0) (Nf := 11) (v := .ref (q 8)) hx hb hts in_X5_early_X0 hown hK hH 1 (by decide) rfl rfl 6 (by decide) (hts (.fieldLink RX5 97 "StationLine$Bench" "leading" "[I") (List.mem_of_getElem? (i := 2) rfl)) rfl dX5_early_19 ?_
    refine lv_iload_n hx hb dX5_early_22 rfl (lv_at hl 1 rfl) ?_
    refine b_iald (v := z0.2.1 8 (p0 : Int32).toNatClampNeg) hx hb hK hH 8 (by decide) rfl (iv_in k12 (by decide) (by decide)) rfl dX5_early_23 ?_
    refine lv_ior hx hb dX5_early_24 ?_
    refine lv_topi (fun w15 _ => ?_)
    refine b_calli (As := [.int w15]) (rest := []) ⟨hx, hb, hml, hown, hts⟩ 0 5 (g_X5_stationsFor_0 l D cy q hH.2.1 z0 hJ.1 w15) (cwV 1 hts gX5_early_X5_stationsFor rfl rfl rfl (by decide +kernel) ⟨Nat.le_of_ble_eq_true rfl, Nat.le_of_ble_eq_true rfl⟩) hK hZ hH (by decide) rfl rfl rfl hl.1 rfl (Nat.le_of_ble_eq_true rfl) ⟨Nat.zero_le _, Nat.zero_le _⟩ dX5_early_25 (fun w16 z16 H locs hp hH => ?_)
    rw [Ag_0 hp.1.2] at hH
    refine lv_goto (tgt := 33) hx hb dX5_early_28 (by decide) ?_
    exact hret _ z0 H locs _ _ ⟨hJ, (iv_all w16)⟩ hH dX5_early_33
set_option maxHeartbeats 4000000 in
set_option maxRecDepth 100000 in
theorem g_X5_late_0 (l : Launch) (D : va_G) (cy : Nat → ClassId) (q : Nat → Nat) (hq : bJ 66 q) (z0 : zS) (hI : IvC z0) (p0 : Int32) (p1 : Int32) : bCi l yX5_late wsX5_late ({ frames := 4, cells := 0, slots := 0, locals := 95 }) D cy 66 (enC cy) q z0 [.ref (q 0), .int p0, .int p1] (fun v z => jJ IvC 0 0 0 z0 z ∧ iv (-2147483648) 2147483647 v) := by
  refine hM_i cX5_late (by decide) rfl (own := RX5) rfl hq (Nat.le_of_ble_eq_true rfl) ?_
  intro p e s m args below meth c Q ls H locs hx hb hml hown hts hK hZ hH hl hret
  have hl : lv_has ls 3 [(0, .ref (q 0)), (1, .int p0), (2, .int p1)] := hl
  have hJ : jJ IvC 0 0 0 z0 z0 := jJ_rf _ _ _ hI
  have HJ18 : ∀ (H : Heap) (locs : List Loc) (ls : Array Slot), bH D 66 (enC cy) q z0 s.heap H locs → lv_has ls 3 [] → W p l e ({ frames := 4, cells := 0, slots := 0, locals := 95 }) s m args below meth c H locs 0 0 Q (F0 m 18 ls []) := by
    intro H locs ls hH hl
    refine lv_bipush (v := (-2)) hx hb dX5_late_18 (by decide) ?_
    exact hret _ z0 H locs _ _ ⟨hJ, (iv_w (iv_lit (n := (-2)) (-2) (by decide)) (by decide) (by decide))⟩ hH dX5_late_20
  refine lv_aload_n hx hb dX5_late_0 rfl (lv_at hl 0 rfl) ?_
  refine b_get (ci := 5) (C := RX5) (T := TX5) (Nf := 12) (v := .ref (q 1)) hx hb hts in_X5_late_X5 hown hK hH 0 (by decide) rfl rfl 0 (by decide) (hts (.fieldLink RX5 12 "StationLine" "bench" "LStationLine$Bench;") (List.mem_of_getElem? (i := 1) rfl)) rfl dX5_late_1 ?_
  refine lv_iload_n hx hb dX5_late_4 rfl (lv_at hl 1 rfl) ?_
  refine b_calli (As := [.int p0]) (rest := []) ⟨hx, hb, hml, hown, hts⟩ 1 0 (g_X0_has_1 l D cy q hH.2.1 z0 hJ.1 p0) (cwV 1 hts gX5_late_X0_has rfl rfl rfl (by decide +kernel) ⟨Nat.le_of_ble_eq_true rfl, Nat.le_of_ble_eq_true rfl⟩) hK hZ hH (by decide) rfl rfl rfl hl.1 rfl (Nat.le_of_ble_eq_true rfl) ⟨Nat.zero_le _, Nat.zero_le _⟩ dX5_late_5 (fun w16 z16 H locs hp hH => ?_)
  rw [Ag_0 hp.1.2] at hH
  have i16 := hp.2.1
  have tr16_0 := hp.2.2.1
  have f16_0 := hp.2.2.2
  refine lv_if_eq (tgt := 18) hx hb dX5_late_8 (by decide) (fun c17 => ?_) (fun c17 => ?_)
  · skip
    have k18a : iv 0 0 w16 := iv_eql (iv_Eq c17) i16 (iv_lit (n := 0) 0 (by decide)) (by decide) (by decide)
    exact HJ18   H locs ls   hH (lv_sub hl [] rfl)
  · skip
    have k19 : iv 0 9 p0 := (tr16_0).resolve_left c17
    have k20a : iv 1 1 w16 := iv_neLo (iv_nEq c17) i16 (by decide) (by decide)
    refine lv_iload_n hx hb dX5_late_11 rfl (lv_at hl 2 rfl) ?_
    refine b_stati (As := [.int p1]) (rest := []) ⟨hx, hb, hml, hown, hts⟩ (g_X5_isStation l D cy q hH.2.1 z0 hJ.1 p1) (va_cwS 1 hts gX5_late_X5_isStation rfl rfl rfl (by decide +kernel) ⟨Nat.le_of_ble_eq_true rfl, Nat.le_of_ble_eq_true rfl⟩) hK hZ hH rfl hl.1 rfl (Nat.le_of_ble_eq_true rfl) ⟨Nat.zero_le _, Nat.zero_le _⟩ dX5_late_12 (fun w21 z21 H locs hp hH => ?_)
    rw [Ag_0 hp.1.2] at hH
    have i21 := hp.2.1
    have tr21_0 := hp.2.2
    refine lv_if_ne (tgt := 21) hx hb dX5_late_15 (by decide) (fun c22 => ?_) (fun c22 => ?_)
    · skip
      have k23 : iv 1 10 p1 := (tr21_0).resolve_left c22
      have k24a : iv 1 1 w21 := iv_neLo (iv_nEq c22) i21 (by decide) (by decide)
      refine lv_iload_n hx hb dX5_late_21 rfl (lv_at hl 2 rfl) ?_
      refine lv_iconst (v := 1) hx hb dX5_late_22 (by decide) ?_
      refine lv_iadd hx hb dX5_late_23 ?_
      refine h_iE (a := 2) (b := 11) (t := p1.toInt + 1) (iv_add k23 (iv_lit (n := 1) 1 (by decide)) (by decide) (by decide) (by decide) (by decide)) ((iv_addE k23 (iv_lit (n := 1) 1 (by decide)) (by decide) (by decide)).trans rfl) (fun w25 i25 e25 => ?_)
      refine lv_aload_n hx hb dX5_late_24 rfl (lv_at hl 0 rfl) ?_
      refine lv_iconst (v := 1) hx hb dX5_late_25 (by decide) ?_
      refine lv_iload_n hx hb dX5_late_26 rfl (lv_at hl 1 rfl) ?_
      refine lv_ishl hx hb dX5_late_27 ?_
      refine h_i (a := 1) (b := 512) (iv_bit k19 (by decide) (by decide)) (fun w26 i26 => ?_)
      refine lv_aload_n hx hb dX5_late_28 rfl (lv_at hl 0 rfl) ?_
      refine b_get (ci := 5) (C := RX5) (T := TX5) (Nf := 12) (v := .ref (q 1)) hx hb hts in_X5_late_X5 hown hK hH 0 (by decide) rfl rfl 0 (by decide) (hts (.fieldLink RX5 12 "StationLine" "bench" "LStationLine$Bench;") (List.mem_of_getElem? (i := 1) rfl)) rfl dX5_late_29 ?_
      refine b_get (ci := 0) (C := RX0) (T := TX0) (Nf := 11) (v := .ref (q 9)) hx hb hts in_X5_late_X0 hown hK hH 1 (by decide) rfl rfl 7 (by decide) (hts (.fieldLink RX5 136 "StationLine$Bench" "following" "[I") (List.mem_of_getElem? (i := 2) rfl)) rfl dX5_late_32 ?_
      refine lv_iload_n hx hb dX5_late_35 rfl (lv_at hl 1 rfl) ?_
      refine b_iald (v := z0.2.1 9 (p0 : Int32).toNatClampNeg) hx hb hK hH 9 (by decide) rfl (iv_in k19 (by decide) (by decide)) rfl dX5_late_36 ?_
      refine lv_ior hx hb dX5_late_37 ?_
      refine lv_topi (fun w27 _ => ?_)
      refine b_calli (As := [.int w27]) (rest := [.int w25]) ⟨hx, hb, hml, hown, hts⟩ 0 5 (g_X5_stationsFor_0 l D cy q hH.2.1 z0 hJ.1 w27) (cwV 1 hts gX5_late_X5_stationsFor rfl rfl rfl (by decide +kernel) ⟨Nat.le_of_ble_eq_true rfl, Nat.le_of_ble_eq_true rfl⟩) hK hZ hH (by decide) rfl rfl rfl hl.1 rfl (Nat.le_of_ble_eq_true rfl) ⟨Nat.zero_le _, Nat.zero_le _⟩ dX5_late_38 (fun w28 z28 H locs hp hH => ?_)
      rw [Ag_0 hp.1.2] at hH
      refine lv_isub hx hb dX5_late_41 ?_
      refine lv_topi (fun w29 _ => ?_)
      exact hret _ z0 H locs _ _ ⟨hJ, (iv_all w29)⟩ hH dX5_late_42
    · skip
      have k30a : iv 0 0 w21 := iv_eql (iv_Eq c22) i21 (iv_lit (n := 0) 0 (by decide)) (by decide) (by decide)
      exact HJ18   H locs ls   hH (lv_sub hl [] rfl)
set_option maxHeartbeats 4000000 in
set_option maxRecDepth 100000 in
theorem g_X5_rule_0 (l : Launch) (D : va_G) (cy : Nat → ClassId) (q : Nat → Nat) (hq : bJ 66 q) (z0 : zS) (hI : IvC z0) (p0 : Int32) : bCi l yX5_rule wsX5_rule ({ frames := 6, cells := 0, slots := 0, locals := 150 }) D cy 66 (enC cy) q z0 [.ref (q 0), .int p0] (fun v z => jJ IvC 0 72057594037944320 0 z0 z ∧ iv (-4) 10 v) := by
  refine hM_i cX5_rule (by decide) rfl (own := RX5) rfl hq (Nat.le_of_ble_eq_true rfl) ?_
  intro p e s m args below meth c Q ls H locs hx hb hml hown hts hK hZ hH hl hret
  have hl : lv_has ls 2 [(0, .ref (q 0)), (1, .int p0)] := hl
  have hJ : jJ IvC 0 72057594037944320 0 z0 z0 := jJ_rf _ _ _ hI
  have HJ9 : ∀ (z_9 : zS) (H : Heap) (locs : List Loc) (ls : Array Slot), jJ IvC 0 72057594037944320 0 z0 z_9 → bH D 66 (enC cy) q z_9 s.heap H locs → lv_has ls 2 [] → W p l e ({ frames := 6, cells := 0, slots := 0, locals := 150 }) s m args below meth c H locs 0 0 Q (F0 m 9 ls []) := by
    intro z_9 H locs ls hJ hH hl
    refine lv_bipush (v := (-2)) hx hb dX5_rule_9 (by decide) ?_
    exact hret _ z_9 H locs _ _ ⟨hJ, (iv_w (iv_lit (n := (-2)) (-2) (by decide)) (by decide) (by decide))⟩ hH dX5_rule_11
  refine lv_iload_n hx hb dX5_rule_0 rfl (lv_at hl 1 rfl) ?_
  refine lv_if_lt (tgt := 9) hx hb dX5_rule_1 (by decide) (fun c13 => ?_) (fun c13 => ?_)
  · skip
    have k14a : iv (-2147483648) (-1) p0 := iv_ltl (iv_Lt c13) (iv_all p0) (iv_lit (n := 0) 0 (by decide)) (by decide)
    exact HJ9  z0 H locs ls  hJ hH (lv_sub hl [] rfl)
  · skip
    have k15b : iv 0 2147483647 p0 := iv_ler (iv_nLt c13) (iv_lit (n := 0) 0 (by decide)) (iv_all p0)
    refine lv_iload_n hx hb dX5_rule_4 rfl (lv_at hl 1 rfl) ?_
    refine lv_iconst (v := 4) hx hb dX5_rule_5 (by decide) ?_
    refine lv_icmp_lt (tgt := 12) hx hb dX5_rule_6 (by decide) (fun c16 => ?_) (fun c16 => ?_)
    · skip
      have k17a : iv 0 3 p0 := iv_ltl (iv_Lt c16) k15b (iv_lit (n := 4) 4 (by decide)) (by decide)
      refine lv_aload_n hx hb dX5_rule_12 rfl (lv_at hl 0 rfl) ?_
      refine b_get (ci := 5) (C := RX5) (T := TX5) (Nf := 12) (v := .ref (q 55)) hx hb hts in_X5_rule_X5 hown hK hH 0 (by decide) rfl rfl 7 (by decide) (hts (.fieldLink RX5 49 "StationLine" "trial" "LStationLine$Putting;") (List.mem_of_getElem? (i := 1) rfl)) rfl dX5_rule_13 ?_
      refine lv_iload_n hx hb dX5_rule_16 rfl (lv_at hl 1 rfl) ?_
      refine b_calli (As := [.int p0]) (rest := []) ⟨hx, hb, hml, hown, hts⟩ 55 1 (g_X1_putByRule_55 l D cy q hH.2.1 z0 hJ.1 p0) (cwV 1 hts gX5_rule_X1_putByRule rfl rfl rfl (by decide +kernel) ⟨Nat.le_of_ble_eq_true rfl, Nat.le_of_ble_eq_true rfl⟩) hK hZ hH (by decide) rfl rfl rfl hl.1 rfl (Nat.le_of_ble_eq_true rfl) ⟨Nat.zero_le _, Nat.zero_le _⟩ dX5_rule_17 (fun w18 z18 H locs hp hH => ?_)
      have hJ := jJ_tr hJ hp.1 (by decide) (by decide) (by decide)
      have i18 := hp.2
      have hA18 := hp.1.2
      refine lv_if_ne (tgt := 26) hx hb dX5_rule_20 (by decide) (fun c19 => ?_) (fun c19 => ?_)
      · skip
        have k20a : iv 1 1 w18 := iv_neLo (iv_nEq c19) i18 (by decide) (by decide)
        refine lv_aload_n hx hb dX5_rule_26 rfl (lv_at hl 0 rfl) ?_
        refine b_get (ci := 5) (C := RX5) (T := TX5) (Nf := 12) (v := .ref (q 13)) hx hb hts in_X5_rule_X5 hown hK hH 0 (by decide) rfl rfl 1 (by decide) (hts (.fieldLink RX5 21 "StationLine" "hand" "LStationLine$Putting;") (List.mem_of_getElem? (i := 2) rfl)) rfl dX5_rule_27 ?_
        refine lv_aload_n hx hb dX5_rule_30 rfl (lv_at hl 0 rfl) ?_
        refine b_get (ci := 5) (C := RX5) (T := TX5) (Nf := 12) (v := .ref (q 55)) hx hb hts in_X5_rule_X5 hown hK hH 0 (by decide) rfl rfl 7 (by decide) (hts (.fieldLink RX5 49 "StationLine" "trial" "LStationLine$Putting;") (List.mem_of_getElem? (i := 1) rfl)) rfl dX5_rule_31 ?_
        refine b_callv (As := [.ref (q 55)]) (rest := []) ⟨hx, hb, hml, hown, hts⟩ 13 1 (g_X1_copyRow_13_55 l D cy q hH.2.1 z18 hJ.1 ) (cwV 1 hts gX5_rule_X1_copyRow rfl rfl rfl (by decide +kernel) ⟨Nat.le_of_ble_eq_true rfl, Nat.le_of_ble_eq_true rfl⟩) hK hZ hH (by decide) rfl rfl rfl hl.1 rfl (Nat.le_of_ble_eq_true rfl) ⟨Nat.zero_le _, Nat.zero_le _⟩ dX5_rule_34 (fun z21 H locs hp hH => ?_)
        have hJ := jJ_tr hJ hp (by decide) (by decide) (by decide)
        have hA21 := hp.2
        refine lv_aload_n hx hb dX5_rule_37 rfl (lv_at hl 0 rfl) ?_
        refine b_get (ci := 5) (C := RX5) (T := TX5) (Nf := 12) (v := .ref (q 13)) hx hb hts in_X5_rule_X5 hown hK hH 0 (by decide) rfl rfl 1 (by decide) (hts (.fieldLink RX5 21 "StationLine" "hand" "LStationLine$Putting;") (List.mem_of_getElem? (i := 2) rfl)) rfl dX5_rule_38 ?_
        refine b_calli (As := []) (rest := []) ⟨hx, hb, hml, hown, hts⟩ 13 1 (g_X1_greatest_13 l D cy q hH.2.1 z21 hJ.1 ) (cwV 0 hts gX5_rule_X1_greatest rfl rfl rfl (by decide +kernel) ⟨Nat.le_of_ble_eq_true rfl, Nat.le_of_ble_eq_true rfl⟩) hK hZ hH (by decide) rfl rfl rfl hl.1 rfl (Nat.le_of_ble_eq_true rfl) ⟨Nat.zero_le _, Nat.zero_le _⟩ dX5_rule_41 (fun w22 z22 H locs hp hH => ?_)
        rw [Ag_0 hp.1.2] at hH
        have i22 := hp.2
        exact hret _ z21 H locs _ _ ⟨hJ, (iv_w i22 (by decide) (by decide))⟩ hH dX5_rule_44
      · skip
        have k23a : iv 0 0 w18 := iv_eql (iv_Eq c19) i18 (iv_lit (n := 0) 0 (by decide)) (by decide) (by decide)
        refine lv_bipush (v := (-4)) hx hb dX5_rule_23 (by decide) ?_
        exact hret _ z18 H locs _ _ ⟨hJ, (iv_w (iv_lit (n := (-4)) (-4) (by decide)) (by decide) (by decide))⟩ hH dX5_rule_25
    · skip
      have k24b : iv 4 2147483647 p0 := iv_ler (iv_nLt c16) (iv_lit (n := 4) 4 (by decide)) k15b
      exact HJ9  z0 H locs ls  hJ hH (lv_sub hl [] rfl)
set_option maxHeartbeats 4000000 in
set_option maxRecDepth 100000 in
theorem g_X5_better_0 (l : Launch) (D : va_G) (cy : Nat → ClassId) (q : Nat → Nat) (hq : bJ 66 q) (z0 : zS) (hI : IvC z0)  : bCi l yX5_better wsX5_better ({ frames := 7, cells := 0, slots := 0, locals := 168 }) D cy 66 (enC cy) q z0 [.ref (q 0)] (fun v z => jJ IvC 0 16384 0 z0 z ∧ iv (-4) 1000000 v) := by
  refine hM_i cX5_better (by decide) rfl (own := RX5) rfl hq (Nat.le_of_ble_eq_true rfl) ?_
  intro p e s m args below meth c Q ls H locs hx hb hml hown hts hK hZ hH hl hret
  have hl : lv_has ls 2 [(0, .ref (q 0))] := hl
  have hJ : jJ IvC 0 16384 0 z0 z0 := jJ_rf _ _ _ hI
  have HL15 : ∀ (n : Nat) (x1_15 : Int32) (z_15 : zS) (H : Heap) (locs : List Loc) (ls : Array Slot), iv 0 1000000 x1_15 → jJ IvC 0 16384 0 z0 z_15 → bH D 66 (enC cy) q z_15 s.heap H locs → lv_has ls 2 [(0, .ref (q 0)), (1, .int x1_15)] → (1000000 - x1_15.toInt).toNat = n → W p l e ({ frames := 7, cells := 0, slots := 0, locals := 168 }) s m args below meth c H locs 0 0 Q (F0 m 15 ls []) := by
    intro n15
    induction n15 using Nat.strongRecOn with
    | ind n15 ih15 =>
      intro x1_15 z_15 H locs ls h1_15 hJ hH hl hn15
      have HJ37 : ∀ (z_37 : zS) (H : Heap) (locs : List Loc) (ls : Array Slot), jJ IvC 0 16384 0 z0 z_37 → bH D 66 (enC cy) q z_37 s.heap H locs → lv_has ls 2 [(1, .int x1_15)] → W p l e ({ frames := 7, cells := 0, slots := 0, locals := 168 }) s m args below meth c H locs 0 0 Q (F0 m 37 ls []) := by
        intro z_37 H locs ls hJ hH hl
        refine lv_iload_n hx hb dX5_better_37 rfl (lv_at hl 0 rfl) ?_
        exact hret _ z_37 H locs _ _ ⟨hJ, (iv_w h1_15 (by decide) (by decide))⟩ hH dX5_better_38
      refine lv_iload_n hx hb dX5_better_15 rfl (lv_at hl 1 rfl) ?_
      refine lv_ldc hx hb hown (hts (.constant RX5 200 (1000000)) (List.mem_of_getElem? (i := 2) rfl)) dX5_better_16 ?_
      refine lv_icmp_ge (tgt := 37) hx hb dX5_better_18 (by decide) (fun c195 => ?_) (fun c195 => ?_)
      · skip
        have k196b : iv 1000000 1000000 x1_15 := iv_ler (iv_Le c195) (iv_lit (n := 1000000) 1000000 (by decide)) h1_15
        exact HJ37  z_15 H locs ls  hJ hH (lv_sub hl [1] rfl)
      · skip
        have k197a : iv 0 999999 x1_15 := iv_ltl (iv_nLe c195) h1_15 (iv_lit (n := 1000000) 1000000 (by decide)) (by decide)
        refine lv_aload_n hx hb dX5_better_21 rfl (lv_at hl 0 rfl) ?_
        refine b_get (ci := 5) (C := RX5) (T := TX5) (Nf := 12) (v := .ref (q 13)) hx hb hts in_X5_better_X5 hown hK hH 0 (by decide) rfl rfl 1 (by decide) (hts (.fieldLink RX5 21 "StationLine" "hand" "LStationLine$Putting;") (List.mem_of_getElem? (i := 1) rfl)) rfl dX5_better_22 ?_
        refine b_calli (As := []) (rest := []) ⟨hx, hb, hml, hown, hts⟩ 13 1 (g_X1_moveOnce_13 l D cy q hH.2.1 z_15 hJ.1 ) (cwV 0 hts gX5_better_X1_moveOnce rfl rfl rfl (by decide +kernel) ⟨Nat.le_of_ble_eq_true rfl, Nat.le_of_ble_eq_true rfl⟩) hK hZ hH (by decide) rfl rfl rfl hl.1 rfl (Nat.le_of_ble_eq_true rfl) ⟨Nat.zero_le _, Nat.zero_le _⟩ dX5_better_25 (fun w198 z198 H locs hp hH => ?_)
        have hJ := jJ_tr hJ hp.1 (by decide) (by decide) (by decide)
        have i198 := hp.2
        have hA198 := hp.1.2
        refine lv_if_eq (tgt := 37) hx hb dX5_better_28 (by decide) (fun c199 => ?_) (fun c199 => ?_)
        · skip
          have k200a : iv 0 0 w198 := iv_eql (iv_Eq c199) i198 (iv_lit (n := 0) 0 (by decide)) (by decide) (by decide)
          exact HJ37  z198 H locs ls  hJ hH (lv_sub hl [1] rfl)
        · skip
          have k201a : iv 1 1 w198 := iv_neLo (iv_nEq c199) i198 (by decide) (by decide)
          have j202 : iv 1 1000000 (x1_15 + 1) := iv_add k197a (iv_lit (n := 1) 1 (by decide)) (by decide) (by decide) (by decide) (by decide)
          have e202 : (x1_15 + 1).toInt = x1_15.toInt + 1 := (iv_addE k197a (iv_lit (n := 1) 1 (by decide)) (by decide) (by decide)).trans rfl
          refine lv_iinc (v := (x1_15 + 1)) (lv' := [(1, .int (x1_15 + 1)), (0, .ref (q 0))]) hx hb dX5_better_31 hl (k := 1) rfl rfl (by decide) rfl (fun ls hl => ?_)
          refine lv_goto (tgt := 15) hx hb dX5_better_34 (by decide) ?_
          exact ih15 _ (ms_up e202 j202.2 hn15) (x1_15 + 1) z198 H locs ls (iv_w j202 (by decide) (by decide)) hJ hH (lv_sub hl [1, 0] rfl) rfl
  refine lv_aload_n hx hb dX5_better_0 rfl (lv_at hl 0 rfl) ?_
  refine b_get (ci := 5) (C := RX5) (T := TX5) (Nf := 12) (v := .ref (q 13)) hx hb hts in_X5_better_X5 hown hK hH 0 (by decide) rfl rfl 1 (by decide) (hts (.fieldLink RX5 21 "StationLine" "hand" "LStationLine$Putting;") (List.mem_of_getElem? (i := 1) rfl)) rfl dX5_better_1 ?_
  refine b_calli (As := []) (rest := []) ⟨hx, hb, hml, hown, hts⟩ 13 1 (g_X1_firstClash_13 l D cy q hH.2.1 z0 hJ.1 ) (cwV 0 hts gX5_better_X1_firstClash rfl rfl rfl (by decide +kernel) ⟨Nat.le_of_ble_eq_true rfl, Nat.le_of_ble_eq_true rfl⟩) hK hZ hH (by decide) rfl rfl rfl hl.1 rfl (Nat.le_of_ble_eq_true rfl) ⟨Nat.zero_le _, Nat.zero_le _⟩ dX5_better_4 (fun w203 z203 H locs hp hH => ?_)
  rw [Ag_0 hp.1.2] at hH
  have i203 := hp.2
  refine lv_if_lt (tgt := 13) hx hb dX5_better_7 (by decide) (fun c204 => ?_) (fun c204 => ?_)
  · skip
    have k205a : iv (-1) (-1) w203 := iv_ltl (iv_Lt c204) i203 (iv_lit (n := 0) 0 (by decide)) (by decide)
    refine lv_iconst (v := 0) hx hb dX5_better_13 (by decide) ?_
    refine lv_istore_n (lv' := [(1, .int 0), (0, .ref (q 0))]) hx hb dX5_better_14 rfl hl (by decide) rfl (fun ls hl => ?_)
    exact HL15 _ 0 z0 H locs ls (iv_w (iv_lit (n := 0) 0 (by decide)) (by decide) (by decide)) hJ hH (lv_sub hl [1, 0] rfl) rfl
  · skip
    have k206b : iv 0 9 w203 := iv_ler (iv_nLt c204) (iv_lit (n := 0) 0 (by decide)) i203
    refine lv_bipush (v := (-4)) hx hb dX5_better_10 (by decide) ?_
    exact hret _ z0 H locs _ _ ⟨hJ, (iv_w (iv_lit (n := (-4)) (-4) (by decide)) (by decide) (by decide))⟩ hH dX5_better_12
set_option maxHeartbeats 4000000 in
set_option maxRecDepth 100000 in
theorem g_X5_sheet_0 (l : Launch) (D : va_G) (cy : Nat → ClassId) (q : Nat → Nat) (hq : bJ 66 q) (z0 : zS) (hI : IvC z0) (p0 : Int32) (p1 : Int32) (p2 : Int32) : bCi l yX5_sheet wsX5_sheet ({ frames := 2, cells := 0, slots := 0, locals := 46 }) D cy 66 (enC cy) q z0 [.ref (q 0), .int p0, .int p1, .int p2] (fun v z => jJ IvC 1024 35452336266660544512 0 z0 z ∧ iv (-2147483648) 2147483647 v ∧ (ShP p0 p1 p2 v) ∧ (SzP (z0.2.1 59) p0 p1 p2 (z.2.1 59)) ∧ (SoP (z0.2.1 58) p0 p1 p2 (z.2.1 58)) ∧ (ShG p0 p1 p2 (fun s i => z0.2.1 (61 + s) i) (fun s i => z.2.1 (61 + s) i))) := by
  refine hM_i cX5_sheet (by decide) rfl (own := RX5) rfl hq (Nat.le_of_ble_eq_true rfl) ?_
  intro p e s m args below meth c Q ls H locs hx hb hml hown hts hK hZ hH hl hret
  have hl : lv_has ls 4 [(0, .ref (q 0)), (1, .int p0), (2, .int p1), (3, .int p2)] := hl
  have hJ : jJ IvC 1024 35452336266660544512 0 z0 z0 := jJ_rf _ _ _ hI
  have e00 : (0 : Int32).toInt = 0 := (by decide); have e01 : (1 : Int32).toInt = 1 := (by decide); have e02 : (2 : Int32).toInt = 2 := (by decide); have e03 : (3 : Int32).toInt = 3 := (by decide); have e010 : (10 : Int32).toInt = 10 := (by decide)
  have e40 : (40 : Int32).toInt = 40 := (by decide)
  refine lv_iload_n hx hb dX5_sheet_0 rfl (lv_at hl 1 rfl) ?_
  refine b_stati (As := [.int p0]) (rest := []) ⟨hx, hb, hml, hown, hts⟩ (g_X5_isSheet l D cy q hH.2.1 z0 hJ.1 p0) (va_cwS 1 hts gX5_sheet_X5_isSheet rfl rfl rfl (by decide +kernel) ⟨Nat.le_of_ble_eq_true rfl, Nat.le_of_ble_eq_true rfl⟩) hK hZ hH rfl hl.1 rfl (Nat.le_of_ble_eq_true rfl) ⟨Nat.zero_le _, Nat.zero_le _⟩ dX5_sheet_1 (fun w19 z19 H locs hp hH => ?_)
  rw [Ag_0 hp.1.2] at hH
  have i19 := hp.2.1
  have := i19.1; have := i19.2
  have tr19_0 := hp.2.2.1
  have f19_0 := hp.2.2.2
  refine lv_if_eq (tgt := 20) hx hb dX5_sheet_4 (by decide) (fun c20 => ?_) (fun c20 => ?_)
  · skip
    have r20 := (iv_Eq c20)
    have k21a : iv 0 0 w19 := iv_eql (iv_Eq c20) i19 (iv_lit (n := 0) 0 (by decide)) (by decide) (by decide)
    refine lv_bipush (v := (-2)) hx hb dX5_sheet_20 (by decide) ?_
    exact hret _ z0 H locs _ _ ⟨hJ, (iv_w (iv_lit (n := (-2)) (-2) (by decide)) (by decide) (by decide)), ⟨fun q => absurd q.1 (f19_0.mp c20), fun _ => rfl⟩, ⟨fun q => absurd q.1 (f19_0.mp c20), fun _ => rfl⟩, ⟨fun q => absurd q.1 (f19_0.mp c20), fun _ => rfl⟩, ⟨fun q => absurd q (fun q => absurd q.1 (f19_0.mp c20)), fun _ => fun _ _ _ _ => rfl⟩⟩ hH dX5_sheet_22
  · skip
    have k22 : iv 0 3 p0 := (tr19_0).resolve_left c20
    have := k22.1; have := k22.2
    have r20 := (iv_nEq c20)
    have k23a : iv 1 1 w19 := iv_neLo (iv_nEq c20) i19 (by decide) (by decide)
    refine lv_iload_n hx hb dX5_sheet_7 rfl (lv_at hl 2 rfl) ?_
    refine b_stati (As := [.int p1]) (rest := []) ⟨hx, hb, hml, hown, hts⟩ (g_X5_isSort l D cy q hH.2.1 z0 hJ.1 p1) (va_cwS 1 hts gX5_sheet_X5_isSort rfl rfl rfl (by decide +kernel) ⟨Nat.le_of_ble_eq_true rfl, Nat.le_of_ble_eq_true rfl⟩) hK hZ hH rfl hl.1 rfl (Nat.le_of_ble_eq_true rfl) ⟨Nat.zero_le _, Nat.zero_le _⟩ dX5_sheet_8 (fun w24 z24 H locs hp hH => ?_)
    rw [Ag_0 hp.1.2] at hH
    have i24 := hp.2.1
    have := i24.1; have := i24.2
    have tr24_0 := hp.2.2.1
    have f24_0 := hp.2.2.2
    refine lv_if_eq (tgt := 20) hx hb dX5_sheet_11 (by decide) (fun c25 => ?_) (fun c25 => ?_)
    · skip
      have r25 := (iv_Eq c25)
      have k26a : iv 0 0 w24 := iv_eql (iv_Eq c25) i24 (iv_lit (n := 0) 0 (by decide)) (by decide) (by decide)
      refine lv_bipush (v := (-2)) hx hb dX5_sheet_20 (by decide) ?_
      exact hret _ z0 H locs _ _ ⟨hJ, (iv_w (iv_lit (n := (-2)) (-2) (by decide)) (by decide) (by decide)), ⟨fun q => absurd q.2.1 (f24_0.mp c25), fun _ => rfl⟩, ⟨fun q => absurd q.2.1 (f24_0.mp c25), fun _ => rfl⟩, ⟨fun q => absurd q.2.1 (f24_0.mp c25), fun _ => rfl⟩, ⟨fun q => absurd q (fun q => absurd q.2.1 (f24_0.mp c25)), fun _ => fun _ _ _ _ => rfl⟩⟩ hH dX5_sheet_22
    · skip
      have k27 : iv 0 2 p1 := (tr24_0).resolve_left c25
      have := k27.1; have := k27.2
      have r25 := (iv_nEq c25)
      have k28a : iv 1 1 w24 := iv_neLo (iv_nEq c25) i24 (by decide) (by decide)
      refine lv_iload_n hx hb dX5_sheet_14 rfl (lv_at hl 3 rfl) ?_
      refine lv_bipush (v := 40) hx hb dX5_sheet_15 (by decide) ?_
      refine lv_icmp_le (tgt := 23) hx hb dX5_sheet_17 (by decide) (fun c29 => ?_) (fun c29 => ?_)
      · skip
        have r29 := (iv_Le c29)
        have k30a : iv (-2147483648) 40 p2 := iv_lel (iv_Le c29) (iv_all p2) (iv_lit (n := 40) 40 (by decide))
        refine lv_iload_n hx hb dX5_sheet_23 rfl (lv_at hl 3 rfl) ?_
        refine lv_if_ge (tgt := 34) hx hb dX5_sheet_24 (by decide) (fun c31 => ?_) (fun c31 => ?_)
        · skip
          have r31 := (iv_Le c31)
          have k32b : iv 0 40 p2 := iv_ler (iv_Le c31) (iv_lit (n := 0) 0 (by decide)) k30a
          refine lv_aload_n hx hb dX5_sheet_34 rfl (lv_at hl 0 rfl) ?_
          refine b_get (ci := 5) (C := RX5) (T := TX5) (Nf := 12) (v := .ref (q 57)) hx hb hts in_X5_sheet_X5 hown hK hH 0 (by decide) rfl rfl 8 (by decide) (hts (.fieldLink RX5 55 "StationLine" "sheets" "LStationLine$Sheets;") (List.mem_of_getElem? (i := 1) rfl)) rfl dX5_sheet_35 ?_
          refine lv_iload_n hx hb dX5_sheet_38 rfl (lv_at hl 1 rfl) ?_
          refine lv_iload_n hx hb dX5_sheet_39 rfl (lv_at hl 2 rfl) ?_
          refine lv_iload_n hx hb dX5_sheet_40 rfl (lv_at hl 3 rfl) ?_
          refine b_callv (As := [.int p0, .int p1, .int p2]) (rest := []) ⟨hx, hb, hml, hown, hts⟩ 57 4 (g_X4_lay_57 l D cy q hH.2.1 z0 hJ.1 p0 k22 p1 p2 k32b) (cwV 3 hts gX5_sheet_X4_lay rfl rfl rfl (by decide +kernel) ⟨Nat.le_of_ble_eq_true rfl, Nat.le_of_ble_eq_true rfl⟩) hK hZ hH (by decide) rfl rfl rfl hl.1 rfl (Nat.le_of_ble_eq_true rfl) ⟨Nat.zero_le _, Nat.zero_le _⟩ dX5_sheet_41 (fun z33 H locs hp hH => ?_)
          have hJ := jJ_tr hJ hp.1 (by decide) (by decide) (by decide)
          have f33_0 := hp.2.1
          have f33_1 := hp.2.2.1
          have f33_2 := hp.2.2.2.1
          have f33_3 := hp.2.2.2.2
          have hA33 := hp.1.2
          refine lv_iload_n hx hb dX5_sheet_44 rfl (lv_at hl 3 rfl) ?_
          exact hret _ z33 H locs _ _ ⟨hJ, (iv_w k32b (by decide) (by decide)), ⟨fun q => ⟨fun r => absurd r (by omega), fun _ => rfl⟩, fun q => absurd ⟨by first | assumption | exact ⟨by omega, by omega⟩, by first | assumption | exact ⟨by omega, by omega⟩, by omega⟩ q⟩, ⟨fun _ => f33_0, fun q => absurd ⟨by first | assumption | exact ⟨by omega, by omega⟩, by first | assumption | exact ⟨by omega, by omega⟩, by first | assumption | exact ⟨by omega, by omega⟩⟩ q⟩, ⟨fun _ => f33_1, fun q => absurd ⟨by first | assumption | exact ⟨by omega, by omega⟩, by first | assumption | exact ⟨by omega, by omega⟩, by first | assumption | exact ⟨by omega, by omega⟩⟩ q⟩, ⟨fun _ a b ha hb => ⟨fun e => congrFun (f33_3 (61 + a) (by omega) (by omega)) b, fun e _ => (show z33.2.1 (61 + a) b = 0 by rw [e]; exact f33_2 b hb)⟩, fun q => absurd ⟨by first | assumption | exact ⟨by omega, by omega⟩, by first | assumption | exact ⟨by omega, by omega⟩, by first | assumption | exact ⟨by omega, by omega⟩⟩ q⟩⟩ hH dX5_sheet_45
        · skip
          have r31 := (iv_nLe c31)
          have k34a : iv (-2147483648) (-1) p2 := iv_ltl (iv_nLe c31) k30a (iv_lit (n := 0) 0 (by decide)) (by decide)
          refine lv_aload_n hx hb dX5_sheet_27 rfl (lv_at hl 0 rfl) ?_
          refine lv_bipush (v := (-13)) hx hb dX5_sheet_28 (by decide) ?_
          refine b_calli (As := [.int (-13)]) (rest := []) ⟨hx, hb, hml, hown, hts⟩ 0 5 (g_X5_found_0 l D cy q hH.2.1 z0 hJ.1 (-13)) (cwV 1 hts gX5_sheet_X5_found rfl rfl rfl (by decide +kernel) ⟨Nat.le_of_ble_eq_true rfl, Nat.le_of_ble_eq_true rfl⟩) hK hZ hH (by decide) rfl rfl rfl hl.1 rfl (Nat.le_of_ble_eq_true rfl) ⟨Nat.zero_le _, Nat.zero_le _⟩ dX5_sheet_30 (fun w35 z35 H locs hp hH => ?_)
          have hJ := jJ_tr hJ hp.1 (by decide) (by decide) (by decide)
          have f35_0 := hp.2.2
          have hA35 := hp.1.2
          exact hret _ z35 H locs _ _ ⟨hJ, (iv_all w35), ⟨fun q => ⟨fun _ => f35_0, fun r => absurd r (by omega)⟩, fun q => absurd ⟨by first | assumption | exact ⟨by omega, by omega⟩, by first | assumption | exact ⟨by omega, by omega⟩, by omega⟩ q⟩, ⟨fun q => (by have := q.2.2.1; have := q.2.2.2; omega), fun _ => ((hA35.2.1 59 (by decide)))⟩, ⟨fun q => (by have := q.2.2.1; have := q.2.2.2; omega), fun _ => ((hA35.2.1 58 (by decide)))⟩, ⟨fun q => absurd q (fun q => (by have := q.2.2.1; have := q.2.2.2; omega)), fun _ => (ag_same hA35.2.1 (by decide) (by decide) (by decide) (by decide))⟩⟩ hH dX5_sheet_33
      · skip
        have r29 := (iv_nLe c29)
        have k36b : iv 41 2147483647 p2 := iv_ltr (iv_nLe c29) (iv_lit (n := 40) 40 (by decide)) (iv_all p2) (by decide)
        refine lv_bipush (v := (-2)) hx hb dX5_sheet_20 (by decide) ?_
        exact hret _ z0 H locs _ _ ⟨hJ, (iv_w (iv_lit (n := (-2)) (-2) (by decide)) (by decide) (by decide)), ⟨fun q => (by have := q.1.1; have := q.1.2; have := q.2.1.1; have := q.2.1.2; have := q.2.2; omega), fun _ => rfl⟩, ⟨fun q => (by have := q.2.2.1; have := q.2.2.2; omega), fun _ => rfl⟩, ⟨fun q => (by have := q.2.2.1; have := q.2.2.2; omega), fun _ => rfl⟩, ⟨fun q => absurd q (fun q => (by have := q.2.2.1; have := q.2.2.2; omega)), fun _ => fun _ _ _ _ => rfl⟩⟩ hH dX5_sheet_22
set_option maxHeartbeats 4000000 in
set_option maxRecDepth 100000 in
theorem g_X5_write_0 (l : Launch) (D : va_G) (cy : Nat → ClassId) (q : Nat → Nat) (hq : bJ 66 q) (z0 : zS) (hI : IvC z0) (p0 : Int32) (p1 : Int32) (p2 : Int32) : bCi l yX5_write wsX5_write ({ frames := 1, cells := 0, slots := 0, locals := 21 }) D cy 66 (enC cy) q z0 [.ref (q 0), .int p0, .int p1, .int p2] (fun v z => jJ IvC 1024 34587645138205409280 0 z0 z ∧ iv (-2147483648) 2147483647 v ∧ (WrP (z0.2.1 59) (z0.2.1 58) (fun s i => z0.2.1 (61 + s) i) p0 p1 p2 v (fun s i => z.2.1 (61 + s) i))) := by
  refine hM_i cX5_write (by decide) rfl (own := RX5) rfl hq (Nat.le_of_ble_eq_true rfl) ?_
  intro p e s m args below meth c Q ls H locs hx hb hml hown hts hK hZ hH hl hret
  have hl : lv_has ls 5 [(0, .ref (q 0)), (1, .int p0), (2, .int p1), (3, .int p2)] := hl
  have hJ : jJ IvC 1024 34587645138205409280 0 z0 z0 := jJ_rf _ _ _ hI
  have e00 : (0 : Int32).toInt = 0 := (by decide); have e01 : (1 : Int32).toInt = 1 := (by decide); have e02 : (2 : Int32).toInt = 2 := (by decide); have e03 : (3 : Int32).toInt = 3 := (by decide); have e010 : (10 : Int32).toInt = 10 := (by decide)
  refine lv_iload_n hx hb dX5_write_0 rfl (lv_at hl 1 rfl) ?_
  refine b_stati (As := [.int p0]) (rest := []) ⟨hx, hb, hml, hown, hts⟩ (g_X5_isSheet l D cy q hH.2.1 z0 hJ.1 p0) (va_cwS 1 hts gX5_write_X5_isSheet rfl rfl rfl (by decide +kernel) ⟨Nat.le_of_ble_eq_true rfl, Nat.le_of_ble_eq_true rfl⟩) hK hZ hH rfl hl.1 rfl (Nat.le_of_ble_eq_true rfl) ⟨Nat.zero_le _, Nat.zero_le _⟩ dX5_write_1 (fun w24 z24 H locs hp hH => ?_)
  rw [Ag_0 hp.1.2] at hH
  have i24 := hp.2.1
  have := i24.1; have := i24.2
  have tr24_0 := hp.2.2.1
  have f24_0 := hp.2.2.2
  refine lv_if_ne (tgt := 10) hx hb dX5_write_4 (by decide) (fun c25 => ?_) (fun c25 => ?_)
  · skip
    have k26 : iv 0 3 p0 := (tr24_0).resolve_left c25
    have := k26.1; have := k26.2
    have r25 := (iv_nEq c25)
    have k27a : iv 1 1 w24 := iv_neLo (iv_nEq c25) i24 (by decide) (by decide)
    refine lv_aload_n hx hb dX5_write_10 rfl (lv_at hl 0 rfl) ?_
    refine b_get (ci := 5) (C := RX5) (T := TX5) (Nf := 12) (v := .ref (q 57)) hx hb hts in_X5_write_X5 hown hK hH 0 (by decide) rfl rfl 8 (by decide) (hts (.fieldLink RX5 55 "StationLine" "sheets" "LStationLine$Sheets;") (List.mem_of_getElem? (i := 1) rfl)) rfl dX5_write_11 ?_
    refine lv_iload_n hx hb dX5_write_14 rfl (lv_at hl 1 rfl) ?_
    refine b_calli (As := [.int p0]) (rest := []) ⟨hx, hb, hml, hown, hts⟩ 57 4 (g_X4_isMissing_57 l D cy q hH.2.1 z0 hJ.1 p0 k26) (cwV 1 hts gX5_write_X4_isMissing rfl rfl rfl (by decide +kernel) ⟨Nat.le_of_ble_eq_true rfl, Nat.le_of_ble_eq_true rfl⟩) hK hZ hH (by decide) rfl rfl rfl hl.1 rfl (Nat.le_of_ble_eq_true rfl) ⟨Nat.zero_le _, Nat.zero_le _⟩ dX5_write_15 (fun w28 z28 H locs hp hH => ?_)
    rw [Ag_0 hp.1.2] at hH
    have i28 := hp.2.1
    have := i28.1; have := i28.2
    have f28_0 := hp.2.2
    refine lv_if_eq (tgt := 28) hx hb dX5_write_18 (by decide) (fun c29 => ?_) (fun c29 => ?_)
    · skip
      have r29 := (iv_Eq c29)
      have k30a : iv 0 0 w28 := iv_eql (iv_Eq c29) i28 (iv_lit (n := 0) 0 (by decide)) (by decide) (by decide)
      refine lv_iload_n hx hb dX5_write_28 rfl (lv_at hl 2 rfl) ?_
      refine lv_if_lt (tgt := 45) hx hb dX5_write_29 (by decide) (fun c31 => ?_) (fun c31 => ?_)
      · skip
        have r31 := (iv_Lt c31)
        have k32a : iv (-2147483648) (-1) p1 := iv_ltl (iv_Lt c31) (iv_all p1) (iv_lit (n := 0) 0 (by decide)) (by decide)
        refine lv_aload_n hx hb dX5_write_45 rfl (lv_at hl 0 rfl) ?_
        refine lv_bipush (v := (-11)) hx hb dX5_write_46 (by decide) ?_
        refine b_calli (As := [.int (-11)]) (rest := []) ⟨hx, hb, hml, hown, hts⟩ 0 5 (g_X5_found_0 l D cy q hH.2.1 z0 hJ.1 (-11)) (cwV 1 hts gX5_write_X5_found rfl rfl rfl (by decide +kernel) ⟨Nat.le_of_ble_eq_true rfl, Nat.le_of_ble_eq_true rfl⟩) hK hZ hH (by decide) rfl rfl rfl hl.1 rfl (Nat.le_of_ble_eq_true rfl) ⟨Nat.zero_le _, Nat.zero_le _⟩ dX5_write_48 (fun w33 z33 H locs hp hH => ?_)
        have hJ := jJ_tr hJ hp.1 (by decide) (by decide) (by decide)
        have f33_0 := hp.2.2
        have hA33 := hp.1.2
        exact hret _ z33 H locs _ _ ⟨hJ, (iv_all w33), ⟨fun q => absurd (iv_w k26 (by decide) (by decide)) q, fun _ => ⟨fun r9 => absurd r9 (by have := f28_0.1 c29; omega), fun _ => ⟨fun _ => ⟨f33_0, (ag_same hA33.2.1 (by decide) (by decide) (by decide) (by decide))⟩, fun r9 => absurd r9.2 (by have := r9.1; omega)⟩⟩⟩⟩ hH dX5_write_51
      · skip
        have r31 := (iv_nLt c31)
        have k34b : iv 0 2147483647 p1 := iv_ler (iv_nLt c31) (iv_lit (n := 0) 0 (by decide)) (iv_all p1)
        refine lv_iload_n hx hb dX5_write_32 rfl (lv_at hl 2 rfl) ?_
        refine lv_aload_n hx hb dX5_write_33 rfl (lv_at hl 0 rfl) ?_
        refine b_get (ci := 5) (C := RX5) (T := TX5) (Nf := 12) (v := .ref (q 57)) hx hb hts in_X5_write_X5 hown hK hH 0 (by decide) rfl rfl 8 (by decide) (hts (.fieldLink RX5 55 "StationLine" "sheets" "LStationLine$Sheets;") (List.mem_of_getElem? (i := 1) rfl)) rfl dX5_write_34 ?_
        refine b_get (ci := 4) (C := RX4) (T := TX4) (Nf := 3) (v := .ref (q 59)) hx hb hts in_X5_write_X4 hown hK hH 57 (by decide) rfl rfl 1 (by decide) (hts (.fieldLink RX5 220 "StationLine$Sheets" "sizes" "[I") (List.mem_of_getElem? (i := 2) rfl)) rfl dX5_write_37 ?_
        refine lv_iload_n hx hb dX5_write_40 rfl (lv_at hl 1 rfl) ?_
        refine b_iald (v := z0.2.1 59 (p0 : Int32).toNatClampNeg) hx hb hK hH 59 (by decide) rfl (iv_in k26 (by decide) (by decide)) rfl dX5_write_41 ?_
        have i35 : iv (-1) 40 (z0.2.1 59 (p0 : Int32).toNatClampNeg) := IvC_a59 hJ.1 _ (b_inlt (iv_in k26 (by decide) (by decide)))
        have := i35.1; have := i35.2
        refine lv_icmp_lt (tgt := 52) hx hb dX5_write_42 (by decide) (fun c36 => ?_) (fun c36 => ?_)
        · skip
          have r36 := (iv_Lt c36)
          have k37a : iv 0 39 p1 := iv_ltl (iv_Lt c36) k34b i35 (by decide)
          have k37b : iv 1 40 (z0.2.1 59 (p0 : Int32).toNatClampNeg) := iv_ltr (iv_Lt c36) k34b i35 (by decide)
          refine lv_aload_n hx hb dX5_write_52 rfl (lv_at hl 0 rfl) ?_
          refine b_get (ci := 5) (C := RX5) (T := TX5) (Nf := 12) (v := .ref (q 57)) hx hb hts in_X5_write_X5 hown hK hH 0 (by decide) rfl rfl 8 (by decide) (hts (.fieldLink RX5 55 "StationLine" "sheets" "LStationLine$Sheets;") (List.mem_of_getElem? (i := 1) rfl)) rfl dX5_write_53 ?_
          refine b_get (ci := 4) (C := RX4) (T := TX4) (Nf := 3) (v := .ref (q 60)) hx hb hts in_X5_write_X4 hown hK hH 57 (by decide) rfl rfl 2 (by decide) (hts (.fieldLink RX5 223 "StationLine$Sheets" "rows" "[[I") (List.mem_of_getElem? (i := 3) rfl)) rfl dX5_write_56 ?_
          refine lv_iload_n hx hb dX5_write_59 rfl (lv_at hl 1 rfl) ?_
          refine h_aaldE (n := 4) hx hb hK hH 60 3 61 (by decide) rfl rfl (iv_in k26 (by decide) (by decide)) dX5_write_60 (fun k38 hk38 ek38 => ?_)
          refine lv_iload_n hx hb dX5_write_61 rfl (lv_at hl 2 rfl) ?_
          refine b_iald (v := z0.2.1 k38 (p1 : Int32).toNatClampNeg) hx hb hK hH k38 (Nat.lt_of_lt_of_le hk38.2 (by decide)) (enC_g61 cy q _ k38 hk38) (iv_in k37a (by decide) (by decide)) rfl dX5_write_62 ?_
          refine lv_istore (lv' := [(4, .int (z0.2.1 k38 (p1 : Int32).toNatClampNeg)), (0, .ref (q 0)), (1, .int p0), (2, .int p1), (3, .int p2)]) hx hb dX5_write_63 hl (by decide) rfl (fun ls hl => ?_)
          refine lv_aload_n hx hb dX5_write_65 rfl (lv_at hl 1 rfl) ?_
          refine b_get (ci := 5) (C := RX5) (T := TX5) (Nf := 12) (v := .ref (q 57)) hx hb hts in_X5_write_X5 hown hK hH 0 (by decide) rfl rfl 8 (by decide) (hts (.fieldLink RX5 55 "StationLine" "sheets" "LStationLine$Sheets;") (List.mem_of_getElem? (i := 1) rfl)) rfl dX5_write_66 ?_
          refine b_get (ci := 4) (C := RX4) (T := TX4) (Nf := 3) (v := .ref (q 60)) hx hb hts in_X5_write_X4 hown hK hH 57 (by decide) rfl rfl 2 (by decide) (hts (.fieldLink RX5 223 "StationLine$Sheets" "rows" "[[I") (List.mem_of_getElem? (i := 3) rfl)) rfl dX5_write_69 ?_
          refine lv_iload_n hx hb dX5_write_72 rfl (lv_at hl 2 rfl) ?_
          refine h_aaldE (n := 4) hx hb hK hH 60 3 61 (by decide) rfl rfl (iv_in k26 (by decide) (by decide)) dX5_write_73 (fun k39 hk39 ek39 => ?_)
          refine lv_iload_n hx hb dX5_write_74 rfl (lv_at hl 3 rfl) ?_
          refine lv_aload_n hx hb dX5_write_75 rfl (lv_at hl 1 rfl) ?_
          refine b_get (ci := 5) (C := RX5) (T := TX5) (Nf := 12) (v := .ref (q 57)) hx hb hts in_X5_write_X5 hown hK hH 0 (by decide) rfl rfl 8 (by decide) (hts (.fieldLink RX5 55 "StationLine" "sheets" "LStationLine$Sheets;") (List.mem_of_getElem? (i := 1) rfl)) rfl dX5_write_76 ?_
          refine b_get (ci := 4) (C := RX4) (T := TX4) (Nf := 3) (v := .ref (q 58)) hx hb hts in_X5_write_X4 hown hK hH 57 (by decide) rfl rfl 0 (by decide) (hts (.fieldLink RX5 226 "StationLine$Sheets" "sorts" "[I") (List.mem_of_getElem? (i := 4) rfl)) rfl dX5_write_79 ?_
          refine lv_iload_n hx hb dX5_write_82 rfl (lv_at hl 2 rfl) ?_
          refine b_iald (v := z0.2.1 58 (p0 : Int32).toNatClampNeg) hx hb hK hH 58 (by decide) rfl (iv_in k26 (by decide) (by decide)) rfl dX5_write_83 ?_
          refine lv_iload_n hx hb dX5_write_84 rfl (lv_at hl 4 rfl) ?_
          refine b_stati (As := [.int (z0.2.1 58 (p0 : Int32).toNatClampNeg), .int p2]) (rest := [.int p1, .ref (q k39)]) ⟨hx, hb, hml, hown, hts⟩ (g_X4_narrowed l D cy q hH.2.1 z0 hJ.1 (z0.2.1 58 (p0 : Int32).toNatClampNeg) p2) (va_cwS 2 hts gX5_write_X4_narrowed rfl rfl rfl (by decide +kernel) ⟨Nat.le_of_ble_eq_true rfl, Nat.le_of_ble_eq_true rfl⟩) hK hZ hH rfl hl.1 rfl (Nat.le_of_ble_eq_true rfl) ⟨Nat.zero_le _, Nat.zero_le _⟩ dX5_write_85 (fun w40 z40 H locs hp hH => ?_)
          rw [Ag_0 hp.1.2] at hH
          have f40_0 := hp.2.2
          refine b_iast hx hb hK hH k39 (Nat.lt_of_lt_of_le hk39.2 (by decide)) (enC_g61 cy q _ k39 hk39) (iv_in k37a (by decide) (by decide)) (upA z0 k39 (upd (z0.2.1 k39) (p1 : Int32).toNatClampNeg w40)) (enC_sa61 cy q _ k39 _ hk39) (enC_A _ _ _ _ _) dX5_write_88 (fun H locs hH => ?_)
          obtain ⟨z41, hz41⟩ : ∃ w : zS, w = upA z0 k39 (upd (z0.2.1 k39) (p1 : Int32).toNatClampNeg w40) := ⟨_, rfl⟩
          rw [← hz41] at hH
          have hJ : jJ IvC 1024 34587645138205409280 0 z0 z41 := by rw [hz41]; exact jJ_A hJ (tb_grp (g0 := 61) (n := 4) (by decide) hk39) (IvC_A hJ.1 (by omega))
          refine lv_iload hx hb dX5_write_89 (lv_at hl 0 rfl) ?_
          exact hret _ z41 H locs _ _ ⟨hJ, (iv_all (z0.2.1 k38 (p1 : Int32).toNatClampNeg)), ⟨fun q => absurd (iv_w k26 (by decide) (by decide)) q, fun _ => ⟨fun r9 => absurd r9 (by have := f28_0.1 c29; omega), fun _ => ⟨fun r9 => absurd ⟨by omega, by omega⟩ r9, fun _ => ⟨congrArg (fun k => z0.2.1 k p1.toNatClampNeg) ek38, (by rw [hz41, ← f40_0]; exact wr_c ek39)⟩⟩⟩⟩⟩ hH dX5_write_91
        · skip
          have r36 := (iv_nLt c36)
          refine lv_aload_n hx hb dX5_write_45 rfl (lv_at hl 0 rfl) ?_
          refine lv_bipush (v := (-11)) hx hb dX5_write_46 (by decide) ?_
          refine b_calli (As := [.int (-11)]) (rest := []) ⟨hx, hb, hml, hown, hts⟩ 0 5 (g_X5_found_0 l D cy q hH.2.1 z0 hJ.1 (-11)) (cwV 1 hts gX5_write_X5_found rfl rfl rfl (by decide +kernel) ⟨Nat.le_of_ble_eq_true rfl, Nat.le_of_ble_eq_true rfl⟩) hK hZ hH (by decide) rfl rfl rfl hl.1 rfl (Nat.le_of_ble_eq_true rfl) ⟨Nat.zero_le _, Nat.zero_le _⟩ dX5_write_48 (fun w43 z43 H locs hp hH => ?_)
          have hJ := jJ_tr hJ hp.1 (by decide) (by decide) (by decide)
          have f43_0 := hp.2.2
          have hA43 := hp.1.2
          exact hret _ z43 H locs _ _ ⟨hJ, (iv_all w43), ⟨fun q => absurd (iv_w k26 (by decide) (by decide)) q, fun _ => ⟨fun r9 => absurd r9 (by have := f28_0.1 c29; omega), fun _ => ⟨fun _ => ⟨f43_0, (ag_same hA43.2.1 (by decide) (by decide) (by decide) (by decide))⟩, fun r9 => absurd r9.2 (by have := r9.1; omega)⟩⟩⟩⟩ hH dX5_write_51
    · skip
      have r29 := (iv_nEq c29)
      have k44a : iv 1 1 w28 := iv_neLo (iv_nEq c29) i28 (by decide) (by decide)
      refine lv_aload_n hx hb dX5_write_21 rfl (lv_at hl 0 rfl) ?_
      refine lv_bipush (v := (-10)) hx hb dX5_write_22 (by decide) ?_
      refine b_calli (As := [.int (-10)]) (rest := []) ⟨hx, hb, hml, hown, hts⟩ 0 5 (g_X5_found_0 l D cy q hH.2.1 z0 hJ.1 (-10)) (cwV 1 hts gX5_write_X5_found rfl rfl rfl (by decide +kernel) ⟨Nat.le_of_ble_eq_true rfl, Nat.le_of_ble_eq_true rfl⟩) hK hZ hH (by decide) rfl rfl rfl hl.1 rfl (Nat.le_of_ble_eq_true rfl) ⟨Nat.zero_le _, Nat.zero_le _⟩ dX5_write_24 (fun w45 z45 H locs hp hH => ?_)
      have hJ := jJ_tr hJ hp.1 (by decide) (by decide) (by decide)
      have f45_0 := hp.2.2
      have hA45 := hp.1.2
      exact hret _ z45 H locs _ _ ⟨hJ, (iv_all w45), ⟨fun q => absurd (iv_w k26 (by decide) (by decide)) q, fun _ => ⟨fun _ => ⟨f45_0, (ag_same hA45.2.1 (by decide) (by decide) (by decide) (by decide))⟩, fun r9 => absurd r9 (by have := f28_0.2 c29; omega)⟩⟩⟩ hH dX5_write_27
  · skip
    have r25 := (iv_Eq c25)
    have k46a : iv 0 0 w24 := iv_eql (iv_Eq c25) i24 (iv_lit (n := 0) 0 (by decide)) (by decide) (by decide)
    refine lv_bipush (v := (-2)) hx hb dX5_write_7 (by decide) ?_
    exact hret _ z0 H locs _ _ ⟨hJ, (iv_w (iv_lit (n := (-2)) (-2) (by decide)) (by decide) (by decide)), ⟨fun _ => ⟨rfl, fun _ _ _ _ => rfl⟩, fun q => absurd q (f24_0.mp c25)⟩⟩ hH dX5_write_9
set_option maxHeartbeats 4000000 in
set_option maxRecDepth 100000 in
theorem g_X5_lose_0 (l : Launch) (D : va_G) (cy : Nat → ClassId) (q : Nat → Nat) (hq : bJ 66 q) (z0 : zS) (hI : IvC z0) (p0 : Int32) : bCi l yX5_lose wsX5_lose ({ frames := 1, cells := 0, slots := 0, locals := 21 }) D cy 66 (enC cy) q z0 [.ref (q 0), .int p0] (fun v z => jJ IvC 0 576460752303423488 0 z0 z ∧ iv (-2) 1 v ∧ (LoP (z0.2.1 59) p0 v (z.2.1 59))) := by
  refine hM_i cX5_lose (by decide) rfl (own := RX5) rfl hq (Nat.le_of_ble_eq_true rfl) ?_
  intro p e s m args below meth c Q ls H locs hx hb hml hown hts hK hZ hH hl hret
  have hl : lv_has ls 3 [(0, .ref (q 0)), (1, .int p0)] := hl
  have hJ : jJ IvC 0 576460752303423488 0 z0 z0 := jJ_rf _ _ _ hI
  have e00 : (0 : Int32).toInt = 0 := (by decide); have e01 : (1 : Int32).toInt = 1 := (by decide); have e02 : (2 : Int32).toInt = 2 := (by decide); have e03 : (3 : Int32).toInt = 3 := (by decide); have e010 : (10 : Int32).toInt = 10 := (by decide)
  refine lv_iload_n hx hb dX5_lose_0 rfl (lv_at hl 1 rfl) ?_
  refine b_stati (As := [.int p0]) (rest := []) ⟨hx, hb, hml, hown, hts⟩ (g_X5_isSheet l D cy q hH.2.1 z0 hJ.1 p0) (va_cwS 1 hts gX5_lose_X5_isSheet rfl rfl rfl (by decide +kernel) ⟨Nat.le_of_ble_eq_true rfl, Nat.le_of_ble_eq_true rfl⟩) hK hZ hH rfl hl.1 rfl (Nat.le_of_ble_eq_true rfl) ⟨Nat.zero_le _, Nat.zero_le _⟩ dX5_lose_1 (fun w12 z12 H locs hp hH => ?_)
  rw [Ag_0 hp.1.2] at hH
  have i12 := hp.2.1
  have := i12.1; have := i12.2
  have tr12_0 := hp.2.2.1
  have f12_0 := hp.2.2.2
  refine lv_if_ne (tgt := 10) hx hb dX5_lose_4 (by decide) (fun c13 => ?_) (fun c13 => ?_)
  · skip
    have k14 : iv 0 3 p0 := (tr12_0).resolve_left c13
    have := k14.1; have := k14.2
    have r13 := (iv_nEq c13)
    have k15a : iv 1 1 w12 := iv_neLo (iv_nEq c13) i12 (by decide) (by decide)
    refine lv_aload_n hx hb dX5_lose_10 rfl (lv_at hl 0 rfl) ?_
    refine b_get (ci := 5) (C := RX5) (T := TX5) (Nf := 12) (v := .ref (q 57)) hx hb hts in_X5_lose_X5 hown hK hH 0 (by decide) rfl rfl 8 (by decide) (hts (.fieldLink RX5 55 "StationLine" "sheets" "LStationLine$Sheets;") (List.mem_of_getElem? (i := 1) rfl)) rfl dX5_lose_11 ?_
    refine lv_iload_n hx hb dX5_lose_14 rfl (lv_at hl 1 rfl) ?_
    refine b_calli (As := [.int p0]) (rest := []) ⟨hx, hb, hml, hown, hts⟩ 57 4 (g_X4_isMissing_57 l D cy q hH.2.1 z0 hJ.1 p0 k14) (cwV 1 hts gX5_lose_X4_isMissing rfl rfl rfl (by decide +kernel) ⟨Nat.le_of_ble_eq_true rfl, Nat.le_of_ble_eq_true rfl⟩) hK hZ hH (by decide) rfl rfl rfl hl.1 rfl (Nat.le_of_ble_eq_true rfl) ⟨Nat.zero_le _, Nat.zero_le _⟩ dX5_lose_15 (fun w16 z16 H locs hp hH => ?_)
    rw [Ag_0 hp.1.2] at hH
    have i16 := hp.2.1
    have := i16.1; have := i16.2
    have f16_0 := hp.2.2
    refine lv_if_eq (tgt := 25) hx hb dX5_lose_18 (by decide) (fun c17 => ?_) (fun c17 => ?_)
    · skip
      have r17 := (iv_Eq c17)
      have k18a : iv 0 0 w16 := iv_eql (iv_Eq c17) i16 (iv_lit (n := 0) 0 (by decide)) (by decide) (by decide)
      refine lv_iconst (v := 1) hx hb dX5_lose_25 (by decide) ?_
      refine lv_istore_n (lv' := [(2, .int 1), (0, .ref (q 0)), (1, .int p0)]) hx hb dX5_lose_26 rfl hl (by decide) rfl (fun ls hl => ?_)
      refine lv_aload_n hx hb dX5_lose_27 rfl (lv_at hl 1 rfl) ?_
      refine b_get (ci := 5) (C := RX5) (T := TX5) (Nf := 12) (v := .ref (q 57)) hx hb hts in_X5_lose_X5 hown hK hH 0 (by decide) rfl rfl 8 (by decide) (hts (.fieldLink RX5 55 "StationLine" "sheets" "LStationLine$Sheets;") (List.mem_of_getElem? (i := 1) rfl)) rfl dX5_lose_28 ?_
      refine lv_iload_n hx hb dX5_lose_31 rfl (lv_at hl 2 rfl) ?_
      refine b_callv (As := [.int p0]) (rest := []) ⟨hx, hb, hml, hown, hts⟩ 57 4 (g_X4_drop_57 l D cy q hH.2.1 z0 hJ.1 p0 k14) (cwV 1 hts gX5_lose_X4_drop rfl rfl rfl (by decide +kernel) ⟨Nat.le_of_ble_eq_true rfl, Nat.le_of_ble_eq_true rfl⟩) hK hZ hH (by decide) rfl rfl rfl hl.1 rfl (Nat.le_of_ble_eq_true rfl) ⟨Nat.zero_le _, Nat.zero_le _⟩ dX5_lose_32 (fun z19 H locs hp hH => ?_)
      have hJ := jJ_tr hJ hp.1 (by decide) (by decide) (by decide)
      have f19_0 := hp.2
      have hA19 := hp.1.2
      refine lv_iload_n hx hb dX5_lose_35 rfl (lv_at hl 0 rfl) ?_
      exact hret _ z19 H locs _ _ ⟨hJ, (iv_w (iv_lit (n := 1) 1 (by decide)) (by decide) (by decide)), ⟨fun _ => ⟨⟨fun r9 => absurd r9 (by have := f16_0.1 c17; omega), fun _ => rfl⟩, f19_0⟩, fun q => absurd (iv_w k14 (by decide) (by decide)) q⟩⟩ hH dX5_lose_36
    · skip
      have r17 := (iv_nEq c17)
      have k20a : iv 1 1 w16 := iv_neLo (iv_nEq c17) i16 (by decide) (by decide)
      refine lv_iconst (v := 0) hx hb dX5_lose_21 (by decide) ?_
      refine lv_goto (tgt := 26) hx hb dX5_lose_22 (by decide) ?_
      refine lv_istore_n (lv' := [(2, .int 0), (0, .ref (q 0)), (1, .int p0)]) hx hb dX5_lose_26 rfl hl (by decide) rfl (fun ls hl => ?_)
      refine lv_aload_n hx hb dX5_lose_27 rfl (lv_at hl 1 rfl) ?_
      refine b_get (ci := 5) (C := RX5) (T := TX5) (Nf := 12) (v := .ref (q 57)) hx hb hts in_X5_lose_X5 hown hK hH 0 (by decide) rfl rfl 8 (by decide) (hts (.fieldLink RX5 55 "StationLine" "sheets" "LStationLine$Sheets;") (List.mem_of_getElem? (i := 1) rfl)) rfl dX5_lose_28 ?_
      refine lv_iload_n hx hb dX5_lose_31 rfl (lv_at hl 2 rfl) ?_
      refine b_callv (As := [.int p0]) (rest := []) ⟨hx, hb, hml, hown, hts⟩ 57 4 (g_X4_drop_57 l D cy q hH.2.1 z0 hJ.1 p0 k14) (cwV 1 hts gX5_lose_X4_drop rfl rfl rfl (by decide +kernel) ⟨Nat.le_of_ble_eq_true rfl, Nat.le_of_ble_eq_true rfl⟩) hK hZ hH (by decide) rfl rfl rfl hl.1 rfl (Nat.le_of_ble_eq_true rfl) ⟨Nat.zero_le _, Nat.zero_le _⟩ dX5_lose_32 (fun z21 H locs hp hH => ?_)
      have hJ := jJ_tr hJ hp.1 (by decide) (by decide) (by decide)
      have f21_0 := hp.2
      have hA21 := hp.1.2
      refine lv_iload_n hx hb dX5_lose_35 rfl (lv_at hl 0 rfl) ?_
      exact hret _ z21 H locs _ _ ⟨hJ, (iv_w (iv_lit (n := 0) 0 (by decide)) (by decide) (by decide)), ⟨fun _ => ⟨⟨fun _ => rfl, fun r9 => absurd r9 (by have := f16_0.2 c17; omega)⟩, f21_0⟩, fun q => absurd (iv_w k14 (by decide) (by decide)) q⟩⟩ hH dX5_lose_36
  · skip
    have r13 := (iv_Eq c13)
    have k22a : iv 0 0 w12 := iv_eql (iv_Eq c13) i12 (iv_lit (n := 0) 0 (by decide)) (by decide) (by decide)
    refine lv_bipush (v := (-2)) hx hb dX5_lose_7 (by decide) ?_
    exact hret _ z0 H locs _ _ ⟨hJ, (iv_w (iv_lit (n := (-2)) (-2) (by decide)) (by decide) (by decide)), ⟨fun q => absurd q (f12_0.mp c13), fun _ => ⟨rfl, rfl⟩⟩⟩ hH dX5_lose_9
set_option maxHeartbeats 4000000 in
set_option maxRecDepth 100000 in
theorem g_X5_tell_0 (l : Launch) (D : va_G) (cy : Nat → ClassId) (q : Nat → Nat) (hq : bJ 66 q) (z0 : zS) (hI : IvC z0) (p0 : Int32) : bCi l yX5_tell wsX5_tell ({ frames := 0, cells := 0, slots := 0, locals := 0 }) D cy 66 (enC cy) q z0 [.ref (q 0), .int p0] (fun v z => jJ IvC 512 36893488147419103232 0 z0 z ∧ iv (-2) 20 v ∧ (TellP (z0.1 9) v (z.1 9))) := by
  refine hM_i cX5_tell (by decide) rfl (own := RX5) rfl hq (Nat.le_of_ble_eq_true rfl) ?_
  intro p e s m args below meth c Q ls H locs hx hb hml hown hts hK hZ hH hl hret
  have hl : lv_has ls 2 [(0, .ref (q 0)), (1, .int p0)] := hl
  have hJ : jJ IvC 512 36893488147419103232 0 z0 z0 := jJ_rf _ _ _ hI
  have e00 : (0 : Int32).toInt = 0 := (by decide); have e01 : (1 : Int32).toInt = 1 := (by decide); have e02 : (2 : Int32).toInt = 2 := (by decide); have e03 : (3 : Int32).toInt = 3 := (by decide); have e010 : (10 : Int32).toInt = 10 := (by decide)
  refine lv_aload_n hx hb dX5_tell_0 rfl (lv_at hl 0 rfl) ?_
  refine b_get (ci := 5) (C := RX5) (T := TX5) (Nf := 12) (v := .int (z0.1 9)) hx hb hts in_X5_tell_X5 hown hK hH 0 (by decide) rfl rfl 10 (by decide) (hts (.fieldLink RX5 63 "StationLine" "waitingCount" "I") (List.mem_of_getElem? (i := 1) rfl)) rfl dX5_tell_1 ?_
  have i10 := IvC_s9 hJ.1
  have := i10.1; have := i10.2
  refine lv_bipush (v := 20) hx hb dX5_tell_4 (by decide) ?_
  refine lv_icmp_lt (tgt := 12) hx hb dX5_tell_6 (by decide) (fun c11 => ?_) (fun c11 => ?_)
  · skip
    have r11 := (iv_Lt c11)
    have k12a : iv 0 19 (z0.1 9) := iv_ltl (iv_Lt c11) i10 (iv_lit (n := 20) 20 (by decide)) (by decide)
    refine lv_aload_n hx hb dX5_tell_12 rfl (lv_at hl 0 rfl) ?_
    refine b_get (ci := 5) (C := RX5) (T := TX5) (Nf := 12) (v := .ref (q 65)) hx hb hts in_X5_tell_X5 hown hK hH 0 (by decide) rfl rfl 9 (by decide) (hts (.fieldLink RX5 59 "StationLine" "waiting" "[I") (List.mem_of_getElem? (i := 2) rfl)) rfl dX5_tell_13 ?_
    refine lv_aload_n hx hb dX5_tell_16 rfl (lv_at hl 0 rfl) ?_
    refine b_get (ci := 5) (C := RX5) (T := TX5) (Nf := 12) (v := .int (z0.1 9)) hx hb hts in_X5_tell_X5 hown hK hH 0 (by decide) rfl rfl 10 (by decide) (hts (.fieldLink RX5 63 "StationLine" "waitingCount" "I") (List.mem_of_getElem? (i := 1) rfl)) rfl dX5_tell_17 ?_
    have := k12a.1; have := k12a.2
    refine lv_iload_n hx hb dX5_tell_20 rfl (lv_at hl 1 rfl) ?_
    refine b_iast hx hb hK hH 65 (by decide) rfl (iv_in k12a (by decide) (by decide)) (upA z0 65 (upd (z0.2.1 65) (z0.1 9 : Int32).toNatClampNeg p0)) rfl (enC_A _ _ _ _ _) dX5_tell_21 (fun H locs hH => ?_)
    obtain ⟨z13, hz13⟩ : ∃ w : zS, w = upA z0 65 (upd (z0.2.1 65) (z0.1 9 : Int32).toNatClampNeg p0) := ⟨_, rfl⟩
    rw [← hz13] at hH
    have hJ : jJ IvC 512 36893488147419103232 0 z0 z13 := by rw [hz13]; exact jJ_A hJ (by decide) (IvC_A hJ.1 (by decide))
    have g14 : iv 0 19 (z13.1 9) := by rw [hz13]; exact k12a
    refine lv_aload_n hx hb dX5_tell_22 rfl (lv_at hl 0 rfl) ?_
    refine lv_dup hx hb dX5_tell_23 rfl ?_
    refine b_get (ci := 5) (C := RX5) (T := TX5) (Nf := 12) (v := .int (z13.1 9)) hx hb hts in_X5_tell_X5 hown hK hH 0 (by decide) rfl rfl 10 (by decide) (hts (.fieldLink RX5 63 "StationLine" "waitingCount" "I") (List.mem_of_getElem? (i := 1) rfl)) rfl dX5_tell_24 ?_
    have := g14.1; have := g14.2
    refine lv_iconst (v := 1) hx hb dX5_tell_27 (by decide) ?_
    refine lv_iadd hx hb dX5_tell_28 ?_
    have i15 : iv 1 20 ((z13.1 9) + 1) := (iv_add g14 (iv_lit (n := 1) 1 (by decide)) (by decide) (by decide) (by decide) (by decide))
    have e15 : ((z13.1 9) + 1).toInt = (z13.1 9).toInt + 1 := ((iv_addE g14 (iv_lit (n := 1) 1 (by decide)) (by decide) (by decide)).trans rfl)
    have := i15.1; have := i15.2
    refine b_put (ci := 5) (C := RX5) (T := TX5) (Nf := 12) (v := .int ((z13.1 9) + 1)) (ty := .int) hx hb hts in_X5_tell_X5 tyX5 tyX5_ok nmX5 hown hK hH 0 (by decide) rfl rfl 10 (by decide) (hts (.fieldLink RX5 63 "StationLine" "waitingCount" "I") (List.mem_of_getElem? (i := 1) rfl)) rfl (by decide +kernel) rfl rfl (Nat.le_of_ble_eq_true rfl) (upS z13 9 ((z13.1 9) + 1)) rfl (enC_S9 _ _ _ _) dX5_tell_29 (fun H locs hH => ?_)
    obtain ⟨z16, hz16⟩ : ∃ w : zS, w = upS z13 9 ((z13.1 9) + 1) := ⟨_, rfl⟩
    rw [← hz16] at hH
    have hJ : jJ IvC 512 36893488147419103232 0 z0 z16 := by rw [hz16]; exact jJ_S hJ (by decide) (IvC_S9 hJ.1 (iv_w i15 (by decide) (by decide)))
    have g17 : iv 1 20 (z16.1 9) := by rw [hz16]; exact i15
    refine lv_aload_n hx hb dX5_tell_32 rfl (lv_at hl 0 rfl) ?_
    refine b_get (ci := 5) (C := RX5) (T := TX5) (Nf := 12) (v := .int (z16.1 9)) hx hb hts in_X5_tell_X5 hown hK hH 0 (by decide) rfl rfl 10 (by decide) (hts (.fieldLink RX5 63 "StationLine" "waitingCount" "I") (List.mem_of_getElem? (i := 1) rfl)) rfl dX5_tell_33 ?_
    have := g17.1; have := g17.2
    exact hret _ z16 H locs _ _ ⟨hJ, (iv_w g17 (by decide) (by decide)), ⟨fun q => absurd q (fun q => absurd (iv_Eq q) (by have e20 : (20 : Int32).toInt = 20 := (by decide); omega)), fun _ => ⟨(by rw [hz16, hz13]; rfl), (by rw [hz16, hz13]; rfl)⟩⟩⟩ hH dX5_tell_36
  · skip
    have r11 := (iv_nLt c11)
    have k18b : iv 20 20 (z0.1 9) := iv_ler (iv_nLt c11) (iv_lit (n := 20) 20 (by decide)) i10
    refine lv_bipush (v := (-2)) hx hb dX5_tell_9 (by decide) ?_
    exact hret _ z0 H locs _ _ ⟨hJ, (iv_w (iv_lit (n := (-2)) (-2) (by decide)) (by decide) (by decide)), ⟨fun _ => ⟨rfl, rfl⟩, fun q => absurd (iv_20 (IvC_s9 hI) (by have e20 : (20 : Int32).toInt = 20 := (by decide); omega)) q⟩⟩ hH dX5_tell_11
set_option maxHeartbeats 4000000 in
set_option maxRecDepth 100000 in
theorem g_X5_keep_0 (l : Launch) (D : va_G) (cy : Nat → ClassId) (q : Nat → Nat) (hq : bJ 66 q) (z0 : zS) (hI : IvC z0)  : bCi l yX5_keep wsX5_keep ({ frames := 2, cells := 0, slots := 0, locals := 62 }) D cy 66 (enC cy) q z0 [.ref (q 0)] (fun v z => jJ IvC 120 402391040 0 z0 z ∧ iv 0 10 v ∧ (v = z0.1 0 ∧ z.1 3 = z0.1 0 ∧ z.1 4 = z0.1 1 ∧ z.1 5 = z0.1 2 ∧ z.1 6 = 1) ∧ ((∀ i : Nat, i < 10 → z.2.1 21 i = z0.2.1 7 i) ∧ (∀ i : Nat, i < 10 → z.2.1 22 i = z0.2.1 8 i) ∧ (∀ i : Nat, i < 10 → z.2.1 23 i = z0.2.1 9 i) ∧ (∀ i : Nat, i < 10 → z.2.1 24 i = z0.2.1 10 i) ∧ (∀ i : Nat, i < 10 → z.2.1 25 i = z0.2.1 11 i) ∧ (∀ i : Nat, i < 10 → z.2.1 26 i = z0.2.1 12 i)) ∧ (SameT (fun a b => z0.2.1 (4 + a) b) (fun a b => z.2.1 (18 + a) b))) := by
  refine hM_i cX5_keep (by decide) rfl (own := RX5) rfl hq (Nat.le_of_ble_eq_true rfl) ?_
  intro p e s m args below meth c Q ls H locs hx hb hml hown hts hK hZ hH hl hret
  have hl : lv_has ls 1 [(0, .ref (q 0))] := hl
  have hJ : jJ IvC 120 402391040 0 z0 z0 := jJ_rf _ _ _ hI
  refine lv_aload_n hx hb dX5_keep_0 rfl (lv_at hl 0 rfl) ?_
  refine b_get (ci := 5) (C := RX5) (T := TX5) (Nf := 12) (v := .ref (q 15)) hx hb hts in_X5_keep_X5 hown hK hH 0 (by decide) rfl rfl 2 (by decide) (hts (.fieldLink RX5 25 "StationLine" "keptBench" "LStationLine$Bench;") (List.mem_of_getElem? (i := 1) rfl)) rfl dX5_keep_1 ?_
  refine lv_aload_n hx hb dX5_keep_4 rfl (lv_at hl 0 rfl) ?_
  refine b_get (ci := 5) (C := RX5) (T := TX5) (Nf := 12) (v := .ref (q 1)) hx hb hts in_X5_keep_X5 hown hK hH 0 (by decide) rfl rfl 0 (by decide) (hts (.fieldLink RX5 12 "StationLine" "bench" "LStationLine$Bench;") (List.mem_of_getElem? (i := 2) rfl)) rfl dX5_keep_5 ?_
  refine b_callv (As := [.ref (q 1)]) (rest := []) ⟨hx, hb, hml, hown, hts⟩ 15 0 (g_X0_become_15 l D cy q hH.2.1 z0 hJ.1 ) (cwV 1 hts gX5_keep_X0_become rfl rfl rfl (by decide +kernel) ⟨Nat.le_of_ble_eq_true rfl, Nat.le_of_ble_eq_true rfl⟩) hK hZ hH (by decide) rfl rfl rfl hl.1 rfl (Nat.le_of_ble_eq_true rfl) ⟨Nat.zero_le _, Nat.zero_le _⟩ dX5_keep_8 (fun z6 H locs hp hH => ?_)
  have hJ := jJ_tr hJ hp.1 (by decide) (by decide) (by decide)
  have f6_0 := hp.2.1
  have f6_1 := hp.2.2.1
  have f6_2 := hp.2.2.2
  have hA6 := hp.1.2
  refine lv_aload_n hx hb dX5_keep_11 rfl (lv_at hl 0 rfl) ?_
  refine b_get (ci := 5) (C := RX5) (T := TX5) (Nf := 12) (v := .ref (q 27)) hx hb hts in_X5_keep_X5 hown hK hH 0 (by decide) rfl rfl 3 (by decide) (hts (.fieldLink RX5 28 "StationLine" "keptHand" "LStationLine$Putting;") (List.mem_of_getElem? (i := 3) rfl)) rfl dX5_keep_12 ?_
  refine lv_aload_n hx hb dX5_keep_15 rfl (lv_at hl 0 rfl) ?_
  refine b_get (ci := 5) (C := RX5) (T := TX5) (Nf := 12) (v := .ref (q 13)) hx hb hts in_X5_keep_X5 hown hK hH 0 (by decide) rfl rfl 1 (by decide) (hts (.fieldLink RX5 21 "StationLine" "hand" "LStationLine$Putting;") (List.mem_of_getElem? (i := 4) rfl)) rfl dX5_keep_16 ?_
  refine b_callv (As := [.ref (q 13)]) (rest := []) ⟨hx, hb, hml, hown, hts⟩ 27 1 (g_X1_copyRow_27 l D cy q hH.2.1 z6 hJ.1 ) (cwV 1 hts gX5_keep_X1_copyRow rfl rfl rfl (by decide +kernel) ⟨Nat.le_of_ble_eq_true rfl, Nat.le_of_ble_eq_true rfl⟩) hK hZ hH (by decide) rfl rfl rfl hl.1 rfl (Nat.le_of_ble_eq_true rfl) ⟨Nat.zero_le _, Nat.zero_le _⟩ dX5_keep_19 (fun z7 H locs hp hH => ?_)
  have hJ := jJ_tr hJ hp (by decide) (by decide) (by decide)
  have hA7 := hp.2
  refine lv_aload_n hx hb dX5_keep_22 rfl (lv_at hl 0 rfl) ?_
  refine lv_iconst (v := 1) hx hb dX5_keep_23 (by decide) ?_
  refine b_put (ci := 5) (C := RX5) (T := TX5) (Nf := 12) (v := .int 1) (ty := .boolean) hx hb hts in_X5_keep_X5 tyX5 tyX5_ok nmX5 hown hK hH 0 (by decide) rfl rfl 4 (by decide) (hts (.fieldLink RX5 31 "StationLine" "isKept" "Z") (List.mem_of_getElem? (i := 5) rfl)) rfl (by decide +kernel) rfl rfl (Nat.le_of_ble_eq_true rfl) (upS z7 6 1) rfl (enC_S6 _ _ _ _) dX5_keep_24 (fun H locs hH => ?_)
  obtain ⟨z8, hz8⟩ : ∃ w : zS, w = upS z7 6 1 := ⟨_, rfl⟩
  rw [← hz8] at hH
  have hJ : jJ IvC 120 402391040 0 z0 z8 := by rw [hz8]; exact jJ_S hJ (by decide) (IvC_S6 hJ.1)
  have g9 : iv 1 1 (z8.1 6) := by rw [hz8]; exact (iv_lit (n := 1) 1 (by decide))
  refine lv_aload_n hx hb dX5_keep_27 rfl (lv_at hl 0 rfl) ?_
  refine b_get (ci := 5) (C := RX5) (T := TX5) (Nf := 12) (v := .ref (q 1)) hx hb hts in_X5_keep_X5 hown hK hH 0 (by decide) rfl rfl 0 (by decide) (hts (.fieldLink RX5 12 "StationLine" "bench" "LStationLine$Bench;") (List.mem_of_getElem? (i := 2) rfl)) rfl dX5_keep_28 ?_
  refine b_get (ci := 0) (C := RX0) (T := TX0) (Nf := 11) (v := .int (z8.1 0)) hx hb hts in_X5_keep_X0 hown hK hH 1 (by decide) rfl rfl 0 (by decide) (hts (.fieldLink RX5 70 "StationLine$Bench" "size" "I") (List.mem_of_getElem? (i := 6) rfl)) rfl dX5_keep_31 ?_
  have i10 := IvC_s0 hJ.1
  exact hret _ z8 H locs _ _ ⟨hJ, i10, ⟨hJ.2.1 0 (by decide), (((show z8.1 3 = z7.1 3 by rw [hz8]; first | rfl | exact upA_n (by omega))).trans ((hA7.1 3 (by decide)))).trans f6_0.1, (((show z8.1 4 = z7.1 4 by rw [hz8]; first | rfl | exact upA_n (by omega))).trans ((hA7.1 4 (by decide)))).trans f6_0.2.1, (((show z8.1 5 = z7.1 5 by rw [hz8]; first | rfl | exact upA_n (by omega))).trans ((hA7.1 5 (by decide)))).trans f6_0.2.2, by rw [hz8]; rfl⟩, ⟨fun i hi => (congrFun ((((show z8.2.1 21 = z7.2.1 21 by rw [hz8]; first | rfl | exact upA_n (by omega))).trans ((hA7.2.1 21 (by decide))))) i).trans (f6_1.1 i hi), fun i hi => (congrFun ((((show z8.2.1 22 = z7.2.1 22 by rw [hz8]; first | rfl | exact upA_n (by omega))).trans ((hA7.2.1 22 (by decide))))) i).trans (f6_1.2.1 i hi), fun i hi => (congrFun ((((show z8.2.1 23 = z7.2.1 23 by rw [hz8]; first | rfl | exact upA_n (by omega))).trans ((hA7.2.1 23 (by decide))))) i).trans (f6_1.2.2.1 i hi), fun i hi => (congrFun ((((show z8.2.1 24 = z7.2.1 24 by rw [hz8]; first | rfl | exact upA_n (by omega))).trans ((hA7.2.1 24 (by decide))))) i).trans (f6_1.2.2.2.1 i hi), fun i hi => (congrFun ((((show z8.2.1 25 = z7.2.1 25 by rw [hz8]; first | rfl | exact upA_n (by omega))).trans ((hA7.2.1 25 (by decide))))) i).trans (f6_1.2.2.2.2.1 i hi), fun i hi => (congrFun ((((show z8.2.1 26 = z7.2.1 26 by rw [hz8]; first | rfl | exact upA_n (by omega))).trans ((hA7.2.1 26 (by decide))))) i).trans (f6_1.2.2.2.2.2 i hi)⟩, (same_tr f6_2 (same_tr (ag_T 18 hA7.2.1 (by decide) (by decide) (by decide)) (fun a b ha _ => congrFun (show z8.2.1 (18 + a) = z7.2.1 (18 + a) by rw [hz8]; first | rfl | exact upA_n (by omega)) b)))⟩ hH dX5_keep_34
set_option maxHeartbeats 4000000 in
set_option maxRecDepth 100000 in
theorem g_X5_back_0 (l : Launch) (D : va_G) (cy : Nat → ClassId) (q : Nat → Nat) (hq : bJ 66 q) (z0 : zS) (hI : IvC z0)  : bCi l yX5_back wsX5_back ({ frames := 2, cells := 0, slots := 0, locals := 62 }) D cy 66 (enC cy) q z0 [.ref (q 0)] (fun v z => jJ IvC 1031 24560 0 z0 z ∧ iv (-2147483648) 2147483647 v ∧ ((z0.1 6 = 0 → v = -10 ∧ z.1 0 = z0.1 0 ∧ z.1 1 = z0.1 1 ∧ z.1 2 = z0.1 2) ∧ (¬ z0.1 6 = 0 → v = z0.1 3 ∧ z.1 0 = z0.1 3 ∧ z.1 1 = z0.1 4 ∧ z.1 2 = z0.1 5)) ∧ (BkR (z0.1 6) (z0.2.1 7) (z0.2.1 21) (z.2.1 7) ∧ BkR (z0.1 6) (z0.2.1 8) (z0.2.1 22) (z.2.1 8) ∧ BkR (z0.1 6) (z0.2.1 9) (z0.2.1 23) (z.2.1 9) ∧ BkR (z0.1 6) (z0.2.1 10) (z0.2.1 24) (z.2.1 10) ∧ BkR (z0.1 6) (z0.2.1 11) (z0.2.1 25) (z.2.1 11) ∧ BkR (z0.1 6) (z0.2.1 12) (z0.2.1 26) (z.2.1 12)) ∧ (BkT (z0.1 6) (fun a b => z0.2.1 (4 + a) b) (fun a b => z0.2.1 (18 + a) b) (fun a b => z.2.1 (4 + a) b))) := by
  refine hM_i cX5_back (by decide) rfl (own := RX5) rfl hq (Nat.le_of_ble_eq_true rfl) ?_
  intro p e s m args below meth c Q ls H locs hx hb hml hown hts hK hZ hH hl hret
  have hl : lv_has ls 1 [(0, .ref (q 0))] := hl
  have hJ : jJ IvC 1031 24560 0 z0 z0 := jJ_rf _ _ _ hI
  refine lv_aload_n hx hb dX5_back_0 rfl (lv_at hl 0 rfl) ?_
  refine b_get (ci := 5) (C := RX5) (T := TX5) (Nf := 12) (v := .int (z0.1 6)) hx hb hts in_X5_back_X5 hown hK hH 0 (by decide) rfl rfl 4 (by decide) (hts (.fieldLink RX5 31 "StationLine" "isKept" "Z") (List.mem_of_getElem? (i := 1) rfl)) rfl dX5_back_1 ?_
  refine lv_if_ne (tgt := 14) hx hb dX5_back_4 (by decide) (fun c9 => ?_) (fun c9 => ?_)
  · skip
    refine lv_aload_n hx hb dX5_back_14 rfl (lv_at hl 0 rfl) ?_
    refine b_get (ci := 5) (C := RX5) (T := TX5) (Nf := 12) (v := .ref (q 1)) hx hb hts in_X5_back_X5 hown hK hH 0 (by decide) rfl rfl 0 (by decide) (hts (.fieldLink RX5 12 "StationLine" "bench" "LStationLine$Bench;") (List.mem_of_getElem? (i := 2) rfl)) rfl dX5_back_15 ?_
    refine lv_aload_n hx hb dX5_back_18 rfl (lv_at hl 0 rfl) ?_
    refine b_get (ci := 5) (C := RX5) (T := TX5) (Nf := 12) (v := .ref (q 15)) hx hb hts in_X5_back_X5 hown hK hH 0 (by decide) rfl rfl 2 (by decide) (hts (.fieldLink RX5 25 "StationLine" "keptBench" "LStationLine$Bench;") (List.mem_of_getElem? (i := 3) rfl)) rfl dX5_back_19 ?_
    refine b_callv (As := [.ref (q 15)]) (rest := []) ⟨hx, hb, hml, hown, hts⟩ 1 0 (g_X0_become_1 l D cy q hH.2.1 z0 hJ.1 ) (cwV 1 hts gX5_back_X0_become rfl rfl rfl (by decide +kernel) ⟨Nat.le_of_ble_eq_true rfl, Nat.le_of_ble_eq_true rfl⟩) hK hZ hH (by decide) rfl rfl rfl hl.1 rfl (Nat.le_of_ble_eq_true rfl) ⟨Nat.zero_le _, Nat.zero_le _⟩ dX5_back_22 (fun z11 H locs hp hH => ?_)
    have hJ := jJ_tr hJ hp.1 (by decide) (by decide) (by decide)
    have f11_0 := hp.2.1
    have f11_1 := hp.2.2.1
    have f11_2 := hp.2.2.2
    have hA11 := hp.1.2
    refine lv_aload_n hx hb dX5_back_25 rfl (lv_at hl 0 rfl) ?_
    refine b_get (ci := 5) (C := RX5) (T := TX5) (Nf := 12) (v := .ref (q 13)) hx hb hts in_X5_back_X5 hown hK hH 0 (by decide) rfl rfl 1 (by decide) (hts (.fieldLink RX5 21 "StationLine" "hand" "LStationLine$Putting;") (List.mem_of_getElem? (i := 4) rfl)) rfl dX5_back_26 ?_
    refine lv_aload_n hx hb dX5_back_29 rfl (lv_at hl 0 rfl) ?_
    refine b_get (ci := 5) (C := RX5) (T := TX5) (Nf := 12) (v := .ref (q 27)) hx hb hts in_X5_back_X5 hown hK hH 0 (by decide) rfl rfl 3 (by decide) (hts (.fieldLink RX5 28 "StationLine" "keptHand" "LStationLine$Putting;") (List.mem_of_getElem? (i := 5) rfl)) rfl dX5_back_30 ?_
    refine b_callv (As := [.ref (q 27)]) (rest := []) ⟨hx, hb, hml, hown, hts⟩ 13 1 (g_X1_copyRow_13_27 l D cy q hH.2.1 z11 hJ.1 ) (cwV 1 hts gX5_back_X1_copyRow rfl rfl rfl (by decide +kernel) ⟨Nat.le_of_ble_eq_true rfl, Nat.le_of_ble_eq_true rfl⟩) hK hZ hH (by decide) rfl rfl rfl hl.1 rfl (Nat.le_of_ble_eq_true rfl) ⟨Nat.zero_le _, Nat.zero_le _⟩ dX5_back_33 (fun z12 H locs hp hH => ?_)
    have hJ := jJ_tr hJ hp (by decide) (by decide) (by decide)
    have hA12 := hp.2
    refine lv_aload_n hx hb dX5_back_36 rfl (lv_at hl 0 rfl) ?_
    refine b_get (ci := 5) (C := RX5) (T := TX5) (Nf := 12) (v := .ref (q 1)) hx hb hts in_X5_back_X5 hown hK hH 0 (by decide) rfl rfl 0 (by decide) (hts (.fieldLink RX5 12 "StationLine" "bench" "LStationLine$Bench;") (List.mem_of_getElem? (i := 2) rfl)) rfl dX5_back_37 ?_
    refine b_get (ci := 0) (C := RX0) (T := TX0) (Nf := 11) (v := .int (z12.1 0)) hx hb hts in_X5_back_X0 hown hK hH 1 (by decide) rfl rfl 0 (by decide) (hts (.fieldLink RX5 70 "StationLine$Bench" "size" "I") (List.mem_of_getElem? (i := 6) rfl)) rfl dX5_back_40 ?_
    have i13 := IvC_s0 hJ.1
    exact hret _ z12 H locs _ _ ⟨hJ, (iv_w i13 (by decide) (by decide)), ⟨fun q => absurd q c9, fun _ => ⟨((hA12.1 0 (by decide))).trans f11_0.1, ((hA12.1 0 (by decide))).trans f11_0.1, ((hA12.1 1 (by decide))).trans f11_0.2.1, ((hA12.1 2 (by decide))).trans f11_0.2.2⟩⟩, ⟨⟨fun q => absurd q c9, fun _ i hi => (congrFun (((hA12.2.1 7 (by decide)))) i).trans (f11_1.1 i hi)⟩, ⟨fun q => absurd q c9, fun _ i hi => (congrFun (((hA12.2.1 8 (by decide)))) i).trans (f11_1.2.1 i hi)⟩, ⟨fun q => absurd q c9, fun _ i hi => (congrFun (((hA12.2.1 9 (by decide)))) i).trans (f11_1.2.2.1 i hi)⟩, ⟨fun q => absurd q c9, fun _ i hi => (congrFun (((hA12.2.1 10 (by decide)))) i).trans (f11_1.2.2.2.1 i hi)⟩, ⟨fun q => absurd q c9, fun _ i hi => (congrFun (((hA12.2.1 11 (by decide)))) i).trans (f11_1.2.2.2.2.1 i hi)⟩, ⟨fun q => absurd q c9, fun _ i hi => (congrFun (((hA12.2.1 12 (by decide)))) i).trans (f11_1.2.2.2.2.2 i hi)⟩⟩, ⟨fun q => absurd q c9, fun _ => (same_tr f11_2 (ag_T 4 hA12.2.1 (by decide) (by decide) (by decide)))⟩⟩ hH dX5_back_43
  · skip
    have k14a : iv 0 0 (z0.1 6) := iv_eql (iv_Eq c9) (iv_all (z0.1 6)) (iv_lit (n := 0) 0 (by decide)) (by decide) (by decide)
    refine lv_aload_n hx hb dX5_back_7 rfl (lv_at hl 0 rfl) ?_
    refine lv_bipush (v := (-10)) hx hb dX5_back_8 (by decide) ?_
    refine b_calli (As := [.int (-10)]) (rest := []) ⟨hx, hb, hml, hown, hts⟩ 0 5 (g_X5_found_0 l D cy q hH.2.1 z0 hJ.1 (-10)) (cwV 1 hts gX5_back_X5_found rfl rfl rfl (by decide +kernel) ⟨Nat.le_of_ble_eq_true rfl, Nat.le_of_ble_eq_true rfl⟩) hK hZ hH (by decide) rfl rfl rfl hl.1 rfl (Nat.le_of_ble_eq_true rfl) ⟨Nat.zero_le _, Nat.zero_le _⟩ dX5_back_10 (fun w15 z15 H locs hp hH => ?_)
    have hJ := jJ_tr hJ hp.1 (by decide) (by decide) (by decide)
    have f15_0 := hp.2.2
    have hA15 := hp.1.2
    have g16 : iv 0 0 (z15.1 6) := by rw [(hp.1).2.1 6 (by decide)]; exact k14a
    exact hret _ z15 H locs _ _ ⟨hJ, (iv_all w15), ⟨fun _ => ⟨f15_0, ((hA15.1 0 (by decide))), ((hA15.1 1 (by decide))), ((hA15.1 2 (by decide)))⟩, fun q => absurd c9 q⟩, ⟨⟨fun _ => ((hA15.2.1 7 (by decide))), fun q => absurd c9 q⟩, ⟨fun _ => ((hA15.2.1 8 (by decide))), fun q => absurd c9 q⟩, ⟨fun _ => ((hA15.2.1 9 (by decide))), fun q => absurd c9 q⟩, ⟨fun _ => ((hA15.2.1 10 (by decide))), fun q => absurd c9 q⟩, ⟨fun _ => ((hA15.2.1 11 (by decide))), fun q => absurd c9 q⟩, ⟨fun _ => ((hA15.2.1 12 (by decide))), fun q => absurd c9 q⟩⟩, ⟨fun _ => (ag_T 4 hA15.2.1 (by decide) (by decide) (by decide)), fun q => absurd c9 q⟩⟩ hH dX5_back_13
set_option maxHeartbeats 4000000 in
set_option maxRecDepth 100000 in
theorem g_X5_count_0 (l : Launch) (D : va_G) (cy : Nat → ClassId) (q : Nat → Nat) (hq : bJ 66 q) (z0 : zS) (hI : IvC z0) (p0 : Int32) : bCi l yX5_count wsX5_count ({ frames := 2, cells := 0, slots := 0, locals := 40 }) D cy 66 (enC cy) q z0 [.ref (q 0), .int p0] (fun v z => jJ IvC 0 0 0 z0 z ∧ iv (-2147483648) 2147483647 v) := by
  refine hM_i cX5_count (by decide) rfl (own := RX5) rfl hq (Nat.le_of_ble_eq_true rfl) ?_
  intro p e s m args below meth c Q ls H locs hx hb hml hown hts hK hZ hH hl hret
  have hl : lv_has ls 2 [(0, .ref (q 0)), (1, .int p0)] := hl
  have hJ : jJ IvC 0 0 0 z0 z0 := jJ_rf _ _ _ hI
  refine lv_iload_n hx hb dX5_count_0 rfl (lv_at hl 1 rfl) ?_
  rcases (show (p0.toInt < 0 ∨ 5 < p0.toInt) ∨ (¬ p0.toInt < 0 ∧ ¬ 5 < p0.toInt) by omega) with h5 | h5
  · refine lv_tableOut (tgt := 82) hx hb dX5_count_1 h5 (by decide) ?_
    refine lv_bipush (v := (-2)) hx hb dX5_count_82 (by decide) ?_
    exact hret _ z0 H locs _ _ ⟨hJ, (iv_w (iv_lit (n := (-2)) (-2) (by decide)) (by decide) (by decide))⟩ hH dX5_count_84
  · rcases (show p0.toInt = 0 ∨ p0.toInt = 1 ∨ p0.toInt = 2 ∨ p0.toInt = 3 ∨ p0.toInt = 4 ∨ p0.toInt = 5 by omega) with e5 | e5 | e5 | e5 | e5 | e5
    · refine lv_tableIn (off := 39) (tgt := 40) hx hb dX5_count_1 h5.1 h5.2 (by rw [e5]; rfl) (by decide) ?_
      have k5 : iv 0 0 p0 := iv_lit p0 e5
      refine lv_aload_n hx hb dX5_count_40 rfl (lv_at hl 0 rfl) ?_
      refine b_get (ci := 5) (C := RX5) (T := TX5) (Nf := 12) (v := .ref (q 1)) hx hb hts in_X5_count_X5 hown hK hH 0 (by decide) rfl rfl 0 (by decide) (hts (.fieldLink RX5 12 "StationLine" "bench" "LStationLine$Bench;") (List.mem_of_getElem? (i := 1) rfl)) rfl dX5_count_41 ?_
      refine b_get (ci := 0) (C := RX0) (T := TX0) (Nf := 11) (v := .int (z0.1 0)) hx hb hts in_X5_count_X0 hown hK hH 1 (by decide) rfl rfl 0 (by decide) (hts (.fieldLink RX5 70 "StationLine$Bench" "size" "I") (List.mem_of_getElem? (i := 2) rfl)) rfl dX5_count_44 ?_
      have i6 := IvC_s0 hJ.1
      exact hret _ z0 H locs _ _ ⟨hJ, (iv_w i6 (by decide) (by decide))⟩ hH dX5_count_47
    · refine lv_tableIn (off := 47) (tgt := 48) hx hb dX5_count_1 h5.1 h5.2 (by rw [e5]; rfl) (by decide) ?_
      have k5 : iv 1 1 p0 := iv_lit p0 e5
      refine lv_aload_n hx hb dX5_count_48 rfl (lv_at hl 0 rfl) ?_
      refine b_get (ci := 5) (C := RX5) (T := TX5) (Nf := 12) (v := .int (z0.1 9)) hx hb hts in_X5_count_X5 hown hK hH 0 (by decide) rfl rfl 10 (by decide) (hts (.fieldLink RX5 63 "StationLine" "waitingCount" "I") (List.mem_of_getElem? (i := 3) rfl)) rfl dX5_count_49 ?_
      have i7 := IvC_s9 hJ.1
      exact hret _ z0 H locs _ _ ⟨hJ, (iv_w i7 (by decide) (by decide))⟩ hH dX5_count_52
    · refine lv_tableIn (off := 52) (tgt := 53) hx hb dX5_count_1 h5.1 h5.2 (by rw [e5]; rfl) (by decide) ?_
      have k5 : iv 2 2 p0 := iv_lit p0 e5
      refine lv_aload_n hx hb dX5_count_53 rfl (lv_at hl 0 rfl) ?_
      refine b_get (ci := 5) (C := RX5) (T := TX5) (Nf := 12) (v := .int (z0.1 10)) hx hb hts in_X5_count_X5 hown hK hH 0 (by decide) rfl rfl 11 (by decide) (hts (.fieldLink RX5 67 "StationLine" "hostFindings" "I") (List.mem_of_getElem? (i := 4) rfl)) rfl dX5_count_54 ?_
      exact hret _ z0 H locs _ _ ⟨hJ, (iv_all (z0.1 10))⟩ hH dX5_count_57
    · refine lv_tableIn (off := 57) (tgt := 58) hx hb dX5_count_1 h5.1 h5.2 (by rw [e5]; rfl) (by decide) ?_
      have k5 : iv 3 3 p0 := iv_lit p0 e5
      refine lv_aload_n hx hb dX5_count_58 rfl (lv_at hl 0 rfl) ?_
      refine b_get (ci := 5) (C := RX5) (T := TX5) (Nf := 12) (v := .ref (q 1)) hx hb hts in_X5_count_X5 hown hK hH 0 (by decide) rfl rfl 0 (by decide) (hts (.fieldLink RX5 12 "StationLine" "bench" "LStationLine$Bench;") (List.mem_of_getElem? (i := 1) rfl)) rfl dX5_count_59 ?_
      refine b_get (ci := 0) (C := RX0) (T := TX0) (Nf := 11) (v := .int (z0.1 1)) hx hb hts in_X5_count_X0 hown hK hH 1 (by decide) rfl rfl 1 (by decide) (hts (.fieldLink RX5 127 "StationLine$Bench" "kind" "I") (List.mem_of_getElem? (i := 5) rfl)) rfl dX5_count_62 ?_
      exact hret _ z0 H locs _ _ ⟨hJ, (iv_all (z0.1 1))⟩ hH dX5_count_65
    · refine lv_tableIn (off := 65) (tgt := 66) hx hb dX5_count_1 h5.1 h5.2 (by rw [e5]; rfl) (by decide) ?_
      have k5 : iv 4 4 p0 := iv_lit p0 e5
      refine lv_aload_n hx hb dX5_count_66 rfl (lv_at hl 0 rfl) ?_
      refine b_get (ci := 5) (C := RX5) (T := TX5) (Nf := 12) (v := .ref (q 1)) hx hb hts in_X5_count_X5 hown hK hH 0 (by decide) rfl rfl 0 (by decide) (hts (.fieldLink RX5 12 "StationLine" "bench" "LStationLine$Bench;") (List.mem_of_getElem? (i := 1) rfl)) rfl dX5_count_67 ?_
      refine b_get (ci := 0) (C := RX0) (T := TX0) (Nf := 11) (v := .int (z0.1 2)) hx hb hts in_X5_count_X0 hown hK hH 1 (by decide) rfl rfl 2 (by decide) (hts (.fieldLink RX5 130 "StationLine$Bench" "beat" "I") (List.mem_of_getElem? (i := 6) rfl)) rfl dX5_count_70 ?_
      exact hret _ z0 H locs _ _ ⟨hJ, (iv_all (z0.1 2))⟩ hH dX5_count_73
    · refine lv_tableIn (off := 73) (tgt := 74) hx hb dX5_count_1 h5.1 h5.2 (by rw [e5]; rfl) (by decide) ?_
      have k5 : iv 5 5 p0 := iv_lit p0 e5
      refine lv_aload_n hx hb dX5_count_74 rfl (lv_at hl 0 rfl) ?_
      refine b_get (ci := 5) (C := RX5) (T := TX5) (Nf := 12) (v := .ref (q 1)) hx hb hts in_X5_count_X5 hown hK hH 0 (by decide) rfl rfl 0 (by decide) (hts (.fieldLink RX5 12 "StationLine" "bench" "LStationLine$Bench;") (List.mem_of_getElem? (i := 1) rfl)) rfl dX5_count_75 ?_
      refine b_calli (As := []) (rest := []) ⟨hx, hb, hml, hown, hts⟩ 1 0 (g_X0_room_1 l D cy q hH.2.1 z0 hJ.1 ) (cwV 0 hts gX5_count_X0_room rfl rfl rfl (by decide +kernel) ⟨Nat.le_of_ble_eq_true rfl, Nat.le_of_ble_eq_true rfl⟩) hK hZ hH (by decide) rfl rfl rfl hl.1 rfl (Nat.le_of_ble_eq_true rfl) ⟨Nat.zero_le _, Nat.zero_le _⟩ dX5_count_78 (fun w8 z8 H locs hp hH => ?_)
      rw [Ag_0 hp.1.2] at hH
      exact hret _ z0 H locs _ _ ⟨hJ, (iv_all w8)⟩ hH dX5_count_81
set_option maxHeartbeats 4000000 in
set_option maxRecDepth 100000 in
theorem g_X0_takeTimes_1 (l : Launch) (D : va_G) (cy : Nat → ClassId) (q : Nat → Nat) (hq : bJ 66 q) (z0 : zS) (hI : IvC z0) (p0 : Int32) (hp0 : iv 0 2 p0) (p1 : Nat) (hp1 : 61 ≤ p1 ∧ p1 < 65) (p2 : Int32) (hpre : (z0.1 0).toInt = 0 ∨ (0 ≤ p2.toInt ∧ p2.toInt + (z0.1 0).toInt ≤ 40)) : bCi l yX0_takeTimes wsX0_takeTimes ({ frames := 1, cells := 0, slots := 0, locals := 28 }) D cy 66 (enC cy) q z0 [.ref (q 1), .int p0, .ref (q p1), .int p2] (fun v z => jJ IvC 0 112 0 z0 z ∧ iv (-2147483648) 2147483647 v ∧ (v = cntF (z0.2.1 p1) p2.toNatClampNeg (z0.1 0).toNatClampNeg) ∧ (TmL (z0.2.1 (4 + p0.toNatClampNeg)) (z0.2.1 p1) p2.toNatClampNeg (z0.1 0).toNatClampNeg (z.2.1 (4 + p0.toNatClampNeg))) ∧ (∀ k : Nat, k ≠ (4 + p0.toNatClampNeg) → z.2.1 k = z0.2.1 k)) := by
  refine hM_i cX0_takeTimes (by decide) rfl (own := RX0) rfl hq (Nat.le_of_ble_eq_true rfl) ?_
  intro p e s m args below meth c Q ls H locs hx hb hml hown hts hK hZ hH hl hret
  have hl : lv_has ls 8 [(0, .ref (q 1)), (1, .int p0), (2, .ref (q p1)), (3, .int p2)] := hl
  have hJ : jJ IvC 0 112 0 z0 z0 := jJ_rf _ _ _ hI
  have e00 : (0 : Int32).toInt = 0 := (by decide); have e01 : (1 : Int32).toInt = 1 := (by decide); have e02 : (2 : Int32).toInt = 2 := (by decide); have e03 : (3 : Int32).toInt = 3 := (by decide); have e010 : (10 : Int32).toInt = 10 := (by decide)
  have N1 := (IvC_s0 hI).1; have N2 := (IvC_s0 hI).2
  have HL6 : ∀ (n : Nat) (x4_6 : Int32) (x5_6 : Int32) (z_6 : zS) (H : Heap) (locs : List Loc) (ls : Array Slot), iv 0 10 x5_6 → (x4_6 = cntF (z0.2.1 p1) p2.toNatClampNeg (x5_6 : Int32).toNatClampNeg ∧ (x5_6 : Int32).toInt ≤ (z0.1 0).toInt ∧ TmL (z0.2.1 (4 + p0.toNatClampNeg)) (z0.2.1 p1) p2.toNatClampNeg (x5_6 : Int32).toNatClampNeg (z_6.2.1 (4 + p0.toNatClampNeg)) ∧ ∀ k : Nat, k ≠ (4 + p0.toNatClampNeg) → z_6.2.1 k = z0.2.1 k) → jJ IvC 0 112 0 z0 z_6 → bH D 66 (enC cy) q z_6 s.heap H locs → lv_has ls 8 [(0, .ref (q 1)), (1, .int p0), (2, .ref (q p1)), (3, .int p2), (4, .int x4_6), (5, .int x5_6)] → (10 - x5_6.toInt).toNat = n → W p l e ({ frames := 1, cells := 0, slots := 0, locals := 28 }) s m args below meth c H locs 0 0 Q (F0 m 6 ls []) := by
    intro n6
    induction n6 using Nat.strongRecOn with
    | ind n6 ih6 =>
      intro x4_6 x5_6 z_6 H locs ls h5_6 ex_6 hJ hH hl hn6
      have := h5_6.1; have := h5_6.2
      refine lv_iload hx hb dX0_takeTimes_6 (lv_at hl 5 rfl) ?_
      refine lv_aload_n hx hb dX0_takeTimes_8 rfl (lv_at hl 0 rfl) ?_
      refine b_get (ci := 0) (C := RX0) (T := TX0) (Nf := 11) (v := .int (z_6.1 0)) hx hb hts in_X0_takeTimes_X0 hown hK hH 1 (by decide) rfl rfl 0 (by decide) (hts (.fieldLink RX0 9 "StationLine$Bench" "size" "I") (List.mem_of_getElem? (i := 1) rfl)) rfl dX0_takeTimes_9 ?_
      have i666 := IvC_s0 hJ.1
      have := i666.1; have := i666.2
      refine lv_icmp_ge (tgt := 63) hx hb dX0_takeTimes_12 (by decide) (fun c667 => ?_) (fun c667 => ?_)
      · skip
        have r667 := (iv_Le c667)
        refine lv_iload hx hb dX0_takeTimes_63 (lv_at hl 4 rfl) ?_
        exact hret _ z_6 H locs _ _ ⟨hJ, (iv_all x4_6), (by rw [(show (z0.1 0).toNatClampNeg = (x5_6 : Int32).toNatClampNeg from (by have := ex_6.2.1; have := iv_Eq (hJ.2.1 0 (by decide)); have := iv_nat (IvC_s0 hI) (by decide); have := iv_nat h5_6 (by decide); omega))]; exact ex_6.1), (by rw [(show (z0.1 0).toNatClampNeg = (x5_6 : Int32).toNatClampNeg from (by have := ex_6.2.1; have := iv_Eq (hJ.2.1 0 (by decide)); have := iv_nat (IvC_s0 hI) (by decide); have := iv_nat h5_6 (by decide); omega))]; exact ex_6.2.2.1), ex_6.2.2.2⟩ hH dX0_takeTimes_65
      · skip
        have r667 := (iv_nLe c667)
        have k669a : iv 0 9 x5_6 := iv_ltl (iv_nLe c667) h5_6 i666 (by decide)
        have k669b : iv 1 10 (z_6.1 0) := iv_ltr (iv_nLe c667) h5_6 i666 (by decide)
        refine lv_aload_n hx hb dX0_takeTimes_15 rfl (lv_at hl 2 rfl) ?_
        refine lv_iload_n hx hb dX0_takeTimes_16 rfl (lv_at hl 3 rfl) ?_
        refine lv_iload hx hb dX0_takeTimes_17 (lv_at hl 5 rfl) ?_
        have hq0 := iv_Eq (hJ.2.1 0 (by decide))
        have := k669a.1; have := k669a.2
        refine lv_iadd hx hb dX0_takeTimes_19 ?_
        refine h_iE (a := 0) (b := 39) (t := p2.toInt + x5_6.toInt) (iv_addW (by rcases hpre with h | h <;> omega) (by rcases hpre with h | h <;> omega) (by decide) (by decide)) (iv_addWE (a := 0) (b := 39) (by rcases hpre with h | h <;> omega) (by rcases hpre with h | h <;> omega) (by decide) (by decide)) (fun w670 i670 e670 => ?_)
        have := i670.1; have := i670.2
        refine b_iald (v := z_6.2.1 p1 (w670 : Int32).toNatClampNeg) hx hb hK hH p1 (Nat.lt_of_lt_of_le hp1.2 (by decide)) (enC_g61 cy q _ p1 hp1) (iv_in i670 (by decide) (by decide)) rfl dX0_takeTimes_20 ?_
        refine lv_istore (lv' := [(6, .int (z_6.2.1 p1 (w670 : Int32).toNatClampNeg)), (0, .ref (q 1)), (1, .int p0), (2, .ref (q p1)), (3, .int p2), (4, .int x4_6), (5, .int x5_6)]) hx hb dX0_takeTimes_21 hl (by decide) rfl (fun ls hl => ?_)
        refine lv_iconst (v := 1) hx hb dX0_takeTimes_23 (by decide) ?_
        refine lv_bipush (v := 100) hx hb dX0_takeTimes_24 (by decide) ?_
        refine lv_iload hx hb dX0_takeTimes_26 (lv_at hl 0 rfl) ?_
        refine va_mmin hx hb (by rw [hml]; exact hl.1.symm) hown (hts (.methodLink RX0 94 Lib.Math.min.name) (List.mem_of_getElem? (i := 2) rfl)) (hts (.static Lib.Math.min.name) (List.mem_of_getElem? (i := 3) rfl)) (hts (.initialized "java/lang/Math") (List.mem_of_getElem? (i := 4) rfl)) (hts (.code Lib.Math.min.name Lib.Math.min.code 2 (some .int)) (List.mem_of_getElem? (i := 5) rfl)) (Nat.le_of_ble_eq_true rfl) (Nat.le_of_ble_eq_true rfl) (Nat.zero_le _) (Nat.zero_le _) dX0_takeTimes_28 ?_
        have i671 : iv (-2147483648) 100 (if (z_6.2.1 p1 (w670 : Int32).toNatClampNeg : Int32) < (100 : Int32) then (z_6.2.1 p1 (w670 : Int32).toNatClampNeg : Int32) else (100 : Int32)) := (iv_min (iv_lit (n := 100) 100 (by decide)) (iv_all (z_6.2.1 p1 (w670 : Int32).toNatClampNeg)) (by decide) (by decide) (by decide))
        have := i671.1; have := i671.2
        refine va_mmax hx hb (by rw [hml]; exact hl.1.symm) hown (hts (.methodLink RX0 69 Lib.Math.max.name) (List.mem_of_getElem? (i := 6) rfl)) (hts (.static Lib.Math.max.name) (List.mem_of_getElem? (i := 7) rfl)) (hts (.initialized "java/lang/Math") (List.mem_of_getElem? (i := 4) rfl)) (hts (.code Lib.Math.max.name Lib.Math.max.code 2 (some .int)) (List.mem_of_getElem? (i := 8) rfl)) (Nat.le_of_ble_eq_true rfl) (Nat.le_of_ble_eq_true rfl) (Nat.zero_le _) (Nat.zero_le _) dX0_takeTimes_31 ?_
        have i672 : iv 1 100 (if (1 : Int32) < (if (z_6.2.1 p1 (w670 : Int32).toNatClampNeg : Int32) < (100 : Int32) then (z_6.2.1 p1 (w670 : Int32).toNatClampNeg : Int32) else (100 : Int32) : Int32) then (if (z_6.2.1 p1 (w670 : Int32).toNatClampNeg : Int32) < (100 : Int32) then (z_6.2.1 p1 (w670 : Int32).toNatClampNeg : Int32) else (100 : Int32) : Int32) else (1 : Int32)) := (iv_max (iv_lit (n := 1) 1 (by decide)) i671 (by decide) (by decide) (by decide))
        have := i672.1; have := i672.2
        refine lv_istore (lv' := [(7, .int (if (1 : Int32) < (if (z_6.2.1 p1 (w670 : Int32).toNatClampNeg : Int32) < (100 : Int32) then (z_6.2.1 p1 (w670 : Int32).toNatClampNeg : Int32) else (100 : Int32) : Int32) then (if (z_6.2.1 p1 (w670 : Int32).toNatClampNeg : Int32) < (100 : Int32) then (z_6.2.1 p1 (w670 : Int32).toNatClampNeg : Int32) else (100 : Int32) : Int32) else (1 : Int32))), (6, .int (z_6.2.1 p1 (w670 : Int32).toNatClampNeg)), (0, .ref (q 1)), (1, .int p0), (2, .ref (q p1)), (3, .int p2), (4, .int x4_6), (5, .int x5_6)]) hx hb dX0_takeTimes_34 hl (by decide) rfl (fun ls hl => ?_)
        refine lv_iload hx hb dX0_takeTimes_36 (lv_at hl 0 rfl) ?_
        refine lv_iload hx hb dX0_takeTimes_38 (lv_at hl 1 rfl) ?_
        refine lv_icmp_eq (tgt := 46) hx hb dX0_takeTimes_40 (by decide) (fun c673 => ?_) (fun c673 => ?_)
        · skip
          have r673 := (iv_Eq c673)
          have k674b : iv 1 100 (z_6.2.1 p1 (w670 : Int32).toNatClampNeg) := iv_eql ((iv_Eq c673)).symm (iv_all (z_6.2.1 p1 (w670 : Int32).toNatClampNeg)) i672 (by decide) (by decide)
          refine lv_aload_n hx hb dX0_takeTimes_46 rfl (lv_at hl 2 rfl) ?_
          refine b_get (ci := 0) (C := RX0) (T := TX0) (Nf := 11) (v := .ref (q 3)) hx hb hts in_X0_takeTimes_X0 hown hK hH 1 (by decide) rfl rfl 4 (by decide) (hts (.fieldLink RX0 27 "StationLine$Bench" "times" "[[I") (List.mem_of_getElem? (i := 9) rfl)) rfl dX0_takeTimes_47 ?_
          refine lv_iload_n hx hb dX0_takeTimes_50 rfl (lv_at hl 3 rfl) ?_
          refine h_aaldE (n := 3) hx hb hK hH 3 3 4 (by decide) rfl rfl (iv_in hp0 (by decide) (by decide)) dX0_takeTimes_51 (fun k675 hk675 ek675 => ?_)
          refine lv_iload hx hb dX0_takeTimes_52 (lv_at hl 7 rfl) ?_
          refine lv_iload hx hb dX0_takeTimes_54 (lv_at hl 0 rfl) ?_
          refine b_iast hx hb hK hH k675 (Nat.lt_of_lt_of_le hk675.2 (by decide)) (enC_g4 cy q _ k675 hk675) (iv_in k669a (by decide) (by decide)) (upA z_6 k675 (upd (z_6.2.1 k675) (x5_6 : Int32).toNatClampNeg (if (1 : Int32) < (if (z_6.2.1 p1 (w670 : Int32).toNatClampNeg : Int32) < (100 : Int32) then (z_6.2.1 p1 (w670 : Int32).toNatClampNeg : Int32) else (100 : Int32) : Int32) then (if (z_6.2.1 p1 (w670 : Int32).toNatClampNeg : Int32) < (100 : Int32) then (z_6.2.1 p1 (w670 : Int32).toNatClampNeg : Int32) else (100 : Int32) : Int32) else (1 : Int32)))) (enC_sa4 cy q _ k675 _ hk675) (enC_A _ _ _ _ _) dX0_takeTimes_56 (fun H locs hH => ?_)
          obtain ⟨z676, hz676⟩ : ∃ w : zS, w = upA z_6 k675 (upd (z_6.2.1 k675) (x5_6 : Int32).toNatClampNeg (if (1 : Int32) < (if (z_6.2.1 p1 (w670 : Int32).toNatClampNeg : Int32) < (100 : Int32) then (z_6.2.1 p1 (w670 : Int32).toNatClampNeg : Int32) else (100 : Int32) : Int32) then (if (z_6.2.1 p1 (w670 : Int32).toNatClampNeg : Int32) < (100 : Int32) then (z_6.2.1 p1 (w670 : Int32).toNatClampNeg : Int32) else (100 : Int32) : Int32) else (1 : Int32))) := ⟨_, rfl⟩
          rw [← hz676] at hH
          have hJ : jJ IvC 0 112 0 z0 z676 := by rw [hz676]; exact jJ_A hJ (tb_grp (g0 := 4) (n := 3) (by decide) hk675) (IvC_A hJ.1 (by omega))
          have g677 : iv 1 10 (z676.1 0) := by rw [hz676]; exact k669b
          have j678 : iv 1 10 (x5_6 + 1) := iv_add k669a (iv_lit (n := 1) 1 (by decide)) (by decide) (by decide) (by decide) (by decide)
          have e678 : (x5_6 + 1).toInt = x5_6.toInt + 1 := (iv_addE k669a (iv_lit (n := 1) 1 (by decide)) (by decide) (by decide)).trans rfl
          refine lv_iinc (v := (x5_6 + 1)) (lv' := [(5, .int (x5_6 + 1)), (7, .int (if (1 : Int32) < (if (z_6.2.1 p1 (w670 : Int32).toNatClampNeg : Int32) < (100 : Int32) then (z_6.2.1 p1 (w670 : Int32).toNatClampNeg : Int32) else (100 : Int32) : Int32) then (if (z_6.2.1 p1 (w670 : Int32).toNatClampNeg : Int32) < (100 : Int32) then (z_6.2.1 p1 (w670 : Int32).toNatClampNeg : Int32) else (100 : Int32) : Int32) else (1 : Int32))), (6, .int (z_6.2.1 p1 (w670 : Int32).toNatClampNeg)), (0, .ref (q 1)), (1, .int p0), (2, .ref (q p1)), (3, .int p2), (4, .int x4_6)]) hx hb dX0_takeTimes_57 hl (k := 7) rfl rfl (by decide) rfl (fun ls hl => ?_)
          refine lv_goto (tgt := 6) hx hb dX0_takeTimes_60 (by decide) ?_
          exact ih6 _ (ms_up e678 j678.2 hn6) x4_6 (x5_6 + 1) z676 H locs ls (iv_w j678 (by decide) (by decide)) ⟨(cnt_s ex_6.1 (by have := iv_nat k669a (by decide); have := iv_nat j678 (by decide); omega) (show z_6.2.1 p1 (w670 : Int32).toNatClampNeg = z0.2.1 p1 (p2.toNatClampNeg + (x5_6 : Int32).toNatClampNeg) by rw [ex_6.2.2.2 p1 (by have := iv_nat hp0 (by decide); have := hp0.2; omega), (show (w670 : Int32).toNatClampNeg = p2.toNatClampNeg + (x5_6 : Int32).toNatClampNeg from (by have := iv_nat (a := 0) (b := 40) (x := p2) ⟨by rcases hpre with h | h <;> omega, by rcases hpre with h | h <;> omega⟩ (by decide); have := iv_nat k669a (by decide); have := iv_nat i670 (by decide); omega))]) (cx_cl _)).1 c673, by omega, tm_st ex_6.2.2.1 ek675 hz676 (cx_cl _) (show z_6.2.1 p1 (w670 : Int32).toNatClampNeg = z0.2.1 p1 (p2.toNatClampNeg + (x5_6 : Int32).toNatClampNeg) by rw [ex_6.2.2.2 p1 (by have := iv_nat hp0 (by decide); have := hp0.2; omega), (show (w670 : Int32).toNatClampNeg = p2.toNatClampNeg + (x5_6 : Int32).toNatClampNeg from (by have := iv_nat (a := 0) (b := 40) (x := p2) ⟨by rcases hpre with h | h <;> omega, by rcases hpre with h | h <;> omega⟩ (by decide); have := iv_nat k669a (by decide); have := iv_nat i670 (by decide); omega))]) (by have := iv_nat k669a (by decide); have := iv_nat j678 (by decide); omega), ot_st ex_6.2.2.2 ek675 hz676⟩ hJ hH (lv_sub hl [3, 4, 5, 6, 7, 0] rfl) rfl
        · skip
          have r673 := (iv_nEq c673)
          refine lv_iinc (v := (x4_6 + 1)) (lv' := [(4, .int (x4_6 + 1)), (7, .int (if (1 : Int32) < (if (z_6.2.1 p1 (w670 : Int32).toNatClampNeg : Int32) < (100 : Int32) then (z_6.2.1 p1 (w670 : Int32).toNatClampNeg : Int32) else (100 : Int32) : Int32) then (if (z_6.2.1 p1 (w670 : Int32).toNatClampNeg : Int32) < (100 : Int32) then (z_6.2.1 p1 (w670 : Int32).toNatClampNeg : Int32) else (100 : Int32) : Int32) else (1 : Int32))), (6, .int (z_6.2.1 p1 (w670 : Int32).toNatClampNeg)), (0, .ref (q 1)), (1, .int p0), (2, .ref (q p1)), (3, .int p2), (5, .int x5_6)]) hx hb dX0_takeTimes_43 hl (k := 6) rfl rfl (by decide) rfl (fun ls hl => ?_)
          refine lv_aload_n hx hb dX0_takeTimes_46 rfl (lv_at hl 3 rfl) ?_
          refine b_get (ci := 0) (C := RX0) (T := TX0) (Nf := 11) (v := .ref (q 3)) hx hb hts in_X0_takeTimes_X0 hown hK hH 1 (by decide) rfl rfl 4 (by decide) (hts (.fieldLink RX0 27 "StationLine$Bench" "times" "[[I") (List.mem_of_getElem? (i := 9) rfl)) rfl dX0_takeTimes_47 ?_
          refine lv_iload_n hx hb dX0_takeTimes_50 rfl (lv_at hl 4 rfl) ?_
          refine h_aaldE (n := 3) hx hb hK hH 3 3 4 (by decide) rfl rfl (iv_in hp0 (by decide) (by decide)) dX0_takeTimes_51 (fun k681 hk681 ek681 => ?_)
          refine lv_iload hx hb dX0_takeTimes_52 (lv_at hl 7 rfl) ?_
          refine lv_iload hx hb dX0_takeTimes_54 (lv_at hl 1 rfl) ?_
          refine b_iast hx hb hK hH k681 (Nat.lt_of_lt_of_le hk681.2 (by decide)) (enC_g4 cy q _ k681 hk681) (iv_in k669a (by decide) (by decide)) (upA z_6 k681 (upd (z_6.2.1 k681) (x5_6 : Int32).toNatClampNeg (if (1 : Int32) < (if (z_6.2.1 p1 (w670 : Int32).toNatClampNeg : Int32) < (100 : Int32) then (z_6.2.1 p1 (w670 : Int32).toNatClampNeg : Int32) else (100 : Int32) : Int32) then (if (z_6.2.1 p1 (w670 : Int32).toNatClampNeg : Int32) < (100 : Int32) then (z_6.2.1 p1 (w670 : Int32).toNatClampNeg : Int32) else (100 : Int32) : Int32) else (1 : Int32)))) (enC_sa4 cy q _ k681 _ hk681) (enC_A _ _ _ _ _) dX0_takeTimes_56 (fun H locs hH => ?_)
          obtain ⟨z682, hz682⟩ : ∃ w : zS, w = upA z_6 k681 (upd (z_6.2.1 k681) (x5_6 : Int32).toNatClampNeg (if (1 : Int32) < (if (z_6.2.1 p1 (w670 : Int32).toNatClampNeg : Int32) < (100 : Int32) then (z_6.2.1 p1 (w670 : Int32).toNatClampNeg : Int32) else (100 : Int32) : Int32) then (if (z_6.2.1 p1 (w670 : Int32).toNatClampNeg : Int32) < (100 : Int32) then (z_6.2.1 p1 (w670 : Int32).toNatClampNeg : Int32) else (100 : Int32) : Int32) else (1 : Int32))) := ⟨_, rfl⟩
          rw [← hz682] at hH
          have hJ : jJ IvC 0 112 0 z0 z682 := by rw [hz682]; exact jJ_A hJ (tb_grp (g0 := 4) (n := 3) (by decide) hk681) (IvC_A hJ.1 (by omega))
          have g683 : iv 1 10 (z682.1 0) := by rw [hz682]; exact k669b
          have j684 : iv 1 10 (x5_6 + 1) := iv_add k669a (iv_lit (n := 1) 1 (by decide)) (by decide) (by decide) (by decide) (by decide)
          have e684 : (x5_6 + 1).toInt = x5_6.toInt + 1 := (iv_addE k669a (iv_lit (n := 1) 1 (by decide)) (by decide) (by decide)).trans rfl
          refine lv_iinc (v := (x5_6 + 1)) (lv' := [(5, .int (x5_6 + 1)), (4, .int (x4_6 + 1)), (7, .int (if (1 : Int32) < (if (z_6.2.1 p1 (w670 : Int32).toNatClampNeg : Int32) < (100 : Int32) then (z_6.2.1 p1 (w670 : Int32).toNatClampNeg : Int32) else (100 : Int32) : Int32) then (if (z_6.2.1 p1 (w670 : Int32).toNatClampNeg : Int32) < (100 : Int32) then (z_6.2.1 p1 (w670 : Int32).toNatClampNeg : Int32) else (100 : Int32) : Int32) else (1 : Int32))), (6, .int (z_6.2.1 p1 (w670 : Int32).toNatClampNeg)), (0, .ref (q 1)), (1, .int p0), (2, .ref (q p1)), (3, .int p2)]) hx hb dX0_takeTimes_57 hl (k := 7) rfl rfl (by decide) rfl (fun ls hl => ?_)
          refine lv_goto (tgt := 6) hx hb dX0_takeTimes_60 (by decide) ?_
          exact ih6 _ (ms_up e684 j684.2 hn6) (x4_6 + 1) (x5_6 + 1) z682 H locs ls (iv_w j684 (by decide) (by decide)) ⟨(cnt_s ex_6.1 (by have := iv_nat k669a (by decide); have := iv_nat j684 (by decide); omega) (show z_6.2.1 p1 (w670 : Int32).toNatClampNeg = z0.2.1 p1 (p2.toNatClampNeg + (x5_6 : Int32).toNatClampNeg) by rw [ex_6.2.2.2 p1 (by have := iv_nat hp0 (by decide); have := hp0.2; omega), (show (w670 : Int32).toNatClampNeg = p2.toNatClampNeg + (x5_6 : Int32).toNatClampNeg from (by have := iv_nat (a := 0) (b := 40) (x := p2) ⟨by rcases hpre with h | h <;> omega, by rcases hpre with h | h <;> omega⟩ (by decide); have := iv_nat k669a (by decide); have := iv_nat i670 (by decide); omega))]) (cx_cl _)).2 c673, by omega, tm_st ex_6.2.2.1 ek681 hz682 (cx_cl _) (show z_6.2.1 p1 (w670 : Int32).toNatClampNeg = z0.2.1 p1 (p2.toNatClampNeg + (x5_6 : Int32).toNatClampNeg) by rw [ex_6.2.2.2 p1 (by have := iv_nat hp0 (by decide); have := hp0.2; omega), (show (w670 : Int32).toNatClampNeg = p2.toNatClampNeg + (x5_6 : Int32).toNatClampNeg from (by have := iv_nat (a := 0) (b := 40) (x := p2) ⟨by rcases hpre with h | h <;> omega, by rcases hpre with h | h <;> omega⟩ (by decide); have := iv_nat k669a (by decide); have := iv_nat i670 (by decide); omega))]) (by have := iv_nat k669a (by decide); have := iv_nat j684 (by decide); omega), ot_st ex_6.2.2.2 ek681 hz682⟩ hJ hH (lv_sub hl [4, 5, 6, 7, 1, 0] rfl) rfl
  refine lv_iconst (v := 0) hx hb dX0_takeTimes_0 (by decide) ?_
  refine lv_istore (lv' := [(4, .int 0), (0, .ref (q 1)), (1, .int p0), (2, .ref (q p1)), (3, .int p2)]) hx hb dX0_takeTimes_1 hl (by decide) rfl (fun ls hl => ?_)
  refine lv_iconst (v := 0) hx hb dX0_takeTimes_3 (by decide) ?_
  refine lv_istore (lv' := [(5, .int 0), (4, .int 0), (0, .ref (q 1)), (1, .int p0), (2, .ref (q p1)), (3, .int p2)]) hx hb dX0_takeTimes_4 hl (by decide) rfl (fun ls hl => ?_)
  exact HL6 _ 0 0 z0 H locs ls (iv_w (iv_lit (n := 0) 0 (by decide)) (by decide) (by decide)) ⟨cnt_0, by omega, tm_0, fun _ _ => rfl⟩ hJ hH (lv_sub hl [2, 3, 4, 5, 1, 0] rfl) rfl
set_option maxHeartbeats 4000000 in
set_option maxRecDepth 100000 in
theorem g_X5_take_0 (l : Launch) (D : va_G) (cy : Nat → ClassId) (q : Nat → Nat) (hq : bJ 66 q) (z0 : zS) (hI : IvC z0) (p0 : Int32) (p1 : Int32) (p2 : Int32) (p3 : Int32) : bCi l yX5_take wsX5_take ({ frames := 2, cells := 0, slots := 0, locals := 55 }) D cy 66 (enC cy) q z0 [.ref (q 0), .int p0, .int p1, .int p2, .int p3] (fun v z => jJ IvC 1024 112 0 z0 z ∧ iv (-2147483648) 2147483647 v ∧ (TakeP (z0.1 0) (z0.2.1 59) (z0.2.1 58) (fun s i => z0.2.1 (61 + s) i) (fun a b => z0.2.1 (4 + a) b) p0 p1 p2 p3 v (fun a b => z.2.1 (4 + a) b))) := by
  refine hM_i cX5_take (by decide) rfl (own := RX5) rfl hq (Nat.le_of_ble_eq_true rfl) ?_
  intro p e s m args below meth c Q ls H locs hx hb hml hown hts hK hZ hH hl hret
  have hl : lv_has ls 5 [(0, .ref (q 0)), (1, .int p0), (2, .int p1), (3, .int p2), (4, .int p3)] := hl
  have hJ : jJ IvC 1024 112 0 z0 z0 := jJ_rf _ _ _ hI
  have e00 : (0 : Int32).toInt = 0 := (by decide); have e01 : (1 : Int32).toInt = 1 := (by decide); have e02 : (2 : Int32).toInt = 2 := (by decide); have e03 : (3 : Int32).toInt = 3 := (by decide); have e010 : (10 : Int32).toInt = 10 := (by decide)
  refine lv_iload_n hx hb dX5_take_0 rfl (lv_at hl 1 rfl) ?_
  refine b_stati (As := [.int p0]) (rest := []) ⟨hx, hb, hml, hown, hts⟩ (g_X5_isMake l D cy q hH.2.1 z0 hJ.1 p0) (va_cwS 1 hts gX5_take_X5_isMake rfl rfl rfl (by decide +kernel) ⟨Nat.le_of_ble_eq_true rfl, Nat.le_of_ble_eq_true rfl⟩) hK hZ hH rfl hl.1 rfl (Nat.le_of_ble_eq_true rfl) ⟨Nat.zero_le _, Nat.zero_le _⟩ dX5_take_1 (fun w47 z47 H locs hp hH => ?_)
  rw [Ag_0 hp.1.2] at hH
  have i47 := hp.2.1
  have := i47.1; have := i47.2
  have tr47_0 := hp.2.2.1
  have f47_0 := hp.2.2.2
  refine lv_if_eq (tgt := 21) hx hb dX5_take_4 (by decide) (fun c48 => ?_) (fun c48 => ?_)
  · skip
    have r48 := (iv_Eq c48)
    have k49a : iv 0 0 w47 := iv_eql (iv_Eq c48) i47 (iv_lit (n := 0) 0 (by decide)) (by decide) (by decide)
    refine lv_bipush (v := (-2)) hx hb dX5_take_21 (by decide) ?_
    exact hret _ z0 H locs _ _ ⟨hJ, (iv_w (iv_lit (n := (-2)) (-2) (by decide)) (by decide) (by decide)), (TakeP_bad (fun q => absurd q.1 (f47_0.mp c48)) rfl (fun _ _ _ _ => rfl))⟩ hH dX5_take_23
  · skip
    have k50 : iv 0 2 p0 := (tr47_0).resolve_left c48
    have := k50.1; have := k50.2
    have r48 := (iv_nEq c48)
    have k51a : iv 1 1 w47 := iv_neLo (iv_nEq c48) i47 (by decide) (by decide)
    refine lv_iload_n hx hb dX5_take_7 rfl (lv_at hl 2 rfl) ?_
    refine b_stati (As := [.int p1]) (rest := []) ⟨hx, hb, hml, hown, hts⟩ (g_X5_isSheet l D cy q hH.2.1 z0 hJ.1 p1) (va_cwS 1 hts gX5_take_X5_isSheet rfl rfl rfl (by decide +kernel) ⟨Nat.le_of_ble_eq_true rfl, Nat.le_of_ble_eq_true rfl⟩) hK hZ hH rfl hl.1 rfl (Nat.le_of_ble_eq_true rfl) ⟨Nat.zero_le _, Nat.zero_le _⟩ dX5_take_8 (fun w52 z52 H locs hp hH => ?_)
    rw [Ag_0 hp.1.2] at hH
    have i52 := hp.2.1
    have := i52.1; have := i52.2
    have tr52_0 := hp.2.2.1
    have f52_0 := hp.2.2.2
    refine lv_if_eq (tgt := 21) hx hb dX5_take_11 (by decide) (fun c53 => ?_) (fun c53 => ?_)
    · skip
      have r53 := (iv_Eq c53)
      have k54a : iv 0 0 w52 := iv_eql (iv_Eq c53) i52 (iv_lit (n := 0) 0 (by decide)) (by decide) (by decide)
      refine lv_bipush (v := (-2)) hx hb dX5_take_21 (by decide) ?_
      exact hret _ z0 H locs _ _ ⟨hJ, (iv_w (iv_lit (n := (-2)) (-2) (by decide)) (by decide) (by decide)), (TakeP_bad (fun q => absurd q.2.1 (f52_0.mp c53)) rfl (fun _ _ _ _ => rfl))⟩ hH dX5_take_23
    · skip
      have k55 : iv 0 3 p1 := (tr52_0).resolve_left c53
      have := k55.1; have := k55.2
      have r53 := (iv_nEq c53)
      have k56a : iv 1 1 w52 := iv_neLo (iv_nEq c53) i52 (by decide) (by decide)
      refine lv_iload_n hx hb dX5_take_14 rfl (lv_at hl 3 rfl) ?_
      refine b_stati (As := [.int p2]) (rest := []) ⟨hx, hb, hml, hown, hts⟩ (g_X5_isSort l D cy q hH.2.1 z0 hJ.1 p2) (va_cwS 1 hts gX5_take_X5_isSort rfl rfl rfl (by decide +kernel) ⟨Nat.le_of_ble_eq_true rfl, Nat.le_of_ble_eq_true rfl⟩) hK hZ hH rfl hl.1 rfl (Nat.le_of_ble_eq_true rfl) ⟨Nat.zero_le _, Nat.zero_le _⟩ dX5_take_15 (fun w57 z57 H locs hp hH => ?_)
      rw [Ag_0 hp.1.2] at hH
      have i57 := hp.2.1
      have := i57.1; have := i57.2
      have tr57_0 := hp.2.2.1
      have f57_0 := hp.2.2.2
      refine lv_if_ne (tgt := 24) hx hb dX5_take_18 (by decide) (fun c58 => ?_) (fun c58 => ?_)
      · skip
        have k59 : iv 0 2 p2 := (tr57_0).resolve_left c58
        have := k59.1; have := k59.2
        have r58 := (iv_nEq c58)
        have k60a : iv 1 1 w57 := iv_neLo (iv_nEq c58) i57 (by decide) (by decide)
        refine lv_aload_n hx hb dX5_take_24 rfl (lv_at hl 0 rfl) ?_
        refine b_get (ci := 5) (C := RX5) (T := TX5) (Nf := 12) (v := .ref (q 57)) hx hb hts in_X5_take_X5 hown hK hH 0 (by decide) rfl rfl 8 (by decide) (hts (.fieldLink RX5 55 "StationLine" "sheets" "LStationLine$Sheets;") (List.mem_of_getElem? (i := 1) rfl)) rfl dX5_take_25 ?_
        refine lv_iload_n hx hb dX5_take_28 rfl (lv_at hl 2 rfl) ?_
        refine b_calli (As := [.int p1]) (rest := []) ⟨hx, hb, hml, hown, hts⟩ 57 4 (g_X4_isMissing_57 l D cy q hH.2.1 z0 hJ.1 p1 k55) (cwV 1 hts gX5_take_X4_isMissing rfl rfl rfl (by decide +kernel) ⟨Nat.le_of_ble_eq_true rfl, Nat.le_of_ble_eq_true rfl⟩) hK hZ hH (by decide) rfl rfl rfl hl.1 rfl (Nat.le_of_ble_eq_true rfl) ⟨Nat.zero_le _, Nat.zero_le _⟩ dX5_take_29 (fun w61 z61 H locs hp hH => ?_)
        rw [Ag_0 hp.1.2] at hH
        have i61 := hp.2.1
        have := i61.1; have := i61.2
        have f61_0 := hp.2.2
        refine lv_if_eq (tgt := 42) hx hb dX5_take_32 (by decide) (fun c62 => ?_) (fun c62 => ?_)
        · skip
          have r62 := (iv_Eq c62)
          have k63a : iv 0 0 w61 := iv_eql (iv_Eq c62) i61 (iv_lit (n := 0) 0 (by decide)) (by decide) (by decide)
          refine lv_aload_n hx hb dX5_take_42 rfl (lv_at hl 0 rfl) ?_
          refine b_get (ci := 5) (C := RX5) (T := TX5) (Nf := 12) (v := .ref (q 57)) hx hb hts in_X5_take_X5 hown hK hH 0 (by decide) rfl rfl 8 (by decide) (hts (.fieldLink RX5 55 "StationLine" "sheets" "LStationLine$Sheets;") (List.mem_of_getElem? (i := 1) rfl)) rfl dX5_take_43 ?_
          refine b_get (ci := 4) (C := RX4) (T := TX4) (Nf := 3) (v := .ref (q 58)) hx hb hts in_X5_take_X4 hown hK hH 57 (by decide) rfl rfl 0 (by decide) (hts (.fieldLink RX5 226 "StationLine$Sheets" "sorts" "[I") (List.mem_of_getElem? (i := 2) rfl)) rfl dX5_take_46 ?_
          refine lv_iload_n hx hb dX5_take_49 rfl (lv_at hl 2 rfl) ?_
          refine b_iald (v := z0.2.1 58 (p1 : Int32).toNatClampNeg) hx hb hK hH 58 (by decide) rfl (iv_in k55 (by decide) (by decide)) rfl dX5_take_50 ?_
          refine lv_iload_n hx hb dX5_take_51 rfl (lv_at hl 3 rfl) ?_
          refine lv_icmp_eq (tgt := 62) hx hb dX5_take_52 (by decide) (fun c64 => ?_) (fun c64 => ?_)
          · skip
            have r64 := (iv_Eq c64)
            have k65a : iv 0 2 (z0.2.1 58 (p1 : Int32).toNatClampNeg) := iv_eql (iv_Eq c64) (iv_all (z0.2.1 58 (p1 : Int32).toNatClampNeg)) k59 (by decide) (by decide)
            refine lv_aload_n hx hb dX5_take_62 rfl (lv_at hl 0 rfl) ?_
            refine b_get (ci := 5) (C := RX5) (T := TX5) (Nf := 12) (v := .ref (q 1)) hx hb hts in_X5_take_X5 hown hK hH 0 (by decide) rfl rfl 0 (by decide) (hts (.fieldLink RX5 12 "StationLine" "bench" "LStationLine$Bench;") (List.mem_of_getElem? (i := 3) rfl)) rfl dX5_take_63 ?_
            refine b_get (ci := 0) (C := RX0) (T := TX0) (Nf := 11) (v := .int (z0.1 0)) hx hb hts in_X5_take_X0 hown hK hH 1 (by decide) rfl rfl 0 (by decide) (hts (.fieldLink RX5 70 "StationLine$Bench" "size" "I") (List.mem_of_getElem? (i := 4) rfl)) rfl dX5_take_66 ?_
            have i66 := IvC_s0 hJ.1
            have := i66.1; have := i66.2
            refine lv_if_le (tgt := 106) hx hb dX5_take_69 (by decide) (fun c67 => ?_) (fun c67 => ?_)
            · skip
              have r67 := (iv_Le c67)
              have k68a : iv 0 0 (z0.1 0) := iv_lel (iv_Le c67) i66 (iv_lit (n := 0) 0 (by decide))
              refine lv_aload_n hx hb dX5_take_106 rfl (lv_at hl 0 rfl) ?_
              refine b_get (ci := 5) (C := RX5) (T := TX5) (Nf := 12) (v := .ref (q 1)) hx hb hts in_X5_take_X5 hown hK hH 0 (by decide) rfl rfl 0 (by decide) (hts (.fieldLink RX5 12 "StationLine" "bench" "LStationLine$Bench;") (List.mem_of_getElem? (i := 3) rfl)) rfl dX5_take_107 ?_
              refine lv_iload_n hx hb dX5_take_110 rfl (lv_at hl 1 rfl) ?_
              refine lv_aload_n hx hb dX5_take_111 rfl (lv_at hl 0 rfl) ?_
              refine b_get (ci := 5) (C := RX5) (T := TX5) (Nf := 12) (v := .ref (q 57)) hx hb hts in_X5_take_X5 hown hK hH 0 (by decide) rfl rfl 8 (by decide) (hts (.fieldLink RX5 55 "StationLine" "sheets" "LStationLine$Sheets;") (List.mem_of_getElem? (i := 1) rfl)) rfl dX5_take_112 ?_
              refine b_get (ci := 4) (C := RX4) (T := TX4) (Nf := 3) (v := .ref (q 60)) hx hb hts in_X5_take_X4 hown hK hH 57 (by decide) rfl rfl 2 (by decide) (hts (.fieldLink RX5 223 "StationLine$Sheets" "rows" "[[I") (List.mem_of_getElem? (i := 6) rfl)) rfl dX5_take_115 ?_
              refine lv_iload_n hx hb dX5_take_118 rfl (lv_at hl 2 rfl) ?_
              refine h_aaldE (n := 4) hx hb hK hH 60 3 61 (by decide) rfl rfl (iv_in k55 (by decide) (by decide)) dX5_take_119 (fun k69 hk69 ek69 => ?_)
              refine lv_iload hx hb dX5_take_120 (lv_at hl 4 rfl) ?_
              refine b_calli (As := [.int p0, .ref (q k69), .int p3]) (rest := []) ⟨hx, hb, hml, hown, hts⟩ 1 0 (g_X0_takeTimes_1 l D cy q hH.2.1 z0 hJ.1 p0 k50 k69 hk69 p3 (by omega)) (cwV 3 hts gX5_take_X0_takeTimes rfl rfl rfl (by decide +kernel) ⟨Nat.le_of_ble_eq_true rfl, Nat.le_of_ble_eq_true rfl⟩) hK hZ hH (by decide) rfl rfl rfl hl.1 rfl (Nat.le_of_ble_eq_true rfl) ⟨Nat.zero_le _, Nat.zero_le _⟩ dX5_take_122 (fun w70 z70 H locs hp hH => ?_)
              have hJ := jJ_tr hJ hp.1 (by decide) (by decide) (by decide)
              have f70_0 := hp.2.2.1
              have f70_1 := hp.2.2.2.1
              have f70_2 := hp.2.2.2.2
              have hA70 := hp.1.2
              have g71 : iv 0 0 (z70.1 0) := by rw [(hp.1).2.1 0 (by decide)]; exact k68a
              exact hret _ z70 H locs _ _ ⟨hJ, (iv_all w70), (TakeP_end ⟨(iv_w k50 (by decide) (by decide)), (iv_w k55 (by decide) (by decide)), (iv_w k59 (by decide) (by decide))⟩ (f61_0.1 c62) c64 (fun q => absurd q.2 (by have := q.1; omega)) (f70_0.trans (congrArg (fun k => cntF (z0.2.1 k) p3.toNatClampNeg (z0.1 0).toNatClampNeg) ek69)) (tk_T f70_1 f70_2 ek69))⟩ hH dX5_take_125
            · skip
              have r67 := (iv_nLe c67)
              have k72b : iv 1 10 (z0.1 0) := iv_ltr (iv_nLe c67) (iv_lit (n := 0) 0 (by decide)) i66 (by decide)
              refine lv_iload hx hb dX5_take_72 (lv_at hl 4 rfl) ?_
              refine lv_if_lt (tgt := 99) hx hb dX5_take_74 (by decide) (fun c73 => ?_) (fun c73 => ?_)
              · skip
                have r73 := (iv_Lt c73)
                have k74a : iv (-2147483648) (-1) p3 := iv_ltl (iv_Lt c73) (iv_all p3) (iv_lit (n := 0) 0 (by decide)) (by decide)
                refine lv_aload_n hx hb dX5_take_99 rfl (lv_at hl 0 rfl) ?_
                refine lv_bipush (v := (-11)) hx hb dX5_take_100 (by decide) ?_
                refine b_calli (As := [.int (-11)]) (rest := []) ⟨hx, hb, hml, hown, hts⟩ 0 5 (g_X5_found_0 l D cy q hH.2.1 z0 hJ.1 (-11)) (cwV 1 hts gX5_take_X5_found rfl rfl rfl (by decide +kernel) ⟨Nat.le_of_ble_eq_true rfl, Nat.le_of_ble_eq_true rfl⟩) hK hZ hH (by decide) rfl rfl rfl hl.1 rfl (Nat.le_of_ble_eq_true rfl) ⟨Nat.zero_le _, Nat.zero_le _⟩ dX5_take_102 (fun w75 z75 H locs hp hH => ?_)
                have hJ := jJ_tr hJ hp.1 (by decide) (by decide) (by decide)
                have f75_0 := hp.2.2
                have hA75 := hp.1.2
                have g76 : iv 1 10 (z75.1 0) := by rw [(hp.1).2.1 0 (by decide)]; exact k72b
                exact hret _ z75 H locs _ _ ⟨hJ, (iv_all w75), (TakeP_11 ⟨(iv_w k50 (by decide) (by decide)), (iv_w k55 (by decide) (by decide)), (iv_w k59 (by decide) (by decide))⟩ (f61_0.1 c62) c64 ⟨by omega, by omega⟩ f75_0 (ag_T 4 hA75.2.1 (by decide) (by decide) (by decide)))⟩ hH dX5_take_105
              · skip
                have r73 := (iv_nLt c73)
                have k77b : iv 0 2147483647 p3 := iv_ler (iv_nLt c73) (iv_lit (n := 0) 0 (by decide)) (iv_all p3)
                refine lv_iload hx hb dX5_take_77 (lv_at hl 4 rfl) ?_
                refine lv_aload_n hx hb dX5_take_79 rfl (lv_at hl 0 rfl) ?_
                refine b_get (ci := 5) (C := RX5) (T := TX5) (Nf := 12) (v := .ref (q 57)) hx hb hts in_X5_take_X5 hown hK hH 0 (by decide) rfl rfl 8 (by decide) (hts (.fieldLink RX5 55 "StationLine" "sheets" "LStationLine$Sheets;") (List.mem_of_getElem? (i := 1) rfl)) rfl dX5_take_80 ?_
                refine b_get (ci := 4) (C := RX4) (T := TX4) (Nf := 3) (v := .ref (q 59)) hx hb hts in_X5_take_X4 hown hK hH 57 (by decide) rfl rfl 1 (by decide) (hts (.fieldLink RX5 220 "StationLine$Sheets" "sizes" "[I") (List.mem_of_getElem? (i := 5) rfl)) rfl dX5_take_83 ?_
                refine lv_iload_n hx hb dX5_take_86 rfl (lv_at hl 2 rfl) ?_
                refine b_iald (v := z0.2.1 59 (p1 : Int32).toNatClampNeg) hx hb hK hH 59 (by decide) rfl (iv_in k55 (by decide) (by decide)) rfl dX5_take_87 ?_
                have i78 : iv (-1) 40 (z0.2.1 59 (p1 : Int32).toNatClampNeg) := IvC_a59 hJ.1 _ (b_inlt (iv_in k55 (by decide) (by decide)))
                have := i78.1; have := i78.2
                refine lv_aload_n hx hb dX5_take_88 rfl (lv_at hl 0 rfl) ?_
                refine b_get (ci := 5) (C := RX5) (T := TX5) (Nf := 12) (v := .ref (q 1)) hx hb hts in_X5_take_X5 hown hK hH 0 (by decide) rfl rfl 0 (by decide) (hts (.fieldLink RX5 12 "StationLine" "bench" "LStationLine$Bench;") (List.mem_of_getElem? (i := 3) rfl)) rfl dX5_take_89 ?_
                refine b_get (ci := 0) (C := RX0) (T := TX0) (Nf := 11) (v := .int (z0.1 0)) hx hb hts in_X5_take_X0 hown hK hH 1 (by decide) rfl rfl 0 (by decide) (hts (.fieldLink RX5 70 "StationLine$Bench" "size" "I") (List.mem_of_getElem? (i := 4) rfl)) rfl dX5_take_92 ?_
                have := k72b.1; have := k72b.2
                refine lv_isub hx hb dX5_take_95 ?_
                refine h_iE (a := (-11)) (b := 39) (iv_sub i78 k72b (by decide) (by decide) (by decide) (by decide)) (iv_subE i78 k72b (by decide) (by decide)) (fun w79 i79 e79 => ?_)
                have := i79.1; have := i79.2
                refine lv_icmp_le (tgt := 106) hx hb dX5_take_96 (by decide) (fun c80 => ?_) (fun c80 => ?_)
                · skip
                  have r80 := (iv_Le c80)
                  have k81a : iv 0 39 p3 := iv_lel (iv_Le c80) k77b i79
                  have k81b : iv 0 39 w79 := iv_ler (iv_Le c80) k77b i79
                  refine lv_aload_n hx hb dX5_take_106 rfl (lv_at hl 0 rfl) ?_
                  refine b_get (ci := 5) (C := RX5) (T := TX5) (Nf := 12) (v := .ref (q 1)) hx hb hts in_X5_take_X5 hown hK hH 0 (by decide) rfl rfl 0 (by decide) (hts (.fieldLink RX5 12 "StationLine" "bench" "LStationLine$Bench;") (List.mem_of_getElem? (i := 3) rfl)) rfl dX5_take_107 ?_
                  refine lv_iload_n hx hb dX5_take_110 rfl (lv_at hl 1 rfl) ?_
                  refine lv_aload_n hx hb dX5_take_111 rfl (lv_at hl 0 rfl) ?_
                  refine b_get (ci := 5) (C := RX5) (T := TX5) (Nf := 12) (v := .ref (q 57)) hx hb hts in_X5_take_X5 hown hK hH 0 (by decide) rfl rfl 8 (by decide) (hts (.fieldLink RX5 55 "StationLine" "sheets" "LStationLine$Sheets;") (List.mem_of_getElem? (i := 1) rfl)) rfl dX5_take_112 ?_
                  refine b_get (ci := 4) (C := RX4) (T := TX4) (Nf := 3) (v := .ref (q 60)) hx hb hts in_X5_take_X4 hown hK hH 57 (by decide) rfl rfl 2 (by decide) (hts (.fieldLink RX5 223 "StationLine$Sheets" "rows" "[[I") (List.mem_of_getElem? (i := 6) rfl)) rfl dX5_take_115 ?_
                  refine lv_iload_n hx hb dX5_take_118 rfl (lv_at hl 2 rfl) ?_
                  refine h_aaldE (n := 4) hx hb hK hH 60 3 61 (by decide) rfl rfl (iv_in k55 (by decide) (by decide)) dX5_take_119 (fun k82 hk82 ek82 => ?_)
                  refine lv_iload hx hb dX5_take_120 (lv_at hl 4 rfl) ?_
                  refine b_calli (As := [.int p0, .ref (q k82), .int p3]) (rest := []) ⟨hx, hb, hml, hown, hts⟩ 1 0 (g_X0_takeTimes_1 l D cy q hH.2.1 z0 hJ.1 p0 k50 k82 hk82 p3 (by omega)) (cwV 3 hts gX5_take_X0_takeTimes rfl rfl rfl (by decide +kernel) ⟨Nat.le_of_ble_eq_true rfl, Nat.le_of_ble_eq_true rfl⟩) hK hZ hH (by decide) rfl rfl rfl hl.1 rfl (Nat.le_of_ble_eq_true rfl) ⟨Nat.zero_le _, Nat.zero_le _⟩ dX5_take_122 (fun w83 z83 H locs hp hH => ?_)
                  have hJ := jJ_tr hJ hp.1 (by decide) (by decide) (by decide)
                  have f83_0 := hp.2.2.1
                  have f83_1 := hp.2.2.2.1
                  have f83_2 := hp.2.2.2.2
                  have hA83 := hp.1.2
                  have g84 : iv 1 10 (z83.1 0) := by rw [(hp.1).2.1 0 (by decide)]; exact k72b
                  exact hret _ z83 H locs _ _ ⟨hJ, (iv_all w83), (TakeP_end ⟨(iv_w k50 (by decide) (by decide)), (iv_w k55 (by decide) (by decide)), (iv_w k59 (by decide) (by decide))⟩ (f61_0.1 c62) c64 (fun q => absurd q.2 (by have := q.1; omega)) (f83_0.trans (congrArg (fun k => cntF (z0.2.1 k) p3.toNatClampNeg (z0.1 0).toNatClampNeg) ek82)) (tk_T f83_1 f83_2 ek82))⟩ hH dX5_take_125
                · skip
                  have r80 := (iv_nLe c80)
                  refine lv_aload_n hx hb dX5_take_99 rfl (lv_at hl 0 rfl) ?_
                  refine lv_bipush (v := (-11)) hx hb dX5_take_100 (by decide) ?_
                  refine b_calli (As := [.int (-11)]) (rest := []) ⟨hx, hb, hml, hown, hts⟩ 0 5 (g_X5_found_0 l D cy q hH.2.1 z0 hJ.1 (-11)) (cwV 1 hts gX5_take_X5_found rfl rfl rfl (by decide +kernel) ⟨Nat.le_of_ble_eq_true rfl, Nat.le_of_ble_eq_true rfl⟩) hK hZ hH (by decide) rfl rfl rfl hl.1 rfl (Nat.le_of_ble_eq_true rfl) ⟨Nat.zero_le _, Nat.zero_le _⟩ dX5_take_102 (fun w86 z86 H locs hp hH => ?_)
                  have hJ := jJ_tr hJ hp.1 (by decide) (by decide) (by decide)
                  have f86_0 := hp.2.2
                  have hA86 := hp.1.2
                  have g87 : iv 1 10 (z86.1 0) := by rw [(hp.1).2.1 0 (by decide)]; exact k72b
                  exact hret _ z86 H locs _ _ ⟨hJ, (iv_all w86), (TakeP_11 ⟨(iv_w k50 (by decide) (by decide)), (iv_w k55 (by decide) (by decide)), (iv_w k59 (by decide) (by decide))⟩ (f61_0.1 c62) c64 ⟨by omega, by omega⟩ f86_0 (ag_T 4 hA86.2.1 (by decide) (by decide) (by decide)))⟩ hH dX5_take_105
          · skip
            have r64 := (iv_nEq c64)
            refine lv_aload_n hx hb dX5_take_55 rfl (lv_at hl 0 rfl) ?_
            refine lv_bipush (v := (-12)) hx hb dX5_take_56 (by decide) ?_
            refine b_calli (As := [.int (-12)]) (rest := []) ⟨hx, hb, hml, hown, hts⟩ 0 5 (g_X5_found_0 l D cy q hH.2.1 z0 hJ.1 (-12)) (cwV 1 hts gX5_take_X5_found rfl rfl rfl (by decide +kernel) ⟨Nat.le_of_ble_eq_true rfl, Nat.le_of_ble_eq_true rfl⟩) hK hZ hH (by decide) rfl rfl rfl hl.1 rfl (Nat.le_of_ble_eq_true rfl) ⟨Nat.zero_le _, Nat.zero_le _⟩ dX5_take_58 (fun w89 z89 H locs hp hH => ?_)
            have hJ := jJ_tr hJ hp.1 (by decide) (by decide) (by decide)
            have f89_0 := hp.2.2
            have hA89 := hp.1.2
            exact hret _ z89 H locs _ _ ⟨hJ, (iv_all w89), (TakeP_12 ⟨(iv_w k50 (by decide) (by decide)), (iv_w k55 (by decide) (by decide)), (iv_w k59 (by decide) (by decide))⟩ (f61_0.1 c62) c64 f89_0 (ag_T 4 hA89.2.1 (by decide) (by decide) (by decide)))⟩ hH dX5_take_61
        · skip
          have r62 := (iv_nEq c62)
          have k90a : iv 1 1 w61 := iv_neLo (iv_nEq c62) i61 (by decide) (by decide)
          refine lv_aload_n hx hb dX5_take_35 rfl (lv_at hl 0 rfl) ?_
          refine lv_bipush (v := (-10)) hx hb dX5_take_36 (by decide) ?_
          refine b_calli (As := [.int (-10)]) (rest := []) ⟨hx, hb, hml, hown, hts⟩ 0 5 (g_X5_found_0 l D cy q hH.2.1 z0 hJ.1 (-10)) (cwV 1 hts gX5_take_X5_found rfl rfl rfl (by decide +kernel) ⟨Nat.le_of_ble_eq_true rfl, Nat.le_of_ble_eq_true rfl⟩) hK hZ hH (by decide) rfl rfl rfl hl.1 rfl (Nat.le_of_ble_eq_true rfl) ⟨Nat.zero_le _, Nat.zero_le _⟩ dX5_take_38 (fun w91 z91 H locs hp hH => ?_)
          have hJ := jJ_tr hJ hp.1 (by decide) (by decide) (by decide)
          have f91_0 := hp.2.2
          have hA91 := hp.1.2
          exact hret _ z91 H locs _ _ ⟨hJ, (iv_all w91), (TakeP_10 ⟨(iv_w k50 (by decide) (by decide)), (iv_w k55 (by decide) (by decide)), (iv_w k59 (by decide) (by decide))⟩ (f61_0.2 c62) f91_0 (ag_T 4 hA91.2.1 (by decide) (by decide) (by decide)))⟩ hH dX5_take_41
      · skip
        have r58 := (iv_Eq c58)
        have k92a : iv 0 0 w57 := iv_eql (iv_Eq c58) i57 (iv_lit (n := 0) 0 (by decide)) (by decide) (by decide)
        refine lv_bipush (v := (-2)) hx hb dX5_take_21 (by decide) ?_
        exact hret _ z0 H locs _ _ ⟨hJ, (iv_w (iv_lit (n := (-2)) (-2) (by decide)) (by decide) (by decide)), (TakeP_bad (fun q => absurd q.2.2 (f57_0.mp c58)) rfl (fun _ _ _ _ => rfl))⟩ hH dX5_take_23
theorem ck_step {f : Nat → Int32} {x : Int32} {y : Int} {j : Nat} (hx : iv 0 20 x) (hj : (j : Int) < y) (he : y = x.toInt + 1) (h : ∀ j : Nat, (j : Int) < x.toInt → iv 0 10 (f j)) (h1 : iv 0 10 (f x.toNatClampNeg)) : iv 0 10 (f j) := by
  rcases (show (j : Int) < x.toInt ∨ (j : Int) = x.toInt by omega) with h2 | h2
  · exact h j h2
  · have e := iv_nat hx (by decide)
    have e2 : j = x.toNatClampNeg := by omega
    rw [e2]
    exact h1
set_option maxHeartbeats 4000000 in
set_option maxRecDepth 100000 in
theorem g_X5_check_0 (l : Launch) (D : va_G) (cy : Nat → ClassId) (q : Nat → Nat) (hq : bJ 66 q) (z0 : zS) (hI : IvC z0)  : bCi l yX5_check wsX5_check ({ frames := 5, cells := 0, slots := 0, locals := 118 }) D cy 66 (enC cy) q z0 [.ref (q 0)] (fun v z => jJ IvC 512 72057594037927936 0 z0 z ∧ iv (-2) 96 v ∧ (z.1 9 = 0)) := by
  refine hM_i cX5_check (by decide) rfl (own := RX5) rfl hq (Nat.le_of_ble_eq_true rfl) ?_
  intro p e s m args below meth c Q ls H locs hx hb hml hown hts hK hZ hH hl hret
  have hl : lv_has ls 3 [(0, .ref (q 0))] := hl
  have hJ : jJ IvC 512 72057594037927936 0 z0 z0 := jJ_rf _ _ _ hI
  have e00 : (0 : Int32).toInt = 0 := (by decide); have e01 : (1 : Int32).toInt = 1 := (by decide); have e02 : (2 : Int32).toInt = 2 := (by decide); have e03 : (3 : Int32).toInt = 3 := (by decide); have e010 : (10 : Int32).toInt = 10 := (by decide)
  have HL26 : ∀ (n : Nat) (x1_26 : Int32) (x2_26 : Int32) (z_26 : zS) (H : Heap) (locs : List Loc) (ls : Array Slot), iv 0 10 x1_26 → iv 0 10 x2_26 → iv 0 0 (z_26.1 9) → ((∀ j : Nat, (j : Int) < (x2_26).toInt → iv 0 10 (z_26.2.1 65 j)) ∧ z_26.1 9 = 0) → jJ IvC 512 72057594037927936 0 z0 z_26 → bH D 66 (enC cy) q z_26 s.heap H locs → lv_has ls 3 [(0, .ref (q 0)), (1, .int x1_26), (2, .int x2_26)] → (10 - x2_26.toInt).toNat = n → W p l e ({ frames := 5, cells := 0, slots := 0, locals := 118 }) s m args below meth c H locs 0 0 Q (F0 m 26 ls []) := by
    intro n26
    induction n26 using Nat.strongRecOn with
    | ind n26 ih26 =>
      intro x1_26 x2_26 z_26 H locs ls h1_26 h2_26 gh9_26 ex_26 hJ hH hl hn26
      have := h1_26.1; have := h1_26.2; have := h2_26.1; have := h2_26.2; have := gh9_26.1; have := gh9_26.2
      refine lv_iload_n hx hb dX5_check_26 rfl (lv_at hl 2 rfl) ?_
      refine lv_iload_n hx hb dX5_check_27 rfl (lv_at hl 1 rfl) ?_
      refine lv_icmp_ge (tgt := 52) hx hb dX5_check_28 (by decide) (fun c134 => ?_) (fun c134 => ?_)
      · skip
        have r134 := (iv_Le c134)
        refine lv_aload_n hx hb dX5_check_52 rfl (lv_at hl 0 rfl) ?_
        refine b_get (ci := 5) (C := RX5) (T := TX5) (Nf := 12) (v := .ref (q 65)) hx hb hts in_X5_check_X5 hown hK hH 0 (by decide) rfl rfl 9 (by decide) (hts (.fieldLink RX5 59 "StationLine" "waiting" "[I") (List.mem_of_getElem? (i := 4) rfl)) rfl dX5_check_53 ?_
        refine lv_iconst (v := 0) hx hb dX5_check_56 (by decide) ?_
        refine lv_aload_n hx hb dX5_check_57 rfl (lv_at hl 0 rfl) ?_
        refine b_get (ci := 5) (C := RX5) (T := TX5) (Nf := 12) (v := .ref (q 55)) hx hb hts in_X5_check_X5 hown hK hH 0 (by decide) rfl rfl 7 (by decide) (hts (.fieldLink RX5 49 "StationLine" "trial" "LStationLine$Putting;") (List.mem_of_getElem? (i := 5) rfl)) rfl dX5_check_58 ?_
        refine b_get (ci := 1) (C := RX1) (T := TX1) (Nf := 2) (v := .ref (q 56)) hx hb hts in_X5_check_X1 hown hK hH 55 (by decide) rfl rfl 1 (by decide) (hts (.fieldLink RX5 77 "StationLine$Putting" "row" "[I") (List.mem_of_getElem? (i := 6) rfl)) rfl dX5_check_61 ?_
        refine lv_iconst (v := 0) hx hb dX5_check_64 (by decide) ?_
        refine lv_iload_n hx hb dX5_check_65 rfl (lv_at hl 1 rfl) ?_
        refine b_copyi hx hb (by rw [hml]; exact hl.1.symm) hown (hts (.methodLink RX5 240 arraycopyName) (List.mem_of_getElem? (i := 7) rfl)) (hts (.native arraycopyName) (List.mem_of_getElem? (i := 8) rfl)) (hts (.static arraycopyName) (List.mem_of_getElem? (i := 9) rfl)) (hts (.initialized "java/lang/System") (List.mem_of_getElem? (i := 10) rfl)) hK hH 65 56 (by decide) (by decide) rfl rfl (by decide) (by decide) (iv_ge0 h1_26 (by decide)) (Nat.le_trans (Nat.le_of_eq (Nat.zero_add _)) (iv_cl h1_26 (n := 20) (by decide))) (Nat.le_trans (Nat.le_of_eq (Nat.zero_add _)) (iv_cl h1_26 (n := 10) (by decide))) (Nat.le_of_ble_eq_true rfl) (Nat.le_of_ble_eq_true rfl) (upA z_26 56 (va_cpy (z_26.2.1 65) (z_26.2.1 56) (0 : Int32).toNatClampNeg (0 : Int32).toNatClampNeg (x1_26 : Int32).toNatClampNeg)) rfl (enC_A _ _ _ _ _) dX5_check_66 (fun H locs hH => ?_)
        obtain ⟨z136, hz136⟩ : ∃ w : zS, w = upA z_26 56 (va_cpy (z_26.2.1 65) (z_26.2.1 56) (0 : Int32).toNatClampNeg (0 : Int32).toNatClampNeg (x1_26 : Int32).toNatClampNeg) := ⟨_, rfl⟩
        rw [← hz136] at hH
        have hJ : jJ IvC 512 72057594037927936 0 z0 z136 := by rw [hz136]; exact jJ_A hJ (by decide) (IvC_R56 hJ.1 (rw_cpyN (fun i hi => ex_26.1 i (by have := iv_nat h1_26 (by decide); omega)) (IvC_a56 hJ.1)))
        have g137 : iv 0 0 (z136.1 9) := by rw [hz136]; exact gh9_26
        refine lv_aload_n hx hb dX5_check_69 rfl (lv_at hl 0 rfl) ?_
        refine b_get (ci := 5) (C := RX5) (T := TX5) (Nf := 12) (v := .ref (q 55)) hx hb hts in_X5_check_X5 hown hK hH 0 (by decide) rfl rfl 7 (by decide) (hts (.fieldLink RX5 49 "StationLine" "trial" "LStationLine$Putting;") (List.mem_of_getElem? (i := 5) rfl)) rfl dX5_check_70 ?_
        refine b_calli (As := []) (rest := []) ⟨hx, hb, hml, hown, hts⟩ 55 1 (g_X1_firstClash_55 l D cy q hH.2.1 z136 hJ.1 ) (cwV 0 hts gX5_check_X1_firstClash rfl rfl rfl (by decide +kernel) ⟨Nat.le_of_ble_eq_true rfl, Nat.le_of_ble_eq_true rfl⟩) hK hZ hH (by decide) rfl rfl rfl hl.1 rfl (Nat.le_of_ble_eq_true rfl) ⟨Nat.zero_le _, Nat.zero_le _⟩ dX5_check_73 (fun w138 z138 H locs hp hH => ?_)
        rw [Ag_0 hp.1.2] at hH
        have i138 := hp.2
        have := i138.1; have := i138.2
        refine lv_istore_n (lv' := [(2, .int w138), (0, .ref (q 0)), (1, .int x1_26)]) hx hb dX5_check_76 rfl hl (by decide) rfl (fun ls hl => ?_)
        refine lv_iload_n hx hb dX5_check_77 rfl (lv_at hl 0 rfl) ?_
        refine lv_if_ge (tgt := 85) hx hb dX5_check_78 (by decide) (fun c139 => ?_) (fun c139 => ?_)
        · skip
          have r139 := (iv_Le c139)
          have k140b : iv 0 9 w138 := iv_ler (iv_Le c139) (iv_lit (n := 0) 0 (by decide)) i138
          refine lv_bipush (v := 10) hx hb dX5_check_85 (by decide) ?_
          refine lv_iload_n hx hb dX5_check_87 rfl (lv_at hl 0 rfl) ?_
          refine lv_imul hx hb dX5_check_88 ?_
          refine h_i (a := 0) (b := 90) (iv_mul (iv_lit (n := 10) 10 (by decide)) k140b (by decide) (by decide) (by decide) (by decide) (by decide)) (fun w141 i141 => ?_)
          have := i141.1; have := i141.2
          refine lv_aload_n hx hb dX5_check_89 rfl (lv_at hl 1 rfl) ?_
          refine b_get (ci := 5) (C := RX5) (T := TX5) (Nf := 12) (v := .ref (q 55)) hx hb hts in_X5_check_X5 hown hK hH 0 (by decide) rfl rfl 7 (by decide) (hts (.fieldLink RX5 49 "StationLine" "trial" "LStationLine$Putting;") (List.mem_of_getElem? (i := 5) rfl)) rfl dX5_check_90 ?_
          refine lv_iload_n hx hb dX5_check_93 rfl (lv_at hl 0 rfl) ?_
          refine b_calli (As := [.int w138]) (rest := [.int w141]) ⟨hx, hb, hml, hown, hts⟩ 55 1 (g_X1_causeOf_55 l D cy q hH.2.1 z136 hJ.1 w138 k140b) (cwV 1 hts gX5_check_X1_causeOf rfl rfl rfl (by decide +kernel) ⟨Nat.le_of_ble_eq_true rfl, Nat.le_of_ble_eq_true rfl⟩) hK hZ hH (by decide) rfl rfl rfl hl.1 rfl (Nat.le_of_ble_eq_true rfl) ⟨Nat.zero_le _, Nat.zero_le _⟩ dX5_check_94 (fun w142 z142 H locs hp hH => ?_)
          rw [Ag_0 hp.1.2] at hH
          have i142 := hp.2
          have := i142.1; have := i142.2
          refine lv_iadd hx hb dX5_check_97 ?_
          refine h_i (a := 0) (b := 96) (iv_add i141 i142 (by decide) (by decide) (by decide) (by decide)) (fun w143 i143 => ?_)
          have := i143.1; have := i143.2
          exact hret _ z136 H locs _ _ ⟨hJ, (iv_w i143 (by decide) (by decide)), (((show z136.1 9 = z_26.1 9 by rw [hz136]; first | rfl | exact upA_n (by omega))).trans ex_26.2)⟩ hH dX5_check_98
        · skip
          have r139 := (iv_nLe c139)
          have k144a : iv (-1) (-1) w138 := iv_ltl (iv_nLe c139) i138 (iv_lit (n := 0) 0 (by decide)) (by decide)
          refine lv_iconst (v := 0) hx hb dX5_check_81 (by decide) ?_
          refine lv_goto (tgt := 98) hx hb dX5_check_82 (by decide) ?_
          exact hret _ z136 H locs _ _ ⟨hJ, (iv_w (iv_lit (n := 0) 0 (by decide)) (by decide) (by decide)), (((show z136.1 9 = z_26.1 9 by rw [hz136]; first | rfl | exact upA_n (by omega))).trans ex_26.2)⟩ hH dX5_check_98
      · skip
        have r134 := (iv_nLe c134)
        have k145a : iv 0 9 x2_26 := iv_ltl (iv_nLe c134) h2_26 h1_26 (by decide)
        have k145b : iv 1 10 x1_26 := iv_ltr (iv_nLe c134) h2_26 h1_26 (by decide)
        refine lv_aload_n hx hb dX5_check_31 rfl (lv_at hl 0 rfl) ?_
        refine b_get (ci := 5) (C := RX5) (T := TX5) (Nf := 12) (v := .ref (q 65)) hx hb hts in_X5_check_X5 hown hK hH 0 (by decide) rfl rfl 9 (by decide) (hts (.fieldLink RX5 59 "StationLine" "waiting" "[I") (List.mem_of_getElem? (i := 4) rfl)) rfl dX5_check_32 ?_
        refine lv_iload_n hx hb dX5_check_35 rfl (lv_at hl 2 rfl) ?_
        refine b_iald hx hb hK hH 65 (by decide) rfl (iv_in k145a (by decide) (by decide)) rfl dX5_check_36 ?_
        refine b_stati (As := [.int (z_26.2.1 65 (x2_26 : Int32).toNatClampNeg)]) (rest := []) ⟨hx, hb, hml, hown, hts⟩ (g_X5_isStationOrNone l D cy q hH.2.1 z_26 hJ.1 (z_26.2.1 65 (x2_26 : Int32).toNatClampNeg)) (va_cwS 1 hts gX5_check_X5_isStationOrNone rfl rfl rfl (by decide +kernel) ⟨Nat.le_of_ble_eq_true rfl, Nat.le_of_ble_eq_true rfl⟩) hK hZ hH rfl hl.1 rfl (Nat.le_of_ble_eq_true rfl) ⟨Nat.zero_le _, Nat.zero_le _⟩ dX5_check_37 (fun w146 z146 H locs hp hH => ?_)
        rw [Ag_0 hp.1.2] at hH
        have i146 := hp.2.1
        have := i146.1; have := i146.2
        have tr146_0 := hp.2.2.1
        have f146_0 := hp.2.2.2
        refine lv_if_ne (tgt := 46) hx hb dX5_check_40 (by decide) (fun c147 => ?_) (fun c147 => ?_)
        · skip
          have k148 : iv 0 10 (z_26.2.1 65 (x2_26 : Int32).toNatClampNeg) := (tr146_0).resolve_left c147
          have := k148.1; have := k148.2
          have r147 := (iv_nEq c147)
          have k149a : iv 1 1 w146 := iv_neLo (iv_nEq c147) i146 (by decide) (by decide)
          have j150 : iv 1 10 (x2_26 + 1) := iv_add k145a (iv_lit (n := 1) 1 (by decide)) (by decide) (by decide) (by decide) (by decide)
          have e150 : (x2_26 + 1).toInt = x2_26.toInt + 1 := (iv_addE k145a (iv_lit (n := 1) 1 (by decide)) (by decide) (by decide)).trans rfl
          refine lv_iinc (v := (x2_26 + 1)) (lv' := [(2, .int (x2_26 + 1)), (0, .ref (q 0)), (1, .int x1_26)]) hx hb dX5_check_46 hl (k := 2) rfl rfl (by decide) rfl (fun ls hl => ?_)
          refine lv_goto (tgt := 26) hx hb dX5_check_49 (by decide) ?_
          exact ih26 _ (ms_up e150 j150.2 hn26) x1_26 (x2_26 + 1) z_26 H locs ls (iv_w k145b (by decide) (by decide)) (iv_w j150 (by decide) (by decide)) gh9_26 ⟨fun j hj => by exact ck_step (iv_w k145a (by decide) (by decide)) hj (e150) ex_26.1 k148, ex_26.2⟩ hJ hH (lv_sub hl [1, 2, 0] rfl) rfl
        · skip
          have r147 := (iv_Eq c147)
          have k151a : iv 0 0 w146 := iv_eql (iv_Eq c147) i146 (iv_lit (n := 0) 0 (by decide)) (by decide) (by decide)
          refine lv_bipush (v := (-2)) hx hb dX5_check_43 (by decide) ?_
          exact hret _ z_26 H locs _ _ ⟨hJ, (iv_w (iv_lit (n := (-2)) (-2) (by decide)) (by decide) (by decide)), ex_26.2⟩ hH dX5_check_45
  refine lv_aload_n hx hb dX5_check_0 rfl (lv_at hl 0 rfl) ?_
  refine b_get (ci := 5) (C := RX5) (T := TX5) (Nf := 12) (v := .int (z0.1 9)) hx hb hts in_X5_check_X5 hown hK hH 0 (by decide) rfl rfl 10 (by decide) (hts (.fieldLink RX5 63 "StationLine" "waitingCount" "I") (List.mem_of_getElem? (i := 1) rfl)) rfl dX5_check_1 ?_
  have i152 := IvC_s9 hJ.1
  have := i152.1; have := i152.2
  refine lv_istore_n (lv' := [(1, .int (z0.1 9)), (0, .ref (q 0))]) hx hb dX5_check_4 rfl hl (by decide) rfl (fun ls hl => ?_)
  refine lv_aload_n hx hb dX5_check_5 rfl (lv_at hl 1 rfl) ?_
  refine lv_iconst (v := 0) hx hb dX5_check_6 (by decide) ?_
  refine b_put (ci := 5) (C := RX5) (T := TX5) (Nf := 12) (v := .int 0) (ty := .int) hx hb hts in_X5_check_X5 tyX5 tyX5_ok nmX5 hown hK hH 0 (by decide) rfl rfl 10 (by decide) (hts (.fieldLink RX5 63 "StationLine" "waitingCount" "I") (List.mem_of_getElem? (i := 1) rfl)) rfl (by decide +kernel) rfl rfl (Nat.le_of_ble_eq_true rfl) (upS z0 9 0) rfl (enC_S9 _ _ _ _) dX5_check_7 (fun H locs hH => ?_)
  obtain ⟨z153, hz153⟩ : ∃ w : zS, w = upS z0 9 0 := ⟨_, rfl⟩
  rw [← hz153] at hH
  have hJ : jJ IvC 512 72057594037927936 0 z0 z153 := by rw [hz153]; exact jJ_S hJ (by decide) (IvC_S9 hJ.1 (iv_w (iv_lit (n := 0) 0 (by decide)) (by decide) (by decide)))
  have g154 : iv 0 0 (z153.1 9) := by rw [hz153]; exact (iv_lit (n := 0) 0 (by decide))
  refine lv_iload_n hx hb dX5_check_10 rfl (lv_at hl 0 rfl) ?_
  refine lv_aload_n hx hb dX5_check_11 rfl (lv_at hl 1 rfl) ?_
  refine b_get (ci := 5) (C := RX5) (T := TX5) (Nf := 12) (v := .ref (q 1)) hx hb hts in_X5_check_X5 hown hK hH 0 (by decide) rfl rfl 0 (by decide) (hts (.fieldLink RX5 12 "StationLine" "bench" "LStationLine$Bench;") (List.mem_of_getElem? (i := 2) rfl)) rfl dX5_check_12 ?_
  refine b_get (ci := 0) (C := RX0) (T := TX0) (Nf := 11) (v := .int (z153.1 0)) hx hb hts in_X5_check_X0 hown hK hH 1 (by decide) rfl rfl 0 (by decide) (hts (.fieldLink RX5 70 "StationLine$Bench" "size" "I") (List.mem_of_getElem? (i := 3) rfl)) rfl dX5_check_15 ?_
  have i155 := IvC_s0 hJ.1
  have := i155.1; have := i155.2
  refine lv_icmp_eq (tgt := 24) hx hb dX5_check_18 (by decide) (fun c156 => ?_) (fun c156 => ?_)
  · skip
    have r156 := (iv_Eq c156)
    have k157a : iv 0 10 (z0.1 9) := iv_eql (iv_Eq c156) i152 i155 (by decide) (by decide)
    refine lv_iconst (v := 0) hx hb dX5_check_24 (by decide) ?_
    refine lv_istore_n (lv' := [(2, .int 0), (1, .int (z0.1 9)), (0, .ref (q 0))]) hx hb dX5_check_25 rfl hl (by decide) rfl (fun ls hl => ?_)
    exact HL26 _ (z0.1 9) 0 z153 H locs ls k157a (iv_w (iv_lit (n := 0) 0 (by decide)) (by decide) (by decide)) g154 ⟨fun j hj => absurd hj (by have e : (0 : Int32).toInt = 0 := (by decide); omega), by rw [hz153]; rfl⟩ hJ hH (lv_sub hl [2, 1, 0] rfl) rfl
  · skip
    have r156 := (iv_nEq c156)
    refine lv_bipush (v := (-2)) hx hb dX5_check_21 (by decide) ?_
    exact hret _ z153 H locs _ _ ⟨hJ, (iv_w (iv_lit (n := (-2)) (-2) (by decide)) (by decide) (by decide)), (by rw [hz153]; rfl)⟩ hH dX5_check_23
