set_option maxHeartbeats 4000000 in
set_option maxRecDepth 100000 in
theorem g_X3_leastBeatFor_32 (l : Launch) (D : va_G) (cy : Nat → ClassId) (q : Nat → Nat) (hq : bJ 66 q) (z0 : zS) (hI : IvC z0) (p0 : Int32) (hp0 : iv 1 10 p0) : bCi l yX3_leastBeatFor wsX3_leastBeatFor ({ frames := 5, cells := 0, slots := 0, locals := 119 }) D cy 66 (enC cy) q z0 [.ref (q 32), .int p0] (fun v z => jJ IvC 256 816043786240 0 z0 z ∧ iv (-2147483648) 2147483647 v) := by
  refine hM_i cX3_leastBeatFor (by decide) rfl (own := RX3) rfl hq (Nat.le_of_ble_eq_true rfl) ?_
  intro p e s m args below meth c Q ls H locs hx hb hml hown hts hK hZ hH hl hret
  have hl : lv_has ls 7 [(0, .ref (q 32)), (1, .int p0)] := hl
  have hJ : jJ IvC 256 816043786240 0 z0 z0 := jJ_rf _ _ _ hI
  have HL69 : ∀ (n : Nat) (x2_69 : Int32) (x3_69 : Int32) (x4_69 : Int32) (x5_69 : Int32) (z_69 : zS) (H : Heap) (locs : List Loc) (ls : Array Slot), iv 0 1000 x5_69 → jJ IvC 256 816043786240 0 z0 z_69 → bH D 66 (enC cy) q z_69 s.heap H locs → lv_has ls 7 [(0, .ref (q 32)), (1, .int p0), (2, .int x2_69), (3, .int x3_69), (4, .int x4_69), (5, .int x5_69)] → (1000 - x5_69.toInt).toNat = n → W p l e ({ frames := 5, cells := 0, slots := 0, locals := 119 }) s m args below meth c H locs 0 0 Q (F0 m 69 ls []) := by
    intro n69
    induction n69 using Nat.strongRecOn with
    | ind n69 ih69 =>
      intro x2_69 x3_69 x4_69 x5_69 z_69 H locs ls h5_69 hJ hH hl hn69
      have HJ121 : ∀ (z_121 : zS) (H : Heap) (locs : List Loc) (ls : Array Slot), jJ IvC 256 816043786240 0 z0 z_121 → bH D 66 (enC cy) q z_121 s.heap H locs → lv_has ls 7 [(3, .int x3_69)] → W p l e ({ frames := 5, cells := 0, slots := 0, locals := 119 }) s m args below meth c H locs 0 0 Q (F0 m 121 ls []) := by
        intro z_121 H locs ls hJ hH hl
        refine lv_iload_n hx hb dX3_leastBeatFor_121 rfl (lv_at hl 0 rfl) ?_
        exact hret _ z_121 H locs _ _ ⟨hJ, (iv_all x3_69)⟩ hH dX3_leastBeatFor_122
      have HJ115 : ∀ (x3_115 : Int32) (x4_115 : Int32) (z_115 : zS) (H : Heap) (locs : List Loc) (ls : Array Slot), iv 0 999 x5_69 → jJ IvC 256 816043786240 0 z0 z_115 → bH D 66 (enC cy) q z_115 s.heap H locs → lv_has ls 7 [(0, .ref (q 32)), (1, .int p0), (2, .int x2_69), (3, .int x3_115), (4, .int x4_115), (5, .int x5_69)] → W p l e ({ frames := 5, cells := 0, slots := 0, locals := 119 }) s m args below meth c H locs 0 0 Q (F0 m 115 ls []) := by
        intro x3_115 x4_115 z_115 H locs ls h5_115 hJ hH hl
        have j309 : iv 1 1000 (x5_69 + 1) := iv_add h5_115 (iv_lit (n := 1) 1 (by decide)) (by decide) (by decide) (by decide) (by decide)
        have e309 : (x5_69 + 1).toInt = x5_69.toInt + 1 := (iv_addE h5_115 (iv_lit (n := 1) 1 (by decide)) (by decide) (by decide)).trans rfl
        refine lv_iinc (v := (x5_69 + 1)) (lv' := [(5, .int (x5_69 + 1)), (0, .ref (q 32)), (1, .int p0), (2, .int x2_69), (3, .int x3_115), (4, .int x4_115)]) hx hb dX3_leastBeatFor_115 hl (k := 5) rfl rfl (by decide) rfl (fun ls hl => ?_)
        refine lv_goto (tgt := 69) hx hb dX3_leastBeatFor_118 (by decide) ?_
        exact ih69 _ (ms_up e309 j309.2 hn69) x2_69 x3_115 x4_115 (x5_69 + 1) z_115 H locs ls (iv_w j309 (by decide) (by decide)) hJ hH (lv_sub hl [1, 2, 3, 4, 5, 0] rfl) rfl
      refine lv_iload hx hb dX3_leastBeatFor_69 (lv_at hl 5 rfl) ?_
      refine lv_sipush (v := 1000) hx hb dX3_leastBeatFor_71 (by decide) ?_
      refine lv_icmp_ge (tgt := 121) hx hb dX3_leastBeatFor_74 (by decide) (fun c310 => ?_) (fun c310 => ?_)
      · skip
        have k311b : iv 1000 1000 x5_69 := iv_ler (iv_Le c310) (iv_lit (n := 1000) 1000 (by decide)) h5_69
        exact HJ121  z_69 H locs ls  hJ hH (lv_sub hl [3] rfl)
      · skip
        have k312a : iv 0 999 x5_69 := iv_ltl (iv_nLe c310) h5_69 (iv_lit (n := 1000) 1000 (by decide)) (by decide)
        refine lv_iload_n hx hb dX3_leastBeatFor_77 rfl (lv_at hl 3 rfl) ?_
        refine lv_iload hx hb dX3_leastBeatFor_78 (lv_at hl 4 rfl) ?_
        refine lv_icmp_ge (tgt := 121) hx hb dX3_leastBeatFor_80 (by decide) (fun c313 => ?_) (fun c313 => ?_)
        · skip
          exact HJ121  z_69 H locs ls  hJ hH (lv_sub hl [3] rfl)
        · skip
          have k315a : iv (-2147483648) 2147483646 x3_69 := iv_ltl (iv_nLe c313) (iv_all x3_69) (iv_all x4_69) (by decide)
          have k315b : iv (-2147483647) 2147483647 x4_69 := iv_ltr (iv_nLe c313) (iv_all x3_69) (iv_all x4_69) (by decide)
          refine lv_iload_n hx hb dX3_leastBeatFor_83 rfl (lv_at hl 3 rfl) ?_
          refine lv_iload hx hb dX3_leastBeatFor_84 (lv_at hl 4 rfl) ?_
          refine lv_iadd hx hb dX3_leastBeatFor_86 ?_
          refine lv_topi (fun w316 _ => ?_)
          refine lv_iconst (v := 2) hx hb dX3_leastBeatFor_87 (by decide) ?_
          refine lv_idiv hx hb dX3_leastBeatFor_88 (by decide) ?_
          refine lv_topi (fun w317 _ => ?_)
          refine lv_istore (lv' := [(6, .int w317), (0, .ref (q 32)), (1, .int p0), (2, .int x2_69), (3, .int x3_69), (4, .int x4_69), (5, .int x5_69)]) hx hb dX3_leastBeatFor_89 hl (by decide) rfl (fun ls hl => ?_)
          refine lv_aload_n hx hb dX3_leastBeatFor_91 rfl (lv_at hl 1 rfl) ?_
          refine lv_iload hx hb dX3_leastBeatFor_92 (lv_at hl 0 rfl) ?_
          refine lv_iload_n hx hb dX3_leastBeatFor_94 rfl (lv_at hl 3 rfl) ?_
          refine lv_imul hx hb dX3_leastBeatFor_95 ?_
          refine lv_topi (fun w318 _ => ?_)
          refine b_calli (As := [.int w318]) (rest := []) ⟨hx, hb, hml, hown, hts⟩ 32 3 (g_X3_lengthWithin_32 l D cy q hH.2.1 z_69 hJ.1 w318) (cwV 1 hts gX3_leastBeatFor_X3_lengthWithin rfl rfl rfl (by decide +kernel) ⟨Nat.le_of_ble_eq_true rfl, Nat.le_of_ble_eq_true rfl⟩) hK hZ hH (by decide) rfl rfl rfl hl.1 rfl (Nat.le_of_ble_eq_true rfl) ⟨Nat.zero_le _, Nat.zero_le _⟩ dX3_leastBeatFor_96 (fun w319 z319 H locs hp hH => ?_)
          have hJ := jJ_tr hJ hp.1 (by decide) (by decide) (by decide)
          have hA319 := hp.1.2
          refine lv_iload_n hx hb dX3_leastBeatFor_99 rfl (lv_at hl 2 rfl) ?_
          refine lv_icmp_gt (tgt := 110) hx hb dX3_leastBeatFor_100 (by decide) (fun c320 => ?_) (fun c320 => ?_)
          · skip
            have k321b : iv 2 2147483647 w319 := iv_ltr (iv_Lt c320) hp0 (iv_all w319) (by decide)
            refine lv_iload hx hb dX3_leastBeatFor_110 (lv_at hl 0 rfl) ?_
            refine lv_iconst (v := 1) hx hb dX3_leastBeatFor_112 (by decide) ?_
            refine lv_iadd hx hb dX3_leastBeatFor_113 ?_
            refine lv_topi (fun w322 _ => ?_)
            refine lv_istore_n (lv' := [(3, .int w322), (6, .int w317), (0, .ref (q 32)), (1, .int p0), (2, .int x2_69), (4, .int x4_69), (5, .int x5_69)]) hx hb dX3_leastBeatFor_114 rfl hl (by decide) rfl (fun ls hl => ?_)
            exact HJ115 w322 x4_69 z319 H locs ls k312a hJ hH (lv_sub hl [2, 3, 4, 0, 5, 6] rfl)
          · skip
            have k323a : iv (-2147483648) 10 w319 := iv_lel (iv_nLt c320) (iv_all w319) hp0
            refine lv_iload hx hb dX3_leastBeatFor_103 (lv_at hl 0 rfl) ?_
            refine lv_istore (lv' := [(4, .int w317), (6, .int w317), (0, .ref (q 32)), (1, .int p0), (2, .int x2_69), (3, .int x3_69), (5, .int x5_69)]) hx hb dX3_leastBeatFor_105 hl (by decide) rfl (fun ls hl => ?_)
            refine lv_goto (tgt := 115) hx hb dX3_leastBeatFor_107 (by decide) ?_
            exact HJ115 x3_69 w317 z319 H locs ls k312a hJ hH (lv_sub hl [2, 3, 4, 5, 0, 6] rfl)
  refine lv_aload_n hx hb dX3_leastBeatFor_0 rfl (lv_at hl 0 rfl) ?_
  refine b_callv (As := []) (rest := []) ⟨hx, hb, hml, hown, hts⟩ 32 3 (g_X3_prepare_32 l D cy q hH.2.1 z0 hJ.1 ) (cwV 0 hts gX3_leastBeatFor_X3_prepare rfl rfl rfl (by decide +kernel) ⟨Nat.le_of_ble_eq_true rfl, Nat.le_of_ble_eq_true rfl⟩) hK hZ hH (by decide) rfl rfl rfl hl.1 rfl (Nat.le_of_ble_eq_true rfl) ⟨Nat.zero_le _, Nat.zero_le _⟩ dX3_leastBeatFor_1 (fun z324 H locs hp hH => ?_)
  have hJ := jJ_tr hJ hp (by decide) (by decide) (by decide)
  have hA324 := hp.2
  refine lv_aload_n hx hb dX3_leastBeatFor_4 rfl (lv_at hl 0 rfl) ?_
  refine b_get (ci := 3) (C := RX3) (T := TX3) (Nf := 11) (v := .ref (q 1)) hx hb hts in_X3_leastBeatFor_X3 hown hK hH 32 (by decide) rfl rfl 0 (by decide) (hts (.fieldLink RX3 46 "StationLine$Search" "bench" "LStationLine$Bench;") (List.mem_of_getElem? (i := 1) rfl)) rfl dX3_leastBeatFor_5 ?_
  refine b_calli (As := []) (rest := []) ⟨hx, hb, hml, hown, hts⟩ 1 0 (g_X0_roomOfOneBeat_1 l D cy q hH.2.1 z324 hJ.1 ) (cwV 0 hts gX3_leastBeatFor_X0_roomOfOneBeat rfl rfl rfl (by decide +kernel) ⟨Nat.le_of_ble_eq_true rfl, Nat.le_of_ble_eq_true rfl⟩) hK hZ hH (by decide) rfl rfl rfl hl.1 rfl (Nat.le_of_ble_eq_true rfl) ⟨Nat.zero_le _, Nat.zero_le _⟩ dX3_leastBeatFor_8 (fun w325 z325 H locs hp hH => ?_)
  rw [Ag_0 hp.1.2] at hH
  refine lv_istore_n (lv' := [(2, .int w325), (0, .ref (q 32)), (1, .int p0)]) hx hb dX3_leastBeatFor_11 rfl hl (by decide) rfl (fun ls hl => ?_)
  refine lv_iconst (v := 1) hx hb dX3_leastBeatFor_12 (by decide) ?_
  refine lv_aload_n hx hb dX3_leastBeatFor_13 rfl (lv_at hl 1 rfl) ?_
  refine b_get (ci := 3) (C := RX3) (T := TX3) (Nf := 11) (v := .ref (q 33)) hx hb hts in_X3_leastBeatFor_X3 hown hK hH 32 (by decide) rfl rfl 2 (by decide) (hts (.fieldLink RX3 15 "StationLine$Search" "loads" "[I") (List.mem_of_getElem? (i := 2) rfl)) rfl dX3_leastBeatFor_14 ?_
  refine lv_aload_n hx hb dX3_leastBeatFor_17 rfl (lv_at hl 1 rfl) ?_
  refine b_get (ci := 3) (C := RX3) (T := TX3) (Nf := 11) (v := .int (z324.1 8)) hx hb hts in_X3_leastBeatFor_X3 hown hK hH 32 (by decide) rfl rfl 1 (by decide) (hts (.fieldLink RX3 9 "StationLine$Search" "all" "I") (List.mem_of_getElem? (i := 3) rfl)) rfl dX3_leastBeatFor_18 ?_
  have i326 := IvC_s8 hJ.1
  refine b_iald (v := z324.2.1 33 (z324.1 8 : Int32).toNatClampNeg) hx hb hK hH 33 (by decide) rfl (iv_in i326 (by decide) (by decide)) rfl dX3_leastBeatFor_21 ?_
  refine lv_iload_n hx hb dX3_leastBeatFor_22 rfl (lv_at hl 0 rfl) ?_
  refine lv_iload_n hx hb dX3_leastBeatFor_23 rfl (lv_at hl 2 rfl) ?_
  refine lv_imul hx hb dX3_leastBeatFor_24 ?_
  refine lv_topi (fun w327 _ => ?_)
  refine b_statN (As := [.int (z324.2.1 33 (z324.1 8 : Int32).toNatClampNeg), .int w327]) (rest := [.int 1]) ⟨hx, hb, hml, hown, hts⟩ (g_X5_takenUp l D cy q hH.2.1 z324 hJ.1 (z324.2.1 33 (z324.1 8 : Int32).toNatClampNeg) w327) ⟨va_cnB 2 hts gX3_leastBeatFor_X5_takenUp_n66 rfl rfl rfl hZ.2 (hts (.initialized RX5) (List.mem_of_getElem? (i := 76) rfl)) (by decide +kernel) ⟨Nat.le_of_ble_eq_true rfl, Nat.le_of_ble_eq_true rfl⟩, (hts (.static yX5_takenUp) (List.mem_of_getElem? (i := 75) rfl)), trivial⟩ hK hZ hH rfl hl.1 rfl (Nat.le_of_ble_eq_true rfl) ⟨Nat.zero_le _, Nat.zero_le _⟩ dX3_leastBeatFor_25 (fun w328 z328 H locs hp hH => ?_)
  rw [Ag_0 hp.1.2] at hH
  refine va_mmax hx hb (by rw [hml]; exact hl.1.symm) hown (hts (.methodLink RX3 70 Lib.Math.max.name) (List.mem_of_getElem? (i := 4) rfl)) (hts (.static Lib.Math.max.name) (List.mem_of_getElem? (i := 5) rfl)) (hts (.initialized "java/lang/Math") (List.mem_of_getElem? (i := 6) rfl)) (hts (.code Lib.Math.max.name Lib.Math.max.code 2 (some .int)) (List.mem_of_getElem? (i := 7) rfl)) (Nat.le_of_ble_eq_true rfl) (Nat.le_of_ble_eq_true rfl) (Nat.zero_le _) (Nat.zero_le _) dX3_leastBeatFor_28 ?_
  refine h_i (a := 1) (b := 2147483647) (iv_max (iv_lit (n := 1) 1 (by decide)) (iv_all w328) (by decide) (by decide) (by decide)) (fun w329 i329 => ?_)
  refine lv_istore_n (lv' := [(3, .int w329), (2, .int w325), (0, .ref (q 32)), (1, .int p0)]) hx hb dX3_leastBeatFor_31 rfl hl (by decide) rfl (fun ls hl => ?_)
  refine lv_iload_n hx hb dX3_leastBeatFor_32 rfl (lv_at hl 0 rfl) ?_
  refine lv_aload_n hx hb dX3_leastBeatFor_33 rfl (lv_at hl 2 rfl) ?_
  refine b_get (ci := 3) (C := RX3) (T := TX3) (Nf := 11) (v := .ref (q 33)) hx hb hts in_X3_leastBeatFor_X3 hown hK hH 32 (by decide) rfl rfl 2 (by decide) (hts (.fieldLink RX3 15 "StationLine$Search" "loads" "[I") (List.mem_of_getElem? (i := 2) rfl)) rfl dX3_leastBeatFor_34 ?_
  refine lv_aload_n hx hb dX3_leastBeatFor_37 rfl (lv_at hl 2 rfl) ?_
  refine b_get (ci := 3) (C := RX3) (T := TX3) (Nf := 11) (v := .int (z324.1 8)) hx hb hts in_X3_leastBeatFor_X3 hown hK hH 32 (by decide) rfl rfl 1 (by decide) (hts (.fieldLink RX3 9 "StationLine$Search" "all" "I") (List.mem_of_getElem? (i := 3) rfl)) rfl dX3_leastBeatFor_38 ?_
  refine b_iald (v := z324.2.1 33 (z324.1 8 : Int32).toNatClampNeg) hx hb hK hH 33 (by decide) rfl (iv_in i326 (by decide) (by decide)) rfl dX3_leastBeatFor_41 ?_
  refine lv_iload_n hx hb dX3_leastBeatFor_42 rfl (lv_at hl 1 rfl) ?_
  refine b_statN (As := [.int (z324.2.1 33 (z324.1 8 : Int32).toNatClampNeg), .int w325]) (rest := [.int w329]) ⟨hx, hb, hml, hown, hts⟩ (g_X5_takenUp l D cy q hH.2.1 z324 hJ.1 (z324.2.1 33 (z324.1 8 : Int32).toNatClampNeg) w325) ⟨va_cnB 2 hts gX3_leastBeatFor_X5_takenUp_n66 rfl rfl rfl hZ.2 (hts (.initialized RX5) (List.mem_of_getElem? (i := 76) rfl)) (by decide +kernel) ⟨Nat.le_of_ble_eq_true rfl, Nat.le_of_ble_eq_true rfl⟩, (hts (.static yX5_takenUp) (List.mem_of_getElem? (i := 75) rfl)), trivial⟩ hK hZ hH rfl hl.1 rfl (Nat.le_of_ble_eq_true rfl) ⟨Nat.zero_le _, Nat.zero_le _⟩ dX3_leastBeatFor_43 (fun w330 z330 H locs hp hH => ?_)
  rw [Ag_0 hp.1.2] at hH
  refine va_mmax hx hb (by rw [hml]; exact hl.1.symm) hown (hts (.methodLink RX3 70 Lib.Math.max.name) (List.mem_of_getElem? (i := 4) rfl)) (hts (.static Lib.Math.max.name) (List.mem_of_getElem? (i := 5) rfl)) (hts (.initialized "java/lang/Math") (List.mem_of_getElem? (i := 6) rfl)) (hts (.code Lib.Math.max.name Lib.Math.max.code 2 (some .int)) (List.mem_of_getElem? (i := 7) rfl)) (Nat.le_of_ble_eq_true rfl) (Nat.le_of_ble_eq_true rfl) (Nat.zero_le _) (Nat.zero_le _) dX3_leastBeatFor_46 ?_
  refine h_i (a := 1) (b := 2147483647) (iv_max i329 (iv_all w330) (by decide) (by decide) (by decide)) (fun w331 i331 => ?_)
  refine lv_istore (lv' := [(4, .int w331), (3, .int w329), (2, .int w325), (0, .ref (q 32)), (1, .int p0)]) hx hb dX3_leastBeatFor_49 hl (by decide) rfl (fun ls hl => ?_)
  refine lv_aload_n hx hb dX3_leastBeatFor_51 rfl (lv_at hl 3 rfl) ?_
  refine lv_iload hx hb dX3_leastBeatFor_52 (lv_at hl 0 rfl) ?_
  refine lv_iload_n hx hb dX3_leastBeatFor_54 rfl (lv_at hl 2 rfl) ?_
  refine lv_imul hx hb dX3_leastBeatFor_55 ?_
  refine lv_topi (fun w332 _ => ?_)
  refine b_calli (As := [.int w332]) (rest := []) ⟨hx, hb, hml, hown, hts⟩ 32 3 (g_X3_lengthWithin_32 l D cy q hH.2.1 z324 hJ.1 w332) (cwV 1 hts gX3_leastBeatFor_X3_lengthWithin rfl rfl rfl (by decide +kernel) ⟨Nat.le_of_ble_eq_true rfl, Nat.le_of_ble_eq_true rfl⟩) hK hZ hH (by decide) rfl rfl rfl hl.1 rfl (Nat.le_of_ble_eq_true rfl) ⟨Nat.zero_le _, Nat.zero_le _⟩ dX3_leastBeatFor_56 (fun w333 z333 H locs hp hH => ?_)
  have hJ := jJ_tr hJ hp.1 (by decide) (by decide) (by decide)
  have hA333 := hp.1.2
  refine lv_iload_n hx hb dX3_leastBeatFor_59 rfl (lv_at hl 4 rfl) ?_
  refine lv_icmp_le (tgt := 66) hx hb dX3_leastBeatFor_60 (by decide) (fun c334 => ?_) (fun c334 => ?_)
  · skip
    have k335a : iv (-2147483648) 10 w333 := iv_lel (iv_Le c334) (iv_all w333) hp0
    refine lv_iconst (v := 0) hx hb dX3_leastBeatFor_66 (by decide) ?_
    refine lv_istore (lv' := [(5, .int 0), (4, .int w331), (3, .int w329), (2, .int w325), (0, .ref (q 32)), (1, .int p0)]) hx hb dX3_leastBeatFor_67 hl (by decide) rfl (fun ls hl => ?_)
    exact HL69 _ w325 w329 w331 0 z333 H locs ls (iv_w (iv_lit (n := 0) 0 (by decide)) (by decide) (by decide)) hJ hH (lv_sub hl [4, 5, 3, 2, 1, 0] rfl) rfl
  · skip
    have k336b : iv 2 2147483647 w333 := iv_ltr (iv_nLe c334) hp0 (iv_all w333) (by decide)
    refine lv_bipush (v := (-4)) hx hb dX3_leastBeatFor_63 (by decide) ?_
    exact hret _ z333 H locs _ _ ⟨hJ, (iv_w (iv_lit (n := (-4)) (-4) (by decide)) (by decide) (by decide))⟩ hH dX3_leastBeatFor_65
set_option maxHeartbeats 4000000 in
set_option maxRecDepth 100000 in
theorem g_X3_latestOf_32 (l : Launch) (D : va_G) (cy : Nat → ClassId) (q : Nat → Nat) (hq : bJ 66 q) (z0 : zS) (hI : IvC z0) (p0 : Int32) (hp0 : iv 0 1023 p0) : bCi l yX3_latestOf wsX3_latestOf ({ frames := 0, cells := 0, slots := 0, locals := 0 }) D cy 66 (enC cy) q z0 [.ref (q 32), .int p0] (fun v z => jJ IvC 0 0 0 z0 z ∧ iv (-2147483648) 2147483647 v) := by
  refine hM_i cX3_latestOf (by decide) rfl (own := RX3) rfl hq (Nat.le_of_ble_eq_true rfl) ?_
  intro p e s m args below meth c Q ls H locs hx hb hml hown hts hK hZ hH hl hret
  have hl : lv_has ls 8 [(0, .ref (q 32)), (1, .int p0)] := hl
  have hJ : jJ IvC 0 0 0 z0 z0 := jJ_rf _ _ _ hI
  have HL14 : ∀ (n : Nat) (x2_14 : Int32) (x3_14 : Int32) (x4_14 : Int32) (H : Heap) (locs : List Loc) (ls : Array Slot), iv 0 1023 x3_14 → iv 0 1023 x4_14 → bH D 66 (enC cy) q z0 s.heap H locs → lv_has ls 8 [(0, .ref (q 32)), (1, .int p0), (2, .int x2_14), (3, .int x3_14), (4, .int x4_14)] → (x4_14.toInt - 0).toNat = n → W p l e ({ frames := 0, cells := 0, slots := 0, locals := 0 }) s m args below meth c H locs 0 0 Q (F0 m 14 ls []) := by
    intro n14
    induction n14 using Nat.strongRecOn with
    | ind n14 ih14 =>
      intro x2_14 x3_14 x4_14 H locs ls h3_14 h4_14 hH hl hn14
      have HJ82 : ∀ (x2_82 : Int32) (H : Heap) (locs : List Loc) (ls : Array Slot), iv 1 1023 x4_14 → bH D 66 (enC cy) q z0 s.heap H locs → lv_has ls 8 [(0, .ref (q 32)), (1, .int p0), (2, .int x2_82), (3, .int x3_14), (4, .int x4_14)] → W p l e ({ frames := 0, cells := 0, slots := 0, locals := 0 }) s m args below meth c H locs 0 0 Q (F0 m 82 ls []) := by
        intro x2_82 H locs ls h4_82 hH hl
        refine lv_iload hx hb dX3_latestOf_82 (lv_at hl 4 rfl) ?_
        refine lv_iconst (v := 1) hx hb dX3_latestOf_84 (by decide) ?_
        refine lv_isub hx hb dX3_latestOf_85 ?_
        refine h_iE (a := 0) (b := 1022) (t := x4_14.toInt - 1) (iv_sub h4_82 (iv_lit (n := 1) 1 (by decide)) (by decide) (by decide) (by decide) (by decide)) ((iv_subE h4_82 (iv_lit (n := 1) 1 (by decide)) (by decide) (by decide)).trans rfl) (fun w44 i44 e44 => ?_)
        refine lv_iload_n hx hb dX3_latestOf_86 rfl (lv_at hl 3 rfl) ?_
        refine lv_iand hx hb dX3_latestOf_87 ?_
        refine h_iL (a := 0) (b := 1022) (iv_and i44 h3_14 (by decide) (by decide)) (iv_andlt i44 (by decide)) (fun w45 i45 e45 => ?_)
        refine lv_istore (lv' := [(4, .int w45), (0, .ref (q 32)), (1, .int p0), (2, .int x2_82), (3, .int x3_14)]) hx hb dX3_latestOf_88 hl (by decide) rfl (fun ls hl => ?_)
        refine lv_goto (tgt := 14) hx hb dX3_latestOf_90 (by decide) ?_
        exact ih14 _ (by have := e45; have := e44; have := hn14; have := i45.1; have := i45.2; omega) x2_82 x3_14 w45  H locs ls h3_14 (iv_w i45 (by decide) (by decide))  hH (lv_sub hl [1, 2, 3, 4, 0] rfl) rfl
      have HJ67 : ∀ (t0_67 : Int32) (H : Heap) (locs : List Loc) (ls : Array Slot), iv 1 1023 x4_14 → bH D 66 (enC cy) q z0 s.heap H locs → lv_has ls 8 [(0, .ref (q 32)), (1, .int p0), (2, .int x2_14), (3, .int x3_14), (4, .int x4_14)] → W p l e ({ frames := 0, cells := 0, slots := 0, locals := 0 }) s m args below meth c H locs 0 0 Q (F0 m 67 ls [.int t0_67]) := by
        intro t0_67 H locs ls h4_67 hH hl
        refine lv_istore (lv' := [(7, .int t0_67), (0, .ref (q 32)), (1, .int p0), (2, .int x2_14), (3, .int x3_14), (4, .int x4_14)]) hx hb dX3_latestOf_67 hl (by decide) rfl (fun ls hl => ?_)
        refine lv_iload hx hb dX3_latestOf_69 (lv_at hl 0 rfl) ?_
        refine lv_iconst (v := 1) hx hb dX3_latestOf_71 (by decide) ?_
        refine lv_isub hx hb dX3_latestOf_72 ?_
        refine lv_topi (fun w46 _ => ?_)
        refine lv_iload_n hx hb dX3_latestOf_73 rfl (lv_at hl 3 rfl) ?_
        refine lv_icmp_le (tgt := 82) hx hb dX3_latestOf_74 (by decide) (fun c47 => ?_) (fun c47 => ?_)
        · skip
          exact HJ82 x2_14  H locs ls h4_67  hH (lv_sub hl [1, 2, 3, 4, 5] rfl)
        · skip
          have k49a : iv (-2147483648) 2147483646 x2_14 := iv_ltl (iv_nLe c47) (iv_all x2_14) (iv_all w46) (by decide)
          have k49b : iv (-2147483647) 2147483647 w46 := iv_ltr (iv_nLe c47) (iv_all x2_14) (iv_all w46) (by decide)
          refine lv_iload hx hb dX3_latestOf_77 (lv_at hl 0 rfl) ?_
          refine lv_iconst (v := 1) hx hb dX3_latestOf_79 (by decide) ?_
          refine lv_isub hx hb dX3_latestOf_80 ?_
          refine lv_topi (fun w50 _ => ?_)
          refine lv_istore_n (lv' := [(2, .int w50), (7, .int t0_67), (0, .ref (q 32)), (1, .int p0), (3, .int x3_14), (4, .int x4_14)]) hx hb dX3_latestOf_81 rfl hl (by decide) rfl (fun ls hl => ?_)
          exact HJ82 w50  H locs ls h4_67  hH (lv_sub hl [2, 3, 0, 4, 5] rfl)
      refine lv_iload hx hb dX3_latestOf_14 (lv_at hl 4 rfl) ?_
      refine lv_if_le (tgt := 93) hx hb dX3_latestOf_16 (by decide) (fun c51 => ?_) (fun c51 => ?_)
      · skip
        have k52a : iv 0 0 x4_14 := iv_lel (iv_Le c51) h4_14 (iv_lit (n := 0) 0 (by decide))
        refine lv_iload_n hx hb dX3_latestOf_93 rfl (lv_at hl 2 rfl) ?_
        exact hret _ z0 H locs _ _ ⟨hJ, (iv_all x2_14)⟩ hH dX3_latestOf_94
      · skip
        have k53b : iv 1 1023 x4_14 := iv_ltr (iv_nLe c51) (iv_lit (n := 0) 0 (by decide)) h4_14 (by decide)
        refine lv_aload_n hx hb dX3_latestOf_19 rfl (lv_at hl 0 rfl) ?_
        refine b_get (ci := 3) (C := RX3) (T := TX3) (Nf := 11) (v := .ref (q 36)) hx hb hts in_X3_latestOf_X3 hown hK hH 32 (by decide) rfl rfl 5 (by decide) (hts (.fieldLink RX3 26 "StationLine$Search" "places" "[I") (List.mem_of_getElem? (i := 2) rfl)) rfl dX3_latestOf_20 ?_
        refine lv_iload hx hb dX3_latestOf_23 (lv_at hl 4 rfl) ?_
        refine b_iald (v := z0.2.1 36 (x4_14 : Int32).toNatClampNeg) hx hb hK hH 36 (by decide) rfl (iv_in k53b (by decide) (by decide)) rfl dX3_latestOf_25 ?_
        refine lv_istore (lv' := [(5, .int (z0.2.1 36 (x4_14 : Int32).toNatClampNeg)), (0, .ref (q 32)), (1, .int p0), (2, .int x2_14), (3, .int x3_14), (4, .int x4_14)]) hx hb dX3_latestOf_26 hl (by decide) rfl (fun ls hl => ?_)
        refine lv_aload_n hx hb dX3_latestOf_28 rfl (lv_at hl 1 rfl) ?_
        refine b_get (ci := 3) (C := RX3) (T := TX3) (Nf := 11) (v := .ref (q 38)) hx hb hts in_X3_latestOf_X3 hown hK hH 32 (by decide) rfl rfl 7 (by decide) (hts (.fieldLink RX3 32 "StationLine$Search" "latest" "[I") (List.mem_of_getElem? (i := 3) rfl)) rfl dX3_latestOf_29 ?_
        refine lv_iload_n hx hb dX3_latestOf_32 rfl (lv_at hl 2 rfl) ?_
        refine lv_iload hx hb dX3_latestOf_33 (lv_at hl 5 rfl) ?_
        refine lv_ior hx hb dX3_latestOf_35 ?_
        refine h_i (a := 0) (b := 1023) (iv_or 10 (b := 1023) (d := 1023) (iv_w hp0 (by decide) (by decide)) (iv_w k53b (by decide) (by decide)) (by decide) (by decide) (by decide) (by decide)) (fun w54 i54 => ?_)
        refine b_iald (v := z0.2.1 38 (w54 : Int32).toNatClampNeg) hx hb hK hH 38 (by decide) rfl (iv_in i54 (by decide) (by decide)) rfl dX3_latestOf_36 ?_
        refine lv_istore (lv' := [(6, .int (z0.2.1 38 (w54 : Int32).toNatClampNeg)), (5, .int (z0.2.1 36 (x4_14 : Int32).toNatClampNeg)), (0, .ref (q 32)), (1, .int p0), (2, .int x2_14), (3, .int x3_14), (4, .int x4_14)]) hx hb dX3_latestOf_37 hl (by decide) rfl (fun ls hl => ?_)
        refine lv_iload hx hb dX3_latestOf_39 (lv_at hl 1 rfl) ?_
        refine lv_iconst (v := (-1)) hx hb dX3_latestOf_41 (by decide) ?_
        refine lv_icmp_eq (tgt := 82) hx hb dX3_latestOf_42 (by decide) (fun c55 => ?_) (fun c55 => ?_)
        · skip
          have k56a : iv (-1) (-1) (z0.2.1 36 (x4_14 : Int32).toNatClampNeg) := iv_eql (iv_Eq c55) (iv_all (z0.2.1 36 (x4_14 : Int32).toNatClampNeg)) (iv_lit (n := (-1)) (-1) (by decide)) (by decide) (by decide)
          exact HJ82 x2_14  H locs ls k53b  hH (lv_sub hl [2, 3, 4, 5, 6] rfl)
        · skip
          refine lv_iload hx hb dX3_latestOf_45 (lv_at hl 1 rfl) ?_
          refine lv_iload hx hb dX3_latestOf_47 (lv_at hl 0 rfl) ?_
          refine lv_icmp_le (tgt := 55) hx hb dX3_latestOf_49 (by decide) (fun c58 => ?_) (fun c58 => ?_)
          · skip
            refine lv_iload hx hb dX3_latestOf_55 (lv_at hl 1 rfl) ?_
            refine lv_if_ne (tgt := 65) hx hb dX3_latestOf_57 (by decide) (fun c60 => ?_) (fun c60 => ?_)
            · skip
              refine lv_iload hx hb dX3_latestOf_65 (lv_at hl 1 rfl) ?_
              exact HJ67 (z0.2.1 36 (x4_14 : Int32).toNatClampNeg)  H locs ls k53b  hH (lv_sub hl [2, 3, 4, 5, 6] rfl)
            · skip
              have k62a : iv 0 0 (z0.2.1 36 (x4_14 : Int32).toNatClampNeg) := iv_eql (iv_Eq c60) (iv_all (z0.2.1 36 (x4_14 : Int32).toNatClampNeg)) (iv_lit (n := 0) 0 (by decide)) (by decide) (by decide)
              refine lv_iload hx hb dX3_latestOf_60 (lv_at hl 0 rfl) ?_
              refine lv_goto (tgt := 67) hx hb dX3_latestOf_62 (by decide) ?_
              exact HJ67 (z0.2.1 38 (w54 : Int32).toNatClampNeg)  H locs ls k53b  hH (lv_sub hl [2, 3, 4, 5, 6] rfl)
          · skip
            have k63a : iv (-2147483648) 2147483646 (z0.2.1 38 (w54 : Int32).toNatClampNeg) := iv_ltl (iv_nLe c58) (iv_all (z0.2.1 38 (w54 : Int32).toNatClampNeg)) (iv_all (z0.2.1 36 (x4_14 : Int32).toNatClampNeg)) (by decide)
            have k63b : iv (-2147483647) 2147483647 (z0.2.1 36 (x4_14 : Int32).toNatClampNeg) := iv_ltr (iv_nLe c58) (iv_all (z0.2.1 38 (w54 : Int32).toNatClampNeg)) (iv_all (z0.2.1 36 (x4_14 : Int32).toNatClampNeg)) (by decide)
            refine lv_goto (tgt := 82) hx hb dX3_latestOf_52 (by decide) ?_
            exact HJ82 x2_14  H locs ls k53b  hH (lv_sub hl [2, 3, 4, 5, 6] rfl)
  refine lv_iconst (v := (-1)) hx hb dX3_latestOf_0 (by decide) ?_
  refine lv_istore_n (lv' := [(2, .int (-1)), (0, .ref (q 32)), (1, .int p0)]) hx hb dX3_latestOf_1 rfl hl (by decide) rfl (fun ls hl => ?_)
  refine lv_aload_n hx hb dX3_latestOf_2 rfl (lv_at hl 1 rfl) ?_
  refine b_get (ci := 3) (C := RX3) (T := TX3) (Nf := 11) (v := .int (z0.1 8)) hx hb hts in_X3_latestOf_X3 hown hK hH 32 (by decide) rfl rfl 1 (by decide) (hts (.fieldLink RX3 9 "StationLine$Search" "all" "I") (List.mem_of_getElem? (i := 1) rfl)) rfl dX3_latestOf_3 ?_
  have i64 := IvC_s8 hJ.1
  refine lv_iload_n hx hb dX3_latestOf_6 rfl (lv_at hl 2 rfl) ?_
  refine lv_iconst (v := (-1)) hx hb dX3_latestOf_7 (by decide) ?_
  refine lv_ixor hx hb dX3_latestOf_8 ?_
  refine lv_topi (fun w65 _ => ?_)
  refine lv_iand hx hb dX3_latestOf_9 ?_
  refine h_iL (a := 0) (b := 1023) (iv_and i64 (iv_all w65) (by decide) (by decide)) (iv_andlt i64 (by decide)) (fun w66 i66 e66 => ?_)
  refine lv_istore_n (lv' := [(3, .int w66), (2, .int (-1)), (0, .ref (q 32)), (1, .int p0)]) hx hb dX3_latestOf_10 rfl hl (by decide) rfl (fun ls hl => ?_)
  refine lv_iload_n hx hb dX3_latestOf_11 rfl (lv_at hl 0 rfl) ?_
  refine lv_istore (lv' := [(4, .int w66), (3, .int w66), (2, .int (-1)), (0, .ref (q 32)), (1, .int p0)]) hx hb dX3_latestOf_12 hl (by decide) rfl (fun ls hl => ?_)
  exact HL14 _ (-1) w66 w66  H locs ls i66 i66  hH (lv_sub hl [3, 4, 2, 1, 0] rfl) rfl
set_option maxHeartbeats 4000000 in
set_option maxRecDepth 100000 in
theorem g_X3_lookBack_32 (l : Launch) (D : va_G) (cy : Nat → ClassId) (q : Nat → Nat) (hq : bJ 66 q) (z0 : zS) (hI : IvC z0) (p0 : Int32) : bCv l yX3_lookBack wsX3_lookBack ({ frames := 1, cells := 0, slots := 0, locals := 27 }) D cy 66 (enC cy) q z0 [.ref (q 32), .int p0] (fun z => jJ IvC 0 274877906944 0 z0 z) := by
  refine hM_v cX3_lookBack (by decide) rfl (own := RX3) rfl hq (Nat.le_of_ble_eq_true rfl) ?_
  intro p e s m args below meth c Q ls H locs hx hb hml hown hts hK hZ hH hl hret
  have hl : lv_has ls 4 [(0, .ref (q 32)), (1, .int p0)] := hl
  have hJ : jJ IvC 0 274877906944 0 z0 z0 := jJ_rf _ _ _ hI
  have HL17 : ∀ (n : Nat) (x2_17 : Int32) (z_17 : zS) (H : Heap) (locs : List Loc) (ls : Array Slot), iv (-1) 1022 x2_17 → jJ IvC 0 274877906944 0 z0 z_17 → bH D 66 (enC cy) q z_17 s.heap H locs → lv_has ls 4 [(0, .ref (q 32)), (1, .int p0), (2, .int x2_17)] → (x2_17.toInt - (-1)).toNat = n → W p l e ({ frames := 1, cells := 0, slots := 0, locals := 27 }) s m args below meth c H locs 0 0 Q (F0 m 17 ls []) := by
    intro n17
    induction n17 using Nat.strongRecOn with
    | ind n17 ih17 =>
      intro x2_17 z_17 H locs ls h2_17 hJ hH hl hn17
      have HJ40 : ∀ (t0_40 : Int32) (z_40 : zS) (H : Heap) (locs : List Loc) (ls : Array Slot), iv 0 1022 x2_17 → jJ IvC 0 274877906944 0 z0 z_40 → bH D 66 (enC cy) q z_40 s.heap H locs → lv_has ls 4 [(0, .ref (q 32)), (1, .int p0), (2, .int x2_17)] → W p l e ({ frames := 1, cells := 0, slots := 0, locals := 27 }) s m args below meth c H locs 0 0 Q (F0 m 40 ls [.int t0_40]) := by
        intro t0_40 z_40 H locs ls h2_40 hJ hH hl
        have HJ61 : ∀ (t0_61 : Int32) (t1_61 : Int32) (z_61 : zS) (H : Heap) (locs : List Loc) (ls : Array Slot), iv 0 1022 t1_61 → jJ IvC 0 274877906944 0 z0 z_61 → bH D 66 (enC cy) q z_61 s.heap H locs → lv_has ls 4 [(0, .ref (q 32)), (1, .int p0), (2, .int x2_17)] → W p l e ({ frames := 1, cells := 0, slots := 0, locals := 27 }) s m args below meth c H locs 0 0 Q (F0 m 61 ls [.int t0_61, .int t1_61, .ref (q 38)]) := by
          intro t0_61 t1_61 z_61 H locs ls g1_61 hJ hH hl
          refine b_iast hx hb hK hH 38 (by decide) rfl (iv_in g1_61 (by decide) (by decide)) (upA z_61 38 (upd (z_61.2.1 38) (t1_61 : Int32).toNatClampNeg t0_61)) rfl (enC_A _ _ _ _ _) dX3_lookBack_61 (fun H locs hH => ?_)
          obtain ⟨z17, hz17⟩ : ∃ w : zS, w = upA z_61 38 (upd (z_61.2.1 38) (t1_61 : Int32).toNatClampNeg t0_61) := ⟨_, rfl⟩
          rw [← hz17] at hH
          have hJ : jJ IvC 0 274877906944 0 z0 z17 := by rw [hz17]; exact jJ_A hJ (by decide) (IvC_A hJ.1 (by decide))
          have j18 : iv (-1) 1021 (x2_17 + (-1)) := iv_add h2_40 (iv_lit (n := (-1)) (-1) (by decide)) (by decide) (by decide) (by decide) (by decide)
          have e18 : (x2_17 + (-1)).toInt = x2_17.toInt + (-1) := (iv_addE h2_40 (iv_lit (n := (-1)) (-1) (by decide)) (by decide) (by decide)).trans rfl
          obtain ⟨y18, hy18⟩ : ∃ y : Int32, x2_17 + (-1) = y := ⟨_, rfl⟩
          rw [hy18] at j18 e18
          refine lv_iinc (v := y18) (lv' := [(2, .int y18), (0, .ref (q 32)), (1, .int p0)]) hx hb dX3_lookBack_62 hl (k := 2) rfl hy18 (by decide) rfl (fun ls hl => ?_)
          refine lv_goto (tgt := 17) hx hb dX3_lookBack_65 (by decide) ?_
          exact ih17 _ (ms_down e18 j18.1 hn17) y18 z17 H locs ls (iv_w j18 (by decide) (by decide)) hJ hH (lv_sub hl [1, 2, 0] rfl) rfl
        refine lv_istore_n (lv' := [(3, .int t0_40), (0, .ref (q 32)), (1, .int p0), (2, .int x2_17)]) hx hb dX3_lookBack_40 rfl hl (by decide) rfl (fun ls hl => ?_)
        refine lv_aload_n hx hb dX3_lookBack_41 rfl (lv_at hl 1 rfl) ?_
        refine b_get (ci := 3) (C := RX3) (T := TX3) (Nf := 11) (v := .ref (q 38)) hx hb hts in_X3_lookBack_X3 hown hK hH 32 (by decide) rfl rfl 7 (by decide) (hts (.fieldLink RX3 32 "StationLine$Search" "latest" "[I") (List.mem_of_getElem? (i := 1) rfl)) rfl dX3_lookBack_42 ?_
        refine lv_iload_n hx hb dX3_lookBack_45 rfl (lv_at hl 3 rfl) ?_
        refine lv_iload_n hx hb dX3_lookBack_46 rfl (lv_at hl 0 rfl) ?_
        refine lv_aload_n hx hb dX3_lookBack_47 rfl (lv_at hl 1 rfl) ?_
        refine b_get (ci := 3) (C := RX3) (T := TX3) (Nf := 11) (v := .ref (q 37)) hx hb hts in_X3_lookBack_X3 hown hK hH 32 (by decide) rfl rfl 6 (by decide) (hts (.fieldLink RX3 29 "StationLine$Search" "soonest" "[I") (List.mem_of_getElem? (i := 3) rfl)) rfl dX3_lookBack_48 ?_
        refine lv_iload_n hx hb dX3_lookBack_51 rfl (lv_at hl 3 rfl) ?_
        refine b_iald (v := z_40.2.1 37 (x2_17 : Int32).toNatClampNeg) hx hb hK hH 37 (by decide) rfl (iv_in h2_40 (by decide) (by decide)) rfl dX3_lookBack_52 ?_
        refine lv_icmp_ge (tgt := 60) hx hb dX3_lookBack_53 (by decide) (fun c19 => ?_) (fun c19 => ?_)
        · skip
          refine lv_iload_n hx hb dX3_lookBack_60 rfl (lv_at hl 0 rfl) ?_
          exact HJ61 t0_40 x2_17 z_40 H locs ls h2_40 hJ hH (lv_sub hl [1, 2, 3] rfl)
        · skip
          have k21a : iv (-2147483648) 2147483646 t0_40 := iv_ltl (iv_nLe c19) (iv_all t0_40) (iv_all (z_40.2.1 37 (x2_17 : Int32).toNatClampNeg)) (by decide)
          have k21b : iv (-2147483647) 2147483647 (z_40.2.1 37 (x2_17 : Int32).toNatClampNeg) := iv_ltr (iv_nLe c19) (iv_all t0_40) (iv_all (z_40.2.1 37 (x2_17 : Int32).toNatClampNeg)) (by decide)
          refine lv_iconst (v := (-1)) hx hb dX3_lookBack_56 (by decide) ?_
          refine lv_goto (tgt := 61) hx hb dX3_lookBack_57 (by decide) ?_
          exact HJ61 (-1) x2_17 z_40 H locs ls h2_40 hJ hH (lv_sub hl [1, 2, 3] rfl)
      refine lv_iload_n hx hb dX3_lookBack_17 rfl (lv_at hl 2 rfl) ?_
      refine lv_if_lt (tgt := 68) hx hb dX3_lookBack_18 (by decide) (fun c22 => ?_) (fun c22 => ?_)
      · skip
        have k23a : iv (-1) (-1) x2_17 := iv_ltl (iv_Lt c22) h2_17 (iv_lit (n := 0) 0 (by decide)) (by decide)
        exact hret z_17 H locs _ _ hJ hH dX3_lookBack_68
      · skip
        have k24b : iv 0 1022 x2_17 := iv_ler (iv_nLt c22) (iv_lit (n := 0) 0 (by decide)) h2_17
        refine lv_aload_n hx hb dX3_lookBack_21 rfl (lv_at hl 0 rfl) ?_
        refine b_get (ci := 3) (C := RX3) (T := TX3) (Nf := 11) (v := .ref (q 37)) hx hb hts in_X3_lookBack_X3 hown hK hH 32 (by decide) rfl rfl 6 (by decide) (hts (.fieldLink RX3 29 "StationLine$Search" "soonest" "[I") (List.mem_of_getElem? (i := 3) rfl)) rfl dX3_lookBack_22 ?_
        refine lv_iload_n hx hb dX3_lookBack_25 rfl (lv_at hl 2 rfl) ?_
        refine b_iald (v := z_17.2.1 37 (x2_17 : Int32).toNatClampNeg) hx hb hK hH 37 (by decide) rfl (iv_in k24b (by decide) (by decide)) rfl dX3_lookBack_26 ?_
        refine lv_iload_n hx hb dX3_lookBack_27 rfl (lv_at hl 1 rfl) ?_
        refine lv_icmp_le (tgt := 35) hx hb dX3_lookBack_28 (by decide) (fun c25 => ?_) (fun c25 => ?_)
        · skip
          refine lv_aload_n hx hb dX3_lookBack_35 rfl (lv_at hl 0 rfl) ?_
          refine lv_iload_n hx hb dX3_lookBack_36 rfl (lv_at hl 2 rfl) ?_
          refine b_calli (As := [.int x2_17]) (rest := []) ⟨hx, hb, hml, hown, hts⟩ 32 3 (g_X3_latestOf_32 l D cy q hH.2.1 z_17 hJ.1 x2_17 (iv_w k24b (by decide) (by decide))) (cwV 1 hts gX3_lookBack_X3_latestOf rfl rfl rfl (by decide +kernel) ⟨Nat.le_of_ble_eq_true rfl, Nat.le_of_ble_eq_true rfl⟩) hK hZ hH (by decide) rfl rfl rfl hl.1 rfl (Nat.le_of_ble_eq_true rfl) ⟨Nat.zero_le _, Nat.zero_le _⟩ dX3_lookBack_37 (fun w27 z27 H locs hp hH => ?_)
          rw [Ag_0 hp.1.2] at hH
          exact HJ40 w27 z_17 H locs ls k24b hJ hH (lv_sub hl [0, 1, 2] rfl)
        · skip
          have k28a : iv (-2147483648) 2147483646 p0 := iv_ltl (iv_nLe c25) (iv_all p0) (iv_all (z_17.2.1 37 (x2_17 : Int32).toNatClampNeg)) (by decide)
          have k28b : iv (-2147483647) 2147483647 (z_17.2.1 37 (x2_17 : Int32).toNatClampNeg) := iv_ltr (iv_nLe c25) (iv_all p0) (iv_all (z_17.2.1 37 (x2_17 : Int32).toNatClampNeg)) (by decide)
          refine lv_iconst (v := (-1)) hx hb dX3_lookBack_31 (by decide) ?_
          refine lv_goto (tgt := 40) hx hb dX3_lookBack_32 (by decide) ?_
          exact HJ40 (-1) z_17 H locs ls k24b hJ hH (lv_sub hl [0, 1, 2] rfl)
  refine lv_aload_n hx hb dX3_lookBack_0 rfl (lv_at hl 0 rfl) ?_
  refine b_get (ci := 3) (C := RX3) (T := TX3) (Nf := 11) (v := .ref (q 38)) hx hb hts in_X3_lookBack_X3 hown hK hH 32 (by decide) rfl rfl 7 (by decide) (hts (.fieldLink RX3 32 "StationLine$Search" "latest" "[I") (List.mem_of_getElem? (i := 1) rfl)) rfl dX3_lookBack_1 ?_
  refine lv_aload_n hx hb dX3_lookBack_4 rfl (lv_at hl 0 rfl) ?_
  refine b_get (ci := 3) (C := RX3) (T := TX3) (Nf := 11) (v := .int (z0.1 8)) hx hb hts in_X3_lookBack_X3 hown hK hH 32 (by decide) rfl rfl 1 (by decide) (hts (.fieldLink RX3 9 "StationLine$Search" "all" "I") (List.mem_of_getElem? (i := 2) rfl)) rfl dX3_lookBack_5 ?_
  have i29 := IvC_s8 hJ.1
  refine lv_iload_n hx hb dX3_lookBack_8 rfl (lv_at hl 1 rfl) ?_
  refine b_iast hx hb hK hH 38 (by decide) rfl (iv_in i29 (by decide) (by decide)) (upA z0 38 (upd (z0.2.1 38) (z0.1 8 : Int32).toNatClampNeg p0)) rfl (enC_A _ _ _ _ _) dX3_lookBack_9 (fun H locs hH => ?_)
  obtain ⟨z30, hz30⟩ : ∃ w : zS, w = upA z0 38 (upd (z0.2.1 38) (z0.1 8 : Int32).toNatClampNeg p0) := ⟨_, rfl⟩
  rw [← hz30] at hH
  have hJ : jJ IvC 0 274877906944 0 z0 z30 := by rw [hz30]; exact jJ_A hJ (by decide) (IvC_A hJ.1 (by decide))
  refine lv_aload_n hx hb dX3_lookBack_10 rfl (lv_at hl 0 rfl) ?_
  refine b_get (ci := 3) (C := RX3) (T := TX3) (Nf := 11) (v := .int (z30.1 8)) hx hb hts in_X3_lookBack_X3 hown hK hH 32 (by decide) rfl rfl 1 (by decide) (hts (.fieldLink RX3 9 "StationLine$Search" "all" "I") (List.mem_of_getElem? (i := 2) rfl)) rfl dX3_lookBack_11 ?_
  have i31 := IvC_s8 hJ.1
  refine lv_iconst (v := 1) hx hb dX3_lookBack_14 (by decide) ?_
  refine lv_isub hx hb dX3_lookBack_15 ?_
  refine h_iE (a := (-1)) (b := 1022) (t := (z30.1 8).toInt - 1) (iv_sub i31 (iv_lit (n := 1) 1 (by decide)) (by decide) (by decide) (by decide) (by decide)) ((iv_subE i31 (iv_lit (n := 1) 1 (by decide)) (by decide) (by decide)).trans rfl) (fun w32 i32 e32 => ?_)
  refine lv_istore_n (lv' := [(2, .int w32), (0, .ref (q 32)), (1, .int p0)]) hx hb dX3_lookBack_16 rfl hl (by decide) rfl (fun ls hl => ?_)
  exact HL17 _ w32 z30 H locs ls i32 hJ hH (lv_sub hl [1, 2, 0] rfl) rfl
set_option maxHeartbeats 4000000 in
set_option maxRecDepth 100000 in
theorem g_X3_weighState_32 (l : Launch) (D : va_G) (cy : Nat → ClassId) (q : Nat → Nat) (hq : bJ 66 q) (z0 : zS) (hI : IvC z0) (p0 : Int32) (hp0 : iv 0 9 p0) (p1 : Int32) (hp1 : iv 0 1023 p1) : bCv l yX3_weighState wsX3_weighState ({ frames := 1, cells := 0, slots := 0, locals := 28 }) D cy 66 (enC cy) q z0 [.ref (q 32), .int p0, .int p1] (fun z => jJ IvC 0 0 31522998368337920 z0 z) := by
  refine hM_v cX3_weighState (by decide) rfl (own := RX3) rfl hq (Nat.le_of_ble_eq_true rfl) ?_
  intro p e s m args below meth c Q ls H locs hx hb hml hown hts hK hZ hH hl hret
  have hl : lv_has ls 16 [(0, .ref (q 32)), (1, .int p0), (2, .int p1)] := hl
  have hJ : jJ IvC 0 0 31522998368337920 z0 z0 := jJ_rf _ _ _ hI
  have HJ52 : ∀ (x3_52 : Int32) (x4_52 : Nat) (x5_52 : Nat) (x6_52 : Int64) (x8_52 : Int64) (z_52 : zS) (H : Heap) (locs : List Loc) (ls : Array Slot), iv 1 10 x3_52 → 41 ≤ x4_52 ∧ x4_52 < 52 → 53 ≤ x5_52 ∧ x5_52 < 55 → jJ IvC 0 0 31522998368337920 z0 z_52 → bH D 66 (enC cy) q z_52 s.heap H locs → lv_has ls 16 [(0, .ref (q 32)), (1, .int p0), (2, .int p1), (3, .int x3_52), (4, .ref (q x4_52)), (5, .ref (q x5_52)), (6, .long x6_52), (8, .long x8_52)] → W p l e ({ frames := 1, cells := 0, slots := 0, locals := 28 }) s m args below meth c H locs 0 0 Q (F0 m 52 ls []) := by
    intro x3_52 x4_52 x5_52 x6_52 x8_52 z_52 H locs ls h3_52 h4_52 h5_52 hJ hH hl
    have HL66 : ∀ (n : Nat) (x6_66 : Int64) (x8_66 : Int64) (x10_66 : Int32) (x11_66 : Int32) (z_66 : zS) (H : Heap) (locs : List Loc) (ls : Array Slot), iv 0 1023 x10_66 → iv 0 1023 x11_66 → jJ IvC 0 0 31522998368337920 z0 z_66 → bH D 66 (enC cy) q z_66 s.heap H locs → lv_has ls 16 [(0, .ref (q 32)), (1, .int p0), (2, .int p1), (3, .int x3_52), (4, .ref (q x4_52)), (5, .ref (q x5_52)), (6, .long x6_66), (8, .long x8_66), (10, .int x10_66), (11, .int x11_66)] → (x11_66.toInt - 0).toNat = n → W p l e ({ frames := 1, cells := 0, slots := 0, locals := 28 }) s m args below meth c H locs 0 0 Q (F0 m 66 ls []) := by
      intro n66
      induction n66 using Nat.strongRecOn with
      | ind n66 ih66 =>
        intro x6_66 x8_66 x10_66 x11_66 z_66 H locs ls h10_66 h11_66 hJ hH hl hn66
        have HJ146 : ∀ (x6_146 : Int64) (x8_146 : Int64) (z_146 : zS) (H : Heap) (locs : List Loc) (ls : Array Slot), iv 1 1023 x11_66 → jJ IvC 0 0 31522998368337920 z0 z_146 → bH D 66 (enC cy) q z_146 s.heap H locs → lv_has ls 16 [(0, .ref (q 32)), (1, .int p0), (2, .int p1), (3, .int x3_52), (4, .ref (q x4_52)), (5, .ref (q x5_52)), (6, .long x6_146), (8, .long x8_146), (10, .int x10_66), (11, .int x11_66)] → W p l e ({ frames := 1, cells := 0, slots := 0, locals := 28 }) s m args below meth c H locs 0 0 Q (F0 m 146 ls []) := by
          intro x6_146 x8_146 z_146 H locs ls h11_146 hJ hH hl
          refine lv_iload hx hb dX3_weighState_146 (lv_at hl 9 rfl) ?_
          refine lv_iconst (v := 1) hx hb dX3_weighState_148 (by decide) ?_
          refine lv_isub hx hb dX3_weighState_149 ?_
          refine h_iE (a := 0) (b := 1022) (t := x11_66.toInt - 1) (iv_sub h11_146 (iv_lit (n := 1) 1 (by decide)) (by decide) (by decide) (by decide) (by decide)) ((iv_subE h11_146 (iv_lit (n := 1) 1 (by decide)) (by decide) (by decide)).trans rfl) (fun w40 i40 e40 => ?_)
          refine lv_iload hx hb dX3_weighState_150 (lv_at hl 8 rfl) ?_
          refine lv_iand hx hb dX3_weighState_152 ?_
          refine h_iL (a := 0) (b := 1022) (iv_and i40 h10_66 (by decide) (by decide)) (iv_andlt i40 (by decide)) (fun w41 i41 e41 => ?_)
          refine lv_istore (lv' := [(11, .int w41), (0, .ref (q 32)), (1, .int p0), (2, .int p1), (3, .int x3_52), (4, .ref (q x4_52)), (5, .ref (q x5_52)), (6, .long x6_146), (8, .long x8_146), (10, .int x10_66)]) hx hb dX3_weighState_153 hl (by decide) rfl (fun ls hl => ?_)
          refine lv_goto (tgt := 66) hx hb dX3_weighState_155 (by decide) ?_
          exact ih66 _ (by have := e41; have := e40; have := hn66; have := i41.1; have := i41.2; omega) x6_146 x8_146 x10_66 w41 z_146 H locs ls h10_66 (iv_w i41 (by decide) (by decide)) hJ hH (lv_sub hl [1, 2, 3, 4, 5, 6, 7, 8, 9, 0] rfl) rfl
        have HJ108 : ∀ (x12_108 : Int32) (z_108 : zS) (H : Heap) (locs : List Loc) (ls : Array Slot), iv 1 1023 x11_66 → iv 0 1023 x12_108 → jJ IvC 0 0 31522998368337920 z0 z_108 → bH D 66 (enC cy) q z_108 s.heap H locs → lv_has ls 16 [(0, .ref (q 32)), (1, .int p0), (2, .int p1), (3, .int x3_52), (4, .ref (q x4_52)), (5, .ref (q x5_52)), (6, .long x6_66), (8, .long x8_66), (10, .int x10_66), (11, .int x11_66), (12, .int x12_108)] → W p l e ({ frames := 1, cells := 0, slots := 0, locals := 28 }) s m args below meth c H locs 0 0 Q (F0 m 108 ls []) := by
          intro x12_108 z_108 H locs ls h11_108 h12_108 hJ hH hl
          refine lv_aload_n hx hb dX3_weighState_108 rfl (lv_at hl 0 rfl) ?_
          refine b_get (ci := 3) (C := RX3) (T := TX3) (Nf := 11) (v := .ref (q 33)) hx hb hts in_X3_weighState_X3 hown hK hH 32 (by decide) rfl rfl 2 (by decide) (hts (.fieldLink RX3 15 "StationLine$Search" "loads" "[I") (List.mem_of_getElem? (i := 7) rfl)) rfl dX3_weighState_109 ?_
          refine lv_iload hx hb dX3_weighState_112 (lv_at hl 9 rfl) ?_
          refine b_iald (v := z_108.2.1 33 (x11_66 : Int32).toNatClampNeg) hx hb hK hH 33 (by decide) rfl (iv_in h11_108 (by decide) (by decide)) rfl dX3_weighState_114 ?_
          refine lv_i2l hx hb dX3_weighState_115 rfl ?_
          refine h_l (fun w42 => ?_)
          refine lv_lstore (lv' := [(14, .long w42), (0, .ref (q 32)), (1, .int p0), (2, .int p1), (3, .int x3_52), (4, .ref (q x4_52)), (5, .ref (q x5_52)), (6, .long x6_66), (8, .long x8_66), (10, .int x10_66), (11, .int x11_66), (12, .int x12_108)]) hx hb dX3_weighState_116 hl (by decide) rfl (fun ls hl => ?_)
          refine lv_lload hx hb dX3_weighState_118 (lv_at hl 7 rfl) ?_
          refine lv_lload hx hb dX3_weighState_120 (lv_at hl 0 rfl) ?_
          refine lv_lload hx hb dX3_weighState_122 (lv_at hl 0 rfl) ?_
          refine lv_lmul hx hb dX3_weighState_124 ?_
          refine h_l (fun w43 => ?_)
          refine lv_aload hx hb dX3_weighState_125 (lv_at hl 5 rfl) ?_
          refine lv_iload hx hb dX3_weighState_127 (lv_at hl 11 rfl) ?_
          refine b_lald hx hb hK hH x4_52 (Nat.lt_of_lt_of_le h4_52.2 (by decide)) (enC_g41 cy q _ x4_52 h4_52) (iv_in h12_108 (by decide) (by decide)) rfl dX3_weighState_129 ?_
          refine h_l (fun w44 => ?_)
          refine lv_ladd hx hb dX3_weighState_130 ?_
          refine h_l (fun w45 => ?_)
          refine va_mmin_long hx hb (by rw [hml]; exact hl.1.symm) hown (hts (.methodLink RX3 148 Lib.MathLoose.min_long.x) (List.mem_of_getElem? (i := 8) rfl)) (hts (.static Lib.MathLoose.min_long.x) (List.mem_of_getElem? (i := 9) rfl)) (hts (.initialized "java/lang/Math") (List.mem_of_getElem? (i := 10) rfl)) (hts (.code Lib.MathLoose.min_long.x Lib.MathLoose.min_long.code 4 (some .long)) (List.mem_of_getElem? (i := 11) rfl)) (Nat.le_of_ble_eq_true rfl) (Nat.le_of_ble_eq_true rfl) (Nat.zero_le _) (Nat.zero_le _) dX3_weighState_131 ?_
          refine h_l (fun w46 => ?_)
          refine lv_lstore (lv' := [(6, .long w46), (14, .long w42), (0, .ref (q 32)), (1, .int p0), (2, .int p1), (3, .int x3_52), (4, .ref (q x4_52)), (5, .ref (q x5_52)), (8, .long x8_66), (10, .int x10_66), (11, .int x11_66), (12, .int x12_108)]) hx hb dX3_weighState_134 hl (by decide) rfl (fun ls hl => ?_)
          refine lv_lload hx hb dX3_weighState_136 (lv_at hl 8 rfl) ?_
          refine lv_aload hx hb dX3_weighState_138 (lv_at hl 7 rfl) ?_
          refine lv_iload hx hb dX3_weighState_140 (lv_at hl 11 rfl) ?_
          refine b_lald hx hb hK hH x5_52 (Nat.lt_of_lt_of_le h5_52.2 (by decide)) (enC_g53 cy q _ x5_52 h5_52) (iv_in h12_108 (by decide) (by decide)) rfl dX3_weighState_142 ?_
          refine h_l (fun w47 => ?_)
          refine lv_ladd hx hb dX3_weighState_143 ?_
          refine h_l (fun w48 => ?_)
          refine lv_lstore (lv' := [(8, .long w48), (6, .long w46), (14, .long w42), (0, .ref (q 32)), (1, .int p0), (2, .int p1), (3, .int x3_52), (4, .ref (q x4_52)), (5, .ref (q x5_52)), (10, .int x10_66), (11, .int x11_66), (12, .int x12_108)]) hx hb dX3_weighState_144 hl (by decide) rfl (fun ls hl => ?_)
          exact HJ146 w46 w48 z_108 H locs ls h11_108 hJ hH (lv_sub hl [3, 4, 5, 6, 7, 8, 1, 0, 9, 10] rfl)
        refine lv_iload hx hb dX3_weighState_66 (lv_at hl 9 rfl) ?_
        refine lv_if_le (tgt := 158) hx hb dX3_weighState_68 (by decide) (fun c49 => ?_) (fun c49 => ?_)
        · skip
          have k50a : iv 0 0 x11_66 := iv_lel (iv_Le c49) h11_66 (iv_lit (n := 0) 0 (by decide))
          refine lv_aload_n hx hb dX3_weighState_158 rfl (lv_at hl 0 rfl) ?_
          refine b_get (ci := 3) (C := RX3) (T := TX3) (Nf := 11) (v := .ref (q 40)) hx hb hts in_X3_weighState_X3 hown hK hH 32 (by decide) rfl rfl 9 (by decide) (hts (.fieldLink RX3 40 "StationLine$Search" "costs" "[[J") (List.mem_of_getElem? (i := 1) rfl)) rfl dX3_weighState_159 ?_
          refine lv_iload_n hx hb dX3_weighState_162 rfl (lv_at hl 1 rfl) ?_
          refine h_aaldE (n := 11) hx hb hK hH 40 4 41 (by decide) rfl rfl (iv_in hp0 (by decide) (by decide)) dX3_weighState_163 (fun k51 hk51 ek51 => ?_)
          refine lv_iload_n hx hb dX3_weighState_164 rfl (lv_at hl 2 rfl) ?_
          refine lv_lload hx hb dX3_weighState_165 (lv_at hl 6 rfl) ?_
          refine b_last hx hb hK hH k51 (Nat.lt_of_lt_of_le hk51.2 (by decide)) (enC_g41 cy q _ k51 hk51) (iv_in hp1 (by decide) (by decide)) (upL z_66 k51 (vp_updL (z_66.2.2 k51) (p1 : Int32).toNatClampNeg x6_66)) (enC_sl41 cy q _ k51 _ hk51) (enC_L _ _ _ _ _) dX3_weighState_167 (fun H locs hH => ?_)
          obtain ⟨z52, hz52⟩ : ∃ w : zS, w = upL z_66 k51 (vp_updL (z_66.2.2 k51) (p1 : Int32).toNatClampNeg x6_66) := ⟨_, rfl⟩
          rw [← hz52] at hH
          have hJ : jJ IvC 0 0 31522998368337920 z0 z52 := by rw [hz52]; exact jJ_L hJ (tb_grp (g0 := 41) (n := 11) (by decide) hk51) (IvC_L hJ.1)
          refine lv_aload_n hx hb dX3_weighState_168 rfl (lv_at hl 0 rfl) ?_
          refine b_get (ci := 3) (C := RX3) (T := TX3) (Nf := 11) (v := .ref (q 52)) hx hb hts in_X3_weighState_X3 hown hK hH 32 (by decide) rfl rfl 10 (by decide) (hts (.fieldLink RX3 43 "StationLine$Search" "ways" "[[J") (List.mem_of_getElem? (i := 2) rfl)) rfl dX3_weighState_169 ?_
          refine lv_iload_n hx hb dX3_weighState_172 rfl (lv_at hl 1 rfl) ?_
          refine lv_iconst (v := 1) hx hb dX3_weighState_173 (by decide) ?_
          refine lv_iand hx hb dX3_weighState_174 ?_
          refine h_i (a := 0) (b := 1) (iv_and2 hp0 (iv_lit (n := 1) 1 (by decide)) (by decide) (by decide)) (fun w53 i53 => ?_)
          refine h_aaldE (n := 2) hx hb hK hH 52 4 53 (by decide) rfl rfl (iv_in i53 (by decide) (by decide)) dX3_weighState_175 (fun k54 hk54 ek54 => ?_)
          refine lv_iload_n hx hb dX3_weighState_176 rfl (lv_at hl 2 rfl) ?_
          refine lv_lload hx hb dX3_weighState_177 (lv_at hl 7 rfl) ?_
          refine b_last hx hb hK hH k54 (Nat.lt_of_lt_of_le hk54.2 (by decide)) (enC_g53 cy q _ k54 hk54) (iv_in hp1 (by decide) (by decide)) (upL z52 k54 (vp_updL (z52.2.2 k54) (p1 : Int32).toNatClampNeg x8_66)) (enC_sl53 cy q _ k54 _ hk54) (enC_L _ _ _ _ _) dX3_weighState_179 (fun H locs hH => ?_)
          obtain ⟨z55, hz55⟩ : ∃ w : zS, w = upL z52 k54 (vp_updL (z52.2.2 k54) (p1 : Int32).toNatClampNeg x8_66) := ⟨_, rfl⟩
          rw [← hz55] at hH
          have hJ : jJ IvC 0 0 31522998368337920 z0 z55 := by rw [hz55]; exact jJ_L hJ (tb_grp (g0 := 53) (n := 2) (by decide) hk54) (IvC_L hJ.1)
          exact hret z55 H locs _ _ hJ hH dX3_weighState_180
        · skip
          have k56b : iv 1 1023 x11_66 := iv_ltr (iv_nLe c49) (iv_lit (n := 0) 0 (by decide)) h11_66 (by decide)
          refine lv_iload_n hx hb dX3_weighState_71 rfl (lv_at hl 2 rfl) ?_
          refine lv_iload hx hb dX3_weighState_72 (lv_at hl 9 rfl) ?_
          refine lv_ior hx hb dX3_weighState_74 ?_
          refine h_i (a := 0) (b := 1023) (iv_or 10 (b := 1023) (d := 1023) (iv_w hp1 (by decide) (by decide)) (iv_w k56b (by decide) (by decide)) (by decide) (by decide) (by decide) (by decide)) (fun w57 i57 => ?_)
          refine lv_istore (lv' := [(12, .int w57), (0, .ref (q 32)), (1, .int p0), (2, .int p1), (3, .int x3_52), (4, .ref (q x4_52)), (5, .ref (q x5_52)), (6, .long x6_66), (8, .long x8_66), (10, .int x10_66), (11, .int x11_66)]) hx hb dX3_weighState_75 hl (by decide) rfl (fun ls hl => ?_)
          refine lv_aload_n hx hb dX3_weighState_77 rfl (lv_at hl 1 rfl) ?_
          refine b_get (ci := 3) (C := RX3) (T := TX3) (Nf := 11) (v := .ref (q 36)) hx hb hts in_X3_weighState_X3 hown hK hH 32 (by decide) rfl rfl 5 (by decide) (hts (.fieldLink RX3 26 "StationLine$Search" "places" "[I") (List.mem_of_getElem? (i := 6) rfl)) rfl dX3_weighState_78 ?_
          refine lv_iload hx hb dX3_weighState_81 (lv_at hl 10 rfl) ?_
          refine b_iald (v := z_66.2.1 36 (x11_66 : Int32).toNatClampNeg) hx hb hK hH 36 (by decide) rfl (iv_in k56b (by decide) (by decide)) rfl dX3_weighState_83 ?_
          refine lv_istore (lv' := [(13, .int (z_66.2.1 36 (x11_66 : Int32).toNatClampNeg)), (12, .int w57), (0, .ref (q 32)), (1, .int p0), (2, .int p1), (3, .int x3_52), (4, .ref (q x4_52)), (5, .ref (q x5_52)), (6, .long x6_66), (8, .long x8_66), (10, .int x10_66), (11, .int x11_66)]) hx hb dX3_weighState_84 hl (by decide) rfl (fun ls hl => ?_)
          refine lv_iload_n hx hb dX3_weighState_86 rfl (lv_at hl 5 rfl) ?_
          refine lv_aload_n hx hb dX3_weighState_87 rfl (lv_at hl 2 rfl) ?_
          refine b_get (ci := 3) (C := RX3) (T := TX3) (Nf := 11) (v := .ref (q 38)) hx hb hts in_X3_weighState_X3 hown hK hH 32 (by decide) rfl rfl 7 (by decide) (hts (.fieldLink RX3 32 "StationLine$Search" "latest" "[I") (List.mem_of_getElem? (i := 4) rfl)) rfl dX3_weighState_88 ?_
          refine lv_iload hx hb dX3_weighState_91 (lv_at hl 1 rfl) ?_
          refine b_iald (v := z_66.2.1 38 (w57 : Int32).toNatClampNeg) hx hb hK hH 38 (by decide) rfl (iv_in i57 (by decide) (by decide)) rfl dX3_weighState_93 ?_
          refine lv_icmp_gt (tgt := 146) hx hb dX3_weighState_94 (by decide) (fun c58 => ?_) (fun c58 => ?_)
          · skip
            have k59a : iv (-2147483648) 9 (z_66.2.1 38 (w57 : Int32).toNatClampNeg) := iv_ltl (iv_Lt c58) (iv_all (z_66.2.1 38 (w57 : Int32).toNatClampNeg)) h3_52 (by decide)
            exact HJ146 x6_66 x8_66 z_66 H locs ls k56b hJ hH (lv_sub hl [2, 3, 4, 5, 6, 7, 8, 9, 10, 11] rfl)
          · skip
            have k60b : iv 1 2147483647 (z_66.2.1 38 (w57 : Int32).toNatClampNeg) := iv_ler (iv_nLt c58) h3_52 (iv_all (z_66.2.1 38 (w57 : Int32).toNatClampNeg))
            refine lv_iload hx hb dX3_weighState_97 (lv_at hl 0 rfl) ?_
            refine lv_if_eq (tgt := 108) hx hb dX3_weighState_99 (by decide) (fun c61 => ?_) (fun c61 => ?_)
            · skip
              have k62a : iv 0 0 (z_66.2.1 36 (x11_66 : Int32).toNatClampNeg) := iv_eql (iv_Eq c61) (iv_all (z_66.2.1 36 (x11_66 : Int32).toNatClampNeg)) (iv_lit (n := 0) 0 (by decide)) (by decide) (by decide)
              exact HJ108 w57 z_66 H locs ls k56b i57 hJ hH (lv_sub hl [2, 3, 4, 5, 6, 7, 8, 9, 10, 11, 1] rfl)
            · skip
              refine lv_iload hx hb dX3_weighState_102 (lv_at hl 0 rfl) ?_
              refine lv_iload_n hx hb dX3_weighState_104 rfl (lv_at hl 5 rfl) ?_
              refine lv_icmp_ne (tgt := 146) hx hb dX3_weighState_105 (by decide) (fun c64 => ?_) (fun c64 => ?_)
              · skip
                exact HJ146 x6_66 x8_66 z_66 H locs ls k56b hJ hH (lv_sub hl [2, 3, 4, 5, 6, 7, 8, 9, 10, 11] rfl)
              · skip
                have k66a : iv 1 10 (z_66.2.1 36 (x11_66 : Int32).toNatClampNeg) := iv_eql (iv_Eq c64) (iv_all (z_66.2.1 36 (x11_66 : Int32).toNatClampNeg)) h3_52 (by decide) (by decide)
                exact HJ108 w57 z_66 H locs ls k56b i57 hJ hH (lv_sub hl [2, 3, 4, 5, 6, 7, 8, 9, 10, 11, 1] rfl)
    refine lv_aload_n hx hb dX3_weighState_52 rfl (lv_at hl 0 rfl) ?_
    refine b_get (ci := 3) (C := RX3) (T := TX3) (Nf := 11) (v := .int (z_52.1 8)) hx hb hts in_X3_weighState_X3 hown hK hH 32 (by decide) rfl rfl 1 (by decide) (hts (.fieldLink RX3 9 "StationLine$Search" "all" "I") (List.mem_of_getElem? (i := 5) rfl)) rfl dX3_weighState_53 ?_
    have i67 := IvC_s8 hJ.1
    refine lv_iload_n hx hb dX3_weighState_56 rfl (lv_at hl 2 rfl) ?_
    refine lv_iconst (v := (-1)) hx hb dX3_weighState_57 (by decide) ?_
    refine lv_ixor hx hb dX3_weighState_58 ?_
    refine lv_topi (fun w68 _ => ?_)
    refine lv_iand hx hb dX3_weighState_59 ?_
    refine h_iL (a := 0) (b := 1023) (iv_and i67 (iv_all w68) (by decide) (by decide)) (iv_andlt i67 (by decide)) (fun w69 i69 e69 => ?_)
    refine lv_istore (lv' := [(10, .int w69), (0, .ref (q 32)), (1, .int p0), (2, .int p1), (3, .int x3_52), (4, .ref (q x4_52)), (5, .ref (q x5_52)), (6, .long x6_52), (8, .long x8_52)]) hx hb dX3_weighState_60 hl (by decide) rfl (fun ls hl => ?_)
    refine lv_iload hx hb dX3_weighState_62 (lv_at hl 0 rfl) ?_
    refine lv_istore (lv' := [(11, .int w69), (10, .int w69), (0, .ref (q 32)), (1, .int p0), (2, .int p1), (3, .int x3_52), (4, .ref (q x4_52)), (5, .ref (q x5_52)), (6, .long x6_52), (8, .long x8_52)]) hx hb dX3_weighState_64 hl (by decide) rfl (fun ls hl => ?_)
    exact HL66 _ x6_52 x8_52 w69 w69 z_52 H locs ls i69 i69 hJ hH (lv_sub hl [2, 3, 4, 5, 6, 7, 8, 9, 1, 0] rfl) rfl
  refine lv_iload_n hx hb dX3_weighState_0 rfl (lv_at hl 1 rfl) ?_
  refine lv_iconst (v := 1) hx hb dX3_weighState_1 (by decide) ?_
  refine lv_iadd hx hb dX3_weighState_2 ?_
  refine h_iE (a := 1) (b := 10) (t := p0.toInt + 1) (iv_add hp0 (iv_lit (n := 1) 1 (by decide)) (by decide) (by decide) (by decide) (by decide)) ((iv_addE hp0 (iv_lit (n := 1) 1 (by decide)) (by decide) (by decide)).trans rfl) (fun w70 i70 e70 => ?_)
  refine lv_istore_n (lv' := [(3, .int w70), (0, .ref (q 32)), (1, .int p0), (2, .int p1)]) hx hb dX3_weighState_3 rfl hl (by decide) rfl (fun ls hl => ?_)
  refine lv_aload_n hx hb dX3_weighState_4 rfl (lv_at hl 1 rfl) ?_
  refine b_get (ci := 3) (C := RX3) (T := TX3) (Nf := 11) (v := .ref (q 40)) hx hb hts in_X3_weighState_X3 hown hK hH 32 (by decide) rfl rfl 9 (by decide) (hts (.fieldLink RX3 40 "StationLine$Search" "costs" "[[J") (List.mem_of_getElem? (i := 1) rfl)) rfl dX3_weighState_5 ?_
  refine lv_iload_n hx hb dX3_weighState_8 rfl (lv_at hl 0 rfl) ?_
  refine h_aaldE (n := 11) hx hb hK hH 40 4 41 (by decide) rfl rfl (iv_in i70 (by decide) (by decide)) dX3_weighState_9 (fun k71 hk71 ek71 => ?_)
  refine lv_astore (lv' := [(4, .ref (q k71)), (3, .int w70), (0, .ref (q 32)), (1, .int p0), (2, .int p1)]) hx hb dX3_weighState_10 hl (by decide) rfl (fun ls hl => ?_)
  refine lv_aload_n hx hb dX3_weighState_12 rfl (lv_at hl 2 rfl) ?_
  refine b_get (ci := 3) (C := RX3) (T := TX3) (Nf := 11) (v := .ref (q 52)) hx hb hts in_X3_weighState_X3 hown hK hH 32 (by decide) rfl rfl 10 (by decide) (hts (.fieldLink RX3 43 "StationLine$Search" "ways" "[[J") (List.mem_of_getElem? (i := 2) rfl)) rfl dX3_weighState_13 ?_
  refine lv_iload_n hx hb dX3_weighState_16 rfl (lv_at hl 1 rfl) ?_
  refine lv_iconst (v := 1) hx hb dX3_weighState_17 (by decide) ?_
  refine lv_iand hx hb dX3_weighState_18 ?_
  refine h_i (a := 0) (b := 1) (iv_and2 i70 (iv_lit (n := 1) 1 (by decide)) (by decide) (by decide)) (fun w72 i72 => ?_)
  refine h_aaldE (n := 2) hx hb hK hH 52 4 53 (by decide) rfl rfl (iv_in i72 (by decide) (by decide)) dX3_weighState_19 (fun k73 hk73 ek73 => ?_)
  refine lv_astore (lv' := [(5, .ref (q k73)), (4, .ref (q k71)), (3, .int w70), (0, .ref (q 32)), (1, .int p0), (2, .int p1)]) hx hb dX3_weighState_20 hl (by decide) rfl (fun ls hl => ?_)
  refine lv_ldc2 hx hb hown (hts (.constantLong RX3 146 (1099511627776)) (List.mem_of_getElem? (i := 3) rfl)) dX3_weighState_22 ?_
  refine lv_lstore (lv' := [(6, .long 1099511627776), (5, .ref (q k73)), (4, .ref (q k71)), (3, .int w70), (0, .ref (q 32)), (1, .int p0), (2, .int p1)]) hx hb dX3_weighState_25 hl (by decide) rfl (fun ls hl => ?_)
  refine lv_lconst (v := 0) hx hb dX3_weighState_27 (by decide) ?_
  refine lv_lstore (lv' := [(8, .long 0), (6, .long 1099511627776), (5, .ref (q k73)), (4, .ref (q k71)), (3, .int w70), (0, .ref (q 32)), (1, .int p0), (2, .int p1)]) hx hb dX3_weighState_28 hl (by decide) rfl (fun ls hl => ?_)
  refine lv_iload_n hx hb dX3_weighState_30 rfl (lv_at hl 4 rfl) ?_
  refine lv_aload_n hx hb dX3_weighState_31 rfl (lv_at hl 5 rfl) ?_
  refine b_get (ci := 3) (C := RX3) (T := TX3) (Nf := 11) (v := .ref (q 38)) hx hb hts in_X3_weighState_X3 hown hK hH 32 (by decide) rfl rfl 7 (by decide) (hts (.fieldLink RX3 32 "StationLine$Search" "latest" "[I") (List.mem_of_getElem? (i := 4) rfl)) rfl dX3_weighState_32 ?_
  refine lv_iload_n hx hb dX3_weighState_35 rfl (lv_at hl 7 rfl) ?_
  refine b_iald (v := z0.2.1 38 (p1 : Int32).toNatClampNeg) hx hb hK hH 38 (by decide) rfl (iv_in hp1 (by decide) (by decide)) rfl dX3_weighState_36 ?_
  refine lv_icmp_gt (tgt := 52) hx hb dX3_weighState_37 (by decide) (fun c74 => ?_) (fun c74 => ?_)
  · skip
    have k75a : iv (-2147483648) 9 (z0.2.1 38 (p1 : Int32).toNatClampNeg) := iv_ltl (iv_Lt c74) (iv_all (z0.2.1 38 (p1 : Int32).toNatClampNeg)) i70 (by decide)
    exact HJ52 w70 k71 k73 1099511627776 0 z0 H locs ls i70 hk71 hk73 hJ hH (lv_sub hl [5, 6, 7, 4, 3, 2, 1, 0] rfl)
  · skip
    have k76b : iv 1 2147483647 (z0.2.1 38 (p1 : Int32).toNatClampNeg) := iv_ler (iv_nLt c74) i70 (iv_all (z0.2.1 38 (p1 : Int32).toNatClampNeg))
    refine lv_aload hx hb dX3_weighState_40 (lv_at hl 3 rfl) ?_
    refine lv_iload_n hx hb dX3_weighState_42 rfl (lv_at hl 7 rfl) ?_
    refine b_lald hx hb hK hH k71 (Nat.lt_of_lt_of_le hk71.2 (by decide)) (enC_g41 cy q _ k71 hk71) (iv_in hp1 (by decide) (by decide)) rfl dX3_weighState_43 ?_
    refine h_l (fun w77 => ?_)
    refine lv_lstore (lv' := [(6, .long w77), (8, .long 0), (5, .ref (q k73)), (4, .ref (q k71)), (3, .int w70), (0, .ref (q 32)), (1, .int p0), (2, .int p1)]) hx hb dX3_weighState_44 hl (by decide) rfl (fun ls hl => ?_)
    refine lv_aload hx hb dX3_weighState_46 (lv_at hl 2 rfl) ?_
    refine lv_iload_n hx hb dX3_weighState_48 rfl (lv_at hl 7 rfl) ?_
    refine b_lald hx hb hK hH k73 (Nat.lt_of_lt_of_le hk73.2 (by decide)) (enC_g53 cy q _ k73 hk73) (iv_in hp1 (by decide) (by decide)) rfl dX3_weighState_49 ?_
    refine h_l (fun w78 => ?_)
    refine lv_lstore (lv' := [(8, .long w78), (6, .long w77), (5, .ref (q k73)), (4, .ref (q k71)), (3, .int w70), (0, .ref (q 32)), (1, .int p0), (2, .int p1)]) hx hb dX3_weighState_50 hl (by decide) rfl (fun ls hl => ?_)
    exact HJ52 w70 k71 k73 w77 w78 z0 H locs ls i70 hk71 hk73 hJ hH (lv_sub hl [5, 6, 7, 4, 3, 2, 1, 0] rfl)
set_option maxHeartbeats 4000000 in
set_option maxRecDepth 100000 in
theorem g_X3_weigh_32 (l : Launch) (D : va_G) (cy : Nat → ClassId) (q : Nat → Nat) (hq : bJ 66 q) (z0 : zS) (hI : IvC z0) (p0 : Int32) (hp0 : iv 0 10 p0) : bCv l yX3_weigh wsX3_weigh ({ frames := 2, cells := 0, slots := 0, locals := 63 }) D cy 66 (enC cy) q z0 [.ref (q 32), .int p0] (fun z => jJ IvC 0 0 31522998368337920 z0 z) := by
  refine hM_v cX3_weigh (by decide) rfl (own := RX3) rfl hq (Nat.le_of_ble_eq_true rfl) ?_
  intro p e s m args below meth c Q ls H locs hx hb hml hown hts hK hZ hH hl hret
  have hl : lv_has ls 4 [(0, .ref (q 32)), (1, .int p0)] := hl
  have hJ : jJ IvC 0 0 31522998368337920 z0 z0 := jJ_rf _ _ _ hI
  have HL30 : ∀ (n : Nat) (x2_30 : Int32) (z_30 : zS) (H : Heap) (locs : List Loc) (ls : Array Slot), iv (-1) 9 x2_30 → jJ IvC 0 0 31522998368337920 z0 z_30 → bH D 66 (enC cy) q z_30 s.heap H locs → lv_has ls 4 [(0, .ref (q 32)), (2, .int x2_30)] → (x2_30.toInt - (-1)).toNat = n → W p l e ({ frames := 2, cells := 0, slots := 0, locals := 63 }) s m args below meth c H locs 0 0 Q (F0 m 30 ls []) := by
    intro n30
    induction n30 using Nat.strongRecOn with
    | ind n30 ih30 =>
      intro x2_30 z_30 H locs ls h2_30 hJ hH hl hn30
      have HL36 : ∀ (n : Nat) (x3_36 : Int32) (z_36 : zS) (H : Heap) (locs : List Loc) (ls : Array Slot), iv 0 9 x2_30 → iv 0 1024 x3_36 → jJ IvC 0 0 31522998368337920 z0 z_36 → bH D 66 (enC cy) q z_36 s.heap H locs → lv_has ls 4 [(0, .ref (q 32)), (2, .int x2_30), (3, .int x3_36)] → (1024 - x3_36.toInt).toNat = n → W p l e ({ frames := 2, cells := 0, slots := 0, locals := 63 }) s m args below meth c H locs 0 0 Q (F0 m 36 ls []) := by
        intro n36
        induction n36 using Nat.strongRecOn with
        | ind n36 ih36 =>
          intro x3_36 z_36 H locs ls h2_36 h3_36 hJ hH hl hn36
          have HJ70 : ∀ (z_70 : zS) (H : Heap) (locs : List Loc) (ls : Array Slot), iv 0 1023 x3_36 → jJ IvC 0 0 31522998368337920 z0 z_70 → bH D 66 (enC cy) q z_70 s.heap H locs → lv_has ls 4 [(0, .ref (q 32)), (2, .int x2_30), (3, .int x3_36)] → W p l e ({ frames := 2, cells := 0, slots := 0, locals := 63 }) s m args below meth c H locs 0 0 Q (F0 m 70 ls []) := by
            intro z_70 H locs ls h3_70 hJ hH hl
            have j334 : iv 1 1024 (x3_36 + 1) := iv_add h3_70 (iv_lit (n := 1) 1 (by decide)) (by decide) (by decide) (by decide) (by decide)
            have e334 : (x3_36 + 1).toInt = x3_36.toInt + 1 := (iv_addE h3_70 (iv_lit (n := 1) 1 (by decide)) (by decide) (by decide)).trans rfl
            refine lv_iinc (v := (x3_36 + 1)) (lv' := [(3, .int (x3_36 + 1)), (0, .ref (q 32)), (2, .int x2_30)]) hx hb dX3_weigh_70 hl (k := 2) rfl rfl (by decide) rfl (fun ls hl => ?_)
            refine lv_goto (tgt := 36) hx hb dX3_weigh_73 (by decide) ?_
            exact ih36 _ (ms_up e334 j334.2 hn36) (x3_36 + 1) z_70 H locs ls h2_36 (iv_w j334 (by decide) (by decide)) hJ hH (lv_sub hl [1, 2, 0] rfl) rfl
          refine lv_iload_n hx hb dX3_weigh_36 rfl (lv_at hl 2 rfl) ?_
          refine lv_aload_n hx hb dX3_weigh_37 rfl (lv_at hl 0 rfl) ?_
          refine b_get (ci := 3) (C := RX3) (T := TX3) (Nf := 11) (v := .int (z_36.1 8)) hx hb hts in_X3_weigh_X3 hown hK hH 32 (by decide) rfl rfl 1 (by decide) (hts (.fieldLink RX3 9 "StationLine$Search" "all" "I") (List.mem_of_getElem? (i := 2) rfl)) rfl dX3_weigh_38 ?_
          have i335 := IvC_s8 hJ.1
          refine lv_icmp_gt (tgt := 76) hx hb dX3_weigh_41 (by decide) (fun c336 => ?_) (fun c336 => ?_)
          · skip
            have k337b : iv 1 1024 x3_36 := iv_ltr (iv_Lt c336) i335 h3_36 (by decide)
            have j338 : iv (-1) 8 (x2_30 + (-1)) := iv_add h2_36 (iv_lit (n := (-1)) (-1) (by decide)) (by decide) (by decide) (by decide) (by decide)
            have e338 : (x2_30 + (-1)).toInt = x2_30.toInt + (-1) := (iv_addE h2_36 (iv_lit (n := (-1)) (-1) (by decide)) (by decide) (by decide)).trans rfl
            obtain ⟨y338, hy338⟩ : ∃ y : Int32, x2_30 + (-1) = y := ⟨_, rfl⟩
            rw [hy338] at j338 e338
            refine lv_iinc (v := y338) (lv' := [(2, .int y338), (0, .ref (q 32)), (3, .int x3_36)]) hx hb dX3_weigh_76 hl (k := 1) rfl hy338 (by decide) rfl (fun ls hl => ?_)
            refine lv_goto (tgt := 30) hx hb dX3_weigh_79 (by decide) ?_
            exact ih30 _ (ms_down e338 j338.1 hn30) y338 z_36 H locs ls (iv_w j338 (by decide) (by decide)) hJ hH (lv_sub hl [1, 0] rfl) rfl
          · skip
            have k339a : iv 0 1023 x3_36 := iv_lel (iv_nLt c336) h3_36 i335
            refine lv_aload_n hx hb dX3_weigh_44 rfl (lv_at hl 0 rfl) ?_
            refine b_get (ci := 3) (C := RX3) (T := TX3) (Nf := 11) (v := .ref (q 37)) hx hb hts in_X3_weigh_X3 hown hK hH 32 (by decide) rfl rfl 6 (by decide) (hts (.fieldLink RX3 29 "StationLine$Search" "soonest" "[I") (List.mem_of_getElem? (i := 4) rfl)) rfl dX3_weigh_45 ?_
            refine lv_iload_n hx hb dX3_weigh_48 rfl (lv_at hl 2 rfl) ?_
            refine b_iald (v := z_36.2.1 37 (x3_36 : Int32).toNatClampNeg) hx hb hK hH 37 (by decide) rfl (iv_in k339a (by decide) (by decide)) rfl dX3_weigh_49 ?_
            refine lv_iload_n hx hb dX3_weigh_50 rfl (lv_at hl 1 rfl) ?_
            refine lv_icmp_gt (tgt := 70) hx hb dX3_weigh_51 (by decide) (fun c340 => ?_) (fun c340 => ?_)
            · skip
              have k341b : iv 1 2147483647 (z_36.2.1 37 (x3_36 : Int32).toNatClampNeg) := iv_ltr (iv_Lt c340) h2_36 (iv_all (z_36.2.1 37 (x3_36 : Int32).toNatClampNeg)) (by decide)
              exact HJ70  z_36 H locs ls k339a hJ hH (lv_sub hl [0, 1, 2] rfl)
            · skip
              have k342a : iv (-2147483648) 9 (z_36.2.1 37 (x3_36 : Int32).toNatClampNeg) := iv_lel (iv_nLt c340) (iv_all (z_36.2.1 37 (x3_36 : Int32).toNatClampNeg)) h2_36
              refine lv_iload_n hx hb dX3_weigh_54 rfl (lv_at hl 1 rfl) ?_
              refine lv_aload_n hx hb dX3_weigh_55 rfl (lv_at hl 0 rfl) ?_
              refine b_get (ci := 3) (C := RX3) (T := TX3) (Nf := 11) (v := .ref (q 38)) hx hb hts in_X3_weigh_X3 hown hK hH 32 (by decide) rfl rfl 7 (by decide) (hts (.fieldLink RX3 32 "StationLine$Search" "latest" "[I") (List.mem_of_getElem? (i := 5) rfl)) rfl dX3_weigh_56 ?_
              refine lv_iload_n hx hb dX3_weigh_59 rfl (lv_at hl 2 rfl) ?_
              refine b_iald (v := z_36.2.1 38 (x3_36 : Int32).toNatClampNeg) hx hb hK hH 38 (by decide) rfl (iv_in k339a (by decide) (by decide)) rfl dX3_weigh_60 ?_
              refine lv_icmp_gt (tgt := 70) hx hb dX3_weigh_61 (by decide) (fun c343 => ?_) (fun c343 => ?_)
              · skip
                have k344a : iv (-2147483648) 8 (z_36.2.1 38 (x3_36 : Int32).toNatClampNeg) := iv_ltl (iv_Lt c343) (iv_all (z_36.2.1 38 (x3_36 : Int32).toNatClampNeg)) h2_36 (by decide)
                exact HJ70  z_36 H locs ls k339a hJ hH (lv_sub hl [0, 1, 2] rfl)
              · skip
                have k345b : iv 0 2147483647 (z_36.2.1 38 (x3_36 : Int32).toNatClampNeg) := iv_ler (iv_nLt c343) h2_36 (iv_all (z_36.2.1 38 (x3_36 : Int32).toNatClampNeg))
                refine lv_aload_n hx hb dX3_weigh_64 rfl (lv_at hl 0 rfl) ?_
                refine lv_iload_n hx hb dX3_weigh_65 rfl (lv_at hl 1 rfl) ?_
                refine lv_iload_n hx hb dX3_weigh_66 rfl (lv_at hl 2 rfl) ?_
                refine b_callv (As := [.int x2_30, .int x3_36]) (rest := []) ⟨hx, hb, hml, hown, hts⟩ 32 3 (g_X3_weighState_32 l D cy q hH.2.1 z_36 hJ.1 x2_30 h2_36 x3_36 k339a) (cwV 2 hts gX3_weigh_X3_weighState rfl rfl rfl (by decide +kernel) ⟨Nat.le_of_ble_eq_true rfl, Nat.le_of_ble_eq_true rfl⟩) hK hZ hH (by decide) rfl rfl rfl hl.1 rfl (Nat.le_of_ble_eq_true rfl) ⟨Nat.zero_le _, Nat.zero_le _⟩ dX3_weigh_67 (fun z346 H locs hp hH => ?_)
                have hJ := jJ_tr hJ hp (by decide) (by decide) (by decide)
                have hA346 := hp.2
                exact HJ70  z346 H locs ls k339a hJ hH (lv_sub hl [0, 1, 2] rfl)
      refine lv_iload_n hx hb dX3_weigh_30 rfl (lv_at hl 1 rfl) ?_
      refine lv_if_lt (tgt := 82) hx hb dX3_weigh_31 (by decide) (fun c347 => ?_) (fun c347 => ?_)
      · skip
        have k348a : iv (-1) (-1) x2_30 := iv_ltl (iv_Lt c347) h2_30 (iv_lit (n := 0) 0 (by decide)) (by decide)
        exact hret z_30 H locs _ _ hJ hH dX3_weigh_82
      · skip
        have k349b : iv 0 9 x2_30 := iv_ler (iv_nLt c347) (iv_lit (n := 0) 0 (by decide)) h2_30
        refine lv_iconst (v := 0) hx hb dX3_weigh_34 (by decide) ?_
        refine lv_istore_n (lv' := [(3, .int 0), (0, .ref (q 32)), (2, .int x2_30)]) hx hb dX3_weigh_35 rfl hl (by decide) rfl (fun ls hl => ?_)
        exact HL36 _ 0 z_30 H locs ls k349b (iv_w (iv_lit (n := 0) 0 (by decide)) (by decide) (by decide)) hJ hH (lv_sub hl [1, 2, 0] rfl) rfl
  refine lv_aload_n hx hb dX3_weigh_0 rfl (lv_at hl 0 rfl) ?_
  refine b_get (ci := 3) (C := RX3) (T := TX3) (Nf := 11) (v := .ref (q 40)) hx hb hts in_X3_weigh_X3 hown hK hH 32 (by decide) rfl rfl 9 (by decide) (hts (.fieldLink RX3 40 "StationLine$Search" "costs" "[[J") (List.mem_of_getElem? (i := 1) rfl)) rfl dX3_weigh_1 ?_
  refine lv_iload_n hx hb dX3_weigh_4 rfl (lv_at hl 1 rfl) ?_
  refine h_aaldE (n := 11) hx hb hK hH 40 4 41 (by decide) rfl rfl (iv_in hp0 (by decide) (by decide)) dX3_weigh_5 (fun k350 hk350 ek350 => ?_)
  refine lv_aload_n hx hb dX3_weigh_6 rfl (lv_at hl 0 rfl) ?_
  refine b_get (ci := 3) (C := RX3) (T := TX3) (Nf := 11) (v := .int (z0.1 8)) hx hb hts in_X3_weigh_X3 hown hK hH 32 (by decide) rfl rfl 1 (by decide) (hts (.fieldLink RX3 9 "StationLine$Search" "all" "I") (List.mem_of_getElem? (i := 2) rfl)) rfl dX3_weigh_7 ?_
  have i351 := IvC_s8 hJ.1
  refine lv_lconst (v := 0) hx hb dX3_weigh_10 (by decide) ?_
  refine b_last hx hb hK hH k350 (Nat.lt_of_lt_of_le hk350.2 (by decide)) (enC_g41 cy q _ k350 hk350) (iv_in i351 (by decide) (by decide)) (upL z0 k350 (vp_updL (z0.2.2 k350) (z0.1 8 : Int32).toNatClampNeg 0)) (enC_sl41 cy q _ k350 _ hk350) (enC_L _ _ _ _ _) dX3_weigh_11 (fun H locs hH => ?_)
  obtain ⟨z352, hz352⟩ : ∃ w : zS, w = upL z0 k350 (vp_updL (z0.2.2 k350) (z0.1 8 : Int32).toNatClampNeg 0) := ⟨_, rfl⟩
  rw [← hz352] at hH
  have hJ : jJ IvC 0 0 31522998368337920 z0 z352 := by rw [hz352]; exact jJ_L hJ (tb_grp (g0 := 41) (n := 11) (by decide) hk350) (IvC_L hJ.1)
  refine lv_aload_n hx hb dX3_weigh_12 rfl (lv_at hl 0 rfl) ?_
  refine b_get (ci := 3) (C := RX3) (T := TX3) (Nf := 11) (v := .ref (q 52)) hx hb hts in_X3_weigh_X3 hown hK hH 32 (by decide) rfl rfl 10 (by decide) (hts (.fieldLink RX3 43 "StationLine$Search" "ways" "[[J") (List.mem_of_getElem? (i := 3) rfl)) rfl dX3_weigh_13 ?_
  refine lv_iload_n hx hb dX3_weigh_16 rfl (lv_at hl 1 rfl) ?_
  refine lv_iconst (v := 1) hx hb dX3_weigh_17 (by decide) ?_
  refine lv_iand hx hb dX3_weigh_18 ?_
  refine h_i (a := 0) (b := 1) (iv_and2 hp0 (iv_lit (n := 1) 1 (by decide)) (by decide) (by decide)) (fun w353 i353 => ?_)
  refine h_aaldE (n := 2) hx hb hK hH 52 4 53 (by decide) rfl rfl (iv_in i353 (by decide) (by decide)) dX3_weigh_19 (fun k354 hk354 ek354 => ?_)
  refine lv_aload_n hx hb dX3_weigh_20 rfl (lv_at hl 0 rfl) ?_
  refine b_get (ci := 3) (C := RX3) (T := TX3) (Nf := 11) (v := .int (z352.1 8)) hx hb hts in_X3_weigh_X3 hown hK hH 32 (by decide) rfl rfl 1 (by decide) (hts (.fieldLink RX3 9 "StationLine$Search" "all" "I") (List.mem_of_getElem? (i := 2) rfl)) rfl dX3_weigh_21 ?_
  have i355 := IvC_s8 hJ.1
  refine lv_lconst (v := 1) hx hb dX3_weigh_24 (by decide) ?_
  refine b_last hx hb hK hH k354 (Nat.lt_of_lt_of_le hk354.2 (by decide)) (enC_g53 cy q _ k354 hk354) (iv_in i355 (by decide) (by decide)) (upL z352 k354 (vp_updL (z352.2.2 k354) (z352.1 8 : Int32).toNatClampNeg 1)) (enC_sl53 cy q _ k354 _ hk354) (enC_L _ _ _ _ _) dX3_weigh_25 (fun H locs hH => ?_)
  obtain ⟨z356, hz356⟩ : ∃ w : zS, w = upL z352 k354 (vp_updL (z352.2.2 k354) (z352.1 8 : Int32).toNatClampNeg 1) := ⟨_, rfl⟩
  rw [← hz356] at hH
  have hJ : jJ IvC 0 0 31522998368337920 z0 z356 := by rw [hz356]; exact jJ_L hJ (tb_grp (g0 := 53) (n := 2) (by decide) hk354) (IvC_L hJ.1)
  refine lv_iload_n hx hb dX3_weigh_26 rfl (lv_at hl 1 rfl) ?_
  refine lv_iconst (v := 1) hx hb dX3_weigh_27 (by decide) ?_
  refine lv_isub hx hb dX3_weigh_28 ?_
  refine h_iE (a := (-1)) (b := 9) (t := p0.toInt - 1) (iv_sub hp0 (iv_lit (n := 1) 1 (by decide)) (by decide) (by decide) (by decide) (by decide)) ((iv_subE hp0 (iv_lit (n := 1) 1 (by decide)) (by decide) (by decide)).trans rfl) (fun w357 i357 e357 => ?_)
  refine lv_istore_n (lv' := [(2, .int w357), (0, .ref (q 32)), (1, .int p0)]) hx hb dX3_weigh_29 rfl hl (by decide) rfl (fun ls hl => ?_)
  exact HL30 _ w357 z356 H locs ls i357 hJ hH (lv_sub hl [1, 0] rfl) rfl
set_option maxHeartbeats 4000000 in
set_option maxRecDepth 100000 in
theorem g_X3_waysFor_32 (l : Launch) (D : va_G) (cy : Nat → ClassId) (q : Nat → Nat) (hq : bJ 66 q) (z0 : zS) (hI : IvC z0) (p0 : Int32) (hp0 : iv 0 10 p0) : bCl l yX3_waysFor wsX3_waysFor ({ frames := 3, cells := 0, slots := 0, locals := 86 }) D cy 66 (enC cy) q z0 [.ref (q 32), .int p0] (fun v z => jJ IvC 0 274877906944 31522998368337920 z0 z) := by
  refine hM_l cX3_waysFor (by decide) rfl (own := RX3) rfl hq (Nat.le_of_ble_eq_true rfl) ?_
  intro p e s m args below meth c Q ls H locs hx hb hml hown hts hK hZ hH hl hret
  have hl : lv_has ls 2 [(0, .ref (q 32)), (1, .int p0)] := hl
  have hJ : jJ IvC 0 274877906944 31522998368337920 z0 z0 := jJ_rf _ _ _ hI
  refine lv_aload_n hx hb dX3_waysFor_0 rfl (lv_at hl 0 rfl) ?_
  refine lv_iload_n hx hb dX3_waysFor_1 rfl (lv_at hl 1 rfl) ?_
  refine b_callv (As := [.int p0]) (rest := []) ⟨hx, hb, hml, hown, hts⟩ 32 3 (g_X3_lookBack_32 l D cy q hH.2.1 z0 hJ.1 p0) (cwV 1 hts gX3_waysFor_X3_lookBack rfl rfl rfl (by decide +kernel) ⟨Nat.le_of_ble_eq_true rfl, Nat.le_of_ble_eq_true rfl⟩) hK hZ hH (by decide) rfl rfl rfl hl.1 rfl (Nat.le_of_ble_eq_true rfl) ⟨Nat.zero_le _, Nat.zero_le _⟩ dX3_waysFor_2 (fun z4 H locs hp hH => ?_)
  have hJ := jJ_tr hJ hp (by decide) (by decide) (by decide)
  have hA4 := hp.2
  refine lv_aload_n hx hb dX3_waysFor_5 rfl (lv_at hl 0 rfl) ?_
  refine lv_iload_n hx hb dX3_waysFor_6 rfl (lv_at hl 1 rfl) ?_
  refine b_callv (As := [.int p0]) (rest := []) ⟨hx, hb, hml, hown, hts⟩ 32 3 (g_X3_weigh_32 l D cy q hH.2.1 z4 hJ.1 p0 hp0) (cwV 1 hts gX3_waysFor_X3_weigh rfl rfl rfl (by decide +kernel) ⟨Nat.le_of_ble_eq_true rfl, Nat.le_of_ble_eq_true rfl⟩) hK hZ hH (by decide) rfl rfl rfl hl.1 rfl (Nat.le_of_ble_eq_true rfl) ⟨Nat.zero_le _, Nat.zero_le _⟩ dX3_waysFor_7 (fun z5 H locs hp hH => ?_)
  have hJ := jJ_tr hJ hp (by decide) (by decide) (by decide)
  have hA5 := hp.2
  refine lv_aload_n hx hb dX3_waysFor_10 rfl (lv_at hl 0 rfl) ?_
  refine b_get (ci := 3) (C := RX3) (T := TX3) (Nf := 11) (v := .ref (q 52)) hx hb hts in_X3_waysFor_X3 hown hK hH 32 (by decide) rfl rfl 10 (by decide) (hts (.fieldLink RX3 43 "StationLine$Search" "ways" "[[J") (List.mem_of_getElem? (i := 1) rfl)) rfl dX3_waysFor_11 ?_
  refine lv_iconst (v := 0) hx hb dX3_waysFor_14 (by decide) ?_
  refine b_aald (a := q 53) hx hb hK hH 52 4 (by decide) rfl rfl (by unfold vp_in; decide) rfl dX3_waysFor_15 ?_
  refine lv_iconst (v := 0) hx hb dX3_waysFor_16 (by decide) ?_
  refine b_lald hx hb hK hH 53 (by decide) rfl (by unfold vp_in; decide) rfl dX3_waysFor_17 ?_
  refine h_l (fun w6 => ?_)
  exact hret _ z5 H locs _ _ hJ hH dX3_waysFor_18
set_option maxHeartbeats 4000000 in
set_option maxRecDepth 100000 in
theorem g_X3_costFor_32 (l : Launch) (D : va_G) (cy : Nat → ClassId) (q : Nat → Nat) (hq : bJ 66 q) (z0 : zS) (hI : IvC z0) (p0 : Int32) (hp0 : iv 0 10 p0) : bCl l yX3_costFor wsX3_costFor ({ frames := 3, cells := 0, slots := 0, locals := 86 }) D cy 66 (enC cy) q z0 [.ref (q 32), .int p0] (fun v z => jJ IvC 0 274877906944 31522998368337920 z0 z) := by
  refine hM_l cX3_costFor (by decide) rfl (own := RX3) rfl hq (Nat.le_of_ble_eq_true rfl) ?_
  intro p e s m args below meth c Q ls H locs hx hb hml hown hts hK hZ hH hl hret
  have hl : lv_has ls 2 [(0, .ref (q 32)), (1, .int p0)] := hl
  have hJ : jJ IvC 0 274877906944 31522998368337920 z0 z0 := jJ_rf _ _ _ hI
  refine lv_aload_n hx hb dX3_costFor_0 rfl (lv_at hl 0 rfl) ?_
  refine lv_iload_n hx hb dX3_costFor_1 rfl (lv_at hl 1 rfl) ?_
  refine b_callv (As := [.int p0]) (rest := []) ⟨hx, hb, hml, hown, hts⟩ 32 3 (g_X3_lookBack_32 l D cy q hH.2.1 z0 hJ.1 p0) (cwV 1 hts gX3_costFor_X3_lookBack rfl rfl rfl (by decide +kernel) ⟨Nat.le_of_ble_eq_true rfl, Nat.le_of_ble_eq_true rfl⟩) hK hZ hH (by decide) rfl rfl rfl hl.1 rfl (Nat.le_of_ble_eq_true rfl) ⟨Nat.zero_le _, Nat.zero_le _⟩ dX3_costFor_2 (fun z4 H locs hp hH => ?_)
  have hJ := jJ_tr hJ hp (by decide) (by decide) (by decide)
  have hA4 := hp.2
  refine lv_aload_n hx hb dX3_costFor_5 rfl (lv_at hl 0 rfl) ?_
  refine lv_iload_n hx hb dX3_costFor_6 rfl (lv_at hl 1 rfl) ?_
  refine b_callv (As := [.int p0]) (rest := []) ⟨hx, hb, hml, hown, hts⟩ 32 3 (g_X3_weigh_32 l D cy q hH.2.1 z4 hJ.1 p0 hp0) (cwV 1 hts gX3_costFor_X3_weigh rfl rfl rfl (by decide +kernel) ⟨Nat.le_of_ble_eq_true rfl, Nat.le_of_ble_eq_true rfl⟩) hK hZ hH (by decide) rfl rfl rfl hl.1 rfl (Nat.le_of_ble_eq_true rfl) ⟨Nat.zero_le _, Nat.zero_le _⟩ dX3_costFor_7 (fun z5 H locs hp hH => ?_)
  have hJ := jJ_tr hJ hp (by decide) (by decide) (by decide)
  have hA5 := hp.2
  refine lv_aload_n hx hb dX3_costFor_10 rfl (lv_at hl 0 rfl) ?_
  refine b_get (ci := 3) (C := RX3) (T := TX3) (Nf := 11) (v := .ref (q 40)) hx hb hts in_X3_costFor_X3 hown hK hH 32 (by decide) rfl rfl 9 (by decide) (hts (.fieldLink RX3 40 "StationLine$Search" "costs" "[[J") (List.mem_of_getElem? (i := 1) rfl)) rfl dX3_costFor_11 ?_
  refine lv_iconst (v := 0) hx hb dX3_costFor_14 (by decide) ?_
  refine b_aald (a := q 41) hx hb hK hH 40 4 (by decide) rfl rfl (by unfold vp_in; decide) rfl dX3_costFor_15 ?_
  refine lv_iconst (v := 0) hx hb dX3_costFor_16 (by decide) ?_
  refine b_lald hx hb hK hH 41 (by decide) rfl (by unfold vp_in; decide) rfl dX3_costFor_17 ?_
  refine h_l (fun w6 => ?_)
  exact hret _ z5 H locs _ _ hJ hH dX3_costFor_18
set_option maxHeartbeats 4000000 in
set_option maxRecDepth 100000 in
theorem g_X3_firstSet_32 (l : Launch) (D : va_G) (cy : Nat → ClassId) (q : Nat → Nat) (hq : bJ 66 q) (z0 : zS) (hI : IvC z0) (p0 : Int32) (hp0 : iv 1 10 p0) (p1 : Int32) (hp1 : iv 0 1023 p1) (p2 : Int32) : bCi l yX3_firstSet wsX3_firstSet ({ frames := 0, cells := 0, slots := 0, locals := 0 }) D cy 66 (enC cy) q z0 [.ref (q 32), .int p0, .int p1, .int p2] (fun v z => jJ IvC 0 0 0 z0 z ∧ iv 0 1023 v) := by
  refine hM_i cX3_firstSet (by decide) rfl (own := RX3) rfl hq (Nat.le_of_ble_eq_true rfl) ?_
  intro p e s m args below meth c Q ls H locs hx hb hml hown hts hK hZ hH hl hret
  have hl : lv_has ls 8 [(0, .ref (q 32)), (1, .int p0), (2, .int p1), (3, .int p2)] := hl
  have hJ : jJ IvC 0 0 0 z0 z0 := jJ_rf _ _ _ hI
  have HL3 : ∀ (n : Nat) (x4_3 : Int32) (H : Heap) (locs : List Loc) (ls : Array Slot), iv 0 1024 x4_3 → bH D 66 (enC cy) q z0 s.heap H locs → lv_has ls 8 [(0, .ref (q 32)), (1, .int p0), (2, .int p1), (3, .int p2), (4, .int x4_3)] → (1024 - x4_3.toInt).toNat = n → W p l e ({ frames := 0, cells := 0, slots := 0, locals := 0 }) s m args below meth c H locs 0 0 Q (F0 m 3 ls []) := by
    intro n3
    induction n3 using Nat.strongRecOn with
    | ind n3 ih3 =>
      intro x4_3 H locs ls h4_3 hH hl hn3
      have HJ106 : ∀ (H : Heap) (locs : List Loc) (ls : Array Slot), iv 0 1023 x4_3 → bH D 66 (enC cy) q z0 s.heap H locs → lv_has ls 8 [(0, .ref (q 32)), (1, .int p0), (2, .int p1), (3, .int p2), (4, .int x4_3)] → W p l e ({ frames := 0, cells := 0, slots := 0, locals := 0 }) s m args below meth c H locs 0 0 Q (F0 m 106 ls []) := by
        intro H locs ls h4_106 hH hl
        have j833 : iv 1 1024 (x4_3 + 1) := iv_add h4_106 (iv_lit (n := 1) 1 (by decide)) (by decide) (by decide) (by decide) (by decide)
        have e833 : (x4_3 + 1).toInt = x4_3.toInt + 1 := (iv_addE h4_106 (iv_lit (n := 1) 1 (by decide)) (by decide) (by decide)).trans rfl
        refine lv_iinc (v := (x4_3 + 1)) (lv' := [(4, .int (x4_3 + 1)), (0, .ref (q 32)), (1, .int p0), (2, .int p1), (3, .int p2)]) hx hb dX3_firstSet_106 hl (k := 4) rfl rfl (by decide) rfl (fun ls hl => ?_)
        refine lv_goto (tgt := 3) hx hb dX3_firstSet_109 (by decide) ?_
        exact ih3 _ (ms_up e833 j833.2 hn3) (x4_3 + 1)  H locs ls (iv_w j833 (by decide) (by decide))  hH (lv_sub hl [1, 2, 3, 4, 0] rfl) rfl
      have HJ60 : ∀ (x5_60 : Int32) (H : Heap) (locs : List Loc) (ls : Array Slot), iv 0 1023 x4_3 → iv 0 1023 x5_60 → bH D 66 (enC cy) q z0 s.heap H locs → lv_has ls 8 [(0, .ref (q 32)), (1, .int p0), (2, .int p1), (3, .int p2), (4, .int x4_3), (5, .int x5_60)] → W p l e ({ frames := 0, cells := 0, slots := 0, locals := 0 }) s m args below meth c H locs 0 0 Q (F0 m 60 ls []) := by
        intro x5_60 H locs ls h4_60 h5_60 hH hl
        have HJ103 : ∀ (H : Heap) (locs : List Loc) (ls : Array Slot), bH D 66 (enC cy) q z0 s.heap H locs → lv_has ls 8 [(4, .int x4_3)] → W p l e ({ frames := 0, cells := 0, slots := 0, locals := 0 }) s m args below meth c H locs 0 0 Q (F0 m 103 ls []) := by
          intro H locs ls hH hl
          refine lv_iload hx hb dX3_firstSet_103 (lv_at hl 0 rfl) ?_
          exact hret _ z0 H locs _ _ ⟨hJ, h4_60⟩ hH dX3_firstSet_105
        refine lv_aload_n hx hb dX3_firstSet_60 rfl (lv_at hl 0 rfl) ?_
        refine b_get (ci := 3) (C := RX3) (T := TX3) (Nf := 11) (v := .ref (q 33)) hx hb hts in_X3_firstSet_X3 hown hK hH 32 (by decide) rfl rfl 2 (by decide) (hts (.fieldLink RX3 15 "StationLine$Search" "loads" "[I") (List.mem_of_getElem? (i := 4) rfl)) rfl dX3_firstSet_61 ?_
        refine lv_iload hx hb dX3_firstSet_64 (lv_at hl 4 rfl) ?_
        refine b_iald (v := z0.2.1 33 (x4_3 : Int32).toNatClampNeg) hx hb hK hH 33 (by decide) rfl (iv_in h4_60 (by decide) (by decide)) rfl dX3_firstSet_66 ?_
        refine lv_i2l hx hb dX3_firstSet_67 rfl ?_
        refine h_l (fun w834 => ?_)
        refine lv_lstore (lv' := [(6, .long w834), (0, .ref (q 32)), (1, .int p0), (2, .int p1), (3, .int p2), (4, .int x4_3), (5, .int x5_60)]) hx hb dX3_firstSet_68 hl (by decide) rfl (fun ls hl => ?_)
        refine lv_iload_n hx hb dX3_firstSet_70 rfl (lv_at hl 4 rfl) ?_
        refine lv_if_eq (tgt := 103) hx hb dX3_firstSet_71 (by decide) (fun c835 => ?_) (fun c835 => ?_)
        · skip
          have k836a : iv 0 0 p2 := iv_eql (iv_Eq c835) (iv_all p2) (iv_lit (n := 0) 0 (by decide)) (by decide) (by decide)
          exact HJ103   H locs ls   hH (lv_sub hl [5] rfl)
        · skip
          refine lv_lload hx hb dX3_firstSet_74 (lv_at hl 0 rfl) ?_
          refine lv_lload hx hb dX3_firstSet_76 (lv_at hl 0 rfl) ?_
          refine lv_lmul hx hb dX3_firstSet_78 ?_
          refine h_l (fun w838 => ?_)
          refine lv_aload_n hx hb dX3_firstSet_79 rfl (lv_at hl 1 rfl) ?_
          refine b_get (ci := 3) (C := RX3) (T := TX3) (Nf := 11) (v := .ref (q 40)) hx hb hts in_X3_firstSet_X3 hown hK hH 32 (by decide) rfl rfl 9 (by decide) (hts (.fieldLink RX3 40 "StationLine$Search" "costs" "[[J") (List.mem_of_getElem? (i := 5) rfl)) rfl dX3_firstSet_80 ?_
          refine lv_iload_n hx hb dX3_firstSet_83 rfl (lv_at hl 2 rfl) ?_
          refine h_aaldE (n := 11) hx hb hK hH 40 4 41 (by decide) rfl rfl (iv_in hp0 (by decide) (by decide)) dX3_firstSet_84 (fun k839 hk839 ek839 => ?_)
          refine lv_iload hx hb dX3_firstSet_85 (lv_at hl 6 rfl) ?_
          refine b_lald hx hb hK hH k839 (Nat.lt_of_lt_of_le hk839.2 (by decide)) (enC_g41 cy q _ k839 hk839) (iv_in h5_60 (by decide) (by decide)) rfl dX3_firstSet_87 ?_
          refine h_l (fun w840 => ?_)
          refine lv_ladd hx hb dX3_firstSet_88 ?_
          refine h_l (fun w841 => ?_)
          refine lv_aload_n hx hb dX3_firstSet_89 rfl (lv_at hl 1 rfl) ?_
          refine b_get (ci := 3) (C := RX3) (T := TX3) (Nf := 11) (v := .ref (q 40)) hx hb hts in_X3_firstSet_X3 hown hK hH 32 (by decide) rfl rfl 9 (by decide) (hts (.fieldLink RX3 40 "StationLine$Search" "costs" "[[J") (List.mem_of_getElem? (i := 5) rfl)) rfl dX3_firstSet_90 ?_
          refine lv_iload_n hx hb dX3_firstSet_93 rfl (lv_at hl 2 rfl) ?_
          refine lv_iconst (v := 1) hx hb dX3_firstSet_94 (by decide) ?_
          refine lv_isub hx hb dX3_firstSet_95 ?_
          refine h_iE (a := 0) (b := 9) (t := p0.toInt - 1) (iv_sub hp0 (iv_lit (n := 1) 1 (by decide)) (by decide) (by decide) (by decide) (by decide)) ((iv_subE hp0 (iv_lit (n := 1) 1 (by decide)) (by decide) (by decide)).trans rfl) (fun w842 i842 e842 => ?_)
          refine h_aaldE (n := 11) hx hb hK hH 40 4 41 (by decide) rfl rfl (iv_in i842 (by decide) (by decide)) dX3_firstSet_96 (fun k843 hk843 ek843 => ?_)
          refine lv_iload_n hx hb dX3_firstSet_97 rfl (lv_at hl 3 rfl) ?_
          refine b_lald hx hb hK hH k843 (Nat.lt_of_lt_of_le hk843.2 (by decide)) (enC_g41 cy q _ k843 hk843) (iv_in hp1 (by decide) (by decide)) rfl dX3_firstSet_98 ?_
          refine h_l (fun w844 => ?_)
          refine W.lcmp hx hb dX3_firstSet_99 ?_
          refine lv_topi (fun w845 _ => ?_)
          refine lv_if_ne (tgt := 106) hx hb dX3_firstSet_100 (by decide) (fun c846 => ?_) (fun c846 => ?_)
          · skip
            exact HJ106   H locs ls h4_60  hH (lv_sub hl [1, 2, 3, 4, 5] rfl)
          · skip
            have k848a : iv 0 0 w845 := iv_eql (iv_Eq c846) (iv_all w845) (iv_lit (n := 0) 0 (by decide)) (by decide) (by decide)
            exact HJ103   H locs ls   hH (lv_sub hl [5] rfl)
      refine lv_iload hx hb dX3_firstSet_3 (lv_at hl 4 rfl) ?_
      refine lv_aload_n hx hb dX3_firstSet_5 rfl (lv_at hl 0 rfl) ?_
      refine b_get (ci := 3) (C := RX3) (T := TX3) (Nf := 11) (v := .int (z0.1 8)) hx hb hts in_X3_firstSet_X3 hown hK hH 32 (by decide) rfl rfl 1 (by decide) (hts (.fieldLink RX3 9 "StationLine$Search" "all" "I") (List.mem_of_getElem? (i := 1) rfl)) rfl dX3_firstSet_6 ?_
      have i849 := IvC_s8 hJ.1
      refine lv_icmp_gt (tgt := 112) hx hb dX3_firstSet_9 (by decide) (fun c850 => ?_) (fun c850 => ?_)
      · skip
        have k851b : iv 1 1024 x4_3 := iv_ltr (iv_Lt c850) i849 h4_3 (by decide)
        refine lv_iconst (v := 0) hx hb dX3_firstSet_112 (by decide) ?_
        exact hret _ z0 H locs _ _ ⟨hJ, (iv_w (iv_lit (n := 0) 0 (by decide)) (by decide) (by decide))⟩ hH dX3_firstSet_113
      · skip
        have k852a : iv 0 1023 x4_3 := iv_lel (iv_nLt c850) h4_3 i849
        refine lv_iload_n hx hb dX3_firstSet_12 rfl (lv_at hl 2 rfl) ?_
        refine lv_iload hx hb dX3_firstSet_13 (lv_at hl 4 rfl) ?_
        refine lv_ior hx hb dX3_firstSet_15 ?_
        refine h_i (a := 0) (b := 1023) (iv_or 10 (b := 1023) (d := 1023) (iv_w hp1 (by decide) (by decide)) (iv_w k852a (by decide) (by decide)) (by decide) (by decide) (by decide) (by decide)) (fun w853 i853 => ?_)
        refine lv_istore (lv' := [(5, .int w853), (0, .ref (q 32)), (1, .int p0), (2, .int p1), (3, .int p2), (4, .int x4_3)]) hx hb dX3_firstSet_16 hl (by decide) rfl (fun ls hl => ?_)
        refine lv_iload hx hb dX3_firstSet_18 (lv_at hl 5 rfl) ?_
        refine lv_iload_n hx hb dX3_firstSet_20 rfl (lv_at hl 3 rfl) ?_
        refine lv_iand hx hb dX3_firstSet_21 ?_
        refine h_iL (a := 0) (b := 1023) (iv_and k852a hp1 (by decide) (by decide)) (iv_andlt k852a (by decide)) (fun w854 i854 e854 => ?_)
        refine lv_if_ne (tgt := 106) hx hb dX3_firstSet_22 (by decide) (fun c855 => ?_) (fun c855 => ?_)
        · skip
          have k856a : iv 1 1023 w854 := iv_neLo (iv_nEq c855) i854 (by decide) (by decide)
          exact HJ106   H locs ls k852a  hH (lv_sub hl [1, 2, 3, 4, 5] rfl)
        · skip
          have k857a : iv 0 0 w854 := iv_eql (iv_Eq c855) i854 (iv_lit (n := 0) 0 (by decide)) (by decide) (by decide)
          refine lv_iload_n hx hb dX3_firstSet_25 rfl (lv_at hl 2 rfl) ?_
          refine lv_aload_n hx hb dX3_firstSet_26 rfl (lv_at hl 1 rfl) ?_
          refine b_get (ci := 3) (C := RX3) (T := TX3) (Nf := 11) (v := .ref (q 38)) hx hb hts in_X3_firstSet_X3 hown hK hH 32 (by decide) rfl rfl 7 (by decide) (hts (.fieldLink RX3 32 "StationLine$Search" "latest" "[I") (List.mem_of_getElem? (i := 2) rfl)) rfl dX3_firstSet_27 ?_
          refine lv_iload hx hb dX3_firstSet_30 (lv_at hl 0 rfl) ?_
          refine b_iald (v := z0.2.1 38 (w853 : Int32).toNatClampNeg) hx hb hK hH 38 (by decide) rfl (iv_in i853 (by decide) (by decide)) rfl dX3_firstSet_32 ?_
          refine lv_icmp_gt (tgt := 106) hx hb dX3_firstSet_33 (by decide) (fun c858 => ?_) (fun c858 => ?_)
          · skip
            have k859a : iv (-2147483648) 9 (z0.2.1 38 (w853 : Int32).toNatClampNeg) := iv_ltl (iv_Lt c858) (iv_all (z0.2.1 38 (w853 : Int32).toNatClampNeg)) hp0 (by decide)
            exact HJ106   H locs ls k852a  hH (lv_sub hl [1, 2, 3, 4, 5] rfl)
          · skip
            have k860b : iv 1 2147483647 (z0.2.1 38 (w853 : Int32).toNatClampNeg) := iv_ler (iv_nLt c858) hp0 (iv_all (z0.2.1 38 (w853 : Int32).toNatClampNeg))
            refine lv_aload_n hx hb dX3_firstSet_36 rfl (lv_at hl 1 rfl) ?_
            refine b_get (ci := 3) (C := RX3) (T := TX3) (Nf := 11) (v := .ref (q 36)) hx hb hts in_X3_firstSet_X3 hown hK hH 32 (by decide) rfl rfl 5 (by decide) (hts (.fieldLink RX3 26 "StationLine$Search" "places" "[I") (List.mem_of_getElem? (i := 3) rfl)) rfl dX3_firstSet_37 ?_
            refine lv_iload hx hb dX3_firstSet_40 (lv_at hl 5 rfl) ?_
            refine b_iald (v := z0.2.1 36 (x4_3 : Int32).toNatClampNeg) hx hb hK hH 36 (by decide) rfl (iv_in k852a (by decide) (by decide)) rfl dX3_firstSet_42 ?_
            refine lv_if_eq (tgt := 60) hx hb dX3_firstSet_43 (by decide) (fun c861 => ?_) (fun c861 => ?_)
            · skip
              have k862a : iv 0 0 (z0.2.1 36 (x4_3 : Int32).toNatClampNeg) := iv_eql (iv_Eq c861) (iv_all (z0.2.1 36 (x4_3 : Int32).toNatClampNeg)) (iv_lit (n := 0) 0 (by decide)) (by decide) (by decide)
              exact HJ60 w853  H locs ls k852a i853  hH (lv_sub hl [1, 2, 3, 4, 5, 0] rfl)
            · skip
              refine lv_aload_n hx hb dX3_firstSet_46 rfl (lv_at hl 1 rfl) ?_
              refine b_get (ci := 3) (C := RX3) (T := TX3) (Nf := 11) (v := .ref (q 36)) hx hb hts in_X3_firstSet_X3 hown hK hH 32 (by decide) rfl rfl 5 (by decide) (hts (.fieldLink RX3 26 "StationLine$Search" "places" "[I") (List.mem_of_getElem? (i := 3) rfl)) rfl dX3_firstSet_47 ?_
              refine lv_iload hx hb dX3_firstSet_50 (lv_at hl 5 rfl) ?_
              refine b_iald (v := z0.2.1 36 (x4_3 : Int32).toNatClampNeg) hx hb hK hH 36 (by decide) rfl (iv_in k852a (by decide) (by decide)) rfl dX3_firstSet_52 ?_
              refine lv_iload_n hx hb dX3_firstSet_53 rfl (lv_at hl 2 rfl) ?_
              refine lv_icmp_eq (tgt := 60) hx hb dX3_firstSet_54 (by decide) (fun c864 => ?_) (fun c864 => ?_)
              · skip
                have k865a : iv 1 10 (z0.2.1 36 (x4_3 : Int32).toNatClampNeg) := iv_eql (iv_Eq c864) (iv_all (z0.2.1 36 (x4_3 : Int32).toNatClampNeg)) hp0 (by decide) (by decide)
                exact HJ60 w853  H locs ls k852a i853  hH (lv_sub hl [1, 2, 3, 4, 5, 0] rfl)
              · skip
                refine lv_goto (tgt := 106) hx hb dX3_firstSet_57 (by decide) ?_
                exact HJ106   H locs ls k852a  hH (lv_sub hl [1, 2, 3, 4, 5] rfl)
  refine lv_iconst (v := 0) hx hb dX3_firstSet_0 (by decide) ?_
  refine lv_istore (lv' := [(4, .int 0), (0, .ref (q 32)), (1, .int p0), (2, .int p1), (3, .int p2)]) hx hb dX3_firstSet_1 hl (by decide) rfl (fun ls hl => ?_)
  exact HL3 _ 0  H locs ls (iv_w (iv_lit (n := 0) 0 (by decide)) (by decide) (by decide))  hH (lv_sub hl [1, 2, 3, 4, 0] rfl) rfl
set_option maxHeartbeats 4000000 in
set_option maxRecDepth 100000 in
theorem g_X3_putFirst_32 (l : Launch) (D : va_G) (cy : Nat → ClassId) (q : Nat → Nat) (hq : bJ 66 q) (z0 : zS) (hI : IvC z0) (p0 : Int32) (hp0 : iv 0 10 p0) (p1 : Int32) : bCv l yX3_putFirst wsX3_putFirst ({ frames := 3, cells := 0, slots := 0, locals := 86 }) D cy 66 (enC cy) q z0 [.ref (q 32), .int p0, .int p1, .ref (q 14)] (fun z => jJ IvC 0 274877923328 31522998368337920 z0 z) := by
  refine hM_v cX3_putFirst (by decide) rfl (own := RX3) rfl hq (Nat.le_of_ble_eq_true rfl) ?_
  intro p e s m args below meth c Q ls H locs hx hb hml hown hts hK hZ hH hl hret
  have hl : lv_has ls 8 [(0, .ref (q 32)), (1, .int p0), (2, .int p1), (3, .ref (q 14))] := hl
  have hJ : jJ IvC 0 274877923328 31522998368337920 z0 z0 := jJ_rf _ _ _ hI
  have HJ14 : ∀ (z_14 : zS) (H : Heap) (locs : List Loc) (ls : Array Slot), jJ IvC 0 274877923328 31522998368337920 z0 z_14 → bH D 66 (enC cy) q z_14 s.heap H locs → lv_has ls 8 [(0, .ref (q 32)), (1, .int p0), (2, .int p1), (3, .ref (q 14))] → W p l e ({ frames := 3, cells := 0, slots := 0, locals := 86 }) s m args below meth c H locs 0 0 Q (F0 m 14 ls []) := by
    intro z_14 H locs ls hJ hH hl
    have HL20 : ∀ (n : Nat) (x4_20 : Int32) (x5_20 : Int32) (z_20 : zS) (H : Heap) (locs : List Loc) (ls : Array Slot), iv 0 1023 x4_20 → iv 1 11 x5_20 → jJ IvC 0 274877923328 31522998368337920 z0 z_20 → bH D 66 (enC cy) q z_20 s.heap H locs → lv_has ls 8 [(0, .ref (q 32)), (1, .int p0), (2, .int p1), (3, .ref (q 14)), (4, .int x4_20), (5, .int x5_20)] → (11 - x5_20.toInt).toNat = n → W p l e ({ frames := 3, cells := 0, slots := 0, locals := 86 }) s m args below meth c H locs 0 0 Q (F0 m 20 ls []) := by
      intro n20
      induction n20 using Nat.strongRecOn with
      | ind n20 ih20 =>
        intro x4_20 x5_20 z_20 H locs ls h4_20 h5_20 hJ hH hl hn20
        have HL40 : ∀ (n : Nat) (x6_40 : Int32) (x7_40 : Int32) (z_40 : zS) (H : Heap) (locs : List Loc) (ls : Array Slot), iv 1 10 p0 → iv 1 10 x5_20 → iv 0 1023 x6_40 → iv 0 10 x7_40 → jJ IvC 0 274877923328 31522998368337920 z0 z_40 → bH D 66 (enC cy) q z_40 s.heap H locs → lv_has ls 8 [(0, .ref (q 32)), (1, .int p0), (2, .int p1), (3, .ref (q 14)), (4, .int x4_20), (5, .int x5_20), (6, .int x6_40), (7, .int x7_40)] → (10 - x7_40.toInt).toNat = n → W p l e ({ frames := 3, cells := 0, slots := 0, locals := 86 }) s m args below meth c H locs 0 0 Q (F0 m 40 ls []) := by
          intro n40
          induction n40 using Nat.strongRecOn with
          | ind n40 ih40 =>
            intro x6_40 x7_40 z_40 H locs ls h1_40 h5_40 h6_40 h7_40 hJ hH hl hn40
            have HJ68 : ∀ (z_68 : zS) (H : Heap) (locs : List Loc) (ls : Array Slot), iv 0 9 x7_40 → iv 1 10 (z_68.1 0) → jJ IvC 0 274877923328 31522998368337920 z0 z_68 → bH D 66 (enC cy) q z_68 s.heap H locs → lv_has ls 8 [(0, .ref (q 32)), (1, .int p0), (2, .int p1), (3, .ref (q 14)), (4, .int x4_20), (5, .int x5_20), (6, .int x6_40), (7, .int x7_40)] → W p l e ({ frames := 3, cells := 0, slots := 0, locals := 86 }) s m args below meth c H locs 0 0 Q (F0 m 68 ls []) := by
              intro z_68 H locs ls h7_68 gh0_68 hJ hH hl
              have j201 : iv 1 10 (x7_40 + 1) := iv_add h7_68 (iv_lit (n := 1) 1 (by decide)) (by decide) (by decide) (by decide) (by decide)
              have e201 : (x7_40 + 1).toInt = x7_40.toInt + 1 := (iv_addE h7_68 (iv_lit (n := 1) 1 (by decide)) (by decide) (by decide)).trans rfl
              refine lv_iinc (v := (x7_40 + 1)) (lv' := [(7, .int (x7_40 + 1)), (0, .ref (q 32)), (1, .int p0), (2, .int p1), (3, .ref (q 14)), (4, .int x4_20), (5, .int x5_20), (6, .int x6_40)]) hx hb dX3_putFirst_68 hl (k := 7) rfl rfl (by decide) rfl (fun ls hl => ?_)
              refine lv_goto (tgt := 40) hx hb dX3_putFirst_71 (by decide) ?_
              exact ih40 _ (ms_up e201 j201.2 hn40) x6_40 (x7_40 + 1) z_68 H locs ls h1_40 h5_40 h6_40 (iv_w j201 (by decide) (by decide)) hJ hH (lv_sub hl [1, 2, 3, 4, 5, 6, 7, 0] rfl) rfl
            refine lv_iload hx hb dX3_putFirst_40 (lv_at hl 7 rfl) ?_
            refine lv_aload_n hx hb dX3_putFirst_42 rfl (lv_at hl 0 rfl) ?_
            refine b_get (ci := 3) (C := RX3) (T := TX3) (Nf := 11) (v := .ref (q 1)) hx hb hts in_X3_putFirst_X3 hown hK hH 32 (by decide) rfl rfl 0 (by decide) (hts (.fieldLink RX3 46 "StationLine$Search" "bench" "LStationLine$Bench;") (List.mem_of_getElem? (i := 1) rfl)) rfl dX3_putFirst_43 ?_
            refine b_get (ci := 0) (C := RX0) (T := TX0) (Nf := 11) (v := .int (z_40.1 0)) hx hb hts in_X3_putFirst_X0 hown hK hH 1 (by decide) rfl rfl 0 (by decide) (hts (.fieldLink RX3 86 "StationLine$Bench" "size" "I") (List.mem_of_getElem? (i := 2) rfl)) rfl dX3_putFirst_46 ?_
            have i202 := IvC_s0 hJ.1
            refine lv_icmp_ge (tgt := 74) hx hb dX3_putFirst_49 (by decide) (fun c203 => ?_) (fun c203 => ?_)
            · skip
              refine lv_iload hx hb dX3_putFirst_74 (lv_at hl 4 rfl) ?_
              refine lv_iload hx hb dX3_putFirst_76 (lv_at hl 6 rfl) ?_
              refine lv_ior hx hb dX3_putFirst_78 ?_
              refine h_i (a := 0) (b := 1023) (iv_or 10 (b := 1023) (d := 1023) (iv_w h4_20 (by decide) (by decide)) (iv_w h6_40 (by decide) (by decide)) (by decide) (by decide) (by decide) (by decide)) (fun w205 i205 => ?_)
              refine lv_istore (lv' := [(4, .int w205), (0, .ref (q 32)), (1, .int p0), (2, .int p1), (3, .ref (q 14)), (5, .int x5_20), (6, .int x6_40), (7, .int x7_40)]) hx hb dX3_putFirst_79 hl (by decide) rfl (fun ls hl => ?_)
              have j206 : iv 2 11 (x5_20 + 1) := iv_add h5_40 (iv_lit (n := 1) 1 (by decide)) (by decide) (by decide) (by decide) (by decide)
              have e206 : (x5_20 + 1).toInt = x5_20.toInt + 1 := (iv_addE h5_40 (iv_lit (n := 1) 1 (by decide)) (by decide) (by decide)).trans rfl
              refine lv_iinc (v := (x5_20 + 1)) (lv' := [(5, .int (x5_20 + 1)), (4, .int w205), (0, .ref (q 32)), (1, .int p0), (2, .int p1), (3, .ref (q 14)), (6, .int x6_40), (7, .int x7_40)]) hx hb dX3_putFirst_81 hl (k := 5) rfl rfl (by decide) rfl (fun ls hl => ?_)
              refine lv_goto (tgt := 20) hx hb dX3_putFirst_84 (by decide) ?_
              exact ih20 _ (ms_up e206 j206.2 hn20) w205 (x5_20 + 1) z_40 H locs ls i205 (iv_w j206 (by decide) (by decide)) hJ hH (lv_sub hl [2, 3, 4, 5, 1, 0] rfl) rfl
            · skip
              have k207a : iv 0 9 x7_40 := iv_ltl (iv_nLe c203) h7_40 i202 (by decide)
              have k207b : iv 1 10 (z_40.1 0) := iv_ltr (iv_nLe c203) h7_40 i202 (by decide)
              refine lv_iload hx hb dX3_putFirst_52 (lv_at hl 6 rfl) ?_
              refine lv_iconst (v := 1) hx hb dX3_putFirst_54 (by decide) ?_
              refine lv_iload hx hb dX3_putFirst_55 (lv_at hl 7 rfl) ?_
              refine lv_ishl hx hb dX3_putFirst_57 ?_
              refine h_i (a := 1) (b := 512) (iv_bit k207a (by decide) (by decide)) (fun w208 i208 => ?_)
              refine lv_iand hx hb dX3_putFirst_58 ?_
              refine h_i (a := 0) (b := 512) (iv_and2 h6_40 i208 (by decide) (by decide)) (fun w209 i209 => ?_)
              refine lv_if_eq (tgt := 68) hx hb dX3_putFirst_59 (by decide) (fun c210 => ?_) (fun c210 => ?_)
              · skip
                have k211a : iv 0 0 w209 := iv_eql (iv_Eq c210) i209 (iv_lit (n := 0) 0 (by decide)) (by decide) (by decide)
                exact HJ68  z_40 H locs ls k207a k207b hJ hH (lv_sub hl [0, 1, 2, 3, 4, 5, 6, 7] rfl)
              · skip
                have k212a : iv 1 512 w209 := iv_neLo (iv_nEq c210) i209 (by decide) (by decide)
                refine lv_aload_n hx hb dX3_putFirst_62 rfl (lv_at hl 3 rfl) ?_
                refine lv_iload hx hb dX3_putFirst_63 (lv_at hl 7 rfl) ?_
                refine lv_iload hx hb dX3_putFirst_65 (lv_at hl 5 rfl) ?_
                refine b_iast hx hb hK hH 14 (by decide) rfl (iv_in k207a (by decide) (by decide)) (upA z_40 14 (upd (z_40.2.1 14) (x7_40 : Int32).toNatClampNeg x5_20)) rfl (enC_A _ _ _ _ _) dX3_putFirst_67 (fun H locs hH => ?_)
                obtain ⟨z213, hz213⟩ : ∃ w : zS, w = upA z_40 14 (upd (z_40.2.1 14) (x7_40 : Int32).toNatClampNeg x5_20) := ⟨_, rfl⟩
                rw [← hz213] at hH
                have hJ : jJ IvC 0 274877923328 31522998368337920 z0 z213 := by rw [hz213]; exact jJ_A hJ (by decide) (IvC_A14 hJ.1 _ (iv_w h5_40 (by decide) (by decide)))
                have g214 : iv 1 10 (z213.1 0) := by rw [hz213]; exact k207b
                exact HJ68  z213 H locs ls k207a g214 hJ hH (lv_sub hl [0, 1, 2, 3, 4, 5, 6, 7] rfl)
        refine lv_iload hx hb dX3_putFirst_20 (lv_at hl 5 rfl) ?_
        refine lv_iload_n hx hb dX3_putFirst_22 rfl (lv_at hl 1 rfl) ?_
        refine lv_icmp_gt (tgt := 87) hx hb dX3_putFirst_23 (by decide) (fun c215 => ?_) (fun c215 => ?_)
        · skip
          exact hret z_20 H locs _ _ hJ hH dX3_putFirst_87
        · skip
          have k217a : iv 1 10 x5_20 := iv_lel (iv_nLt c215) h5_20 hp0
          have k217b : iv 1 10 p0 := iv_ler (iv_nLt c215) h5_20 hp0
          refine lv_aload_n hx hb dX3_putFirst_26 rfl (lv_at hl 0 rfl) ?_
          refine lv_iload hx hb dX3_putFirst_27 (lv_at hl 5 rfl) ?_
          refine lv_iload hx hb dX3_putFirst_29 (lv_at hl 4 rfl) ?_
          refine lv_iload_n hx hb dX3_putFirst_31 rfl (lv_at hl 2 rfl) ?_
          refine b_calli (As := [.int x5_20, .int x4_20, .int p1]) (rest := []) ⟨hx, hb, hml, hown, hts⟩ 32 3 (g_X3_firstSet_32 l D cy q hH.2.1 z_20 hJ.1 x5_20 k217a x4_20 h4_20 p1) (cwV 3 hts gX3_putFirst_X3_firstSet rfl rfl rfl (by decide +kernel) ⟨Nat.le_of_ble_eq_true rfl, Nat.le_of_ble_eq_true rfl⟩) hK hZ hH (by decide) rfl rfl rfl hl.1 rfl (Nat.le_of_ble_eq_true rfl) ⟨Nat.zero_le _, Nat.zero_le _⟩ dX3_putFirst_32 (fun w218 z218 H locs hp hH => ?_)
          rw [Ag_0 hp.1.2] at hH
          have i218 := hp.2
          refine lv_istore (lv' := [(6, .int w218), (0, .ref (q 32)), (1, .int p0), (2, .int p1), (3, .ref (q 14)), (4, .int x4_20), (5, .int x5_20)]) hx hb dX3_putFirst_35 hl (by decide) rfl (fun ls hl => ?_)
          refine lv_iconst (v := 0) hx hb dX3_putFirst_37 (by decide) ?_
          refine lv_istore (lv' := [(7, .int 0), (6, .int w218), (0, .ref (q 32)), (1, .int p0), (2, .int p1), (3, .ref (q 14)), (4, .int x4_20), (5, .int x5_20)]) hx hb dX3_putFirst_38 hl (by decide) rfl (fun ls hl => ?_)
          exact HL40 _ w218 0 z_20 H locs ls k217b k217a i218 (iv_w (iv_lit (n := 0) 0 (by decide)) (by decide) (by decide)) hJ hH (lv_sub hl [2, 3, 4, 5, 6, 7, 1, 0] rfl) rfl
    refine lv_iconst (v := 0) hx hb dX3_putFirst_14 (by decide) ?_
    refine lv_istore (lv' := [(4, .int 0), (0, .ref (q 32)), (1, .int p0), (2, .int p1), (3, .ref (q 14))]) hx hb dX3_putFirst_15 hl (by decide) rfl (fun ls hl => ?_)
    refine lv_iconst (v := 1) hx hb dX3_putFirst_17 (by decide) ?_
    refine lv_istore (lv' := [(5, .int 1), (4, .int 0), (0, .ref (q 32)), (1, .int p0), (2, .int p1), (3, .ref (q 14))]) hx hb dX3_putFirst_18 hl (by decide) rfl (fun ls hl => ?_)
    exact HL20 _ 0 1 z_14 H locs ls (iv_w (iv_lit (n := 0) 0 (by decide)) (by decide) (by decide)) (iv_w (iv_lit (n := 1) 1 (by decide)) (by decide) (by decide)) hJ hH (lv_sub hl [2, 3, 4, 5, 1, 0] rfl) rfl
  refine lv_aload_n hx hb dX3_putFirst_0 rfl (lv_at hl 0 rfl) ?_
  refine lv_iload_n hx hb dX3_putFirst_1 rfl (lv_at hl 1 rfl) ?_
  refine b_callv (As := [.int p0]) (rest := []) ⟨hx, hb, hml, hown, hts⟩ 32 3 (g_X3_lookBack_32 l D cy q hH.2.1 z0 hJ.1 p0) (cwV 1 hts gX3_putFirst_X3_lookBack rfl rfl rfl (by decide +kernel) ⟨Nat.le_of_ble_eq_true rfl, Nat.le_of_ble_eq_true rfl⟩) hK hZ hH (by decide) rfl rfl rfl hl.1 rfl (Nat.le_of_ble_eq_true rfl) ⟨Nat.zero_le _, Nat.zero_le _⟩ dX3_putFirst_2 (fun z219 H locs hp hH => ?_)
  have hJ := jJ_tr hJ hp (by decide) (by decide) (by decide)
  have hA219 := hp.2
  refine lv_iload_n hx hb dX3_putFirst_5 rfl (lv_at hl 2 rfl) ?_
  refine lv_if_eq (tgt := 14) hx hb dX3_putFirst_6 (by decide) (fun c220 => ?_) (fun c220 => ?_)
  · skip
    have k221a : iv 0 0 p1 := iv_eql (iv_Eq c220) (iv_all p1) (iv_lit (n := 0) 0 (by decide)) (by decide) (by decide)
    exact HJ14  z219 H locs ls  hJ hH (lv_sub hl [0, 1, 2, 3] rfl)
  · skip
    refine lv_aload_n hx hb dX3_putFirst_9 rfl (lv_at hl 0 rfl) ?_
    refine lv_iload_n hx hb dX3_putFirst_10 rfl (lv_at hl 1 rfl) ?_
    refine b_callv (As := [.int p0]) (rest := []) ⟨hx, hb, hml, hown, hts⟩ 32 3 (g_X3_weigh_32 l D cy q hH.2.1 z219 hJ.1 p0 hp0) (cwV 1 hts gX3_putFirst_X3_weigh rfl rfl rfl (by decide +kernel) ⟨Nat.le_of_ble_eq_true rfl, Nat.le_of_ble_eq_true rfl⟩) hK hZ hH (by decide) rfl rfl rfl hl.1 rfl (Nat.le_of_ble_eq_true rfl) ⟨Nat.zero_le _, Nat.zero_le _⟩ dX3_putFirst_11 (fun z223 H locs hp hH => ?_)
    have hJ := jJ_tr hJ hp (by decide) (by decide) (by decide)
    have hA223 := hp.2
    exact HJ14  z223 H locs ls  hJ hH (lv_sub hl [0, 1, 2, 3] rfl)
set_option maxHeartbeats 4000000 in
set_option maxRecDepth 100000 in
theorem g_X4_isMissing_57 (l : Launch) (D : va_G) (cy : Nat → ClassId) (q : Nat → Nat) (hq : bJ 66 q) (z0 : zS) (hI : IvC z0) (p0 : Int32) (hp0 : iv 0 3 p0) : bCi l yX4_isMissing wsX4_isMissing ({ frames := 0, cells := 0, slots := 0, locals := 0 }) D cy 66 (enC cy) q z0 [.ref (q 57), .int p0] (fun v z => jJ IvC 0 0 0 z0 z ∧ iv 0 1 v ∧ ((v = 0 → 0 ≤ (z0.2.1 59 p0.toNatClampNeg).toInt) ∧ (¬ v = 0 → (z0.2.1 59 p0.toNatClampNeg).toInt < 0))) := by
  refine hM_z cX4_isMissing (by decide) rfl (own := RX4) rfl hq (Nat.le_of_ble_eq_true rfl) ?_
  intro p e s m args below meth c Q ls H locs hx hb hml hown hts hK hZ hH hl hret
  have hl : lv_has ls 2 [(0, .ref (q 57)), (1, .int p0)] := hl
  have hJ : jJ IvC 0 0 0 z0 z0 := jJ_rf _ _ _ hI
  have e00 : (0 : Int32).toInt = 0 := (by decide); have e01 : (1 : Int32).toInt = 1 := (by decide); have e02 : (2 : Int32).toInt = 2 := (by decide); have e03 : (3 : Int32).toInt = 3 := (by decide); have e010 : (10 : Int32).toInt = 10 := (by decide)
  refine lv_aload_n hx hb dX4_isMissing_0 rfl (lv_at hl 0 rfl) ?_
  refine b_get (ci := 4) (C := RX4) (T := TX4) (Nf := 3) (v := .ref (q 59)) hx hb hts in_X4_isMissing_X4 hown hK hH 57 (by decide) rfl rfl 1 (by decide) (hts (.fieldLink RX4 15 "StationLine$Sheets" "sizes" "[I") (List.mem_of_getElem? (i := 1) rfl)) rfl dX4_isMissing_1 ?_
  refine lv_iload_n hx hb dX4_isMissing_4 rfl (lv_at hl 1 rfl) ?_
  refine b_iald (v := z0.2.1 59 (p0 : Int32).toNatClampNeg) hx hb hK hH 59 (by decide) rfl (iv_in hp0 (by decide) (by decide)) rfl dX4_isMissing_5 ?_
  have i5 : iv (-1) 40 (z0.2.1 59 (p0 : Int32).toNatClampNeg) := IvC_a59 hJ.1 _ (b_inlt (iv_in hp0 (by decide) (by decide)))
  have := i5.1; have := i5.2
  refine lv_iconst (v := (-1)) hx hb dX4_isMissing_6 (by decide) ?_
  refine lv_icmp_ne (tgt := 14) hx hb dX4_isMissing_7 (by decide) (fun c6 => ?_) (fun c6 => ?_)
  · skip
    have r6 := (iv_nEq c6)
    have k7a : iv 0 40 (z0.2.1 59 (p0 : Int32).toNatClampNeg) := iv_neLo (iv_nEq c6) i5 (by decide) (by decide)
    refine lv_iconst (v := 0) hx hb dX4_isMissing_14 (by decide) ?_
    exact hret _ z0 H locs _ _ (iv_w (iv_lit (n := 0) 0 (by decide)) (by decide) (by decide)) ⟨hJ, (iv_w (iv_lit (n := 0) 0 (by decide)) (by decide) (by decide)), ⟨fun _ => (by have em : ((-1) : Int32).toInt = -1 := (by decide); omega), fun q => absurd rfl q⟩⟩ hH dX4_isMissing_15
  · skip
    have r6 := (iv_Eq c6)
    have k8a : iv (-1) (-1) (z0.2.1 59 (p0 : Int32).toNatClampNeg) := iv_eql (iv_Eq c6) i5 (iv_lit (n := (-1)) (-1) (by decide)) (by decide) (by decide)
    refine lv_iconst (v := 1) hx hb dX4_isMissing_10 (by decide) ?_
    refine lv_goto (tgt := 15) hx hb dX4_isMissing_11 (by decide) ?_
    exact hret _ z0 H locs _ _ (iv_w (iv_lit (n := 1) 1 (by decide)) (by decide) (by decide)) ⟨hJ, (iv_w (iv_lit (n := 1) 1 (by decide)) (by decide) (by decide)), ⟨fun q => absurd q (by decide), fun _ => (by have em : ((-1) : Int32).toInt = -1 := (by decide); omega)⟩⟩ hH dX4_isMissing_15
set_option maxHeartbeats 4000000 in
set_option maxRecDepth 100000 in
theorem g_X4_lay_57 (l : Launch) (D : va_G) (cy : Nat → ClassId) (q : Nat → Nat) (hq : bJ 66 q) (z0 : zS) (hI : IvC z0) (p0 : Int32) (hp0 : iv 0 3 p0) (p1 : Int32) (p2 : Int32) (hp2 : iv 0 40 p2) : bCv l yX4_lay wsX4_lay ({ frames := 1, cells := 0, slots := 0, locals := 23 }) D cy 66 (enC cy) q z0 [.ref (q 57), .int p0, .int p1, .int p2] (fun z => jJ IvC 0 35452336266660544512 0 z0 z ∧ (z.2.1 59 = upd (z0.2.1 59) p0.toNatClampNeg p2) ∧ (z.2.1 58 = upd (z0.2.1 58) p0.toNatClampNeg p1) ∧ (∀ i : Nat, i < 40 → z.2.1 (61 + p0.toNatClampNeg) i = 0) ∧ (∀ k : Nat, 61 ≤ k → k ≠ 61 + p0.toNatClampNeg → z.2.1 k = z0.2.1 k)) := by
  refine hM_v cX4_lay (by decide) rfl (own := RX4) rfl hq (Nat.le_of_ble_eq_true rfl) ?_
  intro p e s m args below meth c Q ls H locs hx hb hml hown hts hK hZ hH hl hret
  have hl : lv_has ls 4 [(0, .ref (q 57)), (1, .int p0), (2, .int p1), (3, .int p2)] := hl
  have hJ : jJ IvC 0 35452336266660544512 0 z0 z0 := jJ_rf _ _ _ hI
  refine lv_aload_n hx hb dX4_lay_0 rfl (lv_at hl 0 rfl) ?_
  refine b_get (ci := 4) (C := RX4) (T := TX4) (Nf := 3) (v := .ref (q 58)) hx hb hts in_X4_lay_X4 hown hK hH 57 (by decide) rfl rfl 0 (by decide) (hts (.fieldLink RX4 9 "StationLine$Sheets" "sorts" "[I") (List.mem_of_getElem? (i := 1) rfl)) rfl dX4_lay_1 ?_
  refine lv_iload_n hx hb dX4_lay_4 rfl (lv_at hl 1 rfl) ?_
  refine lv_iload_n hx hb dX4_lay_5 rfl (lv_at hl 2 rfl) ?_
  refine b_iast hx hb hK hH 58 (by decide) rfl (iv_in hp0 (by decide) (by decide)) (upA z0 58 (upd (z0.2.1 58) (p0 : Int32).toNatClampNeg p1)) rfl (enC_A _ _ _ _ _) dX4_lay_6 (fun H locs hH => ?_)
  obtain ⟨z5, hz5⟩ : ∃ w : zS, w = upA z0 58 (upd (z0.2.1 58) (p0 : Int32).toNatClampNeg p1) := ⟨_, rfl⟩
  rw [← hz5] at hH
  have hJ : jJ IvC 0 35452336266660544512 0 z0 z5 := by rw [hz5]; exact jJ_A hJ (by decide) (IvC_A hJ.1 (by decide))
  refine lv_aload_n hx hb dX4_lay_7 rfl (lv_at hl 0 rfl) ?_
  refine b_get (ci := 4) (C := RX4) (T := TX4) (Nf := 3) (v := .ref (q 59)) hx hb hts in_X4_lay_X4 hown hK hH 57 (by decide) rfl rfl 1 (by decide) (hts (.fieldLink RX4 15 "StationLine$Sheets" "sizes" "[I") (List.mem_of_getElem? (i := 2) rfl)) rfl dX4_lay_8 ?_
  refine lv_iload_n hx hb dX4_lay_11 rfl (lv_at hl 1 rfl) ?_
  refine lv_iload_n hx hb dX4_lay_12 rfl (lv_at hl 3 rfl) ?_
  refine b_iast hx hb hK hH 59 (by decide) rfl (iv_in hp0 (by decide) (by decide)) (upA z5 59 (upd (z5.2.1 59) (p0 : Int32).toNatClampNeg p2)) rfl (enC_A _ _ _ _ _) dX4_lay_13 (fun H locs hH => ?_)
  obtain ⟨z6, hz6⟩ : ∃ w : zS, w = upA z5 59 (upd (z5.2.1 59) (p0 : Int32).toNatClampNeg p2) := ⟨_, rfl⟩
  rw [← hz6] at hH
  have hJ : jJ IvC 0 35452336266660544512 0 z0 z6 := by rw [hz6]; exact jJ_A hJ (by decide) (IvC_A59 hJ.1 _ (iv_w hp2 (by decide) (by decide)))
  refine lv_aload_n hx hb dX4_lay_14 rfl (lv_at hl 0 rfl) ?_
  refine b_get (ci := 4) (C := RX4) (T := TX4) (Nf := 3) (v := .ref (q 60)) hx hb hts in_X4_lay_X4 hown hK hH 57 (by decide) rfl rfl 2 (by decide) (hts (.fieldLink RX4 20 "StationLine$Sheets" "rows" "[[I") (List.mem_of_getElem? (i := 3) rfl)) rfl dX4_lay_15 ?_
  refine lv_iload_n hx hb dX4_lay_18 rfl (lv_at hl 1 rfl) ?_
  refine h_aaldE (n := 4) hx hb hK hH 60 3 61 (by decide) rfl rfl (iv_in hp0 (by decide) (by decide)) dX4_lay_19 (fun k7 hk7 ek7 => ?_)
  refine lv_iconst (v := 0) hx hb dX4_lay_20 (by decide) ?_
  refine b_statv (As := [.ref (q k7), .int 0]) (rest := []) ⟨hx, hb, hml, hown, hts⟩ (c_fill l D cy 66 (enC cy) q hH.2.1 z6 k7 40 0 (Nat.lt_of_lt_of_le hk7.2 (by decide)) (by decide) (fun w => enC_g61 cy q w k7 hk7) (fun w f => enC_A _ _ _ _ _)) (va_cwS 2 hts gX4_lay_J7_fill_53178 rfl rfl rfl (by decide +kernel) ⟨Nat.le_of_ble_eq_true rfl, Nat.le_of_ble_eq_true rfl⟩) hK hZ hH rfl hl.1 rfl (Nat.le_of_ble_eq_true rfl) ⟨Nat.zero_le _, Nat.zero_le _⟩ dX4_lay_21 (fun z1 H locs hp hH => ?_)
  obtain ⟨ff, rfl, hff⟩ := hp
  obtain ⟨z8, hz8⟩ : ∃ w : zS, w = upA z6 k7 ff := ⟨_, rfl⟩
  rw [← hz8] at hH
  have hJ : jJ IvC 0 35452336266660544512 0 z0 z8 := by rw [hz8]; exact jJ_A hJ (tb_grp (g0 := 61) (n := 4) (by decide) hk7) (IvC_A hJ.1 (by omega))
  exact hret z8 H locs _ _ ⟨hJ, (show z8.2.1 59 = z6.2.1 59 by rw [hz8]; exact upA_n (by omega)).trans ((show z6.2.1 59 = upd (z5.2.1 59) p0.toNatClampNeg p2 by rw [hz6]; exact upA_e).trans (upd_c (show z5.2.1 59 = z0.2.1 59 by rw [hz5]; rfl) rfl)), (show z8.2.1 58 = z6.2.1 58 by rw [hz8]; exact upA_n (by omega)).trans ((show z6.2.1 58 = z5.2.1 58 by rw [hz6]; exact upA_n (by omega)).trans (show z5.2.1 58 = upd (z0.2.1 58) p0.toNatClampNeg p1 by rw [hz5]; exact upA_e)), fun i hi => (by rw [← ek7, hz8, upA_e]; exact hff i hi), fun k h1 h2 => (show z8.2.1 k = z6.2.1 k by rw [hz8]; exact upA_n (by omega)).trans ((show z6.2.1 k = z5.2.1 k by rw [hz6]; exact upA_n (by omega)).trans (show z5.2.1 k = z0.2.1 k by rw [hz5]; exact upA_n (by omega)))⟩ hH dX4_lay_24
set_option maxHeartbeats 4000000 in
set_option maxRecDepth 100000 in
theorem g_X4_drop_57 (l : Launch) (D : va_G) (cy : Nat → ClassId) (q : Nat → Nat) (hq : bJ 66 q) (z0 : zS) (hI : IvC z0) (p0 : Int32) (hp0 : iv 0 3 p0) : bCv l yX4_drop wsX4_drop ({ frames := 0, cells := 0, slots := 0, locals := 0 }) D cy 66 (enC cy) q z0 [.ref (q 57), .int p0] (fun z => jJ IvC 0 576460752303423488 0 z0 z ∧ (z.2.1 59 = upd (z0.2.1 59) p0.toNatClampNeg (-1))) := by
  refine hM_v cX4_drop (by decide) rfl (own := RX4) rfl hq (Nat.le_of_ble_eq_true rfl) ?_
  intro p e s m args below meth c Q ls H locs hx hb hml hown hts hK hZ hH hl hret
  have hl : lv_has ls 2 [(0, .ref (q 57)), (1, .int p0)] := hl
  have hJ : jJ IvC 0 576460752303423488 0 z0 z0 := jJ_rf _ _ _ hI
  refine lv_aload_n hx hb dX4_drop_0 rfl (lv_at hl 0 rfl) ?_
  refine b_get (ci := 4) (C := RX4) (T := TX4) (Nf := 3) (v := .ref (q 59)) hx hb hts in_X4_drop_X4 hown hK hH 57 (by decide) rfl rfl 1 (by decide) (hts (.fieldLink RX4 15 "StationLine$Sheets" "sizes" "[I") (List.mem_of_getElem? (i := 1) rfl)) rfl dX4_drop_1 ?_
  refine lv_iload_n hx hb dX4_drop_4 rfl (lv_at hl 1 rfl) ?_
  refine lv_iconst (v := (-1)) hx hb dX4_drop_5 (by decide) ?_
  refine b_iast hx hb hK hH 59 (by decide) rfl (iv_in hp0 (by decide) (by decide)) (upA z0 59 (upd (z0.2.1 59) (p0 : Int32).toNatClampNeg (-1))) rfl (enC_A _ _ _ _ _) dX4_drop_6 (fun H locs hH => ?_)
  obtain ⟨z2, hz2⟩ : ∃ w : zS, w = upA z0 59 (upd (z0.2.1 59) (p0 : Int32).toNatClampNeg (-1)) := ⟨_, rfl⟩
  rw [← hz2] at hH
  have hJ : jJ IvC 0 576460752303423488 0 z0 z2 := by rw [hz2]; exact jJ_A hJ (by decide) (IvC_A59 hJ.1 _ (iv_w (iv_lit (n := (-1)) (-1) (by decide)) (by decide) (by decide)))
  exact hret z2 H locs _ _ ⟨hJ, (by rw [hz2]; exact upA_e)⟩ hH dX4_drop_7
set_option maxHeartbeats 4000000 in
set_option maxRecDepth 100000 in
theorem g_X4_narrowed (l : Launch) (D : va_G) (cy : Nat → ClassId) (q : Nat → Nat) (hq : bJ 66 q) (z0 : zS) (hI : IvC z0) (p0 : Int32) (p1 : Int32) : bCi l yX4_narrowed wsX4_narrowed ({ frames := 0, cells := 0, slots := 0, locals := 0 }) D cy 66 (enC cy) q z0 [.int p0, .int p1] (fun v z => jJ IvC 0 0 0 z0 z ∧ iv (-2147483648) 2147483647 v ∧ (v = narF p0 p1)) := by
  refine hM_i cX4_narrowed (by decide) rfl (own := RX4) rfl hq (Nat.le_of_ble_eq_true rfl) ?_
  intro p e s m args below meth c Q ls H locs hx hb hml hown hts hK hZ hH hl hret
  have hl : lv_has ls 2 [(0, .int p0), (1, .int p1)] := hl
  have hJ : jJ IvC 0 0 0 z0 z0 := jJ_rf _ _ _ hI
  refine lv_iload_n hx hb dX4_narrowed_0 rfl (lv_at hl 0 rfl) ?_
  refine lv_if_ne (tgt := 7) hx hb dX4_narrowed_1 (by decide) (fun c9 => ?_) (fun c9 => ?_)
  · skip
    refine lv_iload_n hx hb dX4_narrowed_7 rfl (lv_at hl 0 rfl) ?_
    refine lv_iconst (v := 1) hx hb dX4_narrowed_8 (by decide) ?_
    refine lv_icmp_ne (tgt := 17) hx hb dX4_narrowed_9 (by decide) (fun c11 => ?_) (fun c11 => ?_)
    · skip
      refine lv_iload_n hx hb dX4_narrowed_17 rfl (lv_at hl 1 rfl) ?_
      exact hret _ z0 H locs _ _ ⟨hJ, (iv_all p1), (nar_2 c9 c11)⟩ hH dX4_narrowed_18
    · skip
      have k13a : iv 1 1 p0 := iv_eql (iv_Eq c11) (iv_all p0) (iv_lit (n := 1) 1 (by decide)) (by decide) (by decide)
      refine lv_iload_n hx hb dX4_narrowed_12 rfl (lv_at hl 1 rfl) ?_
      refine lv_i2s hx hb dX4_narrowed_13 rfl ?_
      refine lv_goto (tgt := 18) hx hb dX4_narrowed_14 (by decide) ?_
      exact hret _ z0 H locs _ _ ⟨hJ, (iv_all (p1.toInt16.toInt32)), (nar_1 c9 c11)⟩ hH dX4_narrowed_18
  · skip
    have k15a : iv 0 0 p0 := iv_eql (iv_Eq c9) (iv_all p0) (iv_lit (n := 0) 0 (by decide)) (by decide) (by decide)
    refine lv_iload_n hx hb dX4_narrowed_4 rfl (lv_at hl 1 rfl) ?_
    refine lv_i2b hx hb dX4_narrowed_5 rfl ?_
    exact hret _ z0 H locs _ _ ⟨hJ, (iv_all (p1.toInt8.toInt32)), (nar_0 c9)⟩ hH dX4_narrowed_6
set_option maxHeartbeats 4000000 in
set_option maxRecDepth 100000 in
theorem g_X5_found_0 (l : Launch) (D : va_G) (cy : Nat → ClassId) (q : Nat → Nat) (hq : bJ 66 q) (z0 : zS) (hI : IvC z0) (p0 : Int32) : bCi l yX5_found wsX5_found ({ frames := 0, cells := 0, slots := 0, locals := 0 }) D cy 66 (enC cy) q z0 [.ref (q 0), .int p0] (fun v z => jJ IvC 1024 0 0 z0 z ∧ iv (-2147483648) 2147483647 v ∧ (v = p0)) := by
  refine hM_i cX5_found (by decide) rfl (own := RX5) rfl hq (Nat.le_of_ble_eq_true rfl) ?_
  intro p e s m args below meth c Q ls H locs hx hb hml hown hts hK hZ hH hl hret
  have hl : lv_has ls 2 [(0, .ref (q 0)), (1, .int p0)] := hl
  have hJ : jJ IvC 1024 0 0 z0 z0 := jJ_rf _ _ _ hI
  refine lv_aload_n hx hb dX5_found_0 rfl (lv_at hl 0 rfl) ?_
  refine lv_dup hx hb dX5_found_1 rfl ?_
  refine b_get (ci := 5) (C := RX5) (T := TX5) (Nf := 12) (v := .int (z0.1 10)) hx hb hts in_X5_found_X5 hown hK hH 0 (by decide) rfl rfl 11 (by decide) (hts (.fieldLink RX5 67 "StationLine" "hostFindings" "I") (List.mem_of_getElem? (i := 1) rfl)) rfl dX5_found_2 ?_
  refine lv_iconst (v := 1) hx hb dX5_found_5 (by decide) ?_
  refine lv_iadd hx hb dX5_found_6 ?_
  refine lv_topi (fun w3 _ => ?_)
  refine b_put (ci := 5) (C := RX5) (T := TX5) (Nf := 12) (v := .int w3) (ty := .int) hx hb hts in_X5_found_X5 tyX5 tyX5_ok nmX5 hown hK hH 0 (by decide) rfl rfl 11 (by decide) (hts (.fieldLink RX5 67 "StationLine" "hostFindings" "I") (List.mem_of_getElem? (i := 1) rfl)) rfl (by decide +kernel) rfl rfl (Nat.le_of_ble_eq_true rfl) (upS z0 10 w3) rfl (enC_S10 _ _ _ _) dX5_found_7 (fun H locs hH => ?_)
  obtain ⟨z4, hz4⟩ : ∃ w : zS, w = upS z0 10 w3 := ⟨_, rfl⟩
  rw [← hz4] at hH
  have hJ : jJ IvC 1024 0 0 z0 z4 := by rw [hz4]; exact jJ_S hJ (by decide) (IvC_S10 hJ.1)
  refine lv_iload_n hx hb dX5_found_10 rfl (lv_at hl 1 rfl) ?_
  exact hret _ z4 H locs _ _ ⟨hJ, (iv_all p0), rfl⟩ hH dX5_found_11
set_option maxHeartbeats 4000000 in
set_option maxRecDepth 100000 in
theorem g_X5_stationsFor_0 (l : Launch) (D : va_G) (cy : Nat → ClassId) (q : Nat → Nat) (hq : bJ 66 q) (z0 : zS) (hI : IvC z0) (p0 : Int32) : bCi l yX5_stationsFor wsX5_stationsFor ({ frames := 3, cells := 0, slots := 0, locals := 74 }) D cy 66 (enC cy) q z0 [.ref (q 0), .int p0] (fun v z => jJ IvC 0 0 0 z0 z ∧ iv (-2147483648) 2147483647 v) := by
  refine hM_i cX5_stationsFor (by decide) rfl (own := RX5) rfl hq (Nat.le_of_ble_eq_true rfl) ?_
  intro p e s m args below meth c Q ls H locs hx hb hml hown hts hK hZ hH hl hret
  have hl : lv_has ls 2 [(0, .ref (q 0)), (1, .int p0)] := hl
  have hJ : jJ IvC 0 0 0 z0 z0 := jJ_rf _ _ _ hI
  refine lv_aload_n hx hb dX5_stationsFor_0 rfl (lv_at hl 0 rfl) ?_
  refine b_get (ci := 5) (C := RX5) (T := TX5) (Nf := 12) (v := .ref (q 1)) hx hb hts in_X5_stationsFor_X5 hown hK hH 0 (by decide) rfl rfl 0 (by decide) (hts (.fieldLink RX5 12 "StationLine" "bench" "LStationLine$Bench;") (List.mem_of_getElem? (i := 1) rfl)) rfl dX5_stationsFor_1 ?_
  refine lv_iload_n hx hb dX5_stationsFor_4 rfl (lv_at hl 1 rfl) ?_
  refine b_calli (As := [.int p0]) (rest := []) ⟨hx, hb, hml, hown, hts⟩ 1 0 (g_X0_loadOf_1 l D cy q hH.2.1 z0 hJ.1 p0) (cwV 1 hts gX5_stationsFor_X0_loadOf rfl rfl rfl (by decide +kernel) ⟨Nat.le_of_ble_eq_true rfl, Nat.le_of_ble_eq_true rfl⟩) hK hZ hH (by decide) rfl rfl rfl hl.1 rfl (Nat.le_of_ble_eq_true rfl) ⟨Nat.zero_le _, Nat.zero_le _⟩ dX5_stationsFor_5 (fun w4 z4 H locs hp hH => ?_)
  rw [Ag_0 hp.1.2] at hH
  refine lv_aload_n hx hb dX5_stationsFor_8 rfl (lv_at hl 0 rfl) ?_
  refine b_get (ci := 5) (C := RX5) (T := TX5) (Nf := 12) (v := .ref (q 1)) hx hb hts in_X5_stationsFor_X5 hown hK hH 0 (by decide) rfl rfl 0 (by decide) (hts (.fieldLink RX5 12 "StationLine" "bench" "LStationLine$Bench;") (List.mem_of_getElem? (i := 1) rfl)) rfl dX5_stationsFor_9 ?_
  refine b_calli (As := []) (rest := [.int w4]) ⟨hx, hb, hml, hown, hts⟩ 1 0 (g_X0_room_1 l D cy q hH.2.1 z0 hJ.1 ) (cwV 0 hts gX5_stationsFor_X0_room rfl rfl rfl (by decide +kernel) ⟨Nat.le_of_ble_eq_true rfl, Nat.le_of_ble_eq_true rfl⟩) hK hZ hH (by decide) rfl rfl rfl hl.1 rfl (Nat.le_of_ble_eq_true rfl) ⟨Nat.zero_le _, Nat.zero_le _⟩ dX5_stationsFor_12 (fun w5 z5 H locs hp hH => ?_)
  rw [Ag_0 hp.1.2] at hH
  refine b_stati (As := [.int w4, .int w5]) (rest := []) ⟨hx, hb, hml, hown, hts⟩ (g_X5_takenUp l D cy q hH.2.1 z0 hJ.1 w4 w5) (va_cwS 2 hts gX5_stationsFor_X5_takenUp rfl rfl rfl (by decide +kernel) ⟨Nat.le_of_ble_eq_true rfl, Nat.le_of_ble_eq_true rfl⟩) hK hZ hH rfl hl.1 rfl (Nat.le_of_ble_eq_true rfl) ⟨Nat.zero_le _, Nat.zero_le _⟩ dX5_stationsFor_15 (fun w6 z6 H locs hp hH => ?_)
  rw [Ag_0 hp.1.2] at hH
  exact hret _ z0 H locs _ _ ⟨hJ, (iv_all w6)⟩ hH dX5_stationsFor_18
set_option maxHeartbeats 4000000 in
set_option maxRecDepth 100000 in
theorem g_X5_task_0 (l : Launch) (D : va_G) (cy : Nat → ClassId) (q : Nat → Nat) (hq : bJ 66 q) (z0 : zS) (hI : IvC z0)  : bCi l yX5_task wsX5_task ({ frames := 1, cells := 0, slots := 0, locals := 22 }) D cy 66 (enC cy) q z0 [.ref (q 0)] (fun v z => jJ IvC 1 24560 0 z0 z ∧ iv (-2) 9 v ∧ (TaskP (z0.1 0) v (z.1 0)) ∧ (TkR (z0.1 0) (z0.2.1 7) (z.2.1 7) ∧ TkR (z0.1 0) (z0.2.1 8) (z.2.1 8) ∧ TkR (z0.1 0) (z0.2.1 9) (z.2.1 9) ∧ TkR (z0.1 0) (z0.2.1 10) (z.2.1 10) ∧ TkR (z0.1 0) (z0.2.1 11) (z.2.1 11) ∧ TkR (z0.1 0) (z0.2.1 12) (z.2.1 12)) ∧ (TkT (z0.1 0) (fun a b => z0.2.1 (4 + a) b) (fun a b => z.2.1 (4 + a) b))) := by
  refine hM_i cX5_task (by decide) rfl (own := RX5) rfl hq (Nat.le_of_ble_eq_true rfl) ?_
  intro p e s m args below meth c Q ls H locs hx hb hml hown hts hK hZ hH hl hret
  have hl : lv_has ls 2 [(0, .ref (q 0))] := hl
  have hJ : jJ IvC 1 24560 0 z0 z0 := jJ_rf _ _ _ hI
  have e00 : (0 : Int32).toInt = 0 := (by decide); have e01 : (1 : Int32).toInt = 1 := (by decide); have e02 : (2 : Int32).toInt = 2 := (by decide); have e03 : (3 : Int32).toInt = 3 := (by decide); have e010 : (10 : Int32).toInt = 10 := (by decide)
  refine lv_aload_n hx hb dX5_task_0 rfl (lv_at hl 0 rfl) ?_
  refine b_get (ci := 5) (C := RX5) (T := TX5) (Nf := 12) (v := .ref (q 1)) hx hb hts in_X5_task_X5 hown hK hH 0 (by decide) rfl rfl 0 (by decide) (hts (.fieldLink RX5 12 "StationLine" "bench" "LStationLine$Bench;") (List.mem_of_getElem? (i := 1) rfl)) rfl dX5_task_1 ?_
  refine b_get (ci := 0) (C := RX0) (T := TX0) (Nf := 11) (v := .int (z0.1 0)) hx hb hts in_X5_task_X0 hown hK hH 1 (by decide) rfl rfl 0 (by decide) (hts (.fieldLink RX5 70 "StationLine$Bench" "size" "I") (List.mem_of_getElem? (i := 2) rfl)) rfl dX5_task_4 ?_
  have i7 := IvC_s0 hJ.1
  have := i7.1; have := i7.2
  refine lv_bipush (v := 10) hx hb dX5_task_7 (by decide) ?_
  refine lv_icmp_lt (tgt := 15) hx hb dX5_task_9 (by decide) (fun c8 => ?_) (fun c8 => ?_)
  · skip
    have r8 := (iv_Lt c8)
    have k9a : iv 0 9 (z0.1 0) := iv_ltl (iv_Lt c8) i7 (iv_lit (n := 10) 10 (by decide)) (by decide)
    refine lv_aload_n hx hb dX5_task_15 rfl (lv_at hl 0 rfl) ?_
    refine b_get (ci := 5) (C := RX5) (T := TX5) (Nf := 12) (v := .ref (q 1)) hx hb hts in_X5_task_X5 hown hK hH 0 (by decide) rfl rfl 0 (by decide) (hts (.fieldLink RX5 12 "StationLine" "bench" "LStationLine$Bench;") (List.mem_of_getElem? (i := 1) rfl)) rfl dX5_task_16 ?_
    refine b_calli (As := []) (rest := []) ⟨hx, hb, hml, hown, hts⟩ 1 0 (g_X0_add_1 l D cy q hH.2.1 z0 hJ.1 (iv_w k9a (by decide) (by decide))) (cwV 0 hts gX5_task_X0_add rfl rfl rfl (by decide +kernel) ⟨Nat.le_of_ble_eq_true rfl, Nat.le_of_ble_eq_true rfl⟩) hK hZ hH (by decide) rfl rfl rfl hl.1 rfl (Nat.le_of_ble_eq_true rfl) ⟨Nat.zero_le _, Nat.zero_le _⟩ dX5_task_19 (fun w10 z10 H locs hp hH => ?_)
    have hJ := jJ_tr hJ hp.1 (by decide) (by decide) (by decide)
    have i10 := hp.2.1
    have := i10.1; have := i10.2
    have f10_0 := hp.2.2.1
    have f10_1 := hp.2.2.2.1
    have f10_2 := hp.2.2.2.2
    have hA10 := hp.1.2
    refine lv_istore_n (lv' := [(1, .int w10), (0, .ref (q 0))]) hx hb dX5_task_22 rfl hl (by decide) rfl (fun ls hl => ?_)
    refine lv_aload_n hx hb dX5_task_23 rfl (lv_at hl 1 rfl) ?_
    refine b_get (ci := 5) (C := RX5) (T := TX5) (Nf := 12) (v := .ref (q 13)) hx hb hts in_X5_task_X5 hown hK hH 0 (by decide) rfl rfl 1 (by decide) (hts (.fieldLink RX5 21 "StationLine" "hand" "LStationLine$Putting;") (List.mem_of_getElem? (i := 3) rfl)) rfl dX5_task_24 ?_
    refine b_get (ci := 1) (C := RX1) (T := TX1) (Nf := 2) (v := .ref (q 14)) hx hb hts in_X5_task_X1 hown hK hH 13 (by decide) rfl rfl 1 (by decide) (hts (.fieldLink RX5 77 "StationLine$Putting" "row" "[I") (List.mem_of_getElem? (i := 4) rfl)) rfl dX5_task_27 ?_
    refine lv_iload_n hx hb dX5_task_30 rfl (lv_at hl 0 rfl) ?_
    refine lv_iconst (v := 0) hx hb dX5_task_31 (by decide) ?_
    refine b_iast hx hb hK hH 14 (by decide) rfl (iv_in i10 (by decide) (by decide)) (upA z10 14 (upd (z10.2.1 14) (w10 : Int32).toNatClampNeg 0)) rfl (enC_A _ _ _ _ _) dX5_task_32 (fun H locs hH => ?_)
    obtain ⟨z11, hz11⟩ : ∃ w : zS, w = upA z10 14 (upd (z10.2.1 14) (w10 : Int32).toNatClampNeg 0) := ⟨_, rfl⟩
    rw [← hz11] at hH
    have hJ : jJ IvC 1 24560 0 z0 z11 := by rw [hz11]; exact jJ_A hJ (by decide) (IvC_A14 hJ.1 _ (iv_w (iv_lit (n := 0) 0 (by decide)) (by decide) (by decide)))
    refine lv_iload_n hx hb dX5_task_33 rfl (lv_at hl 0 rfl) ?_
    exact hret _ z11 H locs _ _ ⟨hJ, (iv_w i10 (by decide) (by decide)), ⟨fun q => absurd (iv_Eq q) (by have e10 : (10 : Int32).toInt = 10 := (by decide); omega), fun _ => ⟨f10_0.1, ((show z11.1 0 = z10.1 0 by rw [hz11]; first | rfl | exact upA_n (by omega))).trans f10_0.2⟩⟩, ⟨⟨fun q => absurd (iv_Eq q) (by have e10 : (10 : Int32).toInt = 10 := (by decide); omega), fun _ => (((show z11.2.1 7 = z10.2.1 7 by rw [hz11]; first | rfl | exact upA_n (by omega)))).trans f10_1.1⟩, ⟨fun q => absurd (iv_Eq q) (by have e10 : (10 : Int32).toInt = 10 := (by decide); omega), fun _ => (((show z11.2.1 8 = z10.2.1 8 by rw [hz11]; first | rfl | exact upA_n (by omega)))).trans f10_1.2.1⟩, ⟨fun q => absurd (iv_Eq q) (by have e10 : (10 : Int32).toInt = 10 := (by decide); omega), fun _ => (((show z11.2.1 9 = z10.2.1 9 by rw [hz11]; first | rfl | exact upA_n (by omega)))).trans f10_1.2.2.1⟩, ⟨fun q => absurd (iv_Eq q) (by have e10 : (10 : Int32).toInt = 10 := (by decide); omega), fun _ => (((show z11.2.1 10 = z10.2.1 10 by rw [hz11]; first | rfl | exact upA_n (by omega)))).trans f10_1.2.2.2.1⟩, ⟨fun q => absurd (iv_Eq q) (by have e10 : (10 : Int32).toInt = 10 := (by decide); omega), fun _ => (((show z11.2.1 11 = z10.2.1 11 by rw [hz11]; first | rfl | exact upA_n (by omega)))).trans f10_1.2.2.2.2.1⟩, ⟨fun q => absurd (iv_Eq q) (by have e10 : (10 : Int32).toInt = 10 := (by decide); omega), fun _ => (((show z11.2.1 12 = z10.2.1 12 by rw [hz11]; first | rfl | exact upA_n (by omega)))).trans f10_1.2.2.2.2.2⟩⟩, (TkT_c f10_2 (fun q => absurd (iv_Eq q) (by have e10 : (10 : Int32).toInt = 10 := (by decide); omega)) (fun a ha => ((show z11.2.1 (4 + a) = z10.2.1 (4 + a) by rw [hz11]; first | rfl | exact upA_n (by omega)))))⟩ hH dX5_task_34
  · skip
    have r8 := (iv_nLt c8)
    have k12b : iv 10 10 (z0.1 0) := iv_ler (iv_nLt c8) (iv_lit (n := 10) 10 (by decide)) i7
    refine lv_bipush (v := (-2)) hx hb dX5_task_12 (by decide) ?_
    exact hret _ z0 H locs _ _ ⟨hJ, (iv_w (iv_lit (n := (-2)) (-2) (by decide)) (by decide) (by decide)), ⟨fun _ => ⟨rfl, rfl⟩, fun q => absurd (iv_10 (IvC_s0 hI) (by have e10 : (10 : Int32).toInt = 10 := (by decide); omega)) q⟩, ⟨⟨fun _ => rfl, fun q => absurd (iv_10 (IvC_s0 hI) (by have e10 : (10 : Int32).toInt = 10 := (by decide); omega)) q⟩, ⟨fun _ => rfl, fun q => absurd (iv_10 (IvC_s0 hI) (by have e10 : (10 : Int32).toInt = 10 := (by decide); omega)) q⟩, ⟨fun _ => rfl, fun q => absurd (iv_10 (IvC_s0 hI) (by have e10 : (10 : Int32).toInt = 10 := (by decide); omega)) q⟩, ⟨fun _ => rfl, fun q => absurd (iv_10 (IvC_s0 hI) (by have e10 : (10 : Int32).toInt = 10 := (by decide); omega)) q⟩, ⟨fun _ => rfl, fun q => absurd (iv_10 (IvC_s0 hI) (by have e10 : (10 : Int32).toInt = 10 := (by decide); omega)) q⟩, ⟨fun _ => rfl, fun q => absurd (iv_10 (IvC_s0 hI) (by have e10 : (10 : Int32).toInt = 10 := (by decide); omega)) q⟩⟩, ⟨fun _ _ _ _ _ => rfl, fun q => absurd (iv_10 (IvC_s0 hI) (by have e10 : (10 : Int32).toInt = 10 := (by decide); omega)) q⟩⟩ hH dX5_task_14
set_option maxHeartbeats 4000000 in
set_option maxRecDepth 100000 in
theorem g_X5_time_0 (l : Launch) (D : va_G) (cy : Nat → ClassId) (q : Nat → Nat) (hq : bJ 66 q) (z0 : zS) (hI : IvC z0) (p0 : Int32) (p1 : Int32) (p2 : Int32) : bCi l yX5_time wsX5_time ({ frames := 1, cells := 0, slots := 0, locals := 21 }) D cy 66 (enC cy) q z0 [.ref (q 0), .int p0, .int p1, .int p2] (fun v z => jJ IvC 0 112 0 z0 z ∧ iv (-2147483648) 2147483647 v ∧ (TimeP (z0.1 0) (fun a b => z0.2.1 (4 + a) b) p0 p1 p2 v (fun a b => z.2.1 (4 + a) b))) := by
  refine hM_i cX5_time (by decide) rfl (own := RX5) rfl hq (Nat.le_of_ble_eq_true rfl) ?_
  intro p e s m args below meth c Q ls H locs hx hb hml hown hts hK hZ hH hl hret
  have hl : lv_has ls 5 [(0, .ref (q 0)), (1, .int p0), (2, .int p1), (3, .int p2)] := hl
  have hJ : jJ IvC 0 112 0 z0 z0 := jJ_rf _ _ _ hI
  have e00 : (0 : Int32).toInt = 0 := (by decide); have e01 : (1 : Int32).toInt = 1 := (by decide); have e02 : (2 : Int32).toInt = 2 := (by decide); have e03 : (3 : Int32).toInt = 3 := (by decide); have e010 : (10 : Int32).toInt = 10 := (by decide)
  have e100 : (100 : Int32).toInt = 100 := (by decide)
  refine lv_aload_n hx hb dX5_time_0 rfl (lv_at hl 0 rfl) ?_
  refine b_get (ci := 5) (C := RX5) (T := TX5) (Nf := 12) (v := .ref (q 1)) hx hb hts in_X5_time_X5 hown hK hH 0 (by decide) rfl rfl 0 (by decide) (hts (.fieldLink RX5 12 "StationLine" "bench" "LStationLine$Bench;") (List.mem_of_getElem? (i := 1) rfl)) rfl dX5_time_1 ?_
  refine lv_iload_n hx hb dX5_time_4 rfl (lv_at hl 1 rfl) ?_
  refine b_calli (As := [.int p0]) (rest := []) ⟨hx, hb, hml, hown, hts⟩ 1 0 (g_X0_has_1 l D cy q hH.2.1 z0 hJ.1 p0) (cwV 1 hts gX5_time_X0_has rfl rfl rfl (by decide +kernel) ⟨Nat.le_of_ble_eq_true rfl, Nat.le_of_ble_eq_true rfl⟩) hK hZ hH (by decide) rfl rfl rfl hl.1 rfl (Nat.le_of_ble_eq_true rfl) ⟨Nat.zero_le _, Nat.zero_le _⟩ dX5_time_5 (fun w20 z20 H locs hp hH => ?_)
  rw [Ag_0 hp.1.2] at hH
  have i20 := hp.2.1
  have := i20.1; have := i20.2
  have tr20_0 := hp.2.2.1
  have f20_0 := hp.2.2.2
  refine lv_if_eq (tgt := 29) hx hb dX5_time_8 (by decide) (fun c21 => ?_) (fun c21 => ?_)
  · skip
    have r21 := (iv_Eq c21)
    have k22a : iv 0 0 w20 := iv_eql (iv_Eq c21) i20 (iv_lit (n := 0) 0 (by decide)) (by decide) (by decide)
    refine lv_bipush (v := (-2)) hx hb dX5_time_29 (by decide) ?_
    exact hret _ z0 H locs _ _ ⟨hJ, (iv_w (iv_lit (n := (-2)) (-2) (by decide)) (by decide) (by decide)), ⟨fun q => absurd q (fun q => absurd ⟨q.1, q.2.1⟩ (f20_0.mp c21)), fun _ => ⟨rfl, fun _ _ _ _ => rfl⟩⟩⟩ hH dX5_time_31
  · skip
    have k23 : iv 0 9 p0 := (tr20_0).resolve_left c21
    have := k23.1; have := k23.2
    have r21 := (iv_nEq c21)
    have k24a : iv 1 1 w20 := iv_neLo (iv_nEq c21) i20 (by decide) (by decide)
    refine lv_iload_n hx hb dX5_time_11 rfl (lv_at hl 2 rfl) ?_
    refine b_stati (As := [.int p1]) (rest := []) ⟨hx, hb, hml, hown, hts⟩ (g_X5_isMake l D cy q hH.2.1 z0 hJ.1 p1) (va_cwS 1 hts gX5_time_X5_isMake rfl rfl rfl (by decide +kernel) ⟨Nat.le_of_ble_eq_true rfl, Nat.le_of_ble_eq_true rfl⟩) hK hZ hH rfl hl.1 rfl (Nat.le_of_ble_eq_true rfl) ⟨Nat.zero_le _, Nat.zero_le _⟩ dX5_time_12 (fun w25 z25 H locs hp hH => ?_)
    rw [Ag_0 hp.1.2] at hH
    have i25 := hp.2.1
    have := i25.1; have := i25.2
    have tr25_0 := hp.2.2.1
    have f25_0 := hp.2.2.2
    refine lv_if_eq (tgt := 29) hx hb dX5_time_15 (by decide) (fun c26 => ?_) (fun c26 => ?_)
    · skip
      have r26 := (iv_Eq c26)
      have k27a : iv 0 0 w25 := iv_eql (iv_Eq c26) i25 (iv_lit (n := 0) 0 (by decide)) (by decide) (by decide)
      refine lv_bipush (v := (-2)) hx hb dX5_time_29 (by decide) ?_
      exact hret _ z0 H locs _ _ ⟨hJ, (iv_w (iv_lit (n := (-2)) (-2) (by decide)) (by decide) (by decide)), ⟨fun q => absurd q (fun q => absurd q.2.2.1 (f25_0.mp c26)), fun _ => ⟨rfl, fun _ _ _ _ => rfl⟩⟩⟩ hH dX5_time_31
    · skip
      have k28 : iv 0 2 p1 := (tr25_0).resolve_left c26
      have := k28.1; have := k28.2
      have r26 := (iv_nEq c26)
      have k29a : iv 1 1 w25 := iv_neLo (iv_nEq c26) i25 (by decide) (by decide)
      refine lv_iload_n hx hb dX5_time_18 rfl (lv_at hl 3 rfl) ?_
      refine lv_iconst (v := 1) hx hb dX5_time_19 (by decide) ?_
      refine lv_icmp_lt (tgt := 29) hx hb dX5_time_20 (by decide) (fun c30 => ?_) (fun c30 => ?_)
      · skip
        have r30 := (iv_Lt c30)
        have k31a : iv (-2147483648) 0 p2 := iv_ltl (iv_Lt c30) (iv_all p2) (iv_lit (n := 1) 1 (by decide)) (by decide)
        refine lv_bipush (v := (-2)) hx hb dX5_time_29 (by decide) ?_
        exact hret _ z0 H locs _ _ ⟨hJ, (iv_w (iv_lit (n := (-2)) (-2) (by decide)) (by decide) (by decide)), ⟨fun q => absurd q (fun q => (by have := q.2.2.2.1; have := q.2.2.2.2; omega)), fun _ => ⟨rfl, fun _ _ _ _ => rfl⟩⟩⟩ hH dX5_time_31
      · skip
        have r30 := (iv_nLt c30)
        have k32b : iv 1 2147483647 p2 := iv_ler (iv_nLt c30) (iv_lit (n := 1) 1 (by decide)) (iv_all p2)
        refine lv_iload_n hx hb dX5_time_23 rfl (lv_at hl 3 rfl) ?_
        refine lv_bipush (v := 100) hx hb dX5_time_24 (by decide) ?_
        refine lv_icmp_le (tgt := 32) hx hb dX5_time_26 (by decide) (fun c33 => ?_) (fun c33 => ?_)
        · skip
          have r33 := (iv_Le c33)
          have k34a : iv 1 100 p2 := iv_lel (iv_Le c33) k32b (iv_lit (n := 100) 100 (by decide))
          refine lv_aload_n hx hb dX5_time_32 rfl (lv_at hl 0 rfl) ?_
          refine b_get (ci := 5) (C := RX5) (T := TX5) (Nf := 12) (v := .ref (q 1)) hx hb hts in_X5_time_X5 hown hK hH 0 (by decide) rfl rfl 0 (by decide) (hts (.fieldLink RX5 12 "StationLine" "bench" "LStationLine$Bench;") (List.mem_of_getElem? (i := 1) rfl)) rfl dX5_time_33 ?_
          refine b_get (ci := 0) (C := RX0) (T := TX0) (Nf := 11) (v := .ref (q 3)) hx hb hts in_X5_time_X0 hown hK hH 1 (by decide) rfl rfl 4 (by decide) (hts (.fieldLink RX5 87 "StationLine$Bench" "times" "[[I") (List.mem_of_getElem? (i := 2) rfl)) rfl dX5_time_36 ?_
          refine lv_iload_n hx hb dX5_time_39 rfl (lv_at hl 2 rfl) ?_
          refine h_aaldE (n := 3) hx hb hK hH 3 3 4 (by decide) rfl rfl (iv_in k28 (by decide) (by decide)) dX5_time_40 (fun k35 hk35 ek35 => ?_)
          refine lv_iload_n hx hb dX5_time_41 rfl (lv_at hl 1 rfl) ?_
          refine b_iald (v := z0.2.1 k35 (p0 : Int32).toNatClampNeg) hx hb hK hH k35 (Nat.lt_of_lt_of_le hk35.2 (by decide)) (enC_g4 cy q _ k35 hk35) (iv_in k23 (by decide) (by decide)) rfl dX5_time_42 ?_
          refine lv_istore (lv' := [(4, .int (z0.2.1 k35 (p0 : Int32).toNatClampNeg)), (0, .ref (q 0)), (1, .int p0), (2, .int p1), (3, .int p2)]) hx hb dX5_time_43 hl (by decide) rfl (fun ls hl => ?_)
          refine lv_aload_n hx hb dX5_time_45 rfl (lv_at hl 1 rfl) ?_
          refine b_get (ci := 5) (C := RX5) (T := TX5) (Nf := 12) (v := .ref (q 1)) hx hb hts in_X5_time_X5 hown hK hH 0 (by decide) rfl rfl 0 (by decide) (hts (.fieldLink RX5 12 "StationLine" "bench" "LStationLine$Bench;") (List.mem_of_getElem? (i := 1) rfl)) rfl dX5_time_46 ?_
          refine b_get (ci := 0) (C := RX0) (T := TX0) (Nf := 11) (v := .ref (q 3)) hx hb hts in_X5_time_X0 hown hK hH 1 (by decide) rfl rfl 4 (by decide) (hts (.fieldLink RX5 87 "StationLine$Bench" "times" "[[I") (List.mem_of_getElem? (i := 2) rfl)) rfl dX5_time_49 ?_
          refine lv_iload_n hx hb dX5_time_52 rfl (lv_at hl 3 rfl) ?_
          refine h_aaldE (n := 3) hx hb hK hH 3 3 4 (by decide) rfl rfl (iv_in k28 (by decide) (by decide)) dX5_time_53 (fun k36 hk36 ek36 => ?_)
          refine lv_iload_n hx hb dX5_time_54 rfl (lv_at hl 2 rfl) ?_
          refine lv_iload_n hx hb dX5_time_55 rfl (lv_at hl 4 rfl) ?_
          refine b_iast hx hb hK hH k36 (Nat.lt_of_lt_of_le hk36.2 (by decide)) (enC_g4 cy q _ k36 hk36) (iv_in k23 (by decide) (by decide)) (upA z0 k36 (upd (z0.2.1 k36) (p0 : Int32).toNatClampNeg p2)) (enC_sa4 cy q _ k36 _ hk36) (enC_A _ _ _ _ _) dX5_time_56 (fun H locs hH => ?_)
          obtain ⟨z37, hz37⟩ : ∃ w : zS, w = upA z0 k36 (upd (z0.2.1 k36) (p0 : Int32).toNatClampNeg p2) := ⟨_, rfl⟩
          rw [← hz37] at hH
          have hJ : jJ IvC 0 112 0 z0 z37 := by rw [hz37]; exact jJ_A hJ (tb_grp (g0 := 4) (n := 3) (by decide) hk36) (IvC_A hJ.1 (by omega))
          refine lv_iload hx hb dX5_time_57 (lv_at hl 0 rfl) ?_
          exact hret _ z37 H locs _ _ ⟨hJ, (iv_all (z0.2.1 k35 (p0 : Int32).toNatClampNeg)), ⟨fun _ => ⟨congrArg (fun k => z0.2.1 k p0.toNatClampNeg) ek35, (by rw [hz37]; exact set_c ek36)⟩, fun q => absurd ⟨(Classical.byContradiction (fun n => c21 (f20_0.mpr n))).1, (Classical.byContradiction (fun n => c21 (f20_0.mpr n))).2, (Classical.byContradiction (fun n => c26 (f25_0.mpr n))), ⟨by omega, by omega⟩⟩ q⟩⟩ hH dX5_time_59
        · skip
          have r33 := (iv_nLe c33)
          have k38b : iv 101 2147483647 p2 := iv_ltr (iv_nLe c33) (iv_lit (n := 100) 100 (by decide)) k32b (by decide)
          refine lv_bipush (v := (-2)) hx hb dX5_time_29 (by decide) ?_
          exact hret _ z0 H locs _ _ ⟨hJ, (iv_w (iv_lit (n := (-2)) (-2) (by decide)) (by decide) (by decide)), ⟨fun q => absurd q (fun q => (by have := q.2.2.2.1; have := q.2.2.2.2; omega)), fun _ => ⟨rfl, fun _ _ _ _ => rfl⟩⟩⟩ hH dX5_time_31
set_option maxHeartbeats 4000000 in
set_option maxRecDepth 100000 in
theorem g_X5_share_0 (l : Launch) (D : va_G) (cy : Nat → ClassId) (q : Nat → Nat) (hq : bJ 66 q) (z0 : zS) (hI : IvC z0) (p0 : Int32) (p1 : Int32) : bCi l yX5_share wsX5_share ({ frames := 1, cells := 0, slots := 0, locals := 20 }) D cy 66 (enC cy) q z0 [.ref (q 0), .int p0, .int p1] (fun v z => jJ IvC 0 4 0 z0 z ∧ iv (-2147483648) 2147483647 v) := by
  refine hM_i cX5_share (by decide) rfl (own := RX5) rfl hq (Nat.le_of_ble_eq_true rfl) ?_
  intro p e s m args below meth c Q ls H locs hx hb hml hown hts hK hZ hH hl hret
  have hl : lv_has ls 4 [(0, .ref (q 0)), (1, .int p0), (2, .int p1)] := hl
  have hJ : jJ IvC 0 4 0 z0 z0 := jJ_rf _ _ _ hI
  have HJ17 : ∀ (z_17 : zS) (H : Heap) (locs : List Loc) (ls : Array Slot), jJ IvC 0 4 0 z0 z_17 → bH D 66 (enC cy) q z_17 s.heap H locs → lv_has ls 4 [] → W p l e ({ frames := 1, cells := 0, slots := 0, locals := 20 }) s m args below meth c H locs 0 0 Q (F0 m 17 ls []) := by
    intro z_17 H locs ls hJ hH hl
    refine lv_bipush (v := (-2)) hx hb dX5_share_17 (by decide) ?_
    exact hret _ z_17 H locs _ _ ⟨hJ, (iv_w (iv_lit (n := (-2)) (-2) (by decide)) (by decide) (by decide))⟩ hH dX5_share_19
  refine lv_iload_n hx hb dX5_share_0 rfl (lv_at hl 1 rfl) ?_
  refine b_stati (As := [.int p0]) (rest := []) ⟨hx, hb, hml, hown, hts⟩ (g_X5_isMake l D cy q hH.2.1 z0 hJ.1 p0) (va_cwS 1 hts gX5_share_X5_isMake rfl rfl rfl (by decide +kernel) ⟨Nat.le_of_ble_eq_true rfl, Nat.le_of_ble_eq_true rfl⟩) hK hZ hH rfl hl.1 rfl (Nat.le_of_ble_eq_true rfl) ⟨Nat.zero_le _, Nat.zero_le _⟩ dX5_share_1 (fun w19 z19 H locs hp hH => ?_)
  rw [Ag_0 hp.1.2] at hH
  have i19 := hp.2.1
  have tr19_0 := hp.2.2.1
  have f19_0 := hp.2.2.2
  refine lv_if_eq (tgt := 17) hx hb dX5_share_4 (by decide) (fun c20 => ?_) (fun c20 => ?_)
  · skip
    have k21a : iv 0 0 w19 := iv_eql (iv_Eq c20) i19 (iv_lit (n := 0) 0 (by decide)) (by decide) (by decide)
    exact HJ17  z0 H locs ls  hJ hH (lv_sub hl [] rfl)
  · skip
    have k22 : iv 0 2 p0 := (tr19_0).resolve_left c20
    have k23a : iv 1 1 w19 := iv_neLo (iv_nEq c20) i19 (by decide) (by decide)
    refine lv_iload_n hx hb dX5_share_7 rfl (lv_at hl 2 rfl) ?_
    refine lv_if_lt (tgt := 17) hx hb dX5_share_8 (by decide) (fun c24 => ?_) (fun c24 => ?_)
    · skip
      have k25a : iv (-2147483648) (-1) p1 := iv_ltl (iv_Lt c24) (iv_all p1) (iv_lit (n := 0) 0 (by decide)) (by decide)
      exact HJ17  z0 H locs ls  hJ hH (lv_sub hl [] rfl)
    · skip
      have k26b : iv 0 2147483647 p1 := iv_ler (iv_nLt c24) (iv_lit (n := 0) 0 (by decide)) (iv_all p1)
      refine lv_iload_n hx hb dX5_share_11 rfl (lv_at hl 2 rfl) ?_
      refine lv_bipush (v := 9) hx hb dX5_share_12 (by decide) ?_
      refine lv_icmp_le (tgt := 20) hx hb dX5_share_14 (by decide) (fun c27 => ?_) (fun c27 => ?_)
      · skip
        have k28a : iv 0 9 p1 := iv_lel (iv_Le c27) k26b (iv_lit (n := 9) 9 (by decide))
        refine lv_aload_n hx hb dX5_share_20 rfl (lv_at hl 0 rfl) ?_
        refine b_get (ci := 5) (C := RX5) (T := TX5) (Nf := 12) (v := .ref (q 1)) hx hb hts in_X5_share_X5 hown hK hH 0 (by decide) rfl rfl 0 (by decide) (hts (.fieldLink RX5 12 "StationLine" "bench" "LStationLine$Bench;") (List.mem_of_getElem? (i := 1) rfl)) rfl dX5_share_21 ?_
        refine b_get (ci := 0) (C := RX0) (T := TX0) (Nf := 11) (v := .ref (q 2)) hx hb hts in_X5_share_X0 hown hK hH 1 (by decide) rfl rfl 3 (by decide) (hts (.fieldLink RX5 91 "StationLine$Bench" "shares" "[I") (List.mem_of_getElem? (i := 2) rfl)) rfl dX5_share_24 ?_
        refine lv_iload_n hx hb dX5_share_27 rfl (lv_at hl 1 rfl) ?_
        refine b_iald (v := z0.2.1 2 (p0 : Int32).toNatClampNeg) hx hb hK hH 2 (by decide) rfl (iv_in k22 (by decide) (by decide)) rfl dX5_share_28 ?_
        refine lv_istore_n (lv' := [(3, .int (z0.2.1 2 (p0 : Int32).toNatClampNeg)), (0, .ref (q 0)), (1, .int p0), (2, .int p1)]) hx hb dX5_share_29 rfl hl (by decide) rfl (fun ls hl => ?_)
        refine lv_aload_n hx hb dX5_share_30 rfl (lv_at hl 1 rfl) ?_
        refine b_get (ci := 5) (C := RX5) (T := TX5) (Nf := 12) (v := .ref (q 1)) hx hb hts in_X5_share_X5 hown hK hH 0 (by decide) rfl rfl 0 (by decide) (hts (.fieldLink RX5 12 "StationLine" "bench" "LStationLine$Bench;") (List.mem_of_getElem? (i := 1) rfl)) rfl dX5_share_31 ?_
        refine b_calli (As := []) (rest := []) ⟨hx, hb, hml, hown, hts⟩ 1 0 (g_X0_shareSum_1 l D cy q hH.2.1 z0 hJ.1 ) (cwV 0 hts gX5_share_X0_shareSum rfl rfl rfl (by decide +kernel) ⟨Nat.le_of_ble_eq_true rfl, Nat.le_of_ble_eq_true rfl⟩) hK hZ hH (by decide) rfl rfl rfl hl.1 rfl (Nat.le_of_ble_eq_true rfl) ⟨Nat.zero_le _, Nat.zero_le _⟩ dX5_share_34 (fun w29 z29 H locs hp hH => ?_)
        rw [Ag_0 hp.1.2] at hH
        refine lv_iload_n hx hb dX5_share_37 rfl (lv_at hl 0 rfl) ?_
        refine lv_isub hx hb dX5_share_38 ?_
        refine lv_topi (fun w30 _ => ?_)
        refine lv_iload_n hx hb dX5_share_39 rfl (lv_at hl 3 rfl) ?_
        refine lv_iadd hx hb dX5_share_40 ?_
        refine lv_topi (fun w31 _ => ?_)
        refine lv_if_ne (tgt := 47) hx hb dX5_share_41 (by decide) (fun c32 => ?_) (fun c32 => ?_)
        · skip
          refine lv_aload_n hx hb dX5_share_47 rfl (lv_at hl 1 rfl) ?_
          refine b_get (ci := 5) (C := RX5) (T := TX5) (Nf := 12) (v := .ref (q 1)) hx hb hts in_X5_share_X5 hown hK hH 0 (by decide) rfl rfl 0 (by decide) (hts (.fieldLink RX5 12 "StationLine" "bench" "LStationLine$Bench;") (List.mem_of_getElem? (i := 1) rfl)) rfl dX5_share_48 ?_
          refine b_get (ci := 0) (C := RX0) (T := TX0) (Nf := 11) (v := .ref (q 2)) hx hb hts in_X5_share_X0 hown hK hH 1 (by decide) rfl rfl 3 (by decide) (hts (.fieldLink RX5 91 "StationLine$Bench" "shares" "[I") (List.mem_of_getElem? (i := 2) rfl)) rfl dX5_share_51 ?_
          refine lv_iload_n hx hb dX5_share_54 rfl (lv_at hl 2 rfl) ?_
          refine lv_iload_n hx hb dX5_share_55 rfl (lv_at hl 3 rfl) ?_
          refine b_iast hx hb hK hH 2 (by decide) rfl (iv_in k22 (by decide) (by decide)) (upA z0 2 (upd (z0.2.1 2) (p0 : Int32).toNatClampNeg p1)) rfl (enC_A _ _ _ _ _) dX5_share_56 (fun H locs hH => ?_)
          obtain ⟨z34, hz34⟩ : ∃ w : zS, w = upA z0 2 (upd (z0.2.1 2) (p0 : Int32).toNatClampNeg p1) := ⟨_, rfl⟩
          rw [← hz34] at hH
          have hJ : jJ IvC 0 4 0 z0 z34 := by rw [hz34]; exact jJ_A hJ (by decide) (IvC_A hJ.1 (by decide))
          refine lv_iload_n hx hb dX5_share_57 rfl (lv_at hl 0 rfl) ?_
          exact hret _ z34 H locs _ _ ⟨hJ, (iv_all (z0.2.1 2 (p0 : Int32).toNatClampNeg))⟩ hH dX5_share_58
        · skip
          have k35a : iv 0 0 w31 := iv_eql (iv_Eq c32) (iv_all w31) (iv_lit (n := 0) 0 (by decide)) (by decide) (by decide)
          refine lv_bipush (v := (-2)) hx hb dX5_share_44 (by decide) ?_
          exact hret _ z0 H locs _ _ ⟨hJ, (iv_w (iv_lit (n := (-2)) (-2) (by decide)) (by decide) (by decide))⟩ hH dX5_share_46
      · skip
        have k36b : iv 10 2147483647 p1 := iv_ltr (iv_nLe c27) (iv_lit (n := 9) 9 (by decide)) k26b (by decide)
        exact HJ17  z0 H locs ls  hJ hH (lv_sub hl [] rfl)
set_option maxHeartbeats 4000000 in
set_option maxRecDepth 100000 in
theorem g_X5_ahead_0 (l : Launch) (D : va_G) (cy : Nat → ClassId) (q : Nat → Nat) (hq : bJ 66 q) (z0 : zS) (hI : IvC z0) (p0 : Int32) (p1 : Int32) : bCi l yX5_ahead wsX5_ahead ({ frames := 3, cells := 0, slots := 0, locals := 84 }) D cy 66 (enC cy) q z0 [.ref (q 0), .int p0, .int p1] (fun v z => jJ IvC 128 3221226368 0 z0 z ∧ iv (-3) 1 v ∧ (AhP (z0.1 0) (z0.2.1 7) (bitN (z0.2.1 8 p0.toNatClampNeg) p1.toNatClampNeg) p0 p1 v (z.2.1 7)) ∧ (LdI (z0.2.1 7) (z0.1 0).toNatClampNeg (z0.2.1 8) → LdI (z.2.1 7) (z0.1 0).toNatClampNeg (z.2.1 8)) ∧ (AhR (z0.1 0) (bitN (z0.2.1 8 p0.toNatClampNeg) p1.toNatClampNeg) (z0.2.1 7) p0 p1 (z0.1 7) (z0.2.1 30) (z.1 7) (z.2.1 30))) := by
  refine hM_i cX5_ahead (by decide) rfl (own := RX5) rfl hq (Nat.le_of_ble_eq_true rfl) ?_
  intro p e s m args below meth c Q ls H locs hx hb hml hown hts hK hZ hH hl hret
  have hl : lv_has ls 3 [(0, .ref (q 0)), (1, .int p0), (2, .int p1)] := hl
  have hJ : jJ IvC 128 3221226368 0 z0 z0 := jJ_rf _ _ _ hI
  have e00 : (0 : Int32).toInt = 0 := (by decide); have e01 : (1 : Int32).toInt = 1 := (by decide); have e02 : (2 : Int32).toInt = 2 := (by decide); have e03 : (3 : Int32).toInt = 3 := (by decide); have e010 : (10 : Int32).toInt = 10 := (by decide)
  refine lv_aload_n hx hb dX5_ahead_0 rfl (lv_at hl 0 rfl) ?_
  refine b_get (ci := 5) (C := RX5) (T := TX5) (Nf := 12) (v := .ref (q 1)) hx hb hts in_X5_ahead_X5 hown hK hH 0 (by decide) rfl rfl 0 (by decide) (hts (.fieldLink RX5 12 "StationLine" "bench" "LStationLine$Bench;") (List.mem_of_getElem? (i := 1) rfl)) rfl dX5_ahead_1 ?_
  refine lv_iload_n hx hb dX5_ahead_4 rfl (lv_at hl 1 rfl) ?_
  refine b_calli (As := [.int p0]) (rest := []) ⟨hx, hb, hml, hown, hts⟩ 1 0 (g_X0_has_1 l D cy q hH.2.1 z0 hJ.1 p0) (cwV 1 hts gX5_ahead_X0_has rfl rfl rfl (by decide +kernel) ⟨Nat.le_of_ble_eq_true rfl, Nat.le_of_ble_eq_true rfl⟩) hK hZ hH (by decide) rfl rfl rfl hl.1 rfl (Nat.le_of_ble_eq_true rfl) ⟨Nat.zero_le _, Nat.zero_le _⟩ dX5_ahead_5 (fun w25 z25 H locs hp hH => ?_)
  rw [Ag_0 hp.1.2] at hH
  have i25 := hp.2.1
  have := i25.1; have := i25.2
  have tr25_0 := hp.2.2.1
  have f25_0 := hp.2.2.2
  refine lv_if_eq (tgt := 22) hx hb dX5_ahead_8 (by decide) (fun c26 => ?_) (fun c26 => ?_)
  · skip
    have r26 := (iv_Eq c26)
    have k27a : iv 0 0 w25 := iv_eql (iv_Eq c26) i25 (iv_lit (n := 0) 0 (by decide)) (by decide) (by decide)
    refine lv_bipush (v := (-2)) hx hb dX5_ahead_22 (by decide) ?_
    exact hret _ z0 H locs _ _ ⟨hJ, (iv_w (iv_lit (n := (-2)) (-2) (by decide)) (by decide) (by decide)), ⟨fun _ => ⟨rfl, rfl⟩, fun q => absurd q (fun q => absurd q.1 (f25_0.mp c26))⟩, fun h => h, ⟨fun o => absurd o (fun o => (fun q => absurd q.1 (f25_0.mp c26)) o.1), fun _ => ⟨rfl, rfl⟩⟩⟩ hH dX5_ahead_24
  · skip
    have k28 : iv 0 9 p0 := (tr25_0).resolve_left c26
    have := k28.1; have := k28.2
    have r26 := (iv_nEq c26)
    have k29a : iv 1 1 w25 := iv_neLo (iv_nEq c26) i25 (by decide) (by decide)
    refine lv_aload_n hx hb dX5_ahead_11 rfl (lv_at hl 0 rfl) ?_
    refine b_get (ci := 5) (C := RX5) (T := TX5) (Nf := 12) (v := .ref (q 1)) hx hb hts in_X5_ahead_X5 hown hK hH 0 (by decide) rfl rfl 0 (by decide) (hts (.fieldLink RX5 12 "StationLine" "bench" "LStationLine$Bench;") (List.mem_of_getElem? (i := 1) rfl)) rfl dX5_ahead_12 ?_
    refine lv_iload_n hx hb dX5_ahead_15 rfl (lv_at hl 2 rfl) ?_
    refine b_calli (As := [.int p1]) (rest := []) ⟨hx, hb, hml, hown, hts⟩ 1 0 (g_X0_has_1 l D cy q hH.2.1 z0 hJ.1 p1) (cwV 1 hts gX5_ahead_X0_has rfl rfl rfl (by decide +kernel) ⟨Nat.le_of_ble_eq_true rfl, Nat.le_of_ble_eq_true rfl⟩) hK hZ hH (by decide) rfl rfl rfl hl.1 rfl (Nat.le_of_ble_eq_true rfl) ⟨Nat.zero_le _, Nat.zero_le _⟩ dX5_ahead_16 (fun w30 z30 H locs hp hH => ?_)
    rw [Ag_0 hp.1.2] at hH
    have i30 := hp.2.1
    have := i30.1; have := i30.2
    have tr30_0 := hp.2.2.1
    have f30_0 := hp.2.2.2
    refine lv_if_ne (tgt := 25) hx hb dX5_ahead_19 (by decide) (fun c31 => ?_) (fun c31 => ?_)
    · skip
      have k32 : iv 0 9 p1 := (tr30_0).resolve_left c31
      have := k32.1; have := k32.2
      have r31 := (iv_nEq c31)
      have k33a : iv 1 1 w30 := iv_neLo (iv_nEq c31) i30 (by decide) (by decide)
      refine lv_iload_n hx hb dX5_ahead_25 rfl (lv_at hl 1 rfl) ?_
      refine lv_iload_n hx hb dX5_ahead_26 rfl (lv_at hl 2 rfl) ?_
      refine lv_icmp_eq (tgt := 46) hx hb dX5_ahead_27 (by decide) (fun c34 => ?_) (fun c34 => ?_)
      · skip
        have r34 := (iv_Eq c34)
        refine lv_aload_n hx hb dX5_ahead_46 rfl (lv_at hl 0 rfl) ?_
        refine b_get (ci := 5) (C := RX5) (T := TX5) (Nf := 12) (v := .ref (q 29)) hx hb hts in_X5_ahead_X5 hown hK hH 0 (by decide) rfl rfl 5 (by decide) (hts (.fieldLink RX5 38 "StationLine" "ring" "LStationLine$Ring;") (List.mem_of_getElem? (i := 3) rfl)) rfl dX5_ahead_47 ?_
        refine lv_aload_n hx hb dX5_ahead_50 rfl (lv_at hl 0 rfl) ?_
        refine b_get (ci := 5) (C := RX5) (T := TX5) (Nf := 12) (v := .ref (q 1)) hx hb hts in_X5_ahead_X5 hown hK hH 0 (by decide) rfl rfl 0 (by decide) (hts (.fieldLink RX5 12 "StationLine" "bench" "LStationLine$Bench;") (List.mem_of_getElem? (i := 1) rfl)) rfl dX5_ahead_51 ?_
        refine lv_iload_n hx hb dX5_ahead_54 rfl (lv_at hl 1 rfl) ?_
        refine lv_iload_n hx hb dX5_ahead_55 rfl (lv_at hl 2 rfl) ?_
        refine b_callv (As := [.ref (q 1), .int p0, .int p1]) (rest := []) ⟨hx, hb, hml, hown, hts⟩ 29 2 (g_X2_trace_29 l D cy q hH.2.1 z0 hJ.1 p0 k28 p1 k32) (cwV 3 hts gX5_ahead_X2_trace rfl rfl rfl (by decide +kernel) ⟨Nat.le_of_ble_eq_true rfl, Nat.le_of_ble_eq_true rfl⟩) hK hZ hH (by decide) rfl rfl rfl hl.1 rfl (Nat.le_of_ble_eq_true rfl) ⟨Nat.zero_le _, Nat.zero_le _⟩ dX5_ahead_56 (fun z36 H locs hp hH => ?_)
        have hJ := jJ_tr hJ hp.1 (by decide) (by decide) (by decide)
        have f36_0 := hp.2
        have hA36 := hp.1.2
        refine lv_bipush (v := (-3)) hx hb dX5_ahead_59 (by decide) ?_
        exact hret _ z36 H locs _ _ ⟨hJ, (iv_w (iv_lit (n := (-3)) (-3) (by decide)) (by decide) (by decide)), ⟨fun q => absurd ⟨(Classical.byContradiction (fun n => c26 (f25_0.mpr n))), (Classical.byContradiction (fun n => c31 (f30_0.mpr n)))⟩ q, fun _ => ⟨fun _ => ⟨rfl, ((hA36.2.1 7 (by decide)))⟩, fun n => absurd (Or.inl c34) n⟩⟩, fun h => (by rw [((hA36.2.1 7 (by decide))), ((hA36.2.1 8 (by decide)))]; exact h), ⟨fun _ => f36_0, fun n => absurd ⟨⟨(Classical.byContradiction (fun n => c26 (f25_0.mpr n))), (Classical.byContradiction (fun n => c31 (f30_0.mpr n)))⟩, Or.inl c34⟩ n⟩⟩ hH dX5_ahead_61
      · skip
        have r34 := (iv_nEq c34)
        refine lv_aload_n hx hb dX5_ahead_30 rfl (lv_at hl 0 rfl) ?_
        refine b_get (ci := 5) (C := RX5) (T := TX5) (Nf := 12) (v := .ref (q 1)) hx hb hts in_X5_ahead_X5 hown hK hH 0 (by decide) rfl rfl 0 (by decide) (hts (.fieldLink RX5 12 "StationLine" "bench" "LStationLine$Bench;") (List.mem_of_getElem? (i := 1) rfl)) rfl dX5_ahead_31 ?_
        refine b_get (ci := 0) (C := RX0) (T := TX0) (Nf := 11) (v := .ref (q 8)) hx hb hts in_X5_ahead_X0 hown hK hH 1 (by decide) rfl rfl 6 (by decide) (hts (.fieldLink RX5 97 "StationLine$Bench" "leading" "[I") (List.mem_of_getElem? (i := 2) rfl)) rfl dX5_ahead_34 ?_
        refine lv_iload_n hx hb dX5_ahead_37 rfl (lv_at hl 1 rfl) ?_
        refine b_iald (v := z0.2.1 8 (p0 : Int32).toNatClampNeg) hx hb hK hH 8 (by decide) rfl (iv_in k28 (by decide) (by decide)) rfl dX5_ahead_38 ?_
        refine lv_iconst (v := 1) hx hb dX5_ahead_39 (by decide) ?_
        refine lv_iload_n hx hb dX5_ahead_40 rfl (lv_at hl 2 rfl) ?_
        refine lv_ishl hx hb dX5_ahead_41 ?_
        have i38 : iv 1 512 ((1 : Int32) <<< (p1 &&& 31)) := (iv_bit k32 (by decide) (by decide))
        refine lv_iand hx hb dX5_ahead_42 ?_
        have i39 : iv 0 512 ((z0.2.1 8 (p0 : Int32).toNatClampNeg) &&& ((1 : Int32) <<< (p1 &&& 31))) := (iv_and2 (iv_all (z0.2.1 8 (p0 : Int32).toNatClampNeg)) i38 (by decide) (by decide))
        refine lv_if_eq (tgt := 62) hx hb dX5_ahead_43 (by decide) (fun c40 => ?_) (fun c40 => ?_)
        · skip
          have r40 := (iv_Eq c40)
          have k41a : iv 0 0 ((z0.2.1 8 (p0 : Int32).toNatClampNeg) &&& ((1 : Int32) <<< (p1 &&& 31))) := iv_eql (iv_Eq c40) i39 (iv_lit (n := 0) 0 (by decide)) (by decide) (by decide)
          refine lv_aload_n hx hb dX5_ahead_62 rfl (lv_at hl 0 rfl) ?_
          refine b_get (ci := 5) (C := RX5) (T := TX5) (Nf := 12) (v := .ref (q 1)) hx hb hts in_X5_ahead_X5 hown hK hH 0 (by decide) rfl rfl 0 (by decide) (hts (.fieldLink RX5 12 "StationLine" "bench" "LStationLine$Bench;") (List.mem_of_getElem? (i := 1) rfl)) rfl dX5_ahead_63 ?_
          refine lv_iload_n hx hb dX5_ahead_66 rfl (lv_at hl 1 rfl) ?_
          refine lv_iload_n hx hb dX5_ahead_67 rfl (lv_at hl 2 rfl) ?_
          refine b_calli (As := [.int p0, .int p1]) (rest := []) ⟨hx, hb, hml, hown, hts⟩ 1 0 (g_X0_link_1 l D cy q hH.2.1 z0 hJ.1 p0 k28 p1 k32) (cwV 2 hts gX5_ahead_X0_link rfl rfl rfl (by decide +kernel) ⟨Nat.le_of_ble_eq_true rfl, Nat.le_of_ble_eq_true rfl⟩) hK hZ hH (by decide) rfl rfl rfl hl.1 rfl (Nat.le_of_ble_eq_true rfl) ⟨Nat.zero_le _, Nat.zero_le _⟩ dX5_ahead_68 (fun w42 z42 H locs hp hH => ?_)
          have hJ := jJ_tr hJ hp.1 (by decide) (by decide) (by decide)
          have i42 := hp.2.1
          have := i42.1; have := i42.2
          have f42_0 := hp.2.2.1
          have f42_1 := hp.2.2.2
          have hA42 := hp.1.2
          refine lv_if_eq (tgt := 78) hx hb dX5_ahead_71 (by decide) (fun c43 => ?_) (fun c43 => ?_)
          · skip
            have r43 := (iv_Eq c43)
            have k44a : iv 0 0 w42 := iv_eql (iv_Eq c43) i42 (iv_lit (n := 0) 0 (by decide)) (by decide) (by decide)
            refine lv_iconst (v := 0) hx hb dX5_ahead_78 (by decide) ?_
            exact hret _ z42 H locs _ _ ⟨hJ, (iv_w (iv_lit (n := 0) 0 (by decide)) (by decide) (by decide)), ⟨fun q => absurd ⟨(Classical.byContradiction (fun n => c26 (f25_0.mpr n))), (Classical.byContradiction (fun n => c31 (f30_0.mpr n)))⟩ q, fun _ => ⟨fun o => absurd o (fun o => o.elim c34 (bit_eq k32 c40)), fun _ => ⟨fun b => ⟨rfl, (f42_0.1 b).2⟩, fun b => absurd ((f42_0.2 b).1.symm.trans c43) (by decide)⟩⟩⟩, f42_1, ⟨fun o => absurd o (fun o => (fun o => o.elim c34 (bit_eq k32 c40)) o.2), fun _ => ⟨((hA42.1 7 (by decide))), ((hA42.2.1 30 (by decide)))⟩⟩⟩ hH dX5_ahead_79
          · skip
            have r43 := (iv_nEq c43)
            have k45a : iv 1 1 w42 := iv_neLo (iv_nEq c43) i42 (by decide) (by decide)
            refine lv_iconst (v := 1) hx hb dX5_ahead_74 (by decide) ?_
            refine lv_goto (tgt := 79) hx hb dX5_ahead_75 (by decide) ?_
            exact hret _ z42 H locs _ _ ⟨hJ, (iv_w (iv_lit (n := 1) 1 (by decide)) (by decide) (by decide)), ⟨fun q => absurd ⟨(Classical.byContradiction (fun n => c26 (f25_0.mpr n))), (Classical.byContradiction (fun n => c31 (f30_0.mpr n)))⟩ q, fun _ => ⟨fun o => absurd o (fun o => o.elim c34 (bit_eq k32 c40)), fun _ => ⟨fun b => absurd (f42_0.1 b).1 c43, fun b => ⟨rfl, (f42_0.2 b).2⟩⟩⟩⟩, f42_1, ⟨fun o => absurd o (fun o => (fun o => o.elim c34 (bit_eq k32 c40)) o.2), fun _ => ⟨((hA42.1 7 (by decide))), ((hA42.2.1 30 (by decide)))⟩⟩⟩ hH dX5_ahead_79
        · skip
          have r40 := (iv_nEq c40)
          have k46a : iv 1 512 ((z0.2.1 8 (p0 : Int32).toNatClampNeg) &&& ((1 : Int32) <<< (p1 &&& 31))) := iv_neLo (iv_nEq c40) i39 (by decide) (by decide)
          refine lv_aload_n hx hb dX5_ahead_46 rfl (lv_at hl 0 rfl) ?_
          refine b_get (ci := 5) (C := RX5) (T := TX5) (Nf := 12) (v := .ref (q 29)) hx hb hts in_X5_ahead_X5 hown hK hH 0 (by decide) rfl rfl 5 (by decide) (hts (.fieldLink RX5 38 "StationLine" "ring" "LStationLine$Ring;") (List.mem_of_getElem? (i := 3) rfl)) rfl dX5_ahead_47 ?_
          refine lv_aload_n hx hb dX5_ahead_50 rfl (lv_at hl 0 rfl) ?_
          refine b_get (ci := 5) (C := RX5) (T := TX5) (Nf := 12) (v := .ref (q 1)) hx hb hts in_X5_ahead_X5 hown hK hH 0 (by decide) rfl rfl 0 (by decide) (hts (.fieldLink RX5 12 "StationLine" "bench" "LStationLine$Bench;") (List.mem_of_getElem? (i := 1) rfl)) rfl dX5_ahead_51 ?_
          refine lv_iload_n hx hb dX5_ahead_54 rfl (lv_at hl 1 rfl) ?_
          refine lv_iload_n hx hb dX5_ahead_55 rfl (lv_at hl 2 rfl) ?_
          refine b_callv (As := [.ref (q 1), .int p0, .int p1]) (rest := []) ⟨hx, hb, hml, hown, hts⟩ 29 2 (g_X2_trace_29 l D cy q hH.2.1 z0 hJ.1 p0 k28 p1 k32) (cwV 3 hts gX5_ahead_X2_trace rfl rfl rfl (by decide +kernel) ⟨Nat.le_of_ble_eq_true rfl, Nat.le_of_ble_eq_true rfl⟩) hK hZ hH (by decide) rfl rfl rfl hl.1 rfl (Nat.le_of_ble_eq_true rfl) ⟨Nat.zero_le _, Nat.zero_le _⟩ dX5_ahead_56 (fun z47 H locs hp hH => ?_)
          have hJ := jJ_tr hJ hp.1 (by decide) (by decide) (by decide)
          have f47_0 := hp.2
          have hA47 := hp.1.2
          refine lv_bipush (v := (-3)) hx hb dX5_ahead_59 (by decide) ?_
          exact hret _ z47 H locs _ _ ⟨hJ, (iv_w (iv_lit (n := (-3)) (-3) (by decide)) (by decide) (by decide)), ⟨fun q => absurd ⟨(Classical.byContradiction (fun n => c26 (f25_0.mpr n))), (Classical.byContradiction (fun n => c31 (f30_0.mpr n)))⟩ q, fun _ => ⟨fun _ => ⟨rfl, ((hA47.2.1 7 (by decide)))⟩, fun n => absurd (Or.inr (bit_ne k32 c40)) n⟩⟩, fun h => (by rw [((hA47.2.1 7 (by decide))), ((hA47.2.1 8 (by decide)))]; exact h), ⟨fun _ => f47_0, fun n => absurd ⟨⟨(Classical.byContradiction (fun n => c26 (f25_0.mpr n))), (Classical.byContradiction (fun n => c31 (f30_0.mpr n)))⟩, Or.inr (bit_ne k32 c40)⟩ n⟩⟩ hH dX5_ahead_61
    · skip
      have r31 := (iv_Eq c31)
      have k48a : iv 0 0 w30 := iv_eql (iv_Eq c31) i30 (iv_lit (n := 0) 0 (by decide)) (by decide) (by decide)
      refine lv_bipush (v := (-2)) hx hb dX5_ahead_22 (by decide) ?_
      exact hret _ z0 H locs _ _ ⟨hJ, (iv_w (iv_lit (n := (-2)) (-2) (by decide)) (by decide) (by decide)), ⟨fun _ => ⟨rfl, rfl⟩, fun q => absurd q (fun q => absurd q.2 (f30_0.mp c31))⟩, fun h => h, ⟨fun o => absurd o (fun o => (fun q => absurd q.2 (f30_0.mp c31)) o.1), fun _ => ⟨rfl, rfl⟩⟩⟩ hH dX5_ahead_24
set_option maxHeartbeats 4000000 in
set_option maxRecDepth 100000 in
theorem g_X5_free_0 (l : Launch) (D : va_G) (cy : Nat → ClassId) (q : Nat → Nat) (hq : bJ 66 q) (z0 : zS) (hI : IvC z0) (p0 : Int32) (p1 : Int32) : bCi l yX5_free wsX5_free ({ frames := 3, cells := 0, slots := 0, locals := 84 }) D cy 66 (enC cy) q z0 [.ref (q 0), .int p0, .int p1] (fun v z => jJ IvC 0 896 0 z0 z ∧ iv (-2) 1 v ∧ (FrP (z0.1 0) (z0.2.1 7) p0 p1 v (z.2.1 7)) ∧ (LdI (z0.2.1 7) (z0.1 0).toNatClampNeg (z0.2.1 8) → LdI (z.2.1 7) (z0.1 0).toNatClampNeg (z.2.1 8))) := by
  refine hM_i cX5_free (by decide) rfl (own := RX5) rfl hq (Nat.le_of_ble_eq_true rfl) ?_
  intro p e s m args below meth c Q ls H locs hx hb hml hown hts hK hZ hH hl hret
  have hl : lv_has ls 3 [(0, .ref (q 0)), (1, .int p0), (2, .int p1)] := hl
  have hJ : jJ IvC 0 896 0 z0 z0 := jJ_rf _ _ _ hI
  have e00 : (0 : Int32).toInt = 0 := (by decide); have e01 : (1 : Int32).toInt = 1 := (by decide); have e02 : (2 : Int32).toInt = 2 := (by decide); have e03 : (3 : Int32).toInt = 3 := (by decide); have e010 : (10 : Int32).toInt = 10 := (by decide)
  refine lv_aload_n hx hb dX5_free_0 rfl (lv_at hl 0 rfl) ?_
  refine b_get (ci := 5) (C := RX5) (T := TX5) (Nf := 12) (v := .ref (q 1)) hx hb hts in_X5_free_X5 hown hK hH 0 (by decide) rfl rfl 0 (by decide) (hts (.fieldLink RX5 12 "StationLine" "bench" "LStationLine$Bench;") (List.mem_of_getElem? (i := 1) rfl)) rfl dX5_free_1 ?_
  refine lv_iload_n hx hb dX5_free_4 rfl (lv_at hl 1 rfl) ?_
  refine b_calli (As := [.int p0]) (rest := []) ⟨hx, hb, hml, hown, hts⟩ 1 0 (g_X0_has_1 l D cy q hH.2.1 z0 hJ.1 p0) (cwV 1 hts gX5_free_X0_has rfl rfl rfl (by decide +kernel) ⟨Nat.le_of_ble_eq_true rfl, Nat.le_of_ble_eq_true rfl⟩) hK hZ hH (by decide) rfl rfl rfl hl.1 rfl (Nat.le_of_ble_eq_true rfl) ⟨Nat.zero_le _, Nat.zero_le _⟩ dX5_free_5 (fun w15 z15 H locs hp hH => ?_)
  rw [Ag_0 hp.1.2] at hH
  have i15 := hp.2.1
  have := i15.1; have := i15.2
  have tr15_0 := hp.2.2.1
  have f15_0 := hp.2.2.2
  refine lv_if_eq (tgt := 22) hx hb dX5_free_8 (by decide) (fun c16 => ?_) (fun c16 => ?_)
  · skip
    have r16 := (iv_Eq c16)
    have k17a : iv 0 0 w15 := iv_eql (iv_Eq c16) i15 (iv_lit (n := 0) 0 (by decide)) (by decide) (by decide)
    refine lv_bipush (v := (-2)) hx hb dX5_free_22 (by decide) ?_
    exact hret _ z0 H locs _ _ ⟨hJ, (iv_w (iv_lit (n := (-2)) (-2) (by decide)) (by decide) (by decide)), ⟨fun _ => ⟨rfl, rfl⟩, fun q => absurd q (fun q => absurd q.1 (f15_0.mp c16))⟩, fun h => h⟩ hH dX5_free_24
  · skip
    have k18 : iv 0 9 p0 := (tr15_0).resolve_left c16
    have := k18.1; have := k18.2
    have r16 := (iv_nEq c16)
    have k19a : iv 1 1 w15 := iv_neLo (iv_nEq c16) i15 (by decide) (by decide)
    refine lv_aload_n hx hb dX5_free_11 rfl (lv_at hl 0 rfl) ?_
    refine b_get (ci := 5) (C := RX5) (T := TX5) (Nf := 12) (v := .ref (q 1)) hx hb hts in_X5_free_X5 hown hK hH 0 (by decide) rfl rfl 0 (by decide) (hts (.fieldLink RX5 12 "StationLine" "bench" "LStationLine$Bench;") (List.mem_of_getElem? (i := 1) rfl)) rfl dX5_free_12 ?_
    refine lv_iload_n hx hb dX5_free_15 rfl (lv_at hl 2 rfl) ?_
    refine b_calli (As := [.int p1]) (rest := []) ⟨hx, hb, hml, hown, hts⟩ 1 0 (g_X0_has_1 l D cy q hH.2.1 z0 hJ.1 p1) (cwV 1 hts gX5_free_X0_has rfl rfl rfl (by decide +kernel) ⟨Nat.le_of_ble_eq_true rfl, Nat.le_of_ble_eq_true rfl⟩) hK hZ hH (by decide) rfl rfl rfl hl.1 rfl (Nat.le_of_ble_eq_true rfl) ⟨Nat.zero_le _, Nat.zero_le _⟩ dX5_free_16 (fun w20 z20 H locs hp hH => ?_)
    rw [Ag_0 hp.1.2] at hH
    have i20 := hp.2.1
    have := i20.1; have := i20.2
    have tr20_0 := hp.2.2.1
    have f20_0 := hp.2.2.2
    refine lv_if_ne (tgt := 25) hx hb dX5_free_19 (by decide) (fun c21 => ?_) (fun c21 => ?_)
    · skip
      have k22 : iv 0 9 p1 := (tr20_0).resolve_left c21
      have := k22.1; have := k22.2
      have r21 := (iv_nEq c21)
      have k23a : iv 1 1 w20 := iv_neLo (iv_nEq c21) i20 (by decide) (by decide)
      refine lv_aload_n hx hb dX5_free_25 rfl (lv_at hl 0 rfl) ?_
      refine b_get (ci := 5) (C := RX5) (T := TX5) (Nf := 12) (v := .ref (q 1)) hx hb hts in_X5_free_X5 hown hK hH 0 (by decide) rfl rfl 0 (by decide) (hts (.fieldLink RX5 12 "StationLine" "bench" "LStationLine$Bench;") (List.mem_of_getElem? (i := 1) rfl)) rfl dX5_free_26 ?_
      refine lv_iload_n hx hb dX5_free_29 rfl (lv_at hl 1 rfl) ?_
      refine lv_iload_n hx hb dX5_free_30 rfl (lv_at hl 2 rfl) ?_
      refine b_calli (As := [.int p0, .int p1]) (rest := []) ⟨hx, hb, hml, hown, hts⟩ 1 0 (g_X0_unlink_1 l D cy q hH.2.1 z0 hJ.1 p0 k18 p1 k22) (cwV 2 hts gX5_free_X0_unlink rfl rfl rfl (by decide +kernel) ⟨Nat.le_of_ble_eq_true rfl, Nat.le_of_ble_eq_true rfl⟩) hK hZ hH (by decide) rfl rfl rfl hl.1 rfl (Nat.le_of_ble_eq_true rfl) ⟨Nat.zero_le _, Nat.zero_le _⟩ dX5_free_31 (fun w24 z24 H locs hp hH => ?_)
      have hJ := jJ_tr hJ hp.1 (by decide) (by decide) (by decide)
      have i24 := hp.2.1
      have := i24.1; have := i24.2
      have f24_0 := hp.2.2.1
      have f24_1 := hp.2.2.2
      have hA24 := hp.1.2
      refine lv_if_eq (tgt := 41) hx hb dX5_free_34 (by decide) (fun c25 => ?_) (fun c25 => ?_)
      · skip
        have r25 := (iv_Eq c25)
        have k26a : iv 0 0 w24 := iv_eql (iv_Eq c25) i24 (iv_lit (n := 0) 0 (by decide)) (by decide) (by decide)
        refine lv_iconst (v := 0) hx hb dX5_free_41 (by decide) ?_
        exact hret _ z24 H locs _ _ ⟨hJ, (iv_w (iv_lit (n := 0) 0 (by decide)) (by decide) (by decide)), ⟨fun q => absurd ⟨(Classical.byContradiction (fun n => c16 (f15_0.mpr n))), (Classical.byContradiction (fun n => c21 (f20_0.mpr n)))⟩ q, fun _ => ⟨fun b => absurd ((f24_0.1 b).1.symm.trans c25) (by decide), fun b => ⟨rfl, (f24_0.2 b).2⟩⟩⟩, f24_1⟩ hH dX5_free_42
      · skip
        have r25 := (iv_nEq c25)
        have k27a : iv 1 1 w24 := iv_neLo (iv_nEq c25) i24 (by decide) (by decide)
        refine lv_iconst (v := 1) hx hb dX5_free_37 (by decide) ?_
        refine lv_goto (tgt := 42) hx hb dX5_free_38 (by decide) ?_
        exact hret _ z24 H locs _ _ ⟨hJ, (iv_w (iv_lit (n := 1) 1 (by decide)) (by decide) (by decide)), ⟨fun q => absurd ⟨(Classical.byContradiction (fun n => c16 (f15_0.mpr n))), (Classical.byContradiction (fun n => c21 (f20_0.mpr n)))⟩ q, fun _ => ⟨fun b => ⟨rfl, (f24_0.1 b).2⟩, fun b => absurd (f24_0.2 b).1 c25⟩⟩, f24_1⟩ hH dX5_free_42
    · skip
      have r21 := (iv_Eq c21)
      have k28a : iv 0 0 w20 := iv_eql (iv_Eq c21) i20 (iv_lit (n := 0) 0 (by decide)) (by decide) (by decide)
      refine lv_bipush (v := (-2)) hx hb dX5_free_22 (by decide) ?_
      exact hret _ z0 H locs _ _ ⟨hJ, (iv_w (iv_lit (n := (-2)) (-2) (by decide)) (by decide) (by decide)), ⟨fun _ => ⟨rfl, rfl⟩, fun q => absurd q (fun q => absurd q.2 (f20_0.mp c21))⟩, fun h => h⟩ hH dX5_free_24
set_option maxHeartbeats 4000000 in
set_option maxRecDepth 100000 in
theorem g_X5_ring_0 (l : Launch) (D : va_G) (cy : Nat → ClassId) (q : Nat → Nat) (hq : bJ 66 q) (z0 : zS) (hI : IvC z0) (p0 : Int32) : bCi l yX5_ring wsX5_ring ({ frames := 0, cells := 0, slots := 0, locals := 0 }) D cy 66 (enC cy) q z0 [.ref (q 0), .int p0] (fun v z => jJ IvC 0 0 0 z0 z ∧ iv (-2147483648) 2147483647 v ∧ (RiP (z0.1 7) (z0.2.1 30) p0 v)) := by
  refine hM_i cX5_ring (by decide) rfl (own := RX5) rfl hq (Nat.le_of_ble_eq_true rfl) ?_
  intro p e s m args below meth c Q ls H locs hx hb hml hown hts hK hZ hH hl hret
  have hl : lv_has ls 2 [(0, .ref (q 0)), (1, .int p0)] := hl
  have hJ : jJ IvC 0 0 0 z0 z0 := jJ_rf _ _ _ hI
  have e00 : (0 : Int32).toInt = 0 := (by decide); have e01 : (1 : Int32).toInt = 1 := (by decide); have e02 : (2 : Int32).toInt = 2 := (by decide); have e03 : (3 : Int32).toInt = 3 := (by decide); have e010 : (10 : Int32).toInt = 10 := (by decide)
  refine lv_iload_n hx hb dX5_ring_0 rfl (lv_at hl 1 rfl) ?_
  refine lv_if_lt (tgt := 27) hx hb dX5_ring_1 (by decide) (fun c8 => ?_) (fun c8 => ?_)
  · skip
    have r8 := (iv_Lt c8)
    have k9a : iv (-2147483648) (-1) p0 := iv_ltl (iv_Lt c8) (iv_all p0) (iv_lit (n := 0) 0 (by decide)) (by decide)
    refine lv_bipush (v := (-4)) hx hb dX5_ring_27 (by decide) ?_
    exact hret _ z0 H locs _ _ ⟨hJ, (iv_w (iv_lit (n := (-4)) (-4) (by decide)) (by decide) (by decide)), ⟨fun q => absurd q.2 (by have := q.1; omega), fun _ => rfl⟩⟩ hH dX5_ring_29
  · skip
    have r8 := (iv_nLt c8)
    have k10b : iv 0 2147483647 p0 := iv_ler (iv_nLt c8) (iv_lit (n := 0) 0 (by decide)) (iv_all p0)
    refine lv_iload_n hx hb dX5_ring_4 rfl (lv_at hl 1 rfl) ?_
    refine lv_aload_n hx hb dX5_ring_5 rfl (lv_at hl 0 rfl) ?_
    refine b_get (ci := 5) (C := RX5) (T := TX5) (Nf := 12) (v := .ref (q 29)) hx hb hts in_X5_ring_X5 hown hK hH 0 (by decide) rfl rfl 5 (by decide) (hts (.fieldLink RX5 38 "StationLine" "ring" "LStationLine$Ring;") (List.mem_of_getElem? (i := 1) rfl)) rfl dX5_ring_6 ?_
    refine b_get (ci := 2) (C := RX2) (T := TX2) (Nf := 3) (v := .int (z0.1 7)) hx hb hts in_X5_ring_X2 hown hK hH 29 (by decide) rfl rfl 1 (by decide) (hts (.fieldLink RX5 111 "StationLine$Ring" "size" "I") (List.mem_of_getElem? (i := 2) rfl)) rfl dX5_ring_9 ?_
    have i11 := IvC_s7 hJ.1
    have := i11.1; have := i11.2
    refine lv_icmp_ge (tgt := 27) hx hb dX5_ring_12 (by decide) (fun c12 => ?_) (fun c12 => ?_)
    · skip
      have r12 := (iv_Le c12)
      refine lv_bipush (v := (-4)) hx hb dX5_ring_27 (by decide) ?_
      exact hret _ z0 H locs _ _ ⟨hJ, (iv_w (iv_lit (n := (-4)) (-4) (by decide)) (by decide) (by decide)), ⟨fun q => absurd q.2 (by have := q.1; omega), fun _ => rfl⟩⟩ hH dX5_ring_29
    · skip
      have r12 := (iv_nLe c12)
      have k14a : iv 0 9 p0 := iv_ltl (iv_nLe c12) k10b i11 (by decide)
      have k14b : iv 1 10 (z0.1 7) := iv_ltr (iv_nLe c12) k10b i11 (by decide)
      refine lv_aload_n hx hb dX5_ring_15 rfl (lv_at hl 0 rfl) ?_
      refine b_get (ci := 5) (C := RX5) (T := TX5) (Nf := 12) (v := .ref (q 29)) hx hb hts in_X5_ring_X5 hown hK hH 0 (by decide) rfl rfl 5 (by decide) (hts (.fieldLink RX5 38 "StationLine" "ring" "LStationLine$Ring;") (List.mem_of_getElem? (i := 1) rfl)) rfl dX5_ring_16 ?_
      refine b_get (ci := 2) (C := RX2) (T := TX2) (Nf := 3) (v := .ref (q 30)) hx hb hts in_X5_ring_X2 hown hK hH 29 (by decide) rfl rfl 0 (by decide) (hts (.fieldLink RX5 112 "StationLine$Ring" "row" "[I") (List.mem_of_getElem? (i := 3) rfl)) rfl dX5_ring_19 ?_
      refine lv_iload_n hx hb dX5_ring_22 rfl (lv_at hl 1 rfl) ?_
      refine b_iald (v := z0.2.1 30 (p0 : Int32).toNatClampNeg) hx hb hK hH 30 (by decide) rfl (iv_in k14a (by decide) (by decide)) rfl dX5_ring_23 ?_
      refine lv_goto (tgt := 29) hx hb dX5_ring_24 (by decide) ?_
      exact hret _ z0 H locs _ _ ⟨hJ, (iv_all (z0.2.1 30 (p0 : Int32).toNatClampNeg)), ⟨fun _ => rfl, fun q => absurd ⟨by omega, by omega⟩ q⟩⟩ hH dX5_ring_29
set_option maxHeartbeats 4000000 in
set_option maxRecDepth 100000 in
theorem g_X5_pair_0 (l : Launch) (D : va_G) (cy : Nat → ClassId) (q : Nat → Nat) (hq : bJ 66 q) (z0 : zS) (hI : IvC z0) (p0 : Int32) (p1 : Int32) (p2 : Int32) : bCi l yX5_pair wsX5_pair ({ frames := 2, cells := 0, slots := 0, locals := 46 }) D cy 66 (enC cy) q z0 [.ref (q 0), .int p0, .int p1, .int p2] (fun v z => jJ IvC 0 3072 0 z0 z ∧ iv (-2) 2 v ∧ (PairP (z0.1 0) (fun x y => pairF (z0.2.1 10 x) (z0.2.1 11 x) y) p0 p1 p2 v (fun x y => pairF (z.2.1 10 x) (z.2.1 11 x) y))) := by
  refine hM_i cX5_pair (by decide) rfl (own := RX5) rfl hq (Nat.le_of_ble_eq_true rfl) ?_
  intro p e s m args below meth c Q ls H locs hx hb hml hown hts hK hZ hH hl hret
  have hl : lv_has ls 5 [(0, .ref (q 0)), (1, .int p0), (2, .int p1), (3, .int p2)] := hl
  have hJ : jJ IvC 0 3072 0 z0 z0 := jJ_rf _ _ _ hI
  have e00 : (0 : Int32).toInt = 0 := (by decide); have e01 : (1 : Int32).toInt = 1 := (by decide); have e02 : (2 : Int32).toInt = 2 := (by decide); have e03 : (3 : Int32).toInt = 3 := (by decide); have e010 : (10 : Int32).toInt = 10 := (by decide)
  refine lv_aload_n hx hb dX5_pair_0 rfl (lv_at hl 0 rfl) ?_
  refine b_get (ci := 5) (C := RX5) (T := TX5) (Nf := 12) (v := .ref (q 1)) hx hb hts in_X5_pair_X5 hown hK hH 0 (by decide) rfl rfl 0 (by decide) (hts (.fieldLink RX5 12 "StationLine" "bench" "LStationLine$Bench;") (List.mem_of_getElem? (i := 1) rfl)) rfl dX5_pair_1 ?_
  refine lv_iload_n hx hb dX5_pair_4 rfl (lv_at hl 1 rfl) ?_
  refine b_calli (As := [.int p0]) (rest := []) ⟨hx, hb, hml, hown, hts⟩ 1 0 (g_X0_has_1 l D cy q hH.2.1 z0 hJ.1 p0) (cwV 1 hts gX5_pair_X0_has rfl rfl rfl (by decide +kernel) ⟨Nat.le_of_ble_eq_true rfl, Nat.le_of_ble_eq_true rfl⟩) hK hZ hH (by decide) rfl rfl rfl hl.1 rfl (Nat.le_of_ble_eq_true rfl) ⟨Nat.zero_le _, Nat.zero_le _⟩ dX5_pair_5 (fun w22 z22 H locs hp hH => ?_)
  rw [Ag_0 hp.1.2] at hH
  have i22 := hp.2.1
  have := i22.1; have := i22.2
  have tr22_0 := hp.2.2.1
  have f22_0 := hp.2.2.2
  refine lv_if_eq (tgt := 36) hx hb dX5_pair_8 (by decide) (fun c23 => ?_) (fun c23 => ?_)
  · skip
    have r23 := (iv_Eq c23)
    have k24a : iv 0 0 w22 := iv_eql (iv_Eq c23) i22 (iv_lit (n := 0) 0 (by decide)) (by decide) (by decide)
    refine lv_bipush (v := (-2)) hx hb dX5_pair_36 (by decide) ?_
    exact hret _ z0 H locs _ _ ⟨hJ, (iv_w (iv_lit (n := (-2)) (-2) (by decide)) (by decide) (by decide)), ⟨fun q => absurd q (fun q => absurd q.1 (f22_0.mp c23)), fun _ => ⟨rfl, fun _ _ _ _ => rfl⟩⟩⟩ hH dX5_pair_38
  · skip
    have k25 : iv 0 9 p0 := (tr22_0).resolve_left c23
    have := k25.1; have := k25.2
    have r23 := (iv_nEq c23)
    have k26a : iv 1 1 w22 := iv_neLo (iv_nEq c23) i22 (by decide) (by decide)
    refine lv_aload_n hx hb dX5_pair_11 rfl (lv_at hl 0 rfl) ?_
    refine b_get (ci := 5) (C := RX5) (T := TX5) (Nf := 12) (v := .ref (q 1)) hx hb hts in_X5_pair_X5 hown hK hH 0 (by decide) rfl rfl 0 (by decide) (hts (.fieldLink RX5 12 "StationLine" "bench" "LStationLine$Bench;") (List.mem_of_getElem? (i := 1) rfl)) rfl dX5_pair_12 ?_
    refine lv_iload_n hx hb dX5_pair_15 rfl (lv_at hl 2 rfl) ?_
    refine b_calli (As := [.int p1]) (rest := []) ⟨hx, hb, hml, hown, hts⟩ 1 0 (g_X0_has_1 l D cy q hH.2.1 z0 hJ.1 p1) (cwV 1 hts gX5_pair_X0_has rfl rfl rfl (by decide +kernel) ⟨Nat.le_of_ble_eq_true rfl, Nat.le_of_ble_eq_true rfl⟩) hK hZ hH (by decide) rfl rfl rfl hl.1 rfl (Nat.le_of_ble_eq_true rfl) ⟨Nat.zero_le _, Nat.zero_le _⟩ dX5_pair_16 (fun w27 z27 H locs hp hH => ?_)
    rw [Ag_0 hp.1.2] at hH
    have i27 := hp.2.1
    have := i27.1; have := i27.2
    have tr27_0 := hp.2.2.1
    have f27_0 := hp.2.2.2
    refine lv_if_eq (tgt := 36) hx hb dX5_pair_19 (by decide) (fun c28 => ?_) (fun c28 => ?_)
    · skip
      have r28 := (iv_Eq c28)
      have k29a : iv 0 0 w27 := iv_eql (iv_Eq c28) i27 (iv_lit (n := 0) 0 (by decide)) (by decide) (by decide)
      refine lv_bipush (v := (-2)) hx hb dX5_pair_36 (by decide) ?_
      exact hret _ z0 H locs _ _ ⟨hJ, (iv_w (iv_lit (n := (-2)) (-2) (by decide)) (by decide) (by decide)), ⟨fun q => absurd q (fun q => absurd q.2.1 (f27_0.mp c28)), fun _ => ⟨rfl, fun _ _ _ _ => rfl⟩⟩⟩ hH dX5_pair_38
    · skip
      have k30 : iv 0 9 p1 := (tr27_0).resolve_left c28
      have := k30.1; have := k30.2
      have r28 := (iv_nEq c28)
      have k31a : iv 1 1 w27 := iv_neLo (iv_nEq c28) i27 (by decide) (by decide)
      refine lv_iload_n hx hb dX5_pair_22 rfl (lv_at hl 1 rfl) ?_
      refine lv_iload_n hx hb dX5_pair_23 rfl (lv_at hl 2 rfl) ?_
      refine lv_icmp_eq (tgt := 36) hx hb dX5_pair_24 (by decide) (fun c32 => ?_) (fun c32 => ?_)
      · skip
        have r32 := (iv_Eq c32)
        refine lv_bipush (v := (-2)) hx hb dX5_pair_36 (by decide) ?_
        exact hret _ z0 H locs _ _ ⟨hJ, (iv_w (iv_lit (n := (-2)) (-2) (by decide)) (by decide) (by decide)), ⟨fun q => absurd q (fun q => absurd c32 q.2.2.1), fun _ => ⟨rfl, fun _ _ _ _ => rfl⟩⟩⟩ hH dX5_pair_38
      · skip
        have r32 := (iv_nEq c32)
        refine lv_iload_n hx hb dX5_pair_27 rfl (lv_at hl 3 rfl) ?_
        refine lv_if_lt (tgt := 36) hx hb dX5_pair_28 (by decide) (fun c35 => ?_) (fun c35 => ?_)
        · skip
          have r35 := (iv_Lt c35)
          have k36a : iv (-2147483648) (-1) p2 := iv_ltl (iv_Lt c35) (iv_all p2) (iv_lit (n := 0) 0 (by decide)) (by decide)
          refine lv_bipush (v := (-2)) hx hb dX5_pair_36 (by decide) ?_
          exact hret _ z0 H locs _ _ ⟨hJ, (iv_w (iv_lit (n := (-2)) (-2) (by decide)) (by decide) (by decide)), ⟨fun q => absurd q (fun q => (by have := q.2.2.2.1; have := q.2.2.2.2; omega)), fun _ => ⟨rfl, fun _ _ _ _ => rfl⟩⟩⟩ hH dX5_pair_38
        · skip
          have r35 := (iv_nLt c35)
          have k37b : iv 0 2147483647 p2 := iv_ler (iv_nLt c35) (iv_lit (n := 0) 0 (by decide)) (iv_all p2)
          refine lv_iload_n hx hb dX5_pair_31 rfl (lv_at hl 3 rfl) ?_
          refine lv_iconst (v := 2) hx hb dX5_pair_32 (by decide) ?_
          refine lv_icmp_le (tgt := 39) hx hb dX5_pair_33 (by decide) (fun c38 => ?_) (fun c38 => ?_)
          · skip
            have r38 := (iv_Le c38)
            have k39a : iv 0 2 p2 := iv_lel (iv_Le c38) k37b (iv_lit (n := 2) 2 (by decide))
            refine lv_aload_n hx hb dX5_pair_39 rfl (lv_at hl 0 rfl) ?_
            refine b_get (ci := 5) (C := RX5) (T := TX5) (Nf := 12) (v := .ref (q 1)) hx hb hts in_X5_pair_X5 hown hK hH 0 (by decide) rfl rfl 0 (by decide) (hts (.fieldLink RX5 12 "StationLine" "bench" "LStationLine$Bench;") (List.mem_of_getElem? (i := 1) rfl)) rfl dX5_pair_40 ?_
            refine lv_iload_n hx hb dX5_pair_43 rfl (lv_at hl 1 rfl) ?_
            refine lv_iload_n hx hb dX5_pair_44 rfl (lv_at hl 2 rfl) ?_
            refine b_calli (As := [.int p0, .int p1]) (rest := []) ⟨hx, hb, hml, hown, hts⟩ 1 0 (g_X0_pairing_1 l D cy q hH.2.1 z0 hJ.1 p0 k25 p1 k30) (cwV 2 hts gX5_pair_X0_pairing rfl rfl rfl (by decide +kernel) ⟨Nat.le_of_ble_eq_true rfl, Nat.le_of_ble_eq_true rfl⟩) hK hZ hH (by decide) rfl rfl rfl hl.1 rfl (Nat.le_of_ble_eq_true rfl) ⟨Nat.zero_le _, Nat.zero_le _⟩ dX5_pair_45 (fun w40 z40 H locs hp hH => ?_)
            rw [Ag_0 hp.1.2] at hH
            have i40 := hp.2.1
            have := i40.1; have := i40.2
            have f40_0 := hp.2.2
            refine lv_istore (lv' := [(4, .int w40), (0, .ref (q 0)), (1, .int p0), (2, .int p1), (3, .int p2)]) hx hb dX5_pair_48 hl (by decide) rfl (fun ls hl => ?_)
            refine lv_aload_n hx hb dX5_pair_50 rfl (lv_at hl 1 rfl) ?_
            refine b_get (ci := 5) (C := RX5) (T := TX5) (Nf := 12) (v := .ref (q 1)) hx hb hts in_X5_pair_X5 hown hK hH 0 (by decide) rfl rfl 0 (by decide) (hts (.fieldLink RX5 12 "StationLine" "bench" "LStationLine$Bench;") (List.mem_of_getElem? (i := 1) rfl)) rfl dX5_pair_51 ?_
            refine lv_iload_n hx hb dX5_pair_54 rfl (lv_at hl 2 rfl) ?_
            refine lv_iload_n hx hb dX5_pair_55 rfl (lv_at hl 3 rfl) ?_
            refine lv_iload_n hx hb dX5_pair_56 rfl (lv_at hl 4 rfl) ?_
            refine b_callv (As := [.int p0, .int p1, .int p2]) (rest := []) ⟨hx, hb, hml, hown, hts⟩ 1 0 (g_X0_pairUp_1 l D cy q hH.2.1 z0 hJ.1 p0 k25 p1 k30 p2) (cwV 3 hts gX5_pair_X0_pairUp rfl rfl rfl (by decide +kernel) ⟨Nat.le_of_ble_eq_true rfl, Nat.le_of_ble_eq_true rfl⟩) hK hZ hH (by decide) rfl rfl rfl hl.1 rfl (Nat.le_of_ble_eq_true rfl) ⟨Nat.zero_le _, Nat.zero_le _⟩ dX5_pair_57 (fun z41 H locs hp hH => ?_)
            have hJ := jJ_tr hJ hp.1 (by decide) (by decide) (by decide)
            have f41_0 := hp.2.1
            have f41_1 := hp.2.2
            have hA41 := hp.1.2
            refine lv_iload hx hb dX5_pair_60 (lv_at hl 0 rfl) ?_
            exact hret _ z41 H locs _ _ ⟨hJ, (iv_w i40 (by decide) (by decide)), ⟨fun _ => ⟨f40_0, (pu_set f41_0 f41_1 ⟨by omega, by omega⟩)⟩, fun q => absurd ⟨(Classical.byContradiction (fun n => c23 (f22_0.mpr n))), (Classical.byContradiction (fun n => c28 (f27_0.mpr n))), c32, ⟨by omega, by omega⟩⟩ q⟩⟩ hH dX5_pair_62
          · skip
            have r38 := (iv_nLe c38)
            have k42b : iv 3 2147483647 p2 := iv_ltr (iv_nLe c38) (iv_lit (n := 2) 2 (by decide)) k37b (by decide)
            refine lv_bipush (v := (-2)) hx hb dX5_pair_36 (by decide) ?_
            exact hret _ z0 H locs _ _ ⟨hJ, (iv_w (iv_lit (n := (-2)) (-2) (by decide)) (by decide) (by decide)), ⟨fun q => absurd q (fun q => (by have := q.2.2.2.1; have := q.2.2.2.2; omega)), fun _ => ⟨rfl, fun _ _ _ _ => rfl⟩⟩⟩ hH dX5_pair_38
set_option maxHeartbeats 4000000 in
set_option maxRecDepth 100000 in
theorem g_X5_hold_0 (l : Launch) (D : va_G) (cy : Nat → ClassId) (q : Nat → Nat) (hq : bJ 66 q) (z0 : zS) (hI : IvC z0) (p0 : Int32) (p1 : Int32) : bCi l yX5_hold wsX5_hold ({ frames := 1, cells := 0, slots := 0, locals := 21 }) D cy 66 (enC cy) q z0 [.ref (q 0), .int p0, .int p1] (fun v z => jJ IvC 0 4096 0 z0 z ∧ iv (-2147483648) 2147483647 v ∧ (PtP (z0.1 0) (z0.2.1 12) p0 p1 v (z.2.1 12))) := by
  refine hM_i cX5_hold (by decide) rfl (own := RX5) rfl hq (Nat.le_of_ble_eq_true rfl) ?_
  intro p e s m args below meth c Q ls H locs hx hb hml hown hts hK hZ hH hl hret
  have hl : lv_has ls 4 [(0, .ref (q 0)), (1, .int p0), (2, .int p1)] := hl
  have hJ : jJ IvC 0 4096 0 z0 z0 := jJ_rf _ _ _ hI
  have e00 : (0 : Int32).toInt = 0 := (by decide); have e01 : (1 : Int32).toInt = 1 := (by decide); have e02 : (2 : Int32).toInt = 2 := (by decide); have e03 : (3 : Int32).toInt = 3 := (by decide); have e010 : (10 : Int32).toInt = 10 := (by decide)
  refine lv_aload_n hx hb dX5_hold_0 rfl (lv_at hl 0 rfl) ?_
  refine b_get (ci := 5) (C := RX5) (T := TX5) (Nf := 12) (v := .ref (q 1)) hx hb hts in_X5_hold_X5 hown hK hH 0 (by decide) rfl rfl 0 (by decide) (hts (.fieldLink RX5 12 "StationLine" "bench" "LStationLine$Bench;") (List.mem_of_getElem? (i := 1) rfl)) rfl dX5_hold_1 ?_
  refine lv_iload_n hx hb dX5_hold_4 rfl (lv_at hl 1 rfl) ?_
  refine b_calli (As := [.int p0]) (rest := []) ⟨hx, hb, hml, hown, hts⟩ 1 0 (g_X0_has_1 l D cy q hH.2.1 z0 hJ.1 p0) (cwV 1 hts gX5_hold_X0_has rfl rfl rfl (by decide +kernel) ⟨Nat.le_of_ble_eq_true rfl, Nat.le_of_ble_eq_true rfl⟩) hK hZ hH (by decide) rfl rfl rfl hl.1 rfl (Nat.le_of_ble_eq_true rfl) ⟨Nat.zero_le _, Nat.zero_le _⟩ dX5_hold_5 (fun w12 z12 H locs hp hH => ?_)
  rw [Ag_0 hp.1.2] at hH
  have i12 := hp.2.1
  have := i12.1; have := i12.2
  have tr12_0 := hp.2.2.1
  have f12_0 := hp.2.2.2
  refine lv_if_eq (tgt := 18) hx hb dX5_hold_8 (by decide) (fun c13 => ?_) (fun c13 => ?_)
  · skip
    have r13 := (iv_Eq c13)
    have k14a : iv 0 0 w12 := iv_eql (iv_Eq c13) i12 (iv_lit (n := 0) 0 (by decide)) (by decide) (by decide)
    refine lv_bipush (v := (-2)) hx hb dX5_hold_18 (by decide) ?_
    exact hret _ z0 H locs _ _ ⟨hJ, (iv_w (iv_lit (n := (-2)) (-2) (by decide)) (by decide) (by decide)), ⟨fun q => absurd ⟨q.1, q.2.1⟩ (f12_0.mp c13), fun _ => ⟨rfl, rfl⟩⟩⟩ hH dX5_hold_20
  · skip
    have k15 : iv 0 9 p0 := (tr12_0).resolve_left c13
    have := k15.1; have := k15.2
    have r13 := (iv_nEq c13)
    have k16a : iv 1 1 w12 := iv_neLo (iv_nEq c13) i12 (by decide) (by decide)
    refine lv_iload_n hx hb dX5_hold_11 rfl (lv_at hl 2 rfl) ?_
    refine b_stati (As := [.int p1]) (rest := []) ⟨hx, hb, hml, hown, hts⟩ (g_X5_isStationOrNone l D cy q hH.2.1 z0 hJ.1 p1) (va_cwS 1 hts gX5_hold_X5_isStationOrNone rfl rfl rfl (by decide +kernel) ⟨Nat.le_of_ble_eq_true rfl, Nat.le_of_ble_eq_true rfl⟩) hK hZ hH rfl hl.1 rfl (Nat.le_of_ble_eq_true rfl) ⟨Nat.zero_le _, Nat.zero_le _⟩ dX5_hold_12 (fun w17 z17 H locs hp hH => ?_)
    rw [Ag_0 hp.1.2] at hH
    have i17 := hp.2.1
    have := i17.1; have := i17.2
    have tr17_0 := hp.2.2.1
    have f17_0 := hp.2.2.2
    refine lv_if_ne (tgt := 21) hx hb dX5_hold_15 (by decide) (fun c18 => ?_) (fun c18 => ?_)
    · skip
      have k19 : iv 0 10 p1 := (tr17_0).resolve_left c18
      have := k19.1; have := k19.2
      have r18 := (iv_nEq c18)
      have k20a : iv 1 1 w17 := iv_neLo (iv_nEq c18) i17 (by decide) (by decide)
      refine lv_aload_n hx hb dX5_hold_21 rfl (lv_at hl 0 rfl) ?_
      refine b_get (ci := 5) (C := RX5) (T := TX5) (Nf := 12) (v := .ref (q 1)) hx hb hts in_X5_hold_X5 hown hK hH 0 (by decide) rfl rfl 0 (by decide) (hts (.fieldLink RX5 12 "StationLine" "bench" "LStationLine$Bench;") (List.mem_of_getElem? (i := 1) rfl)) rfl dX5_hold_22 ?_
      refine b_get (ci := 0) (C := RX0) (T := TX0) (Nf := 11) (v := .ref (q 12)) hx hb hts in_X5_hold_X0 hown hK hH 1 (by decide) rfl rfl 10 (by decide) (hts (.fieldLink RX5 124 "StationLine$Bench" "held" "[I") (List.mem_of_getElem? (i := 2) rfl)) rfl dX5_hold_25 ?_
      refine lv_iload_n hx hb dX5_hold_28 rfl (lv_at hl 1 rfl) ?_
      refine b_iald (v := z0.2.1 12 (p0 : Int32).toNatClampNeg) hx hb hK hH 12 (by decide) rfl (iv_in k15 (by decide) (by decide)) rfl dX5_hold_29 ?_
      refine lv_istore_n (lv' := [(3, .int (z0.2.1 12 (p0 : Int32).toNatClampNeg)), (0, .ref (q 0)), (1, .int p0), (2, .int p1)]) hx hb dX5_hold_30 rfl hl (by decide) rfl (fun ls hl => ?_)
      refine lv_aload_n hx hb dX5_hold_31 rfl (lv_at hl 1 rfl) ?_
      refine b_get (ci := 5) (C := RX5) (T := TX5) (Nf := 12) (v := .ref (q 1)) hx hb hts in_X5_hold_X5 hown hK hH 0 (by decide) rfl rfl 0 (by decide) (hts (.fieldLink RX5 12 "StationLine" "bench" "LStationLine$Bench;") (List.mem_of_getElem? (i := 1) rfl)) rfl dX5_hold_32 ?_
      refine b_get (ci := 0) (C := RX0) (T := TX0) (Nf := 11) (v := .ref (q 12)) hx hb hts in_X5_hold_X0 hown hK hH 1 (by decide) rfl rfl 10 (by decide) (hts (.fieldLink RX5 124 "StationLine$Bench" "held" "[I") (List.mem_of_getElem? (i := 2) rfl)) rfl dX5_hold_35 ?_
      refine lv_iload_n hx hb dX5_hold_38 rfl (lv_at hl 2 rfl) ?_
      refine lv_iload_n hx hb dX5_hold_39 rfl (lv_at hl 3 rfl) ?_
      refine b_iast hx hb hK hH 12 (by decide) rfl (iv_in k15 (by decide) (by decide)) (upA z0 12 (upd (z0.2.1 12) (p0 : Int32).toNatClampNeg p1)) rfl (enC_A _ _ _ _ _) dX5_hold_40 (fun H locs hH => ?_)
      obtain ⟨z21, hz21⟩ : ∃ w : zS, w = upA z0 12 (upd (z0.2.1 12) (p0 : Int32).toNatClampNeg p1) := ⟨_, rfl⟩
      rw [← hz21] at hH
      have hJ : jJ IvC 0 4096 0 z0 z21 := by rw [hz21]; exact jJ_A hJ (by decide) (IvC_A hJ.1 (by decide))
      refine lv_iload_n hx hb dX5_hold_41 rfl (lv_at hl 0 rfl) ?_
      exact hret _ z21 H locs _ _ ⟨hJ, (iv_all (z0.2.1 12 (p0 : Int32).toNatClampNeg)), ⟨fun _ => ⟨rfl, by rw [hz21]; exact upA_e⟩, fun q => absurd ⟨(Classical.byContradiction (fun n => c13 (f12_0.mpr n))).1, (Classical.byContradiction (fun n => c13 (f12_0.mpr n))).2, (Classical.byContradiction (fun n => c18 (f17_0.mpr n)))⟩ q⟩⟩ hH dX5_hold_42
    · skip
      have r18 := (iv_Eq c18)
      have k22a : iv 0 0 w17 := iv_eql (iv_Eq c18) i17 (iv_lit (n := 0) 0 (by decide)) (by decide) (by decide)
      refine lv_bipush (v := (-2)) hx hb dX5_hold_18 (by decide) ?_
      exact hret _ z0 H locs _ _ ⟨hJ, (iv_w (iv_lit (n := (-2)) (-2) (by decide)) (by decide) (by decide)), ⟨fun q => absurd q.2.2 (f17_0.mp c18), fun _ => ⟨rfl, rfl⟩⟩⟩ hH dX5_hold_20
set_option maxHeartbeats 4000000 in
set_option maxRecDepth 100000 in
theorem g_X5_line_0 (l : Launch) (D : va_G) (cy : Nat → ClassId) (q : Nat → Nat) (hq : bJ 66 q) (z0 : zS) (hI : IvC z0) (p0 : Int32) : bCi l yX5_line wsX5_line ({ frames := 0, cells := 0, slots := 0, locals := 0 }) D cy 66 (enC cy) q z0 [.ref (q 0), .int p0] (fun v z => jJ IvC 2 0 0 z0 z ∧ iv (-2147483648) 2147483647 v ∧ (RgP 0 3 p0 (z0.1 1) v (z.1 1))) := by
  refine hM_i cX5_line (by decide) rfl (own := RX5) rfl hq (Nat.le_of_ble_eq_true rfl) ?_
  intro p e s m args below meth c Q ls H locs hx hb hml hown hts hK hZ hH hl hret
  have hl : lv_has ls 3 [(0, .ref (q 0)), (1, .int p0)] := hl
  have hJ : jJ IvC 2 0 0 z0 z0 := jJ_rf _ _ _ hI
  have e00 : (0 : Int32).toInt = 0 := (by decide); have e01 : (1 : Int32).toInt = 1 := (by decide); have e02 : (2 : Int32).toInt = 2 := (by decide); have e03 : (3 : Int32).toInt = 3 := (by decide); have e010 : (10 : Int32).toInt = 10 := (by decide)
  have e3 : (3 : Int32).toInt = 3 := (by decide); have e1k : (1000 : Int32).toInt = 1000 := (by decide)
  refine lv_iload_n hx hb dX5_line_0 rfl (lv_at hl 1 rfl) ?_
  refine lv_if_lt (tgt := 9) hx hb dX5_line_1 (by decide) (fun c9 => ?_) (fun c9 => ?_)
  · skip
    have r9 := (iv_Lt c9)
    have k10a : iv (-2147483648) (-1) p0 := iv_ltl (iv_Lt c9) (iv_all p0) (iv_lit (n := 0) 0 (by decide)) (by decide)
    refine lv_bipush (v := (-2)) hx hb dX5_line_9 (by decide) ?_
    exact hret _ z0 H locs _ _ ⟨hJ, (iv_w (iv_lit (n := (-2)) (-2) (by decide)) (by decide) (by decide)), ⟨fun q => (by have := q.1; have := q.2; omega), fun _ => ⟨rfl, rfl⟩⟩⟩ hH dX5_line_11
  · skip
    have r9 := (iv_nLt c9)
    have k11b : iv 0 2147483647 p0 := iv_ler (iv_nLt c9) (iv_lit (n := 0) 0 (by decide)) (iv_all p0)
    refine lv_iload_n hx hb dX5_line_4 rfl (lv_at hl 1 rfl) ?_
    refine lv_iconst (v := 3) hx hb dX5_line_5 (by decide) ?_
    refine lv_icmp_le (tgt := 12) hx hb dX5_line_6 (by decide) (fun c12 => ?_) (fun c12 => ?_)
    · skip
      have r12 := (iv_Le c12)
      have k13a : iv 0 3 p0 := iv_lel (iv_Le c12) k11b (iv_lit (n := 3) 3 (by decide))
      refine lv_aload_n hx hb dX5_line_12 rfl (lv_at hl 0 rfl) ?_
      refine b_get (ci := 5) (C := RX5) (T := TX5) (Nf := 12) (v := .ref (q 1)) hx hb hts in_X5_line_X5 hown hK hH 0 (by decide) rfl rfl 0 (by decide) (hts (.fieldLink RX5 12 "StationLine" "bench" "LStationLine$Bench;") (List.mem_of_getElem? (i := 1) rfl)) rfl dX5_line_13 ?_
      refine b_get (ci := 0) (C := RX0) (T := TX0) (Nf := 11) (v := .int (z0.1 1)) hx hb hts in_X5_line_X0 hown hK hH 1 (by decide) rfl rfl 1 (by decide) (hts (.fieldLink RX5 127 "StationLine$Bench" "kind" "I") (List.mem_of_getElem? (i := 2) rfl)) rfl dX5_line_16 ?_
      refine lv_istore_n (lv' := [(2, .int (z0.1 1)), (0, .ref (q 0)), (1, .int p0)]) hx hb dX5_line_19 rfl hl (by decide) rfl (fun ls hl => ?_)
      refine lv_aload_n hx hb dX5_line_20 rfl (lv_at hl 1 rfl) ?_
      refine b_get (ci := 5) (C := RX5) (T := TX5) (Nf := 12) (v := .ref (q 1)) hx hb hts in_X5_line_X5 hown hK hH 0 (by decide) rfl rfl 0 (by decide) (hts (.fieldLink RX5 12 "StationLine" "bench" "LStationLine$Bench;") (List.mem_of_getElem? (i := 1) rfl)) rfl dX5_line_21 ?_
      refine lv_iload_n hx hb dX5_line_24 rfl (lv_at hl 2 rfl) ?_
      refine b_put (ci := 0) (C := RX0) (T := TX0) (Nf := 11) (v := .int p0) (ty := .int) hx hb hts in_X5_line_X0 tyX0 tyX0_ok nmX0 hown hK hH 1 (by decide) rfl rfl 1 (by decide) (hts (.fieldLink RX5 127 "StationLine$Bench" "kind" "I") (List.mem_of_getElem? (i := 2) rfl)) rfl (by decide +kernel) rfl rfl (Nat.le_of_ble_eq_true rfl) (upS z0 1 p0) rfl (enC_S1 _ _ _ _) dX5_line_25 (fun H locs hH => ?_)
      obtain ⟨z14, hz14⟩ : ∃ w : zS, w = upS z0 1 p0 := ⟨_, rfl⟩
      rw [← hz14] at hH
      have hJ : jJ IvC 2 0 0 z0 z14 := by rw [hz14]; exact jJ_S hJ (by decide) (IvC_S1 hJ.1)
      have g15 : iv 0 3 (z14.1 1) := by rw [hz14]; exact k13a
      refine lv_iload_n hx hb dX5_line_28 rfl (lv_at hl 0 rfl) ?_
      exact hret _ z14 H locs _ _ ⟨hJ, (iv_all (z0.1 1)), ⟨fun _ => ⟨rfl, by rw [hz14]; rfl⟩, fun q => absurd (show iv 0 3 p0 from ⟨by omega, by omega⟩) q⟩⟩ hH dX5_line_29
    · skip
      have r12 := (iv_nLe c12)
      have k16b : iv 4 2147483647 p0 := iv_ltr (iv_nLe c12) (iv_lit (n := 3) 3 (by decide)) k11b (by decide)
      refine lv_bipush (v := (-2)) hx hb dX5_line_9 (by decide) ?_
      exact hret _ z0 H locs _ _ ⟨hJ, (iv_w (iv_lit (n := (-2)) (-2) (by decide)) (by decide) (by decide)), ⟨fun q => (by have := q.1; have := q.2; omega), fun _ => ⟨rfl, rfl⟩⟩⟩ hH dX5_line_11
set_option maxHeartbeats 4000000 in
set_option maxRecDepth 100000 in
theorem g_X5_beat_0 (l : Launch) (D : va_G) (cy : Nat → ClassId) (q : Nat → Nat) (hq : bJ 66 q) (z0 : zS) (hI : IvC z0) (p0 : Int32) : bCi l yX5_beat wsX5_beat ({ frames := 0, cells := 0, slots := 0, locals := 0 }) D cy 66 (enC cy) q z0 [.ref (q 0), .int p0] (fun v z => jJ IvC 4 0 0 z0 z ∧ iv (-2147483648) 2147483647 v ∧ (RgP 1 1000 p0 (z0.1 2) v (z.1 2))) := by
  refine hM_i cX5_beat (by decide) rfl (own := RX5) rfl hq (Nat.le_of_ble_eq_true rfl) ?_
  intro p e s m args below meth c Q ls H locs hx hb hml hown hts hK hZ hH hl hret
  have hl : lv_has ls 3 [(0, .ref (q 0)), (1, .int p0)] := hl
  have hJ : jJ IvC 4 0 0 z0 z0 := jJ_rf _ _ _ hI
  have e00 : (0 : Int32).toInt = 0 := (by decide); have e01 : (1 : Int32).toInt = 1 := (by decide); have e02 : (2 : Int32).toInt = 2 := (by decide); have e03 : (3 : Int32).toInt = 3 := (by decide); have e010 : (10 : Int32).toInt = 10 := (by decide)
  have e3 : (3 : Int32).toInt = 3 := (by decide); have e1k : (1000 : Int32).toInt = 1000 := (by decide)
  refine lv_iload_n hx hb dX5_beat_0 rfl (lv_at hl 1 rfl) ?_
  refine lv_iconst (v := 1) hx hb dX5_beat_1 (by decide) ?_
  refine lv_icmp_lt (tgt := 12) hx hb dX5_beat_2 (by decide) (fun c9 => ?_) (fun c9 => ?_)
  · skip
    have r9 := (iv_Lt c9)
    have k10a : iv (-2147483648) 0 p0 := iv_ltl (iv_Lt c9) (iv_all p0) (iv_lit (n := 1) 1 (by decide)) (by decide)
    refine lv_bipush (v := (-2)) hx hb dX5_beat_12 (by decide) ?_
    exact hret _ z0 H locs _ _ ⟨hJ, (iv_w (iv_lit (n := (-2)) (-2) (by decide)) (by decide) (by decide)), ⟨fun q => (by have := q.1; have := q.2; omega), fun _ => ⟨rfl, rfl⟩⟩⟩ hH dX5_beat_14
  · skip
    have r9 := (iv_nLt c9)
    have k11b : iv 1 2147483647 p0 := iv_ler (iv_nLt c9) (iv_lit (n := 1) 1 (by decide)) (iv_all p0)
    refine lv_iload_n hx hb dX5_beat_5 rfl (lv_at hl 1 rfl) ?_
    refine lv_sipush (v := 1000) hx hb dX5_beat_6 (by decide) ?_
    refine lv_icmp_le (tgt := 15) hx hb dX5_beat_9 (by decide) (fun c12 => ?_) (fun c12 => ?_)
    · skip
      have r12 := (iv_Le c12)
      have k13a : iv 1 1000 p0 := iv_lel (iv_Le c12) k11b (iv_lit (n := 1000) 1000 (by decide))
      refine lv_aload_n hx hb dX5_beat_15 rfl (lv_at hl 0 rfl) ?_
      refine b_get (ci := 5) (C := RX5) (T := TX5) (Nf := 12) (v := .ref (q 1)) hx hb hts in_X5_beat_X5 hown hK hH 0 (by decide) rfl rfl 0 (by decide) (hts (.fieldLink RX5 12 "StationLine" "bench" "LStationLine$Bench;") (List.mem_of_getElem? (i := 1) rfl)) rfl dX5_beat_16 ?_
      refine b_get (ci := 0) (C := RX0) (T := TX0) (Nf := 11) (v := .int (z0.1 2)) hx hb hts in_X5_beat_X0 hown hK hH 1 (by decide) rfl rfl 2 (by decide) (hts (.fieldLink RX5 130 "StationLine$Bench" "beat" "I") (List.mem_of_getElem? (i := 2) rfl)) rfl dX5_beat_19 ?_
      refine lv_istore_n (lv' := [(2, .int (z0.1 2)), (0, .ref (q 0)), (1, .int p0)]) hx hb dX5_beat_22 rfl hl (by decide) rfl (fun ls hl => ?_)
      refine lv_aload_n hx hb dX5_beat_23 rfl (lv_at hl 1 rfl) ?_
      refine b_get (ci := 5) (C := RX5) (T := TX5) (Nf := 12) (v := .ref (q 1)) hx hb hts in_X5_beat_X5 hown hK hH 0 (by decide) rfl rfl 0 (by decide) (hts (.fieldLink RX5 12 "StationLine" "bench" "LStationLine$Bench;") (List.mem_of_getElem? (i := 1) rfl)) rfl dX5_beat_24 ?_
      refine lv_iload_n hx hb dX5_beat_27 rfl (lv_at hl 2 rfl) ?_
      refine b_put (ci := 0) (C := RX0) (T := TX0) (Nf := 11) (v := .int p0) (ty := .int) hx hb hts in_X5_beat_X0 tyX0 tyX0_ok nmX0 hown hK hH 1 (by decide) rfl rfl 2 (by decide) (hts (.fieldLink RX5 130 "StationLine$Bench" "beat" "I") (List.mem_of_getElem? (i := 2) rfl)) rfl (by decide +kernel) rfl rfl (Nat.le_of_ble_eq_true rfl) (upS z0 2 p0) rfl (enC_S2 _ _ _ _) dX5_beat_28 (fun H locs hH => ?_)
      obtain ⟨z14, hz14⟩ : ∃ w : zS, w = upS z0 2 p0 := ⟨_, rfl⟩
      rw [← hz14] at hH
      have hJ : jJ IvC 4 0 0 z0 z14 := by rw [hz14]; exact jJ_S hJ (by decide) (IvC_S2 hJ.1)
      have g15 : iv 1 1000 (z14.1 2) := by rw [hz14]; exact k13a
      refine lv_iload_n hx hb dX5_beat_31 rfl (lv_at hl 0 rfl) ?_
      exact hret _ z14 H locs _ _ ⟨hJ, (iv_all (z0.1 2)), ⟨fun _ => ⟨rfl, by rw [hz14]; rfl⟩, fun q => absurd (show iv 1 1000 p0 from ⟨by omega, by omega⟩) q⟩⟩ hH dX5_beat_32
    · skip
      have r12 := (iv_nLe c12)
      have k16b : iv 1001 2147483647 p0 := iv_ltr (iv_nLe c12) (iv_lit (n := 1000) 1000 (by decide)) k11b (by decide)
      refine lv_bipush (v := (-2)) hx hb dX5_beat_12 (by decide) ?_
      exact hret _ z0 H locs _ _ ⟨hJ, (iv_w (iv_lit (n := (-2)) (-2) (by decide)) (by decide) (by decide)), ⟨fun q => (by have := q.1; have := q.2; omega), fun _ => ⟨rfl, rfl⟩⟩⟩ hH dX5_beat_14
