set_option maxHeartbeats 4000000 in
set_option maxRecDepth 100000 in
theorem g_X6_leastBeat_0 (l : Launch) (D : va_G) (cy : Nat → ClassId) (q : Nat → Nat) (hq : bJ 23 q) (z0 : zS) (hI : IvM z0) (p0 : Int32) : bCi l yX6_leastBeat wsX6_leastBeat ({ frames := 5, cells := 0, slots := 0, locals := 121 }) D cy 23 (enM cy) q z0 [.ref (q 0), .int p0] (fun v z => jJ IvM 4 507904 524288 z0 z ∧ iv (-4) 1000 v ∧ (z.1 2 = z0.1 2)) := by
  refine hM_i cX6_leastBeat (by decide) rfl (own := RX6) rfl hq (Nat.le_of_ble_eq_true rfl) ?_
  intro p e s m args below meth c Q ls H locs hx hb hml hown hts hK hZ hH hl hret
  have hl : lv_has ls 6 [(0, .ref (q 0)), (1, .int p0)] := hl
  have hJ : jJ IvM 4 507904 524288 z0 z0 := jJ_rf _ _ _ hI
  have e00 : (0 : Int32).toInt = 0 := (by decide); have e01 : (1 : Int32).toInt = 1 := (by decide); have e02 : (2 : Int32).toInt = 2 := (by decide); have e03 : (3 : Int32).toInt = 3 := (by decide); have e010 : (10 : Int32).toInt = 10 := (by decide)
  have HL26 : ∀ (n : Nat) (x2_26 : Int32) (x3_26 : Int32) (x4_26 : Int32) (z_26 : zS) (H : Heap) (locs : List Loc) (ls : Array Slot), iv 1 10 p0 → iv 1 1000 x2_26 → iv 0 1000 x3_26 → iv 1 1001 x4_26 → ((x3_26 : Int32).toInt < (x4_26 : Int32).toInt ∧ x2_26 = z0.1 2) → jJ IvM 4 507904 524288 z0 z_26 → bH D 23 (enM cy) q z_26 s.heap H locs → lv_has ls 6 [(0, .ref (q 0)), (1, .int p0), (2, .int x2_26), (3, .int x3_26), (4, .int x4_26)] → ((x4_26 : Int32).toInt - (x3_26 : Int32).toInt).toNat = n → W p l e ({ frames := 5, cells := 0, slots := 0, locals := 121 }) s m args below meth c H locs 0 0 Q (F0 m 26 ls []) := by
    intro n26
    induction n26 using Nat.strongRecOn with
    | ind n26 ih26 =>
      intro x2_26 x3_26 x4_26 z_26 H locs ls h1_26 h2_26 h3_26 h4_26 ex_26 hJ hH hl hn26
      have := h1_26.1; have := h1_26.2; have := h2_26.1; have := h2_26.2; have := h3_26.1; have := h3_26.2; have := h4_26.1; have := h4_26.2
      have b71 : iv 0 1000 x3_26 := ⟨by omega, by omega⟩
      have := b71.1; have := b71.2
      refine lv_iload hx hb dX6_leastBeat_26 (lv_at hl 4 rfl) ?_
      refine lv_iload_n hx hb dX6_leastBeat_28 rfl (lv_at hl 3 rfl) ?_
      refine lv_isub hx hb dX6_leastBeat_29 ?_
      have i72 : iv (-999) 1001 (x4_26 - x3_26) := (iv_sub h4_26 b71 (by decide) (by decide) (by decide) (by decide))
      have e72 := (iv_subE h4_26 b71 (by decide) (by decide))
      have := i72.1; have := i72.2
      refine lv_iconst (v := 1) hx hb dX6_leastBeat_30 (by decide) ?_
      refine lv_icmp_le (tgt := 78) hx hb dX6_leastBeat_31 (by decide) (fun c73 => ?_) (fun c73 => ?_)
      · skip
        have r73 := (iv_Le c73)
        have k74a : iv (-999) 1 (x4_26 - x3_26) := iv_lel (iv_Le c73) i72 (iv_lit (n := 1) 1 (by decide))
        refine lv_aload_n hx hb dX6_leastBeat_78 rfl (lv_at hl 0 rfl) ?_
        refine lv_iload_n hx hb dX6_leastBeat_79 rfl (lv_at hl 2 rfl) ?_
        refine b_put (ci := 6) (C := RX6) (T := TX6) (Nf := 29) (v := .int x2_26) (ty := .int) hx hb hts in_X6_leastBeat_X6 tyX6 tyX6_ok nmX6 hown hK hH 0 (by decide) rfl rfl 8 (by decide) (hts (.fieldLink RX6 28 "StationLineModel" "beat" "I") (List.mem_of_getElem? (i := 1) rfl)) rfl (by decide +kernel) rfl rfl (Nat.le_of_ble_eq_true rfl) (upS z_26 2 x2_26) rfl (enM_S2 _ _ _ _) dX6_leastBeat_80 (fun H locs hH => ?_)
        obtain ⟨z75, hz75⟩ : ∃ w : zS, w = upS z_26 2 x2_26 := ⟨_, rfl⟩
        rw [← hz75] at hH
        have hJ : jJ IvM 4 507904 524288 z0 z75 := by rw [hz75]; exact jJ_S hJ (by decide) (IvM_S2 hJ.1 (iv_w h2_26 (by decide) (by decide)))
        have g76 : iv 1 1000 (z75.1 2) := by rw [hz75]; exact h2_26
        refine lv_iload hx hb dX6_leastBeat_83 (lv_at hl 4 rfl) ?_
        refine lv_sipush (v := 1000) hx hb dX6_leastBeat_85 (by decide) ?_
        refine lv_icmp_le (tgt := 96) hx hb dX6_leastBeat_88 (by decide) (fun c77 => ?_) (fun c77 => ?_)
        · skip
          have r77 := (iv_Le c77)
          have k78a : iv 1 1000 x4_26 := iv_lel (iv_Le c77) h4_26 (iv_lit (n := 1000) 1000 (by decide))
          refine lv_iload hx hb dX6_leastBeat_96 (lv_at hl 4 rfl) ?_
          exact hret _ z75 H locs _ _ ⟨hJ, (iv_w k78a (by decide) (by decide)), (by rw [hz75]; exact ex_26.2)⟩ hH dX6_leastBeat_98
        · skip
          have r77 := (iv_nLe c77)
          have k79b : iv 1001 1001 x4_26 := iv_ltr (iv_nLe c77) (iv_lit (n := 1000) 1000 (by decide)) h4_26 (by decide)
          refine lv_bipush (v := (-4)) hx hb dX6_leastBeat_91 (by decide) ?_
          refine lv_goto (tgt := 98) hx hb dX6_leastBeat_93 (by decide) ?_
          exact hret _ z75 H locs _ _ ⟨hJ, (iv_w (iv_lit (n := (-4)) (-4) (by decide)) (by decide) (by decide)), (by rw [hz75]; exact ex_26.2)⟩ hH dX6_leastBeat_98
      · skip
        have r73 := (iv_nLe c73)
        have k80b : iv 2 1001 (x4_26 - x3_26) := iv_ltr (iv_nLe c73) (iv_lit (n := 1) 1 (by decide)) i72 (by decide)
        refine lv_aload_n hx hb dX6_leastBeat_34 rfl (lv_at hl 0 rfl) ?_
        refine lv_iload_n hx hb dX6_leastBeat_35 rfl (lv_at hl 3 rfl) ?_
        refine lv_iload hx hb dX6_leastBeat_36 (lv_at hl 4 rfl) ?_
        refine lv_iadd hx hb dX6_leastBeat_38 ?_
        have i81 : iv 1 2001 (x3_26 + x4_26) := (iv_add b71 h4_26 (by decide) (by decide) (by decide) (by decide))
        have e81 := (iv_addE b71 h4_26 (by decide) (by decide))
        have := i81.1; have := i81.2
        refine lv_iconst (v := 2) hx hb dX6_leastBeat_39 (by decide) ?_
        have dv82 := div2 (x := x3_26 + x4_26) ⟨by omega, by omega⟩
        refine lv_idiv hx hb dX6_leastBeat_40 (by decide) ?_
        have := dv82.1.1; have := dv82.1.2; have := dv82.2
        refine b_put (ci := 6) (C := RX6) (T := TX6) (Nf := 29) (v := .int ((x3_26 + x4_26) / 2)) (ty := .int) hx hb hts in_X6_leastBeat_X6 tyX6 tyX6_ok nmX6 hown hK hH 0 (by decide) rfl rfl 8 (by decide) (hts (.fieldLink RX6 28 "StationLineModel" "beat" "I") (List.mem_of_getElem? (i := 1) rfl)) rfl (by decide +kernel) rfl rfl (Nat.le_of_ble_eq_true rfl) (upS z_26 2 ((x3_26 + x4_26) / 2)) rfl (enM_S2 _ _ _ _) dX6_leastBeat_41 (fun H locs hH => ?_)
        obtain ⟨z83, hz83⟩ : ∃ w : zS, w = upS z_26 2 ((x3_26 + x4_26) / 2) := ⟨_, rfl⟩
        rw [← hz83] at hH
        have hJ : jJ IvM 4 507904 524288 z0 z83 := by rw [hz83]; exact jJ_S hJ (by decide) (IvM_S2 hJ.1 (iv_w dv82.1 (by decide) (by decide)))
        have g84 : iv 1 1000 (z83.1 2) := by rw [hz83]; exact dv82.1
        refine lv_aload_n hx hb dX6_leastBeat_44 rfl (lv_at hl 0 rfl) ?_
        refine b_calli (As := []) (rest := []) ⟨hx, hb, hml, hown, hts⟩ 0 6 (g_X6_tellWays_0 l D cy q hH.2.1 z83 hJ.1 ) (cwV 0 hts gX6_leastBeat_X6_tellWays rfl rfl rfl (by decide +kernel) ⟨Nat.le_of_ble_eq_true rfl, Nat.le_of_ble_eq_true rfl⟩) hK hZ hH (by decide) rfl rfl rfl hl.1 rfl (Nat.le_of_ble_eq_true rfl) ⟨Nat.zero_le _, Nat.zero_le _⟩ dX6_leastBeat_45 (fun w85 z85 H locs hp hH => ?_)
        have hJ := jJ_tr hJ hp.1 (by decide) (by decide) (by decide)
        have i85 := hp.2.1
        have := i85.1; have := i85.2
        have f85_0 := hp.2.2
        have hA85 := hp.1.2
        refine lv_istore (lv' := [(5, .int w85), (0, .ref (q 0)), (1, .int p0), (2, .int x2_26), (3, .int x3_26), (4, .int x4_26)]) hx hb dX6_leastBeat_48 hl (by decide) rfl (fun ls hl => ?_)
        refine lv_iload hx hb dX6_leastBeat_50 (lv_at hl 0 rfl) ?_
        refine lv_if_lt (tgt := 70) hx hb dX6_leastBeat_52 (by decide) (fun c86 => ?_) (fun c86 => ?_)
        · skip
          have r86 := (iv_Lt c86)
          have k87a : iv (-1) (-1) w85 := iv_ltl (iv_Lt c86) i85 (iv_lit (n := 0) 0 (by decide)) (by decide)
          refine lv_aload_n hx hb dX6_leastBeat_70 rfl (lv_at hl 1 rfl) ?_
          refine b_get (ci := 6) (C := RX6) (T := TX6) (Nf := 29) (v := .int (z85.1 2)) hx hb hts in_X6_leastBeat_X6 hown hK hH 0 (by decide) rfl rfl 8 (by decide) (hts (.fieldLink RX6 28 "StationLineModel" "beat" "I") (List.mem_of_getElem? (i := 1) rfl)) rfl dX6_leastBeat_71 ?_
          have i88 := IvM_s2 hJ.1
          have := i88.1; have := i88.2
          refine lv_istore_n (lv' := [(3, .int (z85.1 2)), (5, .int w85), (0, .ref (q 0)), (1, .int p0), (2, .int x2_26), (4, .int x4_26)]) hx hb dX6_leastBeat_74 rfl hl (by decide) rfl (fun ls hl => ?_)
          refine lv_goto (tgt := 26) hx hb dX6_leastBeat_75 (by decide) ?_
          exact ih26 _ (by have q9 : (z85.1 2).toInt = ((x3_26 + x4_26) / 2).toInt := (by rw [hA85.1 2 (by decide), hz83]; rfl); omega) x2_26 (z85.1 2) x4_26 z85 H locs ls h1_26 h2_26 (iv_w i88 (by decide) (by decide)) h4_26 ⟨(have q9 : (z85.1 2).toInt = ((x3_26 + x4_26) / 2).toInt := (by rw [hA85.1 2 (by decide), hz83]; rfl); by omega), ex_26.2⟩ hJ hH (lv_sub hl [2, 3, 4, 0, 5] rfl) rfl
        · skip
          have r86 := (iv_nLt c86)
          have k89b : iv 0 10 w85 := iv_ler (iv_nLt c86) (iv_lit (n := 0) 0 (by decide)) i85
          refine lv_iload hx hb dX6_leastBeat_55 (lv_at hl 0 rfl) ?_
          refine lv_iload_n hx hb dX6_leastBeat_57 rfl (lv_at hl 2 rfl) ?_
          refine lv_icmp_gt (tgt := 70) hx hb dX6_leastBeat_58 (by decide) (fun c90 => ?_) (fun c90 => ?_)
          · skip
            have r90 := (iv_Lt c90)
            have k91a : iv 1 9 p0 := iv_ltl (iv_Lt c90) h1_26 k89b (by decide)
            have k91b : iv 2 10 w85 := iv_ltr (iv_Lt c90) h1_26 k89b (by decide)
            refine lv_aload_n hx hb dX6_leastBeat_70 rfl (lv_at hl 1 rfl) ?_
            refine b_get (ci := 6) (C := RX6) (T := TX6) (Nf := 29) (v := .int (z85.1 2)) hx hb hts in_X6_leastBeat_X6 hown hK hH 0 (by decide) rfl rfl 8 (by decide) (hts (.fieldLink RX6 28 "StationLineModel" "beat" "I") (List.mem_of_getElem? (i := 1) rfl)) rfl dX6_leastBeat_71 ?_
            have i92 := IvM_s2 hJ.1
            have := i92.1; have := i92.2
            refine lv_istore_n (lv' := [(3, .int (z85.1 2)), (5, .int w85), (0, .ref (q 0)), (1, .int p0), (2, .int x2_26), (4, .int x4_26)]) hx hb dX6_leastBeat_74 rfl hl (by decide) rfl (fun ls hl => ?_)
            refine lv_goto (tgt := 26) hx hb dX6_leastBeat_75 (by decide) ?_
            exact ih26 _ (by have q9 : (z85.1 2).toInt = ((x3_26 + x4_26) / 2).toInt := (by rw [hA85.1 2 (by decide), hz83]; rfl); omega) x2_26 (z85.1 2) x4_26 z85 H locs ls (iv_w k91a (by decide) (by decide)) h2_26 (iv_w i92 (by decide) (by decide)) h4_26 ⟨(have q9 : (z85.1 2).toInt = ((x3_26 + x4_26) / 2).toInt := (by rw [hA85.1 2 (by decide), hz83]; rfl); by omega), ex_26.2⟩ hJ hH (lv_sub hl [2, 3, 4, 0, 5] rfl) rfl
          · skip
            have r90 := (iv_nLt c90)
            refine lv_aload_n hx hb dX6_leastBeat_61 rfl (lv_at hl 1 rfl) ?_
            refine b_get (ci := 6) (C := RX6) (T := TX6) (Nf := 29) (v := .int (z85.1 2)) hx hb hts in_X6_leastBeat_X6 hown hK hH 0 (by decide) rfl rfl 8 (by decide) (hts (.fieldLink RX6 28 "StationLineModel" "beat" "I") (List.mem_of_getElem? (i := 1) rfl)) rfl dX6_leastBeat_62 ?_
            have i94 := IvM_s2 hJ.1
            have := i94.1; have := i94.2
            refine lv_istore (lv' := [(4, .int (z85.1 2)), (5, .int w85), (0, .ref (q 0)), (1, .int p0), (2, .int x2_26), (3, .int x3_26)]) hx hb dX6_leastBeat_65 hl (by decide) rfl (fun ls hl => ?_)
            refine lv_goto (tgt := 75) hx hb dX6_leastBeat_67 (by decide) ?_
            refine lv_goto (tgt := 26) hx hb dX6_leastBeat_75 (by decide) ?_
            exact ih26 _ (by have q9 : (z85.1 2).toInt = ((x3_26 + x4_26) / 2).toInt := (by rw [hA85.1 2 (by decide), hz83]; rfl); omega) x2_26 x3_26 (z85.1 2) z85 H locs ls h1_26 h2_26 b71 (iv_w i94 (by decide) (by decide)) ⟨(have q9 : (z85.1 2).toInt = ((x3_26 + x4_26) / 2).toInt := (by rw [hA85.1 2 (by decide), hz83]; rfl); by omega), ex_26.2⟩ hJ hH (lv_sub hl [2, 3, 4, 5, 0] rfl) rfl
  refine lv_iload_n hx hb dX6_leastBeat_0 rfl (lv_at hl 1 rfl) ?_
  refine lv_iconst (v := 1) hx hb dX6_leastBeat_1 (by decide) ?_
  refine lv_icmp_lt (tgt := 11) hx hb dX6_leastBeat_2 (by decide) (fun c95 => ?_) (fun c95 => ?_)
  · skip
    have r95 := (iv_Lt c95)
    have k96a : iv (-2147483648) 0 p0 := iv_ltl (iv_Lt c95) (iv_all p0) (iv_lit (n := 1) 1 (by decide)) (by decide)
    refine lv_bipush (v := (-2)) hx hb dX6_leastBeat_11 (by decide) ?_
    exact hret _ z0 H locs _ _ ⟨hJ, (iv_w (iv_lit (n := (-2)) (-2) (by decide)) (by decide) (by decide)), rfl⟩ hH dX6_leastBeat_13
  · skip
    have r95 := (iv_nLt c95)
    have k97b : iv 1 2147483647 p0 := iv_ler (iv_nLt c95) (iv_lit (n := 1) 1 (by decide)) (iv_all p0)
    refine lv_iload_n hx hb dX6_leastBeat_5 rfl (lv_at hl 1 rfl) ?_
    refine lv_bipush (v := 10) hx hb dX6_leastBeat_6 (by decide) ?_
    refine lv_icmp_le (tgt := 14) hx hb dX6_leastBeat_8 (by decide) (fun c98 => ?_) (fun c98 => ?_)
    · skip
      have r98 := (iv_Le c98)
      have k99a : iv 1 10 p0 := iv_lel (iv_Le c98) k97b (iv_lit (n := 10) 10 (by decide))
      refine lv_aload_n hx hb dX6_leastBeat_14 rfl (lv_at hl 0 rfl) ?_
      refine b_get (ci := 6) (C := RX6) (T := TX6) (Nf := 29) (v := .int (z0.1 2)) hx hb hts in_X6_leastBeat_X6 hown hK hH 0 (by decide) rfl rfl 8 (by decide) (hts (.fieldLink RX6 28 "StationLineModel" "beat" "I") (List.mem_of_getElem? (i := 1) rfl)) rfl dX6_leastBeat_15 ?_
      have i100 := IvM_s2 hJ.1
      have := i100.1; have := i100.2
      refine lv_istore_n (lv' := [(2, .int (z0.1 2)), (0, .ref (q 0)), (1, .int p0)]) hx hb dX6_leastBeat_18 rfl hl (by decide) rfl (fun ls hl => ?_)
      refine lv_iconst (v := 0) hx hb dX6_leastBeat_19 (by decide) ?_
      refine lv_istore_n (lv' := [(3, .int 0), (2, .int (z0.1 2)), (0, .ref (q 0)), (1, .int p0)]) hx hb dX6_leastBeat_20 rfl hl (by decide) rfl (fun ls hl => ?_)
      refine lv_sipush (v := 1001) hx hb dX6_leastBeat_21 (by decide) ?_
      refine lv_istore (lv' := [(4, .int 1001), (3, .int 0), (2, .int (z0.1 2)), (0, .ref (q 0)), (1, .int p0)]) hx hb dX6_leastBeat_24 hl (by decide) rfl (fun ls hl => ?_)
      exact HL26 _ (z0.1 2) 0 1001 z0 H locs ls k99a i100 (iv_w (iv_lit (n := 0) 0 (by decide)) (by decide) (by decide)) (iv_w (iv_lit (n := 1001) 1001 (by decide)) (by decide) (by decide)) ⟨(by decide), rfl⟩ hJ hH (lv_sub hl [3, 4, 2, 1, 0] rfl) rfl
    · skip
      have r98 := (iv_nLe c98)
      have k101b : iv 11 2147483647 p0 := iv_ltr (iv_nLe c98) (iv_lit (n := 10) 10 (by decide)) k97b (by decide)
      refine lv_bipush (v := (-2)) hx hb dX6_leastBeat_11 (by decide) ?_
      exact hret _ z0 H locs _ _ ⟨hJ, (iv_w (iv_lit (n := (-2)) (-2) (by decide)) (by decide) (by decide)), rfl⟩ hH dX6_leastBeat_13
set_option maxHeartbeats 4000000 in
set_option maxRecDepth 100000 in
theorem g_X6_check_0 (l : Launch) (D : va_G) (cy : Nat → ClassId) (q : Nat → Nat) (hq : bJ 23 q) (z0 : zS) (hI : IvM z0)  : bCi l yX6_check wsX6_check ({ frames := 5, cells := 0, slots := 0, locals := 117 }) D cy 23 (enM cy) q z0 [.ref (q 0)] (fun v z => jJ IvM 32 2097152 0 z0 z ∧ iv (-2) 96 v ∧ (z.1 5 = 0)) := by
  refine hM_i cX6_check (by decide) rfl (own := RX6) rfl hq (Nat.le_of_ble_eq_true rfl) ?_
  intro p e s m args below meth c Q ls H locs hx hb hml hown hts hK hZ hH hl hret
  have hl : lv_has ls 4 [(0, .ref (q 0))] := hl
  have hJ : jJ IvM 32 2097152 0 z0 z0 := jJ_rf _ _ _ hI
  have e00 : (0 : Int32).toInt = 0 := (by decide); have e01 : (1 : Int32).toInt = 1 := (by decide); have e02 : (2 : Int32).toInt = 2 := (by decide); have e03 : (3 : Int32).toInt = 3 := (by decide); have e010 : (10 : Int32).toInt = 10 := (by decide)
  have HL26 : ∀ (n : Nat) (x1_26 : Int32) (x2_26 : Int32) (x3_26 : Int32) (z_26 : zS) (H : Heap) (locs : List Loc) (ls : Array Slot), iv 0 20 x1_26 → iv 0 1 x2_26 → iv 0 20 x3_26 → iv 0 0 (z_26.1 5) → ((x2_26 = 0 ∨ ((x1_26 : Int32).toInt = (z_26.1 0).toInt ∧ ∀ j : Nat, (j : Int) < (x3_26 : Int32).toInt → iv 0 10 (z_26.2.1 12 j))) ∧ z_26.1 5 = 0) → jJ IvM 32 2097152 0 z0 z_26 → bH D 23 (enM cy) q z_26 s.heap H locs → lv_has ls 4 [(0, .ref (q 0)), (1, .int x1_26), (2, .int x2_26), (3, .int x3_26)] → (20 - x3_26.toInt).toNat = n → W p l e ({ frames := 5, cells := 0, slots := 0, locals := 117 }) s m args below meth c H locs 0 0 Q (F0 m 26 ls []) := by
    intro n26
    induction n26 using Nat.strongRecOn with
    | ind n26 ih26 =>
      intro x1_26 x2_26 x3_26 z_26 H locs ls h1_26 h2_26 h3_26 gh5_26 ex_26 hJ hH hl hn26
      have := h1_26.1; have := h1_26.2; have := h2_26.1; have := h2_26.2; have := h3_26.1; have := h3_26.2; have := gh5_26.1; have := gh5_26.2
      have HL58 : ∀ (n : Nat) (x3_58 : Int32) (z_58 : zS) (H : Heap) (locs : List Loc) (ls : Array Slot), iv 0 10 x3_58 → iv 0 0 (z_58.1 5) → ((∀ j : Nat, (j : Int) < (z_58.1 0).toInt → iv 0 10 (z_58.2.1 12 j)) ∧ z_58.1 5 = 0) → jJ IvM 32 2097152 0 z0 z_58 → bH D 23 (enM cy) q z_58 s.heap H locs → lv_has ls 4 [(0, .ref (q 0)), (3, .int x3_58)] → (10 - x3_58.toInt).toNat = n → W p l e ({ frames := 5, cells := 0, slots := 0, locals := 117 }) s m args below meth c H locs 0 0 Q (F0 m 58 ls []) := by
        intro n58
        induction n58 using Nat.strongRecOn with
        | ind n58 ih58 =>
          intro x3_58 z_58 H locs ls h3_58 gh5_58 ex_58 hJ hH hl hn58
          have := h3_58.1; have := h3_58.2; have := gh5_58.1; have := gh5_58.2
          refine lv_iload_n hx hb dX6_check_58 rfl (lv_at hl 1 rfl) ?_
          refine lv_aload_n hx hb dX6_check_59 rfl (lv_at hl 0 rfl) ?_
          refine b_get (ci := 6) (C := RX6) (T := TX6) (Nf := 29) (v := .int (z_58.1 0)) hx hb hts in_X6_check_X6 hown hK hH 0 (by decide) rfl rfl 0 (by decide) (hts (.fieldLink RX6 85 "StationLineModel" "tasks" "I") (List.mem_of_getElem? (i := 2) rfl)) rfl dX6_check_60 ?_
          have i219 := IvM_s0 hJ.1
          have := i219.1; have := i219.2
          refine lv_icmp_ge (tgt := 84) hx hb dX6_check_63 (by decide) (fun c220 => ?_) (fun c220 => ?_)
          · skip
            have r220 := (iv_Le c220)
            refine lv_aload_n hx hb dX6_check_84 rfl (lv_at hl 0 rfl) ?_
            refine lv_aload_n hx hb dX6_check_85 rfl (lv_at hl 0 rfl) ?_
            refine b_get (ci := 6) (C := RX6) (T := TX6) (Nf := 29) (v := .ref (q 21)) hx hb hts in_X6_check_X6 hown hK hH 0 (by decide) rfl rfl 27 (by decide) (hts (.fieldLink RX6 76 "StationLineModel" "trial" "[I") (List.mem_of_getElem? (i := 4) rfl)) rfl dX6_check_86 ?_
            refine b_calli (As := [.ref (q 21)]) (rest := []) ⟨hx, hb, hml, hown, hts⟩ 0 6 (g_X6_clashIn_0_21 l D cy q hH.2.1 z_58 hJ.1 ) (cwV 1 hts gX6_check_X6_clashIn rfl rfl rfl (by decide +kernel) ⟨Nat.le_of_ble_eq_true rfl, Nat.le_of_ble_eq_true rfl⟩) hK hZ hH (by decide) rfl rfl rfl hl.1 rfl (Nat.le_of_ble_eq_true rfl) ⟨Nat.zero_le _, Nat.zero_le _⟩ dX6_check_89 (fun w222 z222 H locs hp hH => ?_)
            rw [Ag_0 hp.1.2] at hH
            have i222 := hp.2
            have := i222.1; have := i222.2
            refine lv_istore_n (lv' := [(3, .int w222), (0, .ref (q 0))]) hx hb dX6_check_92 rfl hl (by decide) rfl (fun ls hl => ?_)
            refine lv_iload_n hx hb dX6_check_93 rfl (lv_at hl 0 rfl) ?_
            refine lv_if_ge (tgt := 101) hx hb dX6_check_94 (by decide) (fun c223 => ?_) (fun c223 => ?_)
            · skip
              have r223 := (iv_Le c223)
              have k224b : iv 0 9 w222 := iv_ler (iv_Le c223) (iv_lit (n := 0) 0 (by decide)) i222
              refine lv_bipush (v := 10) hx hb dX6_check_101 (by decide) ?_
              refine lv_iload_n hx hb dX6_check_103 rfl (lv_at hl 0 rfl) ?_
              refine lv_imul hx hb dX6_check_104 ?_
              have i225 : iv 0 90 ((10 : Int32) * w222) := (iv_mul (iv_lit (n := 10) 10 (by decide)) k224b (by decide) (by decide) (by decide) (by decide) (by decide))
              refine lv_aload_n hx hb dX6_check_105 rfl (lv_at hl 1 rfl) ?_
              refine lv_aload_n hx hb dX6_check_106 rfl (lv_at hl 1 rfl) ?_
              refine b_get (ci := 6) (C := RX6) (T := TX6) (Nf := 29) (v := .ref (q 21)) hx hb hts in_X6_check_X6 hown hK hH 0 (by decide) rfl rfl 27 (by decide) (hts (.fieldLink RX6 76 "StationLineModel" "trial" "[I") (List.mem_of_getElem? (i := 4) rfl)) rfl dX6_check_107 ?_
              refine lv_iload_n hx hb dX6_check_110 rfl (lv_at hl 0 rfl) ?_
              refine b_calli (As := [.ref (q 21), .int w222]) (rest := [.int ((10 : Int32) * w222)]) ⟨hx, hb, hml, hown, hts⟩ 0 6 (g_X6_causeIn_0_21 l D cy q hH.2.1 z_58 hJ.1 w222 k224b) (cwV 2 hts gX6_check_X6_causeIn rfl rfl rfl (by decide +kernel) ⟨Nat.le_of_ble_eq_true rfl, Nat.le_of_ble_eq_true rfl⟩) hK hZ hH (by decide) rfl rfl rfl hl.1 rfl (Nat.le_of_ble_eq_true rfl) ⟨Nat.zero_le _, Nat.zero_le _⟩ dX6_check_111 (fun w226 z226 H locs hp hH => ?_)
              rw [Ag_0 hp.1.2] at hH
              have i226 := hp.2
              have := i226.1; have := i226.2
              refine lv_iadd hx hb dX6_check_114 ?_
              have i227 : iv 0 96 (((10 : Int32) * w222) + w226) := (iv_add i225 i226 (by decide) (by decide) (by decide) (by decide))
              exact hret _ z_58 H locs _ _ ⟨hJ, (iv_w i227 (by decide) (by decide)), ex_58.2⟩ hH dX6_check_115
            · skip
              have r223 := (iv_nLe c223)
              have k228a : iv (-1) (-1) w222 := iv_ltl (iv_nLe c223) i222 (iv_lit (n := 0) 0 (by decide)) (by decide)
              refine lv_iconst (v := 0) hx hb dX6_check_97 (by decide) ?_
              refine lv_goto (tgt := 115) hx hb dX6_check_98 (by decide) ?_
              exact hret _ z_58 H locs _ _ ⟨hJ, (iv_w (iv_lit (n := 0) 0 (by decide)) (by decide) (by decide)), ex_58.2⟩ hH dX6_check_115
          · skip
            have r220 := (iv_nLe c220)
            have k229a : iv 0 9 x3_58 := iv_ltl (iv_nLe c220) h3_58 i219 (by decide)
            have k229b : iv 1 10 (z_58.1 0) := iv_ltr (iv_nLe c220) h3_58 i219 (by decide)
            refine lv_aload_n hx hb dX6_check_66 rfl (lv_at hl 0 rfl) ?_
            refine b_get (ci := 6) (C := RX6) (T := TX6) (Nf := 29) (v := .ref (q 21)) hx hb hts in_X6_check_X6 hown hK hH 0 (by decide) rfl rfl 27 (by decide) (hts (.fieldLink RX6 76 "StationLineModel" "trial" "[I") (List.mem_of_getElem? (i := 4) rfl)) rfl dX6_check_67 ?_
            refine lv_iload_n hx hb dX6_check_70 rfl (lv_at hl 1 rfl) ?_
            refine lv_aload_n hx hb dX6_check_71 rfl (lv_at hl 0 rfl) ?_
            refine b_get (ci := 6) (C := RX6) (T := TX6) (Nf := 29) (v := .ref (q 12)) hx hb hts in_X6_check_X6 hown hK hH 0 (by decide) rfl rfl 17 (by decide) (hts (.fieldLink RX6 47 "StationLineModel" "waiting" "[I") (List.mem_of_getElem? (i := 3) rfl)) rfl dX6_check_72 ?_
            refine lv_iload_n hx hb dX6_check_75 rfl (lv_at hl 1 rfl) ?_
            refine b_iald (v := z_58.2.1 12 (x3_58 : Int32).toNatClampNeg) hx hb hK hH 12 (by decide) rfl (iv_in k229a (by decide) (by decide)) rfl dX6_check_76 ?_
            have b230 : iv 0 10 (z_58.2.1 12 (x3_58 : Int32).toNatClampNeg) := (ex_58.1 _ (by have := iv_nat k229a (by decide); omega))
            refine b_iast hx hb hK hH 21 (by decide) rfl (iv_in k229a (by decide) (by decide)) (upA z_58 21 (upd (z_58.2.1 21) (x3_58 : Int32).toNatClampNeg (z_58.2.1 12 (x3_58 : Int32).toNatClampNeg))) rfl (enM_A _ _ _ _ _) dX6_check_77 (fun H locs hH => ?_)
            obtain ⟨z231, hz231⟩ : ∃ w : zS, w = upA z_58 21 (upd (z_58.2.1 21) (x3_58 : Int32).toNatClampNeg (z_58.2.1 12 (x3_58 : Int32).toNatClampNeg)) := ⟨_, rfl⟩
            rw [← hz231] at hH
            have hJ : jJ IvM 32 2097152 0 z0 z231 := by rw [hz231]; exact jJ_A hJ (by decide) (IvM_A21 hJ.1 _ (iv_w b230 (by decide) (by decide)))
            have g232 : iv 0 0 (z231.1 5) := by rw [hz231]; exact gh5_58
            have g233 : iv 1 10 (z231.1 0) := by rw [hz231]; exact k229b
            have j234 : iv 1 10 (x3_58 + 1) := iv_add k229a (iv_lit (n := 1) 1 (by decide)) (by decide) (by decide) (by decide) (by decide)
            have e234 : (x3_58 + 1).toInt = x3_58.toInt + 1 := (iv_addE k229a (iv_lit (n := 1) 1 (by decide)) (by decide) (by decide)).trans rfl
            refine lv_iinc (v := (x3_58 + 1)) (lv' := [(3, .int (x3_58 + 1)), (0, .ref (q 0))]) hx hb dX6_check_78 hl (k := 1) rfl rfl (by decide) rfl (fun ls hl => ?_)
            refine lv_goto (tgt := 58) hx hb dX6_check_81 (by decide) ?_
            exact ih58 _ (ms_up e234 j234.2 hn58) (x3_58 + 1) z231 H locs ls (iv_w j234 (by decide) (by decide)) g232 (by rw [((show z231.1 0 = z_58.1 0 by rw [hz231]; first | rfl | exact upA_n (by omega))), ((show z231.2.1 12 = z_58.2.1 12 by rw [hz231]; first | rfl | exact upA_n (by omega))), ((show z231.1 5 = z_58.1 5 by rw [hz231]; first | rfl | exact upA_n (by omega)))]; exact ex_58) hJ hH (lv_sub hl [1, 0] rfl) rfl
      refine lv_iload_n hx hb dX6_check_26 rfl (lv_at hl 3 rfl) ?_
      refine lv_iload_n hx hb dX6_check_27 rfl (lv_at hl 1 rfl) ?_
      refine lv_icmp_ge (tgt := 49) hx hb dX6_check_28 (by decide) (fun c235 => ?_) (fun c235 => ?_)
      · skip
        have r235 := (iv_Le c235)
        refine lv_iload_n hx hb dX6_check_49 rfl (lv_at hl 2 rfl) ?_
        refine lv_if_ne (tgt := 56) hx hb dX6_check_50 (by decide) (fun c237 => ?_) (fun c237 => ?_)
        · skip
          have r237 := (iv_nEq c237)
          have k238a : iv 1 1 x2_26 := iv_neLo (iv_nEq c237) h2_26 (by decide) (by decide)
          refine lv_iconst (v := 0) hx hb dX6_check_56 (by decide) ?_
          refine lv_istore_n (lv' := [(3, .int 0), (0, .ref (q 0)), (1, .int x1_26), (2, .int x2_26)]) hx hb dX6_check_57 rfl hl (by decide) rfl (fun ls hl => ?_)
          exact HL58 _ 0 z_26 H locs ls (iv_w (iv_lit (n := 0) 0 (by decide)) (by decide) (by decide)) gh5_26 ⟨fun j hj => ((ex_26.1.resolve_left c237).2 j (by have := (ex_26.1.resolve_left c237).1; omega)), ex_26.2⟩ hJ hH (lv_sub hl [1, 0] rfl) rfl
        · skip
          have r237 := (iv_Eq c237)
          have k239a : iv 0 0 x2_26 := iv_eql (iv_Eq c237) h2_26 (iv_lit (n := 0) 0 (by decide)) (by decide) (by decide)
          refine lv_bipush (v := (-2)) hx hb dX6_check_53 (by decide) ?_
          exact hret _ z_26 H locs _ _ ⟨hJ, (iv_w (iv_lit (n := (-2)) (-2) (by decide)) (by decide) (by decide)), ex_26.2⟩ hH dX6_check_55
      · skip
        have r235 := (iv_nLe c235)
        have k240a : iv 0 19 x3_26 := iv_ltl (iv_nLe c235) h3_26 h1_26 (by decide)
        have k240b : iv 1 20 x1_26 := iv_ltr (iv_nLe c235) h3_26 h1_26 (by decide)
        refine lv_iload_n hx hb dX6_check_31 rfl (lv_at hl 2 rfl) ?_
        refine lv_aload_n hx hb dX6_check_32 rfl (lv_at hl 0 rfl) ?_
        refine b_get (ci := 6) (C := RX6) (T := TX6) (Nf := 29) (v := .ref (q 12)) hx hb hts in_X6_check_X6 hown hK hH 0 (by decide) rfl rfl 17 (by decide) (hts (.fieldLink RX6 47 "StationLineModel" "waiting" "[I") (List.mem_of_getElem? (i := 3) rfl)) rfl dX6_check_33 ?_
        refine lv_iload_n hx hb dX6_check_36 rfl (lv_at hl 3 rfl) ?_
        refine b_iald (v := z_26.2.1 12 (x3_26 : Int32).toNatClampNeg) hx hb hK hH 12 (by decide) rfl (iv_in k240a (by decide) (by decide)) rfl dX6_check_37 ?_
        refine b_stati (As := [.int (z_26.2.1 12 (x3_26 : Int32).toNatClampNeg)]) (rest := [.int x2_26]) ⟨hx, hb, hml, hown, hts⟩ (g_X6_isStation l D cy q hH.2.1 z_26 hJ.1 (z_26.2.1 12 (x3_26 : Int32).toNatClampNeg)) (va_cwS 1 hts gX6_check_X6_isStation rfl rfl rfl (by decide +kernel) ⟨Nat.le_of_ble_eq_true rfl, Nat.le_of_ble_eq_true rfl⟩) hK hZ hH rfl hl.1 rfl (Nat.le_of_ble_eq_true rfl) ⟨Nat.zero_le _, Nat.zero_le _⟩ dX6_check_38 (fun w241 z241 H locs hp hH => ?_)
        rw [Ag_0 hp.1.2] at hH
        have i241 := hp.2.1
        have := i241.1; have := i241.2
        have tr241_0 := hp.2.2.1
        have f241_0 := hp.2.2.2
        refine lv_iand hx hb dX6_check_41 ?_
        have i242 : iv 0 1 (x2_26 &&& w241) := (iv_and h2_26 i241 (by decide) (by decide))
        have e242 : (x2_26 &&& w241).toInt ≤ x2_26.toInt := (iv_andlt h2_26 (by decide))
        refine lv_istore_n (lv' := [(2, .int (x2_26 &&& w241)), (0, .ref (q 0)), (1, .int x1_26), (3, .int x3_26)]) hx hb dX6_check_42 rfl hl (by decide) rfl (fun ls hl => ?_)
        have j243 : iv 1 20 (x3_26 + 1) := iv_add k240a (iv_lit (n := 1) 1 (by decide)) (by decide) (by decide) (by decide) (by decide)
        have e243 : (x3_26 + 1).toInt = x3_26.toInt + 1 := (iv_addE k240a (iv_lit (n := 1) 1 (by decide)) (by decide) (by decide)).trans rfl
        refine lv_iinc (v := (x3_26 + 1)) (lv' := [(3, .int (x3_26 + 1)), (2, .int (x2_26 &&& w241)), (0, .ref (q 0)), (1, .int x1_26)]) hx hb dX6_check_43 hl (k := 3) rfl rfl (by decide) rfl (fun ls hl => ?_)
        refine lv_goto (tgt := 26) hx hb dX6_check_46 (by decide) ?_
        exact ih26 _ (ms_up e243 j243.2 hn26) x1_26 (x2_26 &&& w241) (x3_26 + 1) z_26 H locs ls (iv_w k240b (by decide) (by decide)) i242 (iv_w j243 (by decide) (by decide)) gh5_26 ⟨ck_and ex_26.1 (iv_w k240a (by decide) (by decide)) e243 tr241_0, ex_26.2⟩ hJ hH (lv_sub hl [2, 3, 1, 0] rfl) rfl
  refine lv_aload_n hx hb dX6_check_0 rfl (lv_at hl 0 rfl) ?_
  refine b_get (ci := 6) (C := RX6) (T := TX6) (Nf := 29) (v := .int (z0.1 5)) hx hb hts in_X6_check_X6 hown hK hH 0 (by decide) rfl rfl 16 (by decide) (hts (.fieldLink RX6 201 "StationLineModel" "waits" "I") (List.mem_of_getElem? (i := 1) rfl)) rfl dX6_check_1 ?_
  have i244 := IvM_s5 hJ.1
  have := i244.1; have := i244.2
  refine lv_istore_n (lv' := [(1, .int (z0.1 5)), (0, .ref (q 0))]) hx hb dX6_check_4 rfl hl (by decide) rfl (fun ls hl => ?_)
  refine lv_aload_n hx hb dX6_check_5 rfl (lv_at hl 1 rfl) ?_
  refine lv_iconst (v := 0) hx hb dX6_check_6 (by decide) ?_
  refine b_put (ci := 6) (C := RX6) (T := TX6) (Nf := 29) (v := .int 0) (ty := .int) hx hb hts in_X6_check_X6 tyX6 tyX6_ok nmX6 hown hK hH 0 (by decide) rfl rfl 16 (by decide) (hts (.fieldLink RX6 201 "StationLineModel" "waits" "I") (List.mem_of_getElem? (i := 1) rfl)) rfl (by decide +kernel) rfl rfl (Nat.le_of_ble_eq_true rfl) (upS z0 5 0) rfl (enM_S5 _ _ _ _) dX6_check_7 (fun H locs hH => ?_)
  obtain ⟨z245, hz245⟩ : ∃ w : zS, w = upS z0 5 0 := ⟨_, rfl⟩
  rw [← hz245] at hH
  have hJ : jJ IvM 32 2097152 0 z0 z245 := by rw [hz245]; exact jJ_S hJ (by decide) (IvM_S5 hJ.1 (iv_w (iv_lit (n := 0) 0 (by decide)) (by decide) (by decide)))
  have g246 : iv 0 0 (z245.1 5) := by rw [hz245]; exact (iv_lit (n := 0) 0 (by decide))
  refine lv_iload_n hx hb dX6_check_10 rfl (lv_at hl 0 rfl) ?_
  refine lv_aload_n hx hb dX6_check_11 rfl (lv_at hl 1 rfl) ?_
  refine b_get (ci := 6) (C := RX6) (T := TX6) (Nf := 29) (v := .int (z245.1 0)) hx hb hts in_X6_check_X6 hown hK hH 0 (by decide) rfl rfl 0 (by decide) (hts (.fieldLink RX6 85 "StationLineModel" "tasks" "I") (List.mem_of_getElem? (i := 2) rfl)) rfl dX6_check_12 ?_
  have i247 := IvM_s0 hJ.1
  have := i247.1; have := i247.2
  refine lv_icmp_ne (tgt := 22) hx hb dX6_check_15 (by decide) (fun c248 => ?_) (fun c248 => ?_)
  · skip
    have r248 := (iv_nEq c248)
    refine lv_iconst (v := 0) hx hb dX6_check_22 (by decide) ?_
    refine lv_istore_n (lv' := [(2, .int 0), (1, .int (z0.1 5)), (0, .ref (q 0))]) hx hb dX6_check_23 rfl hl (by decide) rfl (fun ls hl => ?_)
    refine lv_iconst (v := 0) hx hb dX6_check_24 (by decide) ?_
    refine lv_istore_n (lv' := [(3, .int 0), (2, .int 0), (1, .int (z0.1 5)), (0, .ref (q 0))]) hx hb dX6_check_25 rfl hl (by decide) rfl (fun ls hl => ?_)
    exact HL26 _ (z0.1 5) 0 0 z245 H locs ls i244 (iv_w (iv_lit (n := 0) 0 (by decide)) (by decide) (by decide)) (iv_w (iv_lit (n := 0) 0 (by decide)) (by decide) (by decide)) g246 ⟨(Or.inl rfl), by rw [hz245]; rfl⟩ hJ hH (lv_sub hl [3, 2, 1, 0] rfl) rfl
  · skip
    have r248 := (iv_Eq c248)
    have k250a : iv 0 10 (z0.1 5) := iv_eql (iv_Eq c248) i244 i247 (by decide) (by decide)
    refine lv_iconst (v := 1) hx hb dX6_check_18 (by decide) ?_
    refine lv_goto (tgt := 23) hx hb dX6_check_19 (by decide) ?_
    refine lv_istore_n (lv' := [(2, .int 1), (1, .int (z0.1 5)), (0, .ref (q 0))]) hx hb dX6_check_23 rfl hl (by decide) rfl (fun ls hl => ?_)
    refine lv_iconst (v := 0) hx hb dX6_check_24 (by decide) ?_
    refine lv_istore_n (lv' := [(3, .int 0), (2, .int 1), (1, .int (z0.1 5)), (0, .ref (q 0))]) hx hb dX6_check_25 rfl hl (by decide) rfl (fun ls hl => ?_)
    exact HL26 _ (z0.1 5) 1 0 z245 H locs ls (iv_w k250a (by decide) (by decide)) (iv_w (iv_lit (n := 1) 1 (by decide)) (by decide) (by decide)) (iv_w (iv_lit (n := 0) 0 (by decide)) (by decide) (by decide)) g246 ⟨(Or.inr ⟨by omega, fun j hj => absurd hj (by omega)⟩), by rw [hz245]; rfl⟩ hJ hH (lv_sub hl [3, 2, 1, 0] rfl) rfl
set_option maxHeartbeats 4000000 in
set_option maxRecDepth 100000 in
theorem g_X6_count_0 (l : Launch) (D : va_G) (cy : Nat → ClassId) (q : Nat → Nat) (hq : bJ 23 q) (z0 : zS) (hI : IvM z0) (p0 : Int32) : bCi l yX6_count wsX6_count ({ frames := 1, cells := 0, slots := 0, locals := 20 }) D cy 23 (enM cy) q z0 [.ref (q 0), .int p0] (fun v z => jJ IvM 0 0 0 z0 z ∧ iv (-2147483648) 2147483647 v) := by
  refine hM_i cX6_count (by decide) rfl (own := RX6) rfl hq (Nat.le_of_ble_eq_true rfl) ?_
  intro p e s m args below meth c Q ls H locs hx hb hml hown hts hK hZ hH hl hret
  have hl : lv_has ls 2 [(0, .ref (q 0)), (1, .int p0)] := hl
  have hJ : jJ IvM 0 0 0 z0 z0 := jJ_rf _ _ _ hI
  refine lv_iload_n hx hb dX6_count_0 rfl (lv_at hl 1 rfl) ?_
  rcases (show (p0.toInt < 0 ∨ 5 < p0.toInt) ∨ (¬ p0.toInt < 0 ∧ ¬ 5 < p0.toInt) by omega) with h6 | h6
  · refine lv_tableOut (tgt := 70) hx hb dX6_count_1 h6 (by decide) ?_
    refine lv_bipush (v := (-2)) hx hb dX6_count_70 (by decide) ?_
    exact hret _ z0 H locs _ _ ⟨hJ, (iv_w (iv_lit (n := (-2)) (-2) (by decide)) (by decide) (by decide))⟩ hH dX6_count_72
  · rcases (show p0.toInt = 0 ∨ p0.toInt = 1 ∨ p0.toInt = 2 ∨ p0.toInt = 3 ∨ p0.toInt = 4 ∨ p0.toInt = 5 by omega) with e6 | e6 | e6 | e6 | e6 | e6
    · refine lv_tableIn (off := 39) (tgt := 40) hx hb dX6_count_1 h6.1 h6.2 (by rw [e6]; rfl) (by decide) ?_
      have k6 : iv 0 0 p0 := iv_lit p0 e6
      refine lv_aload_n hx hb dX6_count_40 rfl (lv_at hl 0 rfl) ?_
      refine b_get (ci := 6) (C := RX6) (T := TX6) (Nf := 29) (v := .int (z0.1 0)) hx hb hts in_X6_count_X6 hown hK hH 0 (by decide) rfl rfl 0 (by decide) (hts (.fieldLink RX6 85 "StationLineModel" "tasks" "I") (List.mem_of_getElem? (i := 1) rfl)) rfl dX6_count_41 ?_
      have i7 := IvM_s0 hJ.1
      exact hret _ z0 H locs _ _ ⟨hJ, (iv_w i7 (by decide) (by decide))⟩ hH dX6_count_44
    · refine lv_tableIn (off := 44) (tgt := 45) hx hb dX6_count_1 h6.1 h6.2 (by rw [e6]; rfl) (by decide) ?_
      have k6 : iv 1 1 p0 := iv_lit p0 e6
      refine lv_aload_n hx hb dX6_count_45 rfl (lv_at hl 0 rfl) ?_
      refine b_get (ci := 6) (C := RX6) (T := TX6) (Nf := 29) (v := .int (z0.1 5)) hx hb hts in_X6_count_X6 hown hK hH 0 (by decide) rfl rfl 16 (by decide) (hts (.fieldLink RX6 201 "StationLineModel" "waits" "I") (List.mem_of_getElem? (i := 2) rfl)) rfl dX6_count_46 ?_
      have i8 := IvM_s5 hJ.1
      exact hret _ z0 H locs _ _ ⟨hJ, (iv_w i8 (by decide) (by decide))⟩ hH dX6_count_49
    · refine lv_tableIn (off := 49) (tgt := 50) hx hb dX6_count_1 h6.1 h6.2 (by rw [e6]; rfl) (by decide) ?_
      have k6 : iv 2 2 p0 := iv_lit p0 e6
      refine lv_aload_n hx hb dX6_count_50 rfl (lv_at hl 0 rfl) ?_
      refine b_get (ci := 6) (C := RX6) (T := TX6) (Nf := 29) (v := .int (z0.1 6)) hx hb hts in_X6_count_X6 hown hK hH 0 (by decide) rfl rfl 18 (by decide) (hts (.fieldLink RX6 82 "StationLineModel" "met" "I") (List.mem_of_getElem? (i := 3) rfl)) rfl dX6_count_51 ?_
      exact hret _ z0 H locs _ _ ⟨hJ, (iv_all (z0.1 6))⟩ hH dX6_count_54
    · refine lv_tableIn (off := 54) (tgt := 55) hx hb dX6_count_1 h6.1 h6.2 (by rw [e6]; rfl) (by decide) ?_
      have k6 : iv 3 3 p0 := iv_lit p0 e6
      refine lv_aload_n hx hb dX6_count_55 rfl (lv_at hl 0 rfl) ?_
      refine b_get (ci := 6) (C := RX6) (T := TX6) (Nf := 29) (v := .int (z0.1 1)) hx hb hts in_X6_count_X6 hown hK hH 0 (by decide) rfl rfl 7 (by decide) (hts (.fieldLink RX6 113 "StationLineModel" "kind" "I") (List.mem_of_getElem? (i := 4) rfl)) rfl dX6_count_56 ?_
      exact hret _ z0 H locs _ _ ⟨hJ, (iv_all (z0.1 1))⟩ hH dX6_count_59
    · refine lv_tableIn (off := 59) (tgt := 60) hx hb dX6_count_1 h6.1 h6.2 (by rw [e6]; rfl) (by decide) ?_
      have k6 : iv 4 4 p0 := iv_lit p0 e6
      refine lv_aload_n hx hb dX6_count_60 rfl (lv_at hl 0 rfl) ?_
      refine b_get (ci := 6) (C := RX6) (T := TX6) (Nf := 29) (v := .int (z0.1 2)) hx hb hts in_X6_count_X6 hown hK hH 0 (by decide) rfl rfl 8 (by decide) (hts (.fieldLink RX6 28 "StationLineModel" "beat" "I") (List.mem_of_getElem? (i := 5) rfl)) rfl dX6_count_61 ?_
      have i9 := IvM_s2 hJ.1
      exact hret _ z0 H locs _ _ ⟨hJ, (iv_w i9 (by decide) (by decide))⟩ hH dX6_count_64
    · refine lv_tableIn (off := 64) (tgt := 65) hx hb dX6_count_1 h6.1 h6.2 (by rw [e6]; rfl) (by decide) ?_
      have k6 : iv 5 5 p0 := iv_lit p0 e6
      refine lv_aload_n hx hb dX6_count_65 rfl (lv_at hl 0 rfl) ?_
      refine b_calli (As := []) (rest := []) ⟨hx, hb, hml, hown, hts⟩ 0 6 (g_X6_room_0 l D cy q hH.2.1 z0 hJ.1 ) (cwV 0 hts gX6_count_X6_room rfl rfl rfl (by decide +kernel) ⟨Nat.le_of_ble_eq_true rfl, Nat.le_of_ble_eq_true rfl⟩) hK hZ hH (by decide) rfl rfl rfl hl.1 rfl (Nat.le_of_ble_eq_true rfl) ⟨Nat.zero_le _, Nat.zero_le _⟩ dX6_count_66 (fun w10 z10 H locs hp hH => ?_)
      rw [Ag_0 hp.1.2] at hH
      have i10 := hp.2
      exact hret _ z0 H locs _ _ ⟨hJ, (iv_w i10 (by decide) (by decide))⟩ hH dX6_count_69
-- CARRY
def TrM (_ : zS) : Prop := True
theorem TrM_S0 {z : zS} {v : Int32} (_ : TrM z) : TrM (upS z 0 v) := trivial
theorem TrM_S1 {z : zS} {v : Int32} (_ : TrM z) : TrM (upS z 1 v) := trivial
theorem TrM_S2 {z : zS} {v : Int32} (_ : TrM z) : TrM (upS z 2 v) := trivial
theorem TrM_S3 {z : zS} {v : Int32} (_ : TrM z) : TrM (upS z 3 v) := trivial
theorem TrM_S4 {z : zS} {v : Int32} (_ : TrM z) : TrM (upS z 4 v) := trivial
theorem TrM_S5 {z : zS} {v : Int32} (_ : TrM z) : TrM (upS z 5 v) := trivial
theorem TrM_S6 {z : zS} {v : Int32} (_ : TrM z) : TrM (upS z 6 v) := trivial
theorem TrM_A {z : zS} {k : Nat} {f : Nat → Int32} (_ : TrM z) (_ : True) : TrM (upA z k f) := trivial
theorem TrM_L {z : zS} {k : Nat} {f : Nat → Int64} (_ : TrM z) : TrM (upL z k f) := trivial
set_option maxHeartbeats 4000000 in
set_option maxRecDepth 100000 in
theorem g_X6_carry_0_22_0 (l : Launch) (D : va_G) (cy : Nat → ClassId) (q : Nat → Nat) (hq : bJ 23 q) (z0 : zS) (hI : TrM z0)  : bCi l yX6_carry wsX6_carry ({ frames := 0, cells := 0, slots := 0, locals := 0 }) D cy 23 (enM cy) q z0 [.ref (q 0), .ref (q 22), .int 3, .int 0, .int 0] (fun v z => jJ TrM 0 256 0 z0 z ∧ iv 3 3 v ∧ (z = upA z0 8 (va_cpy (z0.2.1 22) (z0.2.1 8) 0 0 3))) := by
  refine hM_i cX6_carry (by decide) rfl (own := RX6) rfl hq (Nat.le_of_ble_eq_true rfl) ?_
  intro p e s m args below meth c Q ls H locs hx hb hml hown hts hK hZ hH hl hret
  have hl : lv_has ls 6 [(0, .ref (q 0)), (1, .ref (q 22)), (2, .int 3), (3, .int 0), (4, .int 0)] := hl
  have hJ : jJ TrM 0 256 0 z0 z0 := jJ_rf _ _ _ hI
  have e00 : (0 : Int32).toInt = 0 := (by decide); have e01 : (1 : Int32).toInt = 1 := (by decide); have e02 : (2 : Int32).toInt = 2 := (by decide); have e03 : (3 : Int32).toInt = 3 := (by decide); have e010 : (10 : Int32).toInt = 10 := (by decide)
  have HL3 : ∀ (n : Nat) (x5_3 : Int32) (z_3 : zS) (H : Heap) (locs : List Loc) (ls : Array Slot), iv 0 3 x5_3 → (z_3 = upA z0 8 (va_cpy (z0.2.1 22) (z0.2.1 8) 0 0 (x5_3 : Int32).toNatClampNeg)) → jJ TrM 0 256 0 z0 z_3 → bH D 23 (enM cy) q z_3 s.heap H locs → lv_has ls 6 [(0, .ref (q 0)), (1, .ref (q 22)), (2, .int 3), (3, .int 0), (4, .int 0), (5, .int x5_3)] → (3 - x5_3.toInt).toNat = n → W p l e ({ frames := 0, cells := 0, slots := 0, locals := 0 }) s m args below meth c H locs 0 0 Q (F0 m 3 ls []) := by
    intro n3
    induction n3 using Nat.strongRecOn with
    | ind n3 ih3 =>
      intro x5_3 z_3 H locs ls h5_3 ex_3 hJ hH hl hn3
      have := h5_3.1; have := h5_3.2
      refine lv_iload hx hb dX6_carry_3 (lv_at hl 5 rfl) ?_
      refine lv_iload_n hx hb dX6_carry_5 rfl (lv_at hl 2 rfl) ?_
      refine lv_icmp_ge (tgt := 49) hx hb dX6_carry_6 (by decide) (fun c29 => ?_) (fun c29 => ?_)
      · skip
        have r29 := (iv_Le c29)
        have k30b : iv 3 3 x5_3 := iv_ler (iv_Le c29) (iv_lit (n := 3) 3 (by decide)) h5_3
        refine lv_iload_n hx hb dX6_carry_49 rfl (lv_at hl 3 rfl) ?_
        refine lv_iload_n hx hb dX6_carry_50 rfl (lv_at hl 2 rfl) ?_
        refine lv_iadd hx hb dX6_carry_51 ?_
        refine b_vi (v := 3) (by decide) ?_
        exact hret _ z_3 H locs _ _ ⟨hJ, (iv_lit (n := 3) 3 (by decide)), (by have l8 : (3 : Int32).toInt = 3 := (by decide); have e9 : (x5_3 : Int32).toNatClampNeg = 3 := (by have := iv_nat k30b (by decide); omega); rw [← e9]; exact ex_3)⟩ hH dX6_carry_52
      · skip
        have r29 := (iv_nLe c29)
        have k31a : iv 0 2 x5_3 := iv_ltl (iv_nLe c29) h5_3 (iv_lit (n := 3) 3 (by decide)) (by decide)
        refine lv_iload hx hb dX6_carry_9 (lv_at hl 4 rfl) ?_
        refine lv_if_eq (tgt := 30) hx hb dX6_carry_11 (by decide) (fun c32 => ?_) (fun c32 => ?_)
        · skip
          have r32 := (iv_Eq c32)
          refine lv_aload_n hx hb dX6_carry_30 rfl (lv_at hl 0 rfl) ?_
          refine b_get (ci := 6) (C := RX6) (T := TX6) (Nf := 29) (v := .ref (q 8)) hx hb hts in_X6_carry_X6 hown hK hH 0 (by decide) rfl rfl 12 (by decide) (hts (.fieldLink RX6 35 "StationLineModel" "kept" "[I") (List.mem_of_getElem? (i := 1) rfl)) rfl dX6_carry_31 ?_
          refine lv_iload_n hx hb dX6_carry_34 rfl (lv_at hl 3 rfl) ?_
          refine lv_iload hx hb dX6_carry_35 (lv_at hl 5 rfl) ?_
          refine lv_iadd hx hb dX6_carry_37 ?_
          have i34 : iv 0 2 ((0 : Int32) + x5_3) := (iv_add (iv_lit (n := 0) 0 (by decide)) k31a (by decide) (by decide) (by decide) (by decide))
          have e34 := (iv_addE (iv_lit (n := 0) 0 (by decide)) k31a (by decide) (by decide))
          have := i34.1; have := i34.2
          refine lv_aload_n hx hb dX6_carry_38 rfl (lv_at hl 1 rfl) ?_
          refine lv_iload hx hb dX6_carry_39 (lv_at hl 5 rfl) ?_
          refine b_iald (v := z_3.2.1 22 (x5_3 : Int32).toNatClampNeg) hx hb hK hH 22 (by decide) rfl (iv_in k31a (by decide) (by decide)) rfl dX6_carry_41 ?_
          refine b_iast hx hb hK hH 8 (by decide) rfl (iv_in i34 (by decide) (by decide)) (upA z_3 8 (upd (z_3.2.1 8) ((0 : Int32) + x5_3 : Int32).toNatClampNeg (z_3.2.1 22 (x5_3 : Int32).toNatClampNeg))) rfl (enM_A _ _ _ _ _) dX6_carry_42 (fun H locs hH => ?_)
          obtain ⟨z35, hz35⟩ : ∃ w : zS, w = upA z_3 8 (upd (z_3.2.1 8) ((0 : Int32) + x5_3 : Int32).toNatClampNeg (z_3.2.1 22 (x5_3 : Int32).toNatClampNeg)) := ⟨_, rfl⟩
          rw [← hz35] at hH
          have hJ : jJ TrM 0 256 0 z0 z35 := by rw [hz35]; exact jJ_A hJ (by decide) (TrM_A hJ.1 (by decide))
          have j36 : iv 1 3 (x5_3 + 1) := iv_add k31a (iv_lit (n := 1) 1 (by decide)) (by decide) (by decide) (by decide) (by decide)
          have e36 : (x5_3 + 1).toInt = x5_3.toInt + 1 := (iv_addE k31a (iv_lit (n := 1) 1 (by decide)) (by decide) (by decide)).trans rfl
          refine lv_iinc (v := (x5_3 + 1)) (lv' := [(5, .int (x5_3 + 1)), (0, .ref (q 0)), (1, .ref (q 22)), (2, .int 3), (3, .int 0), (4, .int 0)]) hx hb dX6_carry_43 hl (k := 5) rfl rfl (by decide) rfl (fun ls hl => ?_)
          refine lv_goto (tgt := 3) hx hb dX6_carry_46 (by decide) ?_
          exact ih3 _ (ms_up e36 j36.2 hn3) (x5_3 + 1) z35 H locs ls (iv_w j36 (by decide) (by decide)) (cpy_s0 (k := 22) (a := 0) ex_3 hz35 (by decide) (by have := iv_nat k31a (by decide); have l9 : (0 : Int32).toInt = 0 := (by decide); have e9 := iv_nat (x := (0 : Int32) + x5_3) (a := 0) (b := 180) ⟨by omega, by omega⟩ (by decide); omega) (by have := iv_nat k31a (by decide); have := iv_nat j36 (by decide); omega)) hJ hH (lv_sub hl [1, 2, 3, 4, 5, 0] rfl) rfl
        · skip
          exact absurd (iv_nEq c32) (by have := (iv_lit (n := 0) 0 (by decide)).1; have := (iv_lit (n := 0) 0 (by decide)).2; have := (iv_lit (n := 0) 0 (by decide)).1; have := (iv_lit (n := 0) 0 (by decide)).2; omega)
  refine lv_iconst (v := 0) hx hb dX6_carry_0 (by decide) ?_
  refine lv_istore (lv' := [(5, .int 0), (0, .ref (q 0)), (1, .ref (q 22)), (2, .int 3), (3, .int 0), (4, .int 0)]) hx hb dX6_carry_1 hl (by decide) rfl (fun ls hl => ?_)
  exact HL3 _ 0 z0 H locs ls (iv_w (iv_lit (n := 0) 0 (by decide)) (by decide) (by decide)) ((cpy_0 z0 8 _ 0 0)).symm hJ hH (lv_sub hl [1, 2, 3, 4, 5, 0] rfl) rfl
set_option maxHeartbeats 4000000 in
set_option maxRecDepth 100000 in
theorem g_X6_carry_0_1_0 (l : Launch) (D : va_G) (cy : Nat → ClassId) (q : Nat → Nat) (hq : bJ 23 q) (z0 : zS) (hI : TrM z0)  : bCi l yX6_carry wsX6_carry ({ frames := 0, cells := 0, slots := 0, locals := 0 }) D cy 23 (enM cy) q z0 [.ref (q 0), .ref (q 1), .int 30, .int 3, .int 0] (fun v z => jJ TrM 0 256 0 z0 z ∧ iv 33 33 v ∧ (z = upA z0 8 (va_cpy (z0.2.1 1) (z0.2.1 8) 0 3 30))) := by
  refine hM_i cX6_carry (by decide) rfl (own := RX6) rfl hq (Nat.le_of_ble_eq_true rfl) ?_
  intro p e s m args below meth c Q ls H locs hx hb hml hown hts hK hZ hH hl hret
  have hl : lv_has ls 6 [(0, .ref (q 0)), (1, .ref (q 1)), (2, .int 30), (3, .int 3), (4, .int 0)] := hl
  have hJ : jJ TrM 0 256 0 z0 z0 := jJ_rf _ _ _ hI
  have e00 : (0 : Int32).toInt = 0 := (by decide); have e01 : (1 : Int32).toInt = 1 := (by decide); have e02 : (2 : Int32).toInt = 2 := (by decide); have e03 : (3 : Int32).toInt = 3 := (by decide); have e010 : (10 : Int32).toInt = 10 := (by decide)
  have HL3 : ∀ (n : Nat) (x5_3 : Int32) (z_3 : zS) (H : Heap) (locs : List Loc) (ls : Array Slot), iv 0 30 x5_3 → (z_3 = upA z0 8 (va_cpy (z0.2.1 1) (z0.2.1 8) 0 3 (x5_3 : Int32).toNatClampNeg)) → jJ TrM 0 256 0 z0 z_3 → bH D 23 (enM cy) q z_3 s.heap H locs → lv_has ls 6 [(0, .ref (q 0)), (1, .ref (q 1)), (2, .int 30), (3, .int 3), (4, .int 0), (5, .int x5_3)] → (30 - x5_3.toInt).toNat = n → W p l e ({ frames := 0, cells := 0, slots := 0, locals := 0 }) s m args below meth c H locs 0 0 Q (F0 m 3 ls []) := by
    intro n3
    induction n3 using Nat.strongRecOn with
    | ind n3 ih3 =>
      intro x5_3 z_3 H locs ls h5_3 ex_3 hJ hH hl hn3
      have := h5_3.1; have := h5_3.2
      refine lv_iload hx hb dX6_carry_3 (lv_at hl 5 rfl) ?_
      refine lv_iload_n hx hb dX6_carry_5 rfl (lv_at hl 2 rfl) ?_
      refine lv_icmp_ge (tgt := 49) hx hb dX6_carry_6 (by decide) (fun c78 => ?_) (fun c78 => ?_)
      · skip
        have r78 := (iv_Le c78)
        have k79b : iv 30 30 x5_3 := iv_ler (iv_Le c78) (iv_lit (n := 30) 30 (by decide)) h5_3
        refine lv_iload_n hx hb dX6_carry_49 rfl (lv_at hl 3 rfl) ?_
        refine lv_iload_n hx hb dX6_carry_50 rfl (lv_at hl 2 rfl) ?_
        refine lv_iadd hx hb dX6_carry_51 ?_
        refine b_vi (v := 33) (by decide) ?_
        exact hret _ z_3 H locs _ _ ⟨hJ, (iv_lit (n := 33) 33 (by decide)), (by have l8 : (30 : Int32).toInt = 30 := (by decide); have e9 : (x5_3 : Int32).toNatClampNeg = 30 := (by have := iv_nat k79b (by decide); omega); rw [← e9]; exact ex_3)⟩ hH dX6_carry_52
      · skip
        have r78 := (iv_nLe c78)
        have k80a : iv 0 29 x5_3 := iv_ltl (iv_nLe c78) h5_3 (iv_lit (n := 30) 30 (by decide)) (by decide)
        refine lv_iload hx hb dX6_carry_9 (lv_at hl 4 rfl) ?_
        refine lv_if_eq (tgt := 30) hx hb dX6_carry_11 (by decide) (fun c81 => ?_) (fun c81 => ?_)
        · skip
          have r81 := (iv_Eq c81)
          refine lv_aload_n hx hb dX6_carry_30 rfl (lv_at hl 0 rfl) ?_
          refine b_get (ci := 6) (C := RX6) (T := TX6) (Nf := 29) (v := .ref (q 8)) hx hb hts in_X6_carry_X6 hown hK hH 0 (by decide) rfl rfl 12 (by decide) (hts (.fieldLink RX6 35 "StationLineModel" "kept" "[I") (List.mem_of_getElem? (i := 1) rfl)) rfl dX6_carry_31 ?_
          refine lv_iload_n hx hb dX6_carry_34 rfl (lv_at hl 3 rfl) ?_
          refine lv_iload hx hb dX6_carry_35 (lv_at hl 5 rfl) ?_
          refine lv_iadd hx hb dX6_carry_37 ?_
          have i83 : iv 3 32 ((3 : Int32) + x5_3) := (iv_add (iv_lit (n := 3) 3 (by decide)) k80a (by decide) (by decide) (by decide) (by decide))
          have e83 := (iv_addE (iv_lit (n := 3) 3 (by decide)) k80a (by decide) (by decide))
          have := i83.1; have := i83.2
          refine lv_aload_n hx hb dX6_carry_38 rfl (lv_at hl 1 rfl) ?_
          refine lv_iload hx hb dX6_carry_39 (lv_at hl 5 rfl) ?_
          refine b_iald (v := z_3.2.1 1 (x5_3 : Int32).toNatClampNeg) hx hb hK hH 1 (by decide) rfl (iv_in k80a (by decide) (by decide)) rfl dX6_carry_41 ?_
          refine b_iast hx hb hK hH 8 (by decide) rfl (iv_in i83 (by decide) (by decide)) (upA z_3 8 (upd (z_3.2.1 8) ((3 : Int32) + x5_3 : Int32).toNatClampNeg (z_3.2.1 1 (x5_3 : Int32).toNatClampNeg))) rfl (enM_A _ _ _ _ _) dX6_carry_42 (fun H locs hH => ?_)
          obtain ⟨z84, hz84⟩ : ∃ w : zS, w = upA z_3 8 (upd (z_3.2.1 8) ((3 : Int32) + x5_3 : Int32).toNatClampNeg (z_3.2.1 1 (x5_3 : Int32).toNatClampNeg)) := ⟨_, rfl⟩
          rw [← hz84] at hH
          have hJ : jJ TrM 0 256 0 z0 z84 := by rw [hz84]; exact jJ_A hJ (by decide) (TrM_A hJ.1 (by decide))
          have j85 : iv 1 30 (x5_3 + 1) := iv_add k80a (iv_lit (n := 1) 1 (by decide)) (by decide) (by decide) (by decide) (by decide)
          have e85 : (x5_3 + 1).toInt = x5_3.toInt + 1 := (iv_addE k80a (iv_lit (n := 1) 1 (by decide)) (by decide) (by decide)).trans rfl
          refine lv_iinc (v := (x5_3 + 1)) (lv' := [(5, .int (x5_3 + 1)), (0, .ref (q 0)), (1, .ref (q 1)), (2, .int 30), (3, .int 3), (4, .int 0)]) hx hb dX6_carry_43 hl (k := 5) rfl rfl (by decide) rfl (fun ls hl => ?_)
          refine lv_goto (tgt := 3) hx hb dX6_carry_46 (by decide) ?_
          exact ih3 _ (ms_up e85 j85.2 hn3) (x5_3 + 1) z84 H locs ls (iv_w j85 (by decide) (by decide)) (cpy_s0 (k := 1) (a := 3) ex_3 hz84 (by decide) (by have := iv_nat k80a (by decide); have l9 : (3 : Int32).toInt = 3 := (by decide); have e9 := iv_nat (x := (3 : Int32) + x5_3) (a := 0) (b := 180) ⟨by omega, by omega⟩ (by decide); omega) (by have := iv_nat k80a (by decide); have := iv_nat j85 (by decide); omega)) hJ hH (lv_sub hl [1, 2, 3, 4, 5, 0] rfl) rfl
        · skip
          exact absurd (iv_nEq c81) (by have := (iv_lit (n := 0) 0 (by decide)).1; have := (iv_lit (n := 0) 0 (by decide)).2; have := (iv_lit (n := 0) 0 (by decide)).1; have := (iv_lit (n := 0) 0 (by decide)).2; omega)
  refine lv_iconst (v := 0) hx hb dX6_carry_0 (by decide) ?_
  refine lv_istore (lv' := [(5, .int 0), (0, .ref (q 0)), (1, .ref (q 1)), (2, .int 30), (3, .int 3), (4, .int 0)]) hx hb dX6_carry_1 hl (by decide) rfl (fun ls hl => ?_)
  exact HL3 _ 0 z0 H locs ls (iv_w (iv_lit (n := 0) 0 (by decide)) (by decide) (by decide)) ((cpy_0 z0 8 _ 0 3)).symm hJ hH (lv_sub hl [1, 2, 3, 4, 5, 0] rfl) rfl
set_option maxHeartbeats 4000000 in
set_option maxRecDepth 100000 in
theorem g_X6_carry_0_2_0 (l : Launch) (D : va_G) (cy : Nat → ClassId) (q : Nat → Nat) (hq : bJ 23 q) (z0 : zS) (hI : TrM z0)  : bCi l yX6_carry wsX6_carry ({ frames := 0, cells := 0, slots := 0, locals := 0 }) D cy 23 (enM cy) q z0 [.ref (q 0), .ref (q 2), .int 3, .int 33, .int 0] (fun v z => jJ TrM 0 256 0 z0 z ∧ iv 36 36 v ∧ (z = upA z0 8 (va_cpy (z0.2.1 2) (z0.2.1 8) 0 33 3))) := by
  refine hM_i cX6_carry (by decide) rfl (own := RX6) rfl hq (Nat.le_of_ble_eq_true rfl) ?_
  intro p e s m args below meth c Q ls H locs hx hb hml hown hts hK hZ hH hl hret
  have hl : lv_has ls 6 [(0, .ref (q 0)), (1, .ref (q 2)), (2, .int 3), (3, .int 33), (4, .int 0)] := hl
  have hJ : jJ TrM 0 256 0 z0 z0 := jJ_rf _ _ _ hI
  have e00 : (0 : Int32).toInt = 0 := (by decide); have e01 : (1 : Int32).toInt = 1 := (by decide); have e02 : (2 : Int32).toInt = 2 := (by decide); have e03 : (3 : Int32).toInt = 3 := (by decide); have e010 : (10 : Int32).toInt = 10 := (by decide)
  have HL3 : ∀ (n : Nat) (x5_3 : Int32) (z_3 : zS) (H : Heap) (locs : List Loc) (ls : Array Slot), iv 0 3 x5_3 → (z_3 = upA z0 8 (va_cpy (z0.2.1 2) (z0.2.1 8) 0 33 (x5_3 : Int32).toNatClampNeg)) → jJ TrM 0 256 0 z0 z_3 → bH D 23 (enM cy) q z_3 s.heap H locs → lv_has ls 6 [(0, .ref (q 0)), (1, .ref (q 2)), (2, .int 3), (3, .int 33), (4, .int 0), (5, .int x5_3)] → (3 - x5_3.toInt).toNat = n → W p l e ({ frames := 0, cells := 0, slots := 0, locals := 0 }) s m args below meth c H locs 0 0 Q (F0 m 3 ls []) := by
    intro n3
    induction n3 using Nat.strongRecOn with
    | ind n3 ih3 =>
      intro x5_3 z_3 H locs ls h5_3 ex_3 hJ hH hl hn3
      have := h5_3.1; have := h5_3.2
      refine lv_iload hx hb dX6_carry_3 (lv_at hl 5 rfl) ?_
      refine lv_iload_n hx hb dX6_carry_5 rfl (lv_at hl 2 rfl) ?_
      refine lv_icmp_ge (tgt := 49) hx hb dX6_carry_6 (by decide) (fun c29 => ?_) (fun c29 => ?_)
      · skip
        have r29 := (iv_Le c29)
        have k30b : iv 3 3 x5_3 := iv_ler (iv_Le c29) (iv_lit (n := 3) 3 (by decide)) h5_3
        refine lv_iload_n hx hb dX6_carry_49 rfl (lv_at hl 3 rfl) ?_
        refine lv_iload_n hx hb dX6_carry_50 rfl (lv_at hl 2 rfl) ?_
        refine lv_iadd hx hb dX6_carry_51 ?_
        refine b_vi (v := 36) (by decide) ?_
        exact hret _ z_3 H locs _ _ ⟨hJ, (iv_lit (n := 36) 36 (by decide)), (by have l8 : (3 : Int32).toInt = 3 := (by decide); have e9 : (x5_3 : Int32).toNatClampNeg = 3 := (by have := iv_nat k30b (by decide); omega); rw [← e9]; exact ex_3)⟩ hH dX6_carry_52
      · skip
        have r29 := (iv_nLe c29)
        have k31a : iv 0 2 x5_3 := iv_ltl (iv_nLe c29) h5_3 (iv_lit (n := 3) 3 (by decide)) (by decide)
        refine lv_iload hx hb dX6_carry_9 (lv_at hl 4 rfl) ?_
        refine lv_if_eq (tgt := 30) hx hb dX6_carry_11 (by decide) (fun c32 => ?_) (fun c32 => ?_)
        · skip
          have r32 := (iv_Eq c32)
          refine lv_aload_n hx hb dX6_carry_30 rfl (lv_at hl 0 rfl) ?_
          refine b_get (ci := 6) (C := RX6) (T := TX6) (Nf := 29) (v := .ref (q 8)) hx hb hts in_X6_carry_X6 hown hK hH 0 (by decide) rfl rfl 12 (by decide) (hts (.fieldLink RX6 35 "StationLineModel" "kept" "[I") (List.mem_of_getElem? (i := 1) rfl)) rfl dX6_carry_31 ?_
          refine lv_iload_n hx hb dX6_carry_34 rfl (lv_at hl 3 rfl) ?_
          refine lv_iload hx hb dX6_carry_35 (lv_at hl 5 rfl) ?_
          refine lv_iadd hx hb dX6_carry_37 ?_
          have i34 : iv 33 35 ((33 : Int32) + x5_3) := (iv_add (iv_lit (n := 33) 33 (by decide)) k31a (by decide) (by decide) (by decide) (by decide))
          have e34 := (iv_addE (iv_lit (n := 33) 33 (by decide)) k31a (by decide) (by decide))
          have := i34.1; have := i34.2
          refine lv_aload_n hx hb dX6_carry_38 rfl (lv_at hl 1 rfl) ?_
          refine lv_iload hx hb dX6_carry_39 (lv_at hl 5 rfl) ?_
          refine b_iald (v := z_3.2.1 2 (x5_3 : Int32).toNatClampNeg) hx hb hK hH 2 (by decide) rfl (iv_in k31a (by decide) (by decide)) rfl dX6_carry_41 ?_
          refine b_iast hx hb hK hH 8 (by decide) rfl (iv_in i34 (by decide) (by decide)) (upA z_3 8 (upd (z_3.2.1 8) ((33 : Int32) + x5_3 : Int32).toNatClampNeg (z_3.2.1 2 (x5_3 : Int32).toNatClampNeg))) rfl (enM_A _ _ _ _ _) dX6_carry_42 (fun H locs hH => ?_)
          obtain ⟨z35, hz35⟩ : ∃ w : zS, w = upA z_3 8 (upd (z_3.2.1 8) ((33 : Int32) + x5_3 : Int32).toNatClampNeg (z_3.2.1 2 (x5_3 : Int32).toNatClampNeg)) := ⟨_, rfl⟩
          rw [← hz35] at hH
          have hJ : jJ TrM 0 256 0 z0 z35 := by rw [hz35]; exact jJ_A hJ (by decide) (TrM_A hJ.1 (by decide))
          have j36 : iv 1 3 (x5_3 + 1) := iv_add k31a (iv_lit (n := 1) 1 (by decide)) (by decide) (by decide) (by decide) (by decide)
          have e36 : (x5_3 + 1).toInt = x5_3.toInt + 1 := (iv_addE k31a (iv_lit (n := 1) 1 (by decide)) (by decide) (by decide)).trans rfl
          refine lv_iinc (v := (x5_3 + 1)) (lv' := [(5, .int (x5_3 + 1)), (0, .ref (q 0)), (1, .ref (q 2)), (2, .int 3), (3, .int 33), (4, .int 0)]) hx hb dX6_carry_43 hl (k := 5) rfl rfl (by decide) rfl (fun ls hl => ?_)
          refine lv_goto (tgt := 3) hx hb dX6_carry_46 (by decide) ?_
          exact ih3 _ (ms_up e36 j36.2 hn3) (x5_3 + 1) z35 H locs ls (iv_w j36 (by decide) (by decide)) (cpy_s0 (k := 2) (a := 33) ex_3 hz35 (by decide) (by have := iv_nat k31a (by decide); have l9 : (33 : Int32).toInt = 33 := (by decide); have e9 := iv_nat (x := (33 : Int32) + x5_3) (a := 0) (b := 180) ⟨by omega, by omega⟩ (by decide); omega) (by have := iv_nat k31a (by decide); have := iv_nat j36 (by decide); omega)) hJ hH (lv_sub hl [1, 2, 3, 4, 5, 0] rfl) rfl
        · skip
          exact absurd (iv_nEq c32) (by have := (iv_lit (n := 0) 0 (by decide)).1; have := (iv_lit (n := 0) 0 (by decide)).2; have := (iv_lit (n := 0) 0 (by decide)).1; have := (iv_lit (n := 0) 0 (by decide)).2; omega)
  refine lv_iconst (v := 0) hx hb dX6_carry_0 (by decide) ?_
  refine lv_istore (lv' := [(5, .int 0), (0, .ref (q 0)), (1, .ref (q 2)), (2, .int 3), (3, .int 33), (4, .int 0)]) hx hb dX6_carry_1 hl (by decide) rfl (fun ls hl => ?_)
  exact HL3 _ 0 z0 H locs ls (iv_w (iv_lit (n := 0) 0 (by decide)) (by decide) (by decide)) ((cpy_0 z0 8 _ 0 33)).symm hJ hH (lv_sub hl [1, 2, 3, 4, 5, 0] rfl) rfl
set_option maxHeartbeats 4000000 in
set_option maxRecDepth 100000 in
theorem g_X6_carry_0_3_0 (l : Launch) (D : va_G) (cy : Nat → ClassId) (q : Nat → Nat) (hq : bJ 23 q) (z0 : zS) (hI : TrM z0)  : bCi l yX6_carry wsX6_carry ({ frames := 0, cells := 0, slots := 0, locals := 0 }) D cy 23 (enM cy) q z0 [.ref (q 0), .ref (q 3), .int 10, .int 36, .int 0] (fun v z => jJ TrM 0 256 0 z0 z ∧ iv 46 46 v ∧ (z = upA z0 8 (va_cpy (z0.2.1 3) (z0.2.1 8) 0 36 10))) := by
  refine hM_i cX6_carry (by decide) rfl (own := RX6) rfl hq (Nat.le_of_ble_eq_true rfl) ?_
  intro p e s m args below meth c Q ls H locs hx hb hml hown hts hK hZ hH hl hret
  have hl : lv_has ls 6 [(0, .ref (q 0)), (1, .ref (q 3)), (2, .int 10), (3, .int 36), (4, .int 0)] := hl
  have hJ : jJ TrM 0 256 0 z0 z0 := jJ_rf _ _ _ hI
  have e00 : (0 : Int32).toInt = 0 := (by decide); have e01 : (1 : Int32).toInt = 1 := (by decide); have e02 : (2 : Int32).toInt = 2 := (by decide); have e03 : (3 : Int32).toInt = 3 := (by decide); have e010 : (10 : Int32).toInt = 10 := (by decide)
  have HL3 : ∀ (n : Nat) (x5_3 : Int32) (z_3 : zS) (H : Heap) (locs : List Loc) (ls : Array Slot), iv 0 10 x5_3 → (z_3 = upA z0 8 (va_cpy (z0.2.1 3) (z0.2.1 8) 0 36 (x5_3 : Int32).toNatClampNeg)) → jJ TrM 0 256 0 z0 z_3 → bH D 23 (enM cy) q z_3 s.heap H locs → lv_has ls 6 [(0, .ref (q 0)), (1, .ref (q 3)), (2, .int 10), (3, .int 36), (4, .int 0), (5, .int x5_3)] → (10 - x5_3.toInt).toNat = n → W p l e ({ frames := 0, cells := 0, slots := 0, locals := 0 }) s m args below meth c H locs 0 0 Q (F0 m 3 ls []) := by
    intro n3
    induction n3 using Nat.strongRecOn with
    | ind n3 ih3 =>
      intro x5_3 z_3 H locs ls h5_3 ex_3 hJ hH hl hn3
      have := h5_3.1; have := h5_3.2
      refine lv_iload hx hb dX6_carry_3 (lv_at hl 5 rfl) ?_
      refine lv_iload_n hx hb dX6_carry_5 rfl (lv_at hl 2 rfl) ?_
      refine lv_icmp_ge (tgt := 49) hx hb dX6_carry_6 (by decide) (fun c50 => ?_) (fun c50 => ?_)
      · skip
        have r50 := (iv_Le c50)
        have k51b : iv 10 10 x5_3 := iv_ler (iv_Le c50) (iv_lit (n := 10) 10 (by decide)) h5_3
        refine lv_iload_n hx hb dX6_carry_49 rfl (lv_at hl 3 rfl) ?_
        refine lv_iload_n hx hb dX6_carry_50 rfl (lv_at hl 2 rfl) ?_
        refine lv_iadd hx hb dX6_carry_51 ?_
        refine b_vi (v := 46) (by decide) ?_
        exact hret _ z_3 H locs _ _ ⟨hJ, (iv_lit (n := 46) 46 (by decide)), (by have l8 : (10 : Int32).toInt = 10 := (by decide); have e9 : (x5_3 : Int32).toNatClampNeg = 10 := (by have := iv_nat k51b (by decide); omega); rw [← e9]; exact ex_3)⟩ hH dX6_carry_52
      · skip
        have r50 := (iv_nLe c50)
        have k52a : iv 0 9 x5_3 := iv_ltl (iv_nLe c50) h5_3 (iv_lit (n := 10) 10 (by decide)) (by decide)
        refine lv_iload hx hb dX6_carry_9 (lv_at hl 4 rfl) ?_
        refine lv_if_eq (tgt := 30) hx hb dX6_carry_11 (by decide) (fun c53 => ?_) (fun c53 => ?_)
        · skip
          have r53 := (iv_Eq c53)
          refine lv_aload_n hx hb dX6_carry_30 rfl (lv_at hl 0 rfl) ?_
          refine b_get (ci := 6) (C := RX6) (T := TX6) (Nf := 29) (v := .ref (q 8)) hx hb hts in_X6_carry_X6 hown hK hH 0 (by decide) rfl rfl 12 (by decide) (hts (.fieldLink RX6 35 "StationLineModel" "kept" "[I") (List.mem_of_getElem? (i := 1) rfl)) rfl dX6_carry_31 ?_
          refine lv_iload_n hx hb dX6_carry_34 rfl (lv_at hl 3 rfl) ?_
          refine lv_iload hx hb dX6_carry_35 (lv_at hl 5 rfl) ?_
          refine lv_iadd hx hb dX6_carry_37 ?_
          have i55 : iv 36 45 ((36 : Int32) + x5_3) := (iv_add (iv_lit (n := 36) 36 (by decide)) k52a (by decide) (by decide) (by decide) (by decide))
          have e55 := (iv_addE (iv_lit (n := 36) 36 (by decide)) k52a (by decide) (by decide))
          have := i55.1; have := i55.2
          refine lv_aload_n hx hb dX6_carry_38 rfl (lv_at hl 1 rfl) ?_
          refine lv_iload hx hb dX6_carry_39 (lv_at hl 5 rfl) ?_
          refine b_iald (v := z_3.2.1 3 (x5_3 : Int32).toNatClampNeg) hx hb hK hH 3 (by decide) rfl (iv_in k52a (by decide) (by decide)) rfl dX6_carry_41 ?_
          refine b_iast hx hb hK hH 8 (by decide) rfl (iv_in i55 (by decide) (by decide)) (upA z_3 8 (upd (z_3.2.1 8) ((36 : Int32) + x5_3 : Int32).toNatClampNeg (z_3.2.1 3 (x5_3 : Int32).toNatClampNeg))) rfl (enM_A _ _ _ _ _) dX6_carry_42 (fun H locs hH => ?_)
          obtain ⟨z56, hz56⟩ : ∃ w : zS, w = upA z_3 8 (upd (z_3.2.1 8) ((36 : Int32) + x5_3 : Int32).toNatClampNeg (z_3.2.1 3 (x5_3 : Int32).toNatClampNeg)) := ⟨_, rfl⟩
          rw [← hz56] at hH
          have hJ : jJ TrM 0 256 0 z0 z56 := by rw [hz56]; exact jJ_A hJ (by decide) (TrM_A hJ.1 (by decide))
          have j57 : iv 1 10 (x5_3 + 1) := iv_add k52a (iv_lit (n := 1) 1 (by decide)) (by decide) (by decide) (by decide) (by decide)
          have e57 : (x5_3 + 1).toInt = x5_3.toInt + 1 := (iv_addE k52a (iv_lit (n := 1) 1 (by decide)) (by decide) (by decide)).trans rfl
          refine lv_iinc (v := (x5_3 + 1)) (lv' := [(5, .int (x5_3 + 1)), (0, .ref (q 0)), (1, .ref (q 3)), (2, .int 10), (3, .int 36), (4, .int 0)]) hx hb dX6_carry_43 hl (k := 5) rfl rfl (by decide) rfl (fun ls hl => ?_)
          refine lv_goto (tgt := 3) hx hb dX6_carry_46 (by decide) ?_
          exact ih3 _ (ms_up e57 j57.2 hn3) (x5_3 + 1) z56 H locs ls (iv_w j57 (by decide) (by decide)) (cpy_s0 (k := 3) (a := 36) ex_3 hz56 (by decide) (by have := iv_nat k52a (by decide); have l9 : (36 : Int32).toInt = 36 := (by decide); have e9 := iv_nat (x := (36 : Int32) + x5_3) (a := 0) (b := 180) ⟨by omega, by omega⟩ (by decide); omega) (by have := iv_nat k52a (by decide); have := iv_nat j57 (by decide); omega)) hJ hH (lv_sub hl [1, 2, 3, 4, 5, 0] rfl) rfl
        · skip
          exact absurd (iv_nEq c53) (by have := (iv_lit (n := 0) 0 (by decide)).1; have := (iv_lit (n := 0) 0 (by decide)).2; have := (iv_lit (n := 0) 0 (by decide)).1; have := (iv_lit (n := 0) 0 (by decide)).2; omega)
  refine lv_iconst (v := 0) hx hb dX6_carry_0 (by decide) ?_
  refine lv_istore (lv' := [(5, .int 0), (0, .ref (q 0)), (1, .ref (q 3)), (2, .int 10), (3, .int 36), (4, .int 0)]) hx hb dX6_carry_1 hl (by decide) rfl (fun ls hl => ?_)
  exact HL3 _ 0 z0 H locs ls (iv_w (iv_lit (n := 0) 0 (by decide)) (by decide) (by decide)) ((cpy_0 z0 8 _ 0 36)).symm hJ hH (lv_sub hl [1, 2, 3, 4, 5, 0] rfl) rfl
set_option maxHeartbeats 4000000 in
set_option maxRecDepth 100000 in
theorem g_X6_carry_0_4_0 (l : Launch) (D : va_G) (cy : Nat → ClassId) (q : Nat → Nat) (hq : bJ 23 q) (z0 : zS) (hI : TrM z0)  : bCi l yX6_carry wsX6_carry ({ frames := 0, cells := 0, slots := 0, locals := 0 }) D cy 23 (enM cy) q z0 [.ref (q 0), .ref (q 4), .int 100, .int 46, .int 0] (fun v z => jJ TrM 0 256 0 z0 z ∧ iv 146 146 v ∧ (z = upA z0 8 (va_cpy (z0.2.1 4) (z0.2.1 8) 0 46 100))) := by
  refine hM_i cX6_carry (by decide) rfl (own := RX6) rfl hq (Nat.le_of_ble_eq_true rfl) ?_
  intro p e s m args below meth c Q ls H locs hx hb hml hown hts hK hZ hH hl hret
  have hl : lv_has ls 6 [(0, .ref (q 0)), (1, .ref (q 4)), (2, .int 100), (3, .int 46), (4, .int 0)] := hl
  have hJ : jJ TrM 0 256 0 z0 z0 := jJ_rf _ _ _ hI
  have e00 : (0 : Int32).toInt = 0 := (by decide); have e01 : (1 : Int32).toInt = 1 := (by decide); have e02 : (2 : Int32).toInt = 2 := (by decide); have e03 : (3 : Int32).toInt = 3 := (by decide); have e010 : (10 : Int32).toInt = 10 := (by decide)
  have HL3 : ∀ (n : Nat) (x5_3 : Int32) (z_3 : zS) (H : Heap) (locs : List Loc) (ls : Array Slot), iv 0 100 x5_3 → (z_3 = upA z0 8 (va_cpy (z0.2.1 4) (z0.2.1 8) 0 46 (x5_3 : Int32).toNatClampNeg)) → jJ TrM 0 256 0 z0 z_3 → bH D 23 (enM cy) q z_3 s.heap H locs → lv_has ls 6 [(0, .ref (q 0)), (1, .ref (q 4)), (2, .int 100), (3, .int 46), (4, .int 0), (5, .int x5_3)] → (100 - x5_3.toInt).toNat = n → W p l e ({ frames := 0, cells := 0, slots := 0, locals := 0 }) s m args below meth c H locs 0 0 Q (F0 m 3 ls []) := by
    intro n3
    induction n3 using Nat.strongRecOn with
    | ind n3 ih3 =>
      intro x5_3 z_3 H locs ls h5_3 ex_3 hJ hH hl hn3
      have := h5_3.1; have := h5_3.2
      refine lv_iload hx hb dX6_carry_3 (lv_at hl 5 rfl) ?_
      refine lv_iload_n hx hb dX6_carry_5 rfl (lv_at hl 2 rfl) ?_
      refine lv_icmp_ge (tgt := 49) hx hb dX6_carry_6 (by decide) (fun c106 => ?_) (fun c106 => ?_)
      · skip
        have r106 := (iv_Le c106)
        have k107b : iv 100 100 x5_3 := iv_ler (iv_Le c106) (iv_lit (n := 100) 100 (by decide)) h5_3
        refine lv_iload_n hx hb dX6_carry_49 rfl (lv_at hl 3 rfl) ?_
        refine lv_iload_n hx hb dX6_carry_50 rfl (lv_at hl 2 rfl) ?_
        refine lv_iadd hx hb dX6_carry_51 ?_
        refine b_vi (v := 146) (by decide) ?_
        exact hret _ z_3 H locs _ _ ⟨hJ, (iv_lit (n := 146) 146 (by decide)), (by have l8 : (100 : Int32).toInt = 100 := (by decide); have e9 : (x5_3 : Int32).toNatClampNeg = 100 := (by have := iv_nat k107b (by decide); omega); rw [← e9]; exact ex_3)⟩ hH dX6_carry_52
      · skip
        have r106 := (iv_nLe c106)
        have k108a : iv 0 99 x5_3 := iv_ltl (iv_nLe c106) h5_3 (iv_lit (n := 100) 100 (by decide)) (by decide)
        refine lv_iload hx hb dX6_carry_9 (lv_at hl 4 rfl) ?_
        refine lv_if_eq (tgt := 30) hx hb dX6_carry_11 (by decide) (fun c109 => ?_) (fun c109 => ?_)
        · skip
          have r109 := (iv_Eq c109)
          refine lv_aload_n hx hb dX6_carry_30 rfl (lv_at hl 0 rfl) ?_
          refine b_get (ci := 6) (C := RX6) (T := TX6) (Nf := 29) (v := .ref (q 8)) hx hb hts in_X6_carry_X6 hown hK hH 0 (by decide) rfl rfl 12 (by decide) (hts (.fieldLink RX6 35 "StationLineModel" "kept" "[I") (List.mem_of_getElem? (i := 1) rfl)) rfl dX6_carry_31 ?_
          refine lv_iload_n hx hb dX6_carry_34 rfl (lv_at hl 3 rfl) ?_
          refine lv_iload hx hb dX6_carry_35 (lv_at hl 5 rfl) ?_
          refine lv_iadd hx hb dX6_carry_37 ?_
          have i111 : iv 46 145 ((46 : Int32) + x5_3) := (iv_add (iv_lit (n := 46) 46 (by decide)) k108a (by decide) (by decide) (by decide) (by decide))
          have e111 := (iv_addE (iv_lit (n := 46) 46 (by decide)) k108a (by decide) (by decide))
          have := i111.1; have := i111.2
          refine lv_aload_n hx hb dX6_carry_38 rfl (lv_at hl 1 rfl) ?_
          refine lv_iload hx hb dX6_carry_39 (lv_at hl 5 rfl) ?_
          refine b_iald (v := z_3.2.1 4 (x5_3 : Int32).toNatClampNeg) hx hb hK hH 4 (by decide) rfl (iv_in k108a (by decide) (by decide)) rfl dX6_carry_41 ?_
          refine b_iast hx hb hK hH 8 (by decide) rfl (iv_in i111 (by decide) (by decide)) (upA z_3 8 (upd (z_3.2.1 8) ((46 : Int32) + x5_3 : Int32).toNatClampNeg (z_3.2.1 4 (x5_3 : Int32).toNatClampNeg))) rfl (enM_A _ _ _ _ _) dX6_carry_42 (fun H locs hH => ?_)
          obtain ⟨z112, hz112⟩ : ∃ w : zS, w = upA z_3 8 (upd (z_3.2.1 8) ((46 : Int32) + x5_3 : Int32).toNatClampNeg (z_3.2.1 4 (x5_3 : Int32).toNatClampNeg)) := ⟨_, rfl⟩
          rw [← hz112] at hH
          have hJ : jJ TrM 0 256 0 z0 z112 := by rw [hz112]; exact jJ_A hJ (by decide) (TrM_A hJ.1 (by decide))
          have j113 : iv 1 100 (x5_3 + 1) := iv_add k108a (iv_lit (n := 1) 1 (by decide)) (by decide) (by decide) (by decide) (by decide)
          have e113 : (x5_3 + 1).toInt = x5_3.toInt + 1 := (iv_addE k108a (iv_lit (n := 1) 1 (by decide)) (by decide) (by decide)).trans rfl
          refine lv_iinc (v := (x5_3 + 1)) (lv' := [(5, .int (x5_3 + 1)), (0, .ref (q 0)), (1, .ref (q 4)), (2, .int 100), (3, .int 46), (4, .int 0)]) hx hb dX6_carry_43 hl (k := 5) rfl rfl (by decide) rfl (fun ls hl => ?_)
          refine lv_goto (tgt := 3) hx hb dX6_carry_46 (by decide) ?_
          exact ih3 _ (ms_up e113 j113.2 hn3) (x5_3 + 1) z112 H locs ls (iv_w j113 (by decide) (by decide)) (cpy_s0 (k := 4) (a := 46) ex_3 hz112 (by decide) (by have := iv_nat k108a (by decide); have l9 : (46 : Int32).toInt = 46 := (by decide); have e9 := iv_nat (x := (46 : Int32) + x5_3) (a := 0) (b := 180) ⟨by omega, by omega⟩ (by decide); omega) (by have := iv_nat k108a (by decide); have := iv_nat j113 (by decide); omega)) hJ hH (lv_sub hl [1, 2, 3, 4, 5, 0] rfl) rfl
        · skip
          exact absurd (iv_nEq c109) (by have := (iv_lit (n := 0) 0 (by decide)).1; have := (iv_lit (n := 0) 0 (by decide)).2; have := (iv_lit (n := 0) 0 (by decide)).1; have := (iv_lit (n := 0) 0 (by decide)).2; omega)
  refine lv_iconst (v := 0) hx hb dX6_carry_0 (by decide) ?_
  refine lv_istore (lv' := [(5, .int 0), (0, .ref (q 0)), (1, .ref (q 4)), (2, .int 100), (3, .int 46), (4, .int 0)]) hx hb dX6_carry_1 hl (by decide) rfl (fun ls hl => ?_)
  exact HL3 _ 0 z0 H locs ls (iv_w (iv_lit (n := 0) 0 (by decide)) (by decide) (by decide)) ((cpy_0 z0 8 _ 0 46)).symm hJ hH (lv_sub hl [1, 2, 3, 4, 5, 0] rfl) rfl
set_option maxHeartbeats 4000000 in
set_option maxRecDepth 100000 in
theorem g_X6_carry_0_5_0 (l : Launch) (D : va_G) (cy : Nat → ClassId) (q : Nat → Nat) (hq : bJ 23 q) (z0 : zS) (hI : TrM z0)  : bCi l yX6_carry wsX6_carry ({ frames := 0, cells := 0, slots := 0, locals := 0 }) D cy 23 (enM cy) q z0 [.ref (q 0), .ref (q 5), .int 10, .int 146, .int 0] (fun v z => jJ TrM 0 256 0 z0 z ∧ iv 156 156 v ∧ (z = upA z0 8 (va_cpy (z0.2.1 5) (z0.2.1 8) 0 146 10))) := by
  refine hM_i cX6_carry (by decide) rfl (own := RX6) rfl hq (Nat.le_of_ble_eq_true rfl) ?_
  intro p e s m args below meth c Q ls H locs hx hb hml hown hts hK hZ hH hl hret
  have hl : lv_has ls 6 [(0, .ref (q 0)), (1, .ref (q 5)), (2, .int 10), (3, .int 146), (4, .int 0)] := hl
  have hJ : jJ TrM 0 256 0 z0 z0 := jJ_rf _ _ _ hI
  have e00 : (0 : Int32).toInt = 0 := (by decide); have e01 : (1 : Int32).toInt = 1 := (by decide); have e02 : (2 : Int32).toInt = 2 := (by decide); have e03 : (3 : Int32).toInt = 3 := (by decide); have e010 : (10 : Int32).toInt = 10 := (by decide)
  have HL3 : ∀ (n : Nat) (x5_3 : Int32) (z_3 : zS) (H : Heap) (locs : List Loc) (ls : Array Slot), iv 0 10 x5_3 → (z_3 = upA z0 8 (va_cpy (z0.2.1 5) (z0.2.1 8) 0 146 (x5_3 : Int32).toNatClampNeg)) → jJ TrM 0 256 0 z0 z_3 → bH D 23 (enM cy) q z_3 s.heap H locs → lv_has ls 6 [(0, .ref (q 0)), (1, .ref (q 5)), (2, .int 10), (3, .int 146), (4, .int 0), (5, .int x5_3)] → (10 - x5_3.toInt).toNat = n → W p l e ({ frames := 0, cells := 0, slots := 0, locals := 0 }) s m args below meth c H locs 0 0 Q (F0 m 3 ls []) := by
    intro n3
    induction n3 using Nat.strongRecOn with
    | ind n3 ih3 =>
      intro x5_3 z_3 H locs ls h5_3 ex_3 hJ hH hl hn3
      have := h5_3.1; have := h5_3.2
      refine lv_iload hx hb dX6_carry_3 (lv_at hl 5 rfl) ?_
      refine lv_iload_n hx hb dX6_carry_5 rfl (lv_at hl 2 rfl) ?_
      refine lv_icmp_ge (tgt := 49) hx hb dX6_carry_6 (by decide) (fun c50 => ?_) (fun c50 => ?_)
      · skip
        have r50 := (iv_Le c50)
        have k51b : iv 10 10 x5_3 := iv_ler (iv_Le c50) (iv_lit (n := 10) 10 (by decide)) h5_3
        refine lv_iload_n hx hb dX6_carry_49 rfl (lv_at hl 3 rfl) ?_
        refine lv_iload_n hx hb dX6_carry_50 rfl (lv_at hl 2 rfl) ?_
        refine lv_iadd hx hb dX6_carry_51 ?_
        refine b_vi (v := 156) (by decide) ?_
        exact hret _ z_3 H locs _ _ ⟨hJ, (iv_lit (n := 156) 156 (by decide)), (by have l8 : (10 : Int32).toInt = 10 := (by decide); have e9 : (x5_3 : Int32).toNatClampNeg = 10 := (by have := iv_nat k51b (by decide); omega); rw [← e9]; exact ex_3)⟩ hH dX6_carry_52
      · skip
        have r50 := (iv_nLe c50)
        have k52a : iv 0 9 x5_3 := iv_ltl (iv_nLe c50) h5_3 (iv_lit (n := 10) 10 (by decide)) (by decide)
        refine lv_iload hx hb dX6_carry_9 (lv_at hl 4 rfl) ?_
        refine lv_if_eq (tgt := 30) hx hb dX6_carry_11 (by decide) (fun c53 => ?_) (fun c53 => ?_)
        · skip
          have r53 := (iv_Eq c53)
          refine lv_aload_n hx hb dX6_carry_30 rfl (lv_at hl 0 rfl) ?_
          refine b_get (ci := 6) (C := RX6) (T := TX6) (Nf := 29) (v := .ref (q 8)) hx hb hts in_X6_carry_X6 hown hK hH 0 (by decide) rfl rfl 12 (by decide) (hts (.fieldLink RX6 35 "StationLineModel" "kept" "[I") (List.mem_of_getElem? (i := 1) rfl)) rfl dX6_carry_31 ?_
          refine lv_iload_n hx hb dX6_carry_34 rfl (lv_at hl 3 rfl) ?_
          refine lv_iload hx hb dX6_carry_35 (lv_at hl 5 rfl) ?_
          refine lv_iadd hx hb dX6_carry_37 ?_
          have i55 : iv 146 155 ((146 : Int32) + x5_3) := (iv_add (iv_lit (n := 146) 146 (by decide)) k52a (by decide) (by decide) (by decide) (by decide))
          have e55 := (iv_addE (iv_lit (n := 146) 146 (by decide)) k52a (by decide) (by decide))
          have := i55.1; have := i55.2
          refine lv_aload_n hx hb dX6_carry_38 rfl (lv_at hl 1 rfl) ?_
          refine lv_iload hx hb dX6_carry_39 (lv_at hl 5 rfl) ?_
          refine b_iald (v := z_3.2.1 5 (x5_3 : Int32).toNatClampNeg) hx hb hK hH 5 (by decide) rfl (iv_in k52a (by decide) (by decide)) rfl dX6_carry_41 ?_
          refine b_iast hx hb hK hH 8 (by decide) rfl (iv_in i55 (by decide) (by decide)) (upA z_3 8 (upd (z_3.2.1 8) ((146 : Int32) + x5_3 : Int32).toNatClampNeg (z_3.2.1 5 (x5_3 : Int32).toNatClampNeg))) rfl (enM_A _ _ _ _ _) dX6_carry_42 (fun H locs hH => ?_)
          obtain ⟨z56, hz56⟩ : ∃ w : zS, w = upA z_3 8 (upd (z_3.2.1 8) ((146 : Int32) + x5_3 : Int32).toNatClampNeg (z_3.2.1 5 (x5_3 : Int32).toNatClampNeg)) := ⟨_, rfl⟩
          rw [← hz56] at hH
          have hJ : jJ TrM 0 256 0 z0 z56 := by rw [hz56]; exact jJ_A hJ (by decide) (TrM_A hJ.1 (by decide))
          have j57 : iv 1 10 (x5_3 + 1) := iv_add k52a (iv_lit (n := 1) 1 (by decide)) (by decide) (by decide) (by decide) (by decide)
          have e57 : (x5_3 + 1).toInt = x5_3.toInt + 1 := (iv_addE k52a (iv_lit (n := 1) 1 (by decide)) (by decide) (by decide)).trans rfl
          refine lv_iinc (v := (x5_3 + 1)) (lv' := [(5, .int (x5_3 + 1)), (0, .ref (q 0)), (1, .ref (q 5)), (2, .int 10), (3, .int 146), (4, .int 0)]) hx hb dX6_carry_43 hl (k := 5) rfl rfl (by decide) rfl (fun ls hl => ?_)
          refine lv_goto (tgt := 3) hx hb dX6_carry_46 (by decide) ?_
          exact ih3 _ (ms_up e57 j57.2 hn3) (x5_3 + 1) z56 H locs ls (iv_w j57 (by decide) (by decide)) (cpy_s0 (k := 5) (a := 146) ex_3 hz56 (by decide) (by have := iv_nat k52a (by decide); have l9 : (146 : Int32).toInt = 146 := (by decide); have e9 := iv_nat (x := (146 : Int32) + x5_3) (a := 0) (b := 180) ⟨by omega, by omega⟩ (by decide); omega) (by have := iv_nat k52a (by decide); have := iv_nat j57 (by decide); omega)) hJ hH (lv_sub hl [1, 2, 3, 4, 5, 0] rfl) rfl
        · skip
          exact absurd (iv_nEq c53) (by have := (iv_lit (n := 0) 0 (by decide)).1; have := (iv_lit (n := 0) 0 (by decide)).2; have := (iv_lit (n := 0) 0 (by decide)).1; have := (iv_lit (n := 0) 0 (by decide)).2; omega)
  refine lv_iconst (v := 0) hx hb dX6_carry_0 (by decide) ?_
  refine lv_istore (lv' := [(5, .int 0), (0, .ref (q 0)), (1, .ref (q 5)), (2, .int 10), (3, .int 146), (4, .int 0)]) hx hb dX6_carry_1 hl (by decide) rfl (fun ls hl => ?_)
  exact HL3 _ 0 z0 H locs ls (iv_w (iv_lit (n := 0) 0 (by decide)) (by decide) (by decide)) ((cpy_0 z0 8 _ 0 146)).symm hJ hH (lv_sub hl [1, 2, 3, 4, 5, 0] rfl) rfl
set_option maxHeartbeats 4000000 in
set_option maxRecDepth 100000 in
theorem g_X6_carry_0_6_0 (l : Launch) (D : va_G) (cy : Nat → ClassId) (q : Nat → Nat) (hq : bJ 23 q) (z0 : zS) (hI : TrM z0)  : bCi l yX6_carry wsX6_carry ({ frames := 0, cells := 0, slots := 0, locals := 0 }) D cy 23 (enM cy) q z0 [.ref (q 0), .ref (q 6), .int 10, .int 156, .int 0] (fun v z => jJ TrM 0 256 0 z0 z ∧ iv 166 166 v ∧ (z = upA z0 8 (va_cpy (z0.2.1 6) (z0.2.1 8) 0 156 10))) := by
  refine hM_i cX6_carry (by decide) rfl (own := RX6) rfl hq (Nat.le_of_ble_eq_true rfl) ?_
  intro p e s m args below meth c Q ls H locs hx hb hml hown hts hK hZ hH hl hret
  have hl : lv_has ls 6 [(0, .ref (q 0)), (1, .ref (q 6)), (2, .int 10), (3, .int 156), (4, .int 0)] := hl
  have hJ : jJ TrM 0 256 0 z0 z0 := jJ_rf _ _ _ hI
  have e00 : (0 : Int32).toInt = 0 := (by decide); have e01 : (1 : Int32).toInt = 1 := (by decide); have e02 : (2 : Int32).toInt = 2 := (by decide); have e03 : (3 : Int32).toInt = 3 := (by decide); have e010 : (10 : Int32).toInt = 10 := (by decide)
  have HL3 : ∀ (n : Nat) (x5_3 : Int32) (z_3 : zS) (H : Heap) (locs : List Loc) (ls : Array Slot), iv 0 10 x5_3 → (z_3 = upA z0 8 (va_cpy (z0.2.1 6) (z0.2.1 8) 0 156 (x5_3 : Int32).toNatClampNeg)) → jJ TrM 0 256 0 z0 z_3 → bH D 23 (enM cy) q z_3 s.heap H locs → lv_has ls 6 [(0, .ref (q 0)), (1, .ref (q 6)), (2, .int 10), (3, .int 156), (4, .int 0), (5, .int x5_3)] → (10 - x5_3.toInt).toNat = n → W p l e ({ frames := 0, cells := 0, slots := 0, locals := 0 }) s m args below meth c H locs 0 0 Q (F0 m 3 ls []) := by
    intro n3
    induction n3 using Nat.strongRecOn with
    | ind n3 ih3 =>
      intro x5_3 z_3 H locs ls h5_3 ex_3 hJ hH hl hn3
      have := h5_3.1; have := h5_3.2
      refine lv_iload hx hb dX6_carry_3 (lv_at hl 5 rfl) ?_
      refine lv_iload_n hx hb dX6_carry_5 rfl (lv_at hl 2 rfl) ?_
      refine lv_icmp_ge (tgt := 49) hx hb dX6_carry_6 (by decide) (fun c50 => ?_) (fun c50 => ?_)
      · skip
        have r50 := (iv_Le c50)
        have k51b : iv 10 10 x5_3 := iv_ler (iv_Le c50) (iv_lit (n := 10) 10 (by decide)) h5_3
        refine lv_iload_n hx hb dX6_carry_49 rfl (lv_at hl 3 rfl) ?_
        refine lv_iload_n hx hb dX6_carry_50 rfl (lv_at hl 2 rfl) ?_
        refine lv_iadd hx hb dX6_carry_51 ?_
        refine b_vi (v := 166) (by decide) ?_
        exact hret _ z_3 H locs _ _ ⟨hJ, (iv_lit (n := 166) 166 (by decide)), (by have l8 : (10 : Int32).toInt = 10 := (by decide); have e9 : (x5_3 : Int32).toNatClampNeg = 10 := (by have := iv_nat k51b (by decide); omega); rw [← e9]; exact ex_3)⟩ hH dX6_carry_52
      · skip
        have r50 := (iv_nLe c50)
        have k52a : iv 0 9 x5_3 := iv_ltl (iv_nLe c50) h5_3 (iv_lit (n := 10) 10 (by decide)) (by decide)
        refine lv_iload hx hb dX6_carry_9 (lv_at hl 4 rfl) ?_
        refine lv_if_eq (tgt := 30) hx hb dX6_carry_11 (by decide) (fun c53 => ?_) (fun c53 => ?_)
        · skip
          have r53 := (iv_Eq c53)
          refine lv_aload_n hx hb dX6_carry_30 rfl (lv_at hl 0 rfl) ?_
          refine b_get (ci := 6) (C := RX6) (T := TX6) (Nf := 29) (v := .ref (q 8)) hx hb hts in_X6_carry_X6 hown hK hH 0 (by decide) rfl rfl 12 (by decide) (hts (.fieldLink RX6 35 "StationLineModel" "kept" "[I") (List.mem_of_getElem? (i := 1) rfl)) rfl dX6_carry_31 ?_
          refine lv_iload_n hx hb dX6_carry_34 rfl (lv_at hl 3 rfl) ?_
          refine lv_iload hx hb dX6_carry_35 (lv_at hl 5 rfl) ?_
          refine lv_iadd hx hb dX6_carry_37 ?_
          have i55 : iv 156 165 ((156 : Int32) + x5_3) := (iv_add (iv_lit (n := 156) 156 (by decide)) k52a (by decide) (by decide) (by decide) (by decide))
          have e55 := (iv_addE (iv_lit (n := 156) 156 (by decide)) k52a (by decide) (by decide))
          have := i55.1; have := i55.2
          refine lv_aload_n hx hb dX6_carry_38 rfl (lv_at hl 1 rfl) ?_
          refine lv_iload hx hb dX6_carry_39 (lv_at hl 5 rfl) ?_
          refine b_iald (v := z_3.2.1 6 (x5_3 : Int32).toNatClampNeg) hx hb hK hH 6 (by decide) rfl (iv_in k52a (by decide) (by decide)) rfl dX6_carry_41 ?_
          refine b_iast hx hb hK hH 8 (by decide) rfl (iv_in i55 (by decide) (by decide)) (upA z_3 8 (upd (z_3.2.1 8) ((156 : Int32) + x5_3 : Int32).toNatClampNeg (z_3.2.1 6 (x5_3 : Int32).toNatClampNeg))) rfl (enM_A _ _ _ _ _) dX6_carry_42 (fun H locs hH => ?_)
          obtain ⟨z56, hz56⟩ : ∃ w : zS, w = upA z_3 8 (upd (z_3.2.1 8) ((156 : Int32) + x5_3 : Int32).toNatClampNeg (z_3.2.1 6 (x5_3 : Int32).toNatClampNeg)) := ⟨_, rfl⟩
          rw [← hz56] at hH
          have hJ : jJ TrM 0 256 0 z0 z56 := by rw [hz56]; exact jJ_A hJ (by decide) (TrM_A hJ.1 (by decide))
          have j57 : iv 1 10 (x5_3 + 1) := iv_add k52a (iv_lit (n := 1) 1 (by decide)) (by decide) (by decide) (by decide) (by decide)
          have e57 : (x5_3 + 1).toInt = x5_3.toInt + 1 := (iv_addE k52a (iv_lit (n := 1) 1 (by decide)) (by decide) (by decide)).trans rfl
          refine lv_iinc (v := (x5_3 + 1)) (lv' := [(5, .int (x5_3 + 1)), (0, .ref (q 0)), (1, .ref (q 6)), (2, .int 10), (3, .int 156), (4, .int 0)]) hx hb dX6_carry_43 hl (k := 5) rfl rfl (by decide) rfl (fun ls hl => ?_)
          refine lv_goto (tgt := 3) hx hb dX6_carry_46 (by decide) ?_
          exact ih3 _ (ms_up e57 j57.2 hn3) (x5_3 + 1) z56 H locs ls (iv_w j57 (by decide) (by decide)) (cpy_s0 (k := 6) (a := 156) ex_3 hz56 (by decide) (by have := iv_nat k52a (by decide); have l9 : (156 : Int32).toInt = 156 := (by decide); have e9 := iv_nat (x := (156 : Int32) + x5_3) (a := 0) (b := 180) ⟨by omega, by omega⟩ (by decide); omega) (by have := iv_nat k52a (by decide); have := iv_nat j57 (by decide); omega)) hJ hH (lv_sub hl [1, 2, 3, 4, 5, 0] rfl) rfl
        · skip
          exact absurd (iv_nEq c53) (by have := (iv_lit (n := 0) 0 (by decide)).1; have := (iv_lit (n := 0) 0 (by decide)).2; have := (iv_lit (n := 0) 0 (by decide)).1; have := (iv_lit (n := 0) 0 (by decide)).2; omega)
  refine lv_iconst (v := 0) hx hb dX6_carry_0 (by decide) ?_
  refine lv_istore (lv' := [(5, .int 0), (0, .ref (q 0)), (1, .ref (q 6)), (2, .int 10), (3, .int 156), (4, .int 0)]) hx hb dX6_carry_1 hl (by decide) rfl (fun ls hl => ?_)
  exact HL3 _ 0 z0 H locs ls (iv_w (iv_lit (n := 0) 0 (by decide)) (by decide) (by decide)) ((cpy_0 z0 8 _ 0 156)).symm hJ hH (lv_sub hl [1, 2, 3, 4, 5, 0] rfl) rfl
set_option maxHeartbeats 4000000 in
set_option maxRecDepth 100000 in
theorem g_X6_carry_0_22_1 (l : Launch) (D : va_G) (cy : Nat → ClassId) (q : Nat → Nat) (hq : bJ 23 q) (z0 : zS) (hI : TrM z0)  : bCi l yX6_carry wsX6_carry ({ frames := 0, cells := 0, slots := 0, locals := 0 }) D cy 23 (enM cy) q z0 [.ref (q 0), .ref (q 22), .int 3, .int 0, .int 1] (fun v z => jJ TrM 0 4194304 0 z0 z ∧ iv 3 3 v ∧ (z = upA z0 22 (va_cpy (z0.2.1 8) (z0.2.1 22) 0 0 3))) := by
  refine hM_i cX6_carry (by decide) rfl (own := RX6) rfl hq (Nat.le_of_ble_eq_true rfl) ?_
  intro p e s m args below meth c Q ls H locs hx hb hml hown hts hK hZ hH hl hret
  have hl : lv_has ls 6 [(0, .ref (q 0)), (1, .ref (q 22)), (2, .int 3), (3, .int 0), (4, .int 1)] := hl
  have hJ : jJ TrM 0 4194304 0 z0 z0 := jJ_rf _ _ _ hI
  have e00 : (0 : Int32).toInt = 0 := (by decide); have e01 : (1 : Int32).toInt = 1 := (by decide); have e02 : (2 : Int32).toInt = 2 := (by decide); have e03 : (3 : Int32).toInt = 3 := (by decide); have e010 : (10 : Int32).toInt = 10 := (by decide)
  have HL3 : ∀ (n : Nat) (x5_3 : Int32) (z_3 : zS) (H : Heap) (locs : List Loc) (ls : Array Slot), iv 0 3 x5_3 → (z_3 = upA z0 22 (va_cpy (z0.2.1 8) (z0.2.1 22) 0 0 (x5_3 : Int32).toNatClampNeg)) → jJ TrM 0 4194304 0 z0 z_3 → bH D 23 (enM cy) q z_3 s.heap H locs → lv_has ls 6 [(0, .ref (q 0)), (1, .ref (q 22)), (2, .int 3), (3, .int 0), (4, .int 1), (5, .int x5_3)] → (3 - x5_3.toInt).toNat = n → W p l e ({ frames := 0, cells := 0, slots := 0, locals := 0 }) s m args below meth c H locs 0 0 Q (F0 m 3 ls []) := by
    intro n3
    induction n3 using Nat.strongRecOn with
    | ind n3 ih3 =>
      intro x5_3 z_3 H locs ls h5_3 ex_3 hJ hH hl hn3
      have := h5_3.1; have := h5_3.2
      refine lv_iload hx hb dX6_carry_3 (lv_at hl 5 rfl) ?_
      refine lv_iload_n hx hb dX6_carry_5 rfl (lv_at hl 2 rfl) ?_
      refine lv_icmp_ge (tgt := 49) hx hb dX6_carry_6 (by decide) (fun c29 => ?_) (fun c29 => ?_)
      · skip
        have r29 := (iv_Le c29)
        have k30b : iv 3 3 x5_3 := iv_ler (iv_Le c29) (iv_lit (n := 3) 3 (by decide)) h5_3
        refine lv_iload_n hx hb dX6_carry_49 rfl (lv_at hl 3 rfl) ?_
        refine lv_iload_n hx hb dX6_carry_50 rfl (lv_at hl 2 rfl) ?_
        refine lv_iadd hx hb dX6_carry_51 ?_
        refine b_vi (v := 3) (by decide) ?_
        exact hret _ z_3 H locs _ _ ⟨hJ, (iv_lit (n := 3) 3 (by decide)), (by have l8 : (3 : Int32).toInt = 3 := (by decide); have e9 : (x5_3 : Int32).toNatClampNeg = 3 := (by have := iv_nat k30b (by decide); omega); rw [← e9]; exact ex_3)⟩ hH dX6_carry_52
      · skip
        have r29 := (iv_nLe c29)
        have k31a : iv 0 2 x5_3 := iv_ltl (iv_nLe c29) h5_3 (iv_lit (n := 3) 3 (by decide)) (by decide)
        refine lv_iload hx hb dX6_carry_9 (lv_at hl 4 rfl) ?_
        refine lv_if_eq (tgt := 30) hx hb dX6_carry_11 (by decide) (fun c32 => ?_) (fun c32 => ?_)
        · skip
          exact absurd (iv_Eq c32) (by have := (iv_lit (n := 1) 1 (by decide)).1; have := (iv_lit (n := 1) 1 (by decide)).2; have := (iv_lit (n := 0) 0 (by decide)).1; have := (iv_lit (n := 0) 0 (by decide)).2; omega)
        · skip
          have r32 := (iv_nEq c32)
          refine lv_aload_n hx hb dX6_carry_14 rfl (lv_at hl 1 rfl) ?_
          refine lv_iload hx hb dX6_carry_15 (lv_at hl 5 rfl) ?_
          refine lv_aload_n hx hb dX6_carry_17 rfl (lv_at hl 0 rfl) ?_
          refine b_get (ci := 6) (C := RX6) (T := TX6) (Nf := 29) (v := .ref (q 8)) hx hb hts in_X6_carry_X6 hown hK hH 0 (by decide) rfl rfl 12 (by decide) (hts (.fieldLink RX6 35 "StationLineModel" "kept" "[I") (List.mem_of_getElem? (i := 1) rfl)) rfl dX6_carry_18 ?_
          refine lv_iload_n hx hb dX6_carry_21 rfl (lv_at hl 3 rfl) ?_
          refine lv_iload hx hb dX6_carry_22 (lv_at hl 5 rfl) ?_
          refine lv_iadd hx hb dX6_carry_24 ?_
          have i34 : iv 0 2 ((0 : Int32) + x5_3) := (iv_add (iv_lit (n := 0) 0 (by decide)) k31a (by decide) (by decide) (by decide) (by decide))
          have e34 := (iv_addE (iv_lit (n := 0) 0 (by decide)) k31a (by decide) (by decide))
          have := i34.1; have := i34.2
          refine b_iald (v := z_3.2.1 8 ((0 : Int32) + x5_3 : Int32).toNatClampNeg) hx hb hK hH 8 (by decide) rfl (iv_in i34 (by decide) (by decide)) rfl dX6_carry_25 ?_
          refine b_iast hx hb hK hH 22 (by decide) rfl (iv_in k31a (by decide) (by decide)) (upA z_3 22 (upd (z_3.2.1 22) (x5_3 : Int32).toNatClampNeg (z_3.2.1 8 ((0 : Int32) + x5_3 : Int32).toNatClampNeg))) rfl (enM_A _ _ _ _ _) dX6_carry_26 (fun H locs hH => ?_)
          obtain ⟨z35, hz35⟩ : ∃ w : zS, w = upA z_3 22 (upd (z_3.2.1 22) (x5_3 : Int32).toNatClampNeg (z_3.2.1 8 ((0 : Int32) + x5_3 : Int32).toNatClampNeg)) := ⟨_, rfl⟩
          rw [← hz35] at hH
          have hJ : jJ TrM 0 4194304 0 z0 z35 := by rw [hz35]; exact jJ_A hJ (by decide) (TrM_A hJ.1 (by decide))
          refine lv_goto (tgt := 43) hx hb dX6_carry_27 (by decide) ?_
          have j36 : iv 1 3 (x5_3 + 1) := iv_add k31a (iv_lit (n := 1) 1 (by decide)) (by decide) (by decide) (by decide) (by decide)
          have e36 : (x5_3 + 1).toInt = x5_3.toInt + 1 := (iv_addE k31a (iv_lit (n := 1) 1 (by decide)) (by decide) (by decide)).trans rfl
          refine lv_iinc (v := (x5_3 + 1)) (lv' := [(5, .int (x5_3 + 1)), (0, .ref (q 0)), (1, .ref (q 22)), (2, .int 3), (3, .int 0), (4, .int 1)]) hx hb dX6_carry_43 hl (k := 5) rfl rfl (by decide) rfl (fun ls hl => ?_)
          refine lv_goto (tgt := 3) hx hb dX6_carry_46 (by decide) ?_
          exact ih3 _ (ms_up e36 j36.2 hn3) (x5_3 + 1) z35 H locs ls (iv_w j36 (by decide) (by decide)) (cpy_s1 (k := 22) (a := 0) ex_3 hz35 (by decide) (by have := iv_nat k31a (by decide); have l9 : (0 : Int32).toInt = 0 := (by decide); have e9 := iv_nat (x := (0 : Int32) + x5_3) (a := 0) (b := 180) ⟨by omega, by omega⟩ (by decide); omega) (by have := iv_nat k31a (by decide); have := iv_nat j36 (by decide); omega)) hJ hH (lv_sub hl [1, 2, 3, 4, 5, 0] rfl) rfl
  refine lv_iconst (v := 0) hx hb dX6_carry_0 (by decide) ?_
  refine lv_istore (lv' := [(5, .int 0), (0, .ref (q 0)), (1, .ref (q 22)), (2, .int 3), (3, .int 0), (4, .int 1)]) hx hb dX6_carry_1 hl (by decide) rfl (fun ls hl => ?_)
  exact HL3 _ 0 z0 H locs ls (iv_w (iv_lit (n := 0) 0 (by decide)) (by decide) (by decide)) ((cpy_0 z0 22 _ 0 0)).symm hJ hH (lv_sub hl [1, 2, 3, 4, 5, 0] rfl) rfl
set_option maxHeartbeats 4000000 in
set_option maxRecDepth 100000 in
theorem g_X6_carry_0_1_1 (l : Launch) (D : va_G) (cy : Nat → ClassId) (q : Nat → Nat) (hq : bJ 23 q) (z0 : zS) (hI : TrM z0)  : bCi l yX6_carry wsX6_carry ({ frames := 0, cells := 0, slots := 0, locals := 0 }) D cy 23 (enM cy) q z0 [.ref (q 0), .ref (q 1), .int 30, .int 3, .int 1] (fun v z => jJ TrM 0 2 0 z0 z ∧ iv 33 33 v ∧ (z = upA z0 1 (va_cpy (z0.2.1 8) (z0.2.1 1) 3 0 30))) := by
  refine hM_i cX6_carry (by decide) rfl (own := RX6) rfl hq (Nat.le_of_ble_eq_true rfl) ?_
  intro p e s m args below meth c Q ls H locs hx hb hml hown hts hK hZ hH hl hret
  have hl : lv_has ls 6 [(0, .ref (q 0)), (1, .ref (q 1)), (2, .int 30), (3, .int 3), (4, .int 1)] := hl
  have hJ : jJ TrM 0 2 0 z0 z0 := jJ_rf _ _ _ hI
  have e00 : (0 : Int32).toInt = 0 := (by decide); have e01 : (1 : Int32).toInt = 1 := (by decide); have e02 : (2 : Int32).toInt = 2 := (by decide); have e03 : (3 : Int32).toInt = 3 := (by decide); have e010 : (10 : Int32).toInt = 10 := (by decide)
  have HL3 : ∀ (n : Nat) (x5_3 : Int32) (z_3 : zS) (H : Heap) (locs : List Loc) (ls : Array Slot), iv 0 30 x5_3 → (z_3 = upA z0 1 (va_cpy (z0.2.1 8) (z0.2.1 1) 3 0 (x5_3 : Int32).toNatClampNeg)) → jJ TrM 0 2 0 z0 z_3 → bH D 23 (enM cy) q z_3 s.heap H locs → lv_has ls 6 [(0, .ref (q 0)), (1, .ref (q 1)), (2, .int 30), (3, .int 3), (4, .int 1), (5, .int x5_3)] → (30 - x5_3.toInt).toNat = n → W p l e ({ frames := 0, cells := 0, slots := 0, locals := 0 }) s m args below meth c H locs 0 0 Q (F0 m 3 ls []) := by
    intro n3
    induction n3 using Nat.strongRecOn with
    | ind n3 ih3 =>
      intro x5_3 z_3 H locs ls h5_3 ex_3 hJ hH hl hn3
      have := h5_3.1; have := h5_3.2
      refine lv_iload hx hb dX6_carry_3 (lv_at hl 5 rfl) ?_
      refine lv_iload_n hx hb dX6_carry_5 rfl (lv_at hl 2 rfl) ?_
      refine lv_icmp_ge (tgt := 49) hx hb dX6_carry_6 (by decide) (fun c78 => ?_) (fun c78 => ?_)
      · skip
        have r78 := (iv_Le c78)
        have k79b : iv 30 30 x5_3 := iv_ler (iv_Le c78) (iv_lit (n := 30) 30 (by decide)) h5_3
        refine lv_iload_n hx hb dX6_carry_49 rfl (lv_at hl 3 rfl) ?_
        refine lv_iload_n hx hb dX6_carry_50 rfl (lv_at hl 2 rfl) ?_
        refine lv_iadd hx hb dX6_carry_51 ?_
        refine b_vi (v := 33) (by decide) ?_
        exact hret _ z_3 H locs _ _ ⟨hJ, (iv_lit (n := 33) 33 (by decide)), (by have l8 : (30 : Int32).toInt = 30 := (by decide); have e9 : (x5_3 : Int32).toNatClampNeg = 30 := (by have := iv_nat k79b (by decide); omega); rw [← e9]; exact ex_3)⟩ hH dX6_carry_52
      · skip
        have r78 := (iv_nLe c78)
        have k80a : iv 0 29 x5_3 := iv_ltl (iv_nLe c78) h5_3 (iv_lit (n := 30) 30 (by decide)) (by decide)
        refine lv_iload hx hb dX6_carry_9 (lv_at hl 4 rfl) ?_
        refine lv_if_eq (tgt := 30) hx hb dX6_carry_11 (by decide) (fun c81 => ?_) (fun c81 => ?_)
        · skip
          exact absurd (iv_Eq c81) (by have := (iv_lit (n := 1) 1 (by decide)).1; have := (iv_lit (n := 1) 1 (by decide)).2; have := (iv_lit (n := 0) 0 (by decide)).1; have := (iv_lit (n := 0) 0 (by decide)).2; omega)
        · skip
          have r81 := (iv_nEq c81)
          refine lv_aload_n hx hb dX6_carry_14 rfl (lv_at hl 1 rfl) ?_
          refine lv_iload hx hb dX6_carry_15 (lv_at hl 5 rfl) ?_
          refine lv_aload_n hx hb dX6_carry_17 rfl (lv_at hl 0 rfl) ?_
          refine b_get (ci := 6) (C := RX6) (T := TX6) (Nf := 29) (v := .ref (q 8)) hx hb hts in_X6_carry_X6 hown hK hH 0 (by decide) rfl rfl 12 (by decide) (hts (.fieldLink RX6 35 "StationLineModel" "kept" "[I") (List.mem_of_getElem? (i := 1) rfl)) rfl dX6_carry_18 ?_
          refine lv_iload_n hx hb dX6_carry_21 rfl (lv_at hl 3 rfl) ?_
          refine lv_iload hx hb dX6_carry_22 (lv_at hl 5 rfl) ?_
          refine lv_iadd hx hb dX6_carry_24 ?_
          have i83 : iv 3 32 ((3 : Int32) + x5_3) := (iv_add (iv_lit (n := 3) 3 (by decide)) k80a (by decide) (by decide) (by decide) (by decide))
          have e83 := (iv_addE (iv_lit (n := 3) 3 (by decide)) k80a (by decide) (by decide))
          have := i83.1; have := i83.2
          refine b_iald (v := z_3.2.1 8 ((3 : Int32) + x5_3 : Int32).toNatClampNeg) hx hb hK hH 8 (by decide) rfl (iv_in i83 (by decide) (by decide)) rfl dX6_carry_25 ?_
          refine b_iast hx hb hK hH 1 (by decide) rfl (iv_in k80a (by decide) (by decide)) (upA z_3 1 (upd (z_3.2.1 1) (x5_3 : Int32).toNatClampNeg (z_3.2.1 8 ((3 : Int32) + x5_3 : Int32).toNatClampNeg))) rfl (enM_A _ _ _ _ _) dX6_carry_26 (fun H locs hH => ?_)
          obtain ⟨z84, hz84⟩ : ∃ w : zS, w = upA z_3 1 (upd (z_3.2.1 1) (x5_3 : Int32).toNatClampNeg (z_3.2.1 8 ((3 : Int32) + x5_3 : Int32).toNatClampNeg)) := ⟨_, rfl⟩
          rw [← hz84] at hH
          have hJ : jJ TrM 0 2 0 z0 z84 := by rw [hz84]; exact jJ_A hJ (by decide) (TrM_A hJ.1 (by decide))
          refine lv_goto (tgt := 43) hx hb dX6_carry_27 (by decide) ?_
          have j85 : iv 1 30 (x5_3 + 1) := iv_add k80a (iv_lit (n := 1) 1 (by decide)) (by decide) (by decide) (by decide) (by decide)
          have e85 : (x5_3 + 1).toInt = x5_3.toInt + 1 := (iv_addE k80a (iv_lit (n := 1) 1 (by decide)) (by decide) (by decide)).trans rfl
          refine lv_iinc (v := (x5_3 + 1)) (lv' := [(5, .int (x5_3 + 1)), (0, .ref (q 0)), (1, .ref (q 1)), (2, .int 30), (3, .int 3), (4, .int 1)]) hx hb dX6_carry_43 hl (k := 5) rfl rfl (by decide) rfl (fun ls hl => ?_)
          refine lv_goto (tgt := 3) hx hb dX6_carry_46 (by decide) ?_
          exact ih3 _ (ms_up e85 j85.2 hn3) (x5_3 + 1) z84 H locs ls (iv_w j85 (by decide) (by decide)) (cpy_s1 (k := 1) (a := 3) ex_3 hz84 (by decide) (by have := iv_nat k80a (by decide); have l9 : (3 : Int32).toInt = 3 := (by decide); have e9 := iv_nat (x := (3 : Int32) + x5_3) (a := 0) (b := 180) ⟨by omega, by omega⟩ (by decide); omega) (by have := iv_nat k80a (by decide); have := iv_nat j85 (by decide); omega)) hJ hH (lv_sub hl [1, 2, 3, 4, 5, 0] rfl) rfl
  refine lv_iconst (v := 0) hx hb dX6_carry_0 (by decide) ?_
  refine lv_istore (lv' := [(5, .int 0), (0, .ref (q 0)), (1, .ref (q 1)), (2, .int 30), (3, .int 3), (4, .int 1)]) hx hb dX6_carry_1 hl (by decide) rfl (fun ls hl => ?_)
  exact HL3 _ 0 z0 H locs ls (iv_w (iv_lit (n := 0) 0 (by decide)) (by decide) (by decide)) ((cpy_0 z0 1 _ 3 0)).symm hJ hH (lv_sub hl [1, 2, 3, 4, 5, 0] rfl) rfl
set_option maxHeartbeats 4000000 in
set_option maxRecDepth 100000 in
theorem g_X6_carry_0_2_1 (l : Launch) (D : va_G) (cy : Nat → ClassId) (q : Nat → Nat) (hq : bJ 23 q) (z0 : zS) (hI : TrM z0)  : bCi l yX6_carry wsX6_carry ({ frames := 0, cells := 0, slots := 0, locals := 0 }) D cy 23 (enM cy) q z0 [.ref (q 0), .ref (q 2), .int 3, .int 33, .int 1] (fun v z => jJ TrM 0 4 0 z0 z ∧ iv 36 36 v ∧ (z = upA z0 2 (va_cpy (z0.2.1 8) (z0.2.1 2) 33 0 3))) := by
  refine hM_i cX6_carry (by decide) rfl (own := RX6) rfl hq (Nat.le_of_ble_eq_true rfl) ?_
  intro p e s m args below meth c Q ls H locs hx hb hml hown hts hK hZ hH hl hret
  have hl : lv_has ls 6 [(0, .ref (q 0)), (1, .ref (q 2)), (2, .int 3), (3, .int 33), (4, .int 1)] := hl
  have hJ : jJ TrM 0 4 0 z0 z0 := jJ_rf _ _ _ hI
  have e00 : (0 : Int32).toInt = 0 := (by decide); have e01 : (1 : Int32).toInt = 1 := (by decide); have e02 : (2 : Int32).toInt = 2 := (by decide); have e03 : (3 : Int32).toInt = 3 := (by decide); have e010 : (10 : Int32).toInt = 10 := (by decide)
  have HL3 : ∀ (n : Nat) (x5_3 : Int32) (z_3 : zS) (H : Heap) (locs : List Loc) (ls : Array Slot), iv 0 3 x5_3 → (z_3 = upA z0 2 (va_cpy (z0.2.1 8) (z0.2.1 2) 33 0 (x5_3 : Int32).toNatClampNeg)) → jJ TrM 0 4 0 z0 z_3 → bH D 23 (enM cy) q z_3 s.heap H locs → lv_has ls 6 [(0, .ref (q 0)), (1, .ref (q 2)), (2, .int 3), (3, .int 33), (4, .int 1), (5, .int x5_3)] → (3 - x5_3.toInt).toNat = n → W p l e ({ frames := 0, cells := 0, slots := 0, locals := 0 }) s m args below meth c H locs 0 0 Q (F0 m 3 ls []) := by
    intro n3
    induction n3 using Nat.strongRecOn with
    | ind n3 ih3 =>
      intro x5_3 z_3 H locs ls h5_3 ex_3 hJ hH hl hn3
      have := h5_3.1; have := h5_3.2
      refine lv_iload hx hb dX6_carry_3 (lv_at hl 5 rfl) ?_
      refine lv_iload_n hx hb dX6_carry_5 rfl (lv_at hl 2 rfl) ?_
      refine lv_icmp_ge (tgt := 49) hx hb dX6_carry_6 (by decide) (fun c29 => ?_) (fun c29 => ?_)
      · skip
        have r29 := (iv_Le c29)
        have k30b : iv 3 3 x5_3 := iv_ler (iv_Le c29) (iv_lit (n := 3) 3 (by decide)) h5_3
        refine lv_iload_n hx hb dX6_carry_49 rfl (lv_at hl 3 rfl) ?_
        refine lv_iload_n hx hb dX6_carry_50 rfl (lv_at hl 2 rfl) ?_
        refine lv_iadd hx hb dX6_carry_51 ?_
        refine b_vi (v := 36) (by decide) ?_
        exact hret _ z_3 H locs _ _ ⟨hJ, (iv_lit (n := 36) 36 (by decide)), (by have l8 : (3 : Int32).toInt = 3 := (by decide); have e9 : (x5_3 : Int32).toNatClampNeg = 3 := (by have := iv_nat k30b (by decide); omega); rw [← e9]; exact ex_3)⟩ hH dX6_carry_52
      · skip
        have r29 := (iv_nLe c29)
        have k31a : iv 0 2 x5_3 := iv_ltl (iv_nLe c29) h5_3 (iv_lit (n := 3) 3 (by decide)) (by decide)
        refine lv_iload hx hb dX6_carry_9 (lv_at hl 4 rfl) ?_
        refine lv_if_eq (tgt := 30) hx hb dX6_carry_11 (by decide) (fun c32 => ?_) (fun c32 => ?_)
        · skip
          exact absurd (iv_Eq c32) (by have := (iv_lit (n := 1) 1 (by decide)).1; have := (iv_lit (n := 1) 1 (by decide)).2; have := (iv_lit (n := 0) 0 (by decide)).1; have := (iv_lit (n := 0) 0 (by decide)).2; omega)
        · skip
          have r32 := (iv_nEq c32)
          refine lv_aload_n hx hb dX6_carry_14 rfl (lv_at hl 1 rfl) ?_
          refine lv_iload hx hb dX6_carry_15 (lv_at hl 5 rfl) ?_
          refine lv_aload_n hx hb dX6_carry_17 rfl (lv_at hl 0 rfl) ?_
          refine b_get (ci := 6) (C := RX6) (T := TX6) (Nf := 29) (v := .ref (q 8)) hx hb hts in_X6_carry_X6 hown hK hH 0 (by decide) rfl rfl 12 (by decide) (hts (.fieldLink RX6 35 "StationLineModel" "kept" "[I") (List.mem_of_getElem? (i := 1) rfl)) rfl dX6_carry_18 ?_
          refine lv_iload_n hx hb dX6_carry_21 rfl (lv_at hl 3 rfl) ?_
          refine lv_iload hx hb dX6_carry_22 (lv_at hl 5 rfl) ?_
          refine lv_iadd hx hb dX6_carry_24 ?_
          have i34 : iv 33 35 ((33 : Int32) + x5_3) := (iv_add (iv_lit (n := 33) 33 (by decide)) k31a (by decide) (by decide) (by decide) (by decide))
          have e34 := (iv_addE (iv_lit (n := 33) 33 (by decide)) k31a (by decide) (by decide))
          have := i34.1; have := i34.2
          refine b_iald (v := z_3.2.1 8 ((33 : Int32) + x5_3 : Int32).toNatClampNeg) hx hb hK hH 8 (by decide) rfl (iv_in i34 (by decide) (by decide)) rfl dX6_carry_25 ?_
          refine b_iast hx hb hK hH 2 (by decide) rfl (iv_in k31a (by decide) (by decide)) (upA z_3 2 (upd (z_3.2.1 2) (x5_3 : Int32).toNatClampNeg (z_3.2.1 8 ((33 : Int32) + x5_3 : Int32).toNatClampNeg))) rfl (enM_A _ _ _ _ _) dX6_carry_26 (fun H locs hH => ?_)
          obtain ⟨z35, hz35⟩ : ∃ w : zS, w = upA z_3 2 (upd (z_3.2.1 2) (x5_3 : Int32).toNatClampNeg (z_3.2.1 8 ((33 : Int32) + x5_3 : Int32).toNatClampNeg)) := ⟨_, rfl⟩
          rw [← hz35] at hH
          have hJ : jJ TrM 0 4 0 z0 z35 := by rw [hz35]; exact jJ_A hJ (by decide) (TrM_A hJ.1 (by decide))
          refine lv_goto (tgt := 43) hx hb dX6_carry_27 (by decide) ?_
          have j36 : iv 1 3 (x5_3 + 1) := iv_add k31a (iv_lit (n := 1) 1 (by decide)) (by decide) (by decide) (by decide) (by decide)
          have e36 : (x5_3 + 1).toInt = x5_3.toInt + 1 := (iv_addE k31a (iv_lit (n := 1) 1 (by decide)) (by decide) (by decide)).trans rfl
          refine lv_iinc (v := (x5_3 + 1)) (lv' := [(5, .int (x5_3 + 1)), (0, .ref (q 0)), (1, .ref (q 2)), (2, .int 3), (3, .int 33), (4, .int 1)]) hx hb dX6_carry_43 hl (k := 5) rfl rfl (by decide) rfl (fun ls hl => ?_)
          refine lv_goto (tgt := 3) hx hb dX6_carry_46 (by decide) ?_
          exact ih3 _ (ms_up e36 j36.2 hn3) (x5_3 + 1) z35 H locs ls (iv_w j36 (by decide) (by decide)) (cpy_s1 (k := 2) (a := 33) ex_3 hz35 (by decide) (by have := iv_nat k31a (by decide); have l9 : (33 : Int32).toInt = 33 := (by decide); have e9 := iv_nat (x := (33 : Int32) + x5_3) (a := 0) (b := 180) ⟨by omega, by omega⟩ (by decide); omega) (by have := iv_nat k31a (by decide); have := iv_nat j36 (by decide); omega)) hJ hH (lv_sub hl [1, 2, 3, 4, 5, 0] rfl) rfl
  refine lv_iconst (v := 0) hx hb dX6_carry_0 (by decide) ?_
  refine lv_istore (lv' := [(5, .int 0), (0, .ref (q 0)), (1, .ref (q 2)), (2, .int 3), (3, .int 33), (4, .int 1)]) hx hb dX6_carry_1 hl (by decide) rfl (fun ls hl => ?_)
  exact HL3 _ 0 z0 H locs ls (iv_w (iv_lit (n := 0) 0 (by decide)) (by decide) (by decide)) ((cpy_0 z0 2 _ 33 0)).symm hJ hH (lv_sub hl [1, 2, 3, 4, 5, 0] rfl) rfl
set_option maxHeartbeats 4000000 in
set_option maxRecDepth 100000 in
theorem g_X6_carry_0_3_1 (l : Launch) (D : va_G) (cy : Nat → ClassId) (q : Nat → Nat) (hq : bJ 23 q) (z0 : zS) (hI : TrM z0)  : bCi l yX6_carry wsX6_carry ({ frames := 0, cells := 0, slots := 0, locals := 0 }) D cy 23 (enM cy) q z0 [.ref (q 0), .ref (q 3), .int 10, .int 36, .int 1] (fun v z => jJ TrM 0 8 0 z0 z ∧ iv 46 46 v ∧ (z = upA z0 3 (va_cpy (z0.2.1 8) (z0.2.1 3) 36 0 10))) := by
  refine hM_i cX6_carry (by decide) rfl (own := RX6) rfl hq (Nat.le_of_ble_eq_true rfl) ?_
  intro p e s m args below meth c Q ls H locs hx hb hml hown hts hK hZ hH hl hret
  have hl : lv_has ls 6 [(0, .ref (q 0)), (1, .ref (q 3)), (2, .int 10), (3, .int 36), (4, .int 1)] := hl
  have hJ : jJ TrM 0 8 0 z0 z0 := jJ_rf _ _ _ hI
  have e00 : (0 : Int32).toInt = 0 := (by decide); have e01 : (1 : Int32).toInt = 1 := (by decide); have e02 : (2 : Int32).toInt = 2 := (by decide); have e03 : (3 : Int32).toInt = 3 := (by decide); have e010 : (10 : Int32).toInt = 10 := (by decide)
  have HL3 : ∀ (n : Nat) (x5_3 : Int32) (z_3 : zS) (H : Heap) (locs : List Loc) (ls : Array Slot), iv 0 10 x5_3 → (z_3 = upA z0 3 (va_cpy (z0.2.1 8) (z0.2.1 3) 36 0 (x5_3 : Int32).toNatClampNeg)) → jJ TrM 0 8 0 z0 z_3 → bH D 23 (enM cy) q z_3 s.heap H locs → lv_has ls 6 [(0, .ref (q 0)), (1, .ref (q 3)), (2, .int 10), (3, .int 36), (4, .int 1), (5, .int x5_3)] → (10 - x5_3.toInt).toNat = n → W p l e ({ frames := 0, cells := 0, slots := 0, locals := 0 }) s m args below meth c H locs 0 0 Q (F0 m 3 ls []) := by
    intro n3
    induction n3 using Nat.strongRecOn with
    | ind n3 ih3 =>
      intro x5_3 z_3 H locs ls h5_3 ex_3 hJ hH hl hn3
      have := h5_3.1; have := h5_3.2
      refine lv_iload hx hb dX6_carry_3 (lv_at hl 5 rfl) ?_
      refine lv_iload_n hx hb dX6_carry_5 rfl (lv_at hl 2 rfl) ?_
      refine lv_icmp_ge (tgt := 49) hx hb dX6_carry_6 (by decide) (fun c50 => ?_) (fun c50 => ?_)
      · skip
        have r50 := (iv_Le c50)
        have k51b : iv 10 10 x5_3 := iv_ler (iv_Le c50) (iv_lit (n := 10) 10 (by decide)) h5_3
        refine lv_iload_n hx hb dX6_carry_49 rfl (lv_at hl 3 rfl) ?_
        refine lv_iload_n hx hb dX6_carry_50 rfl (lv_at hl 2 rfl) ?_
        refine lv_iadd hx hb dX6_carry_51 ?_
        refine b_vi (v := 46) (by decide) ?_
        exact hret _ z_3 H locs _ _ ⟨hJ, (iv_lit (n := 46) 46 (by decide)), (by have l8 : (10 : Int32).toInt = 10 := (by decide); have e9 : (x5_3 : Int32).toNatClampNeg = 10 := (by have := iv_nat k51b (by decide); omega); rw [← e9]; exact ex_3)⟩ hH dX6_carry_52
      · skip
        have r50 := (iv_nLe c50)
        have k52a : iv 0 9 x5_3 := iv_ltl (iv_nLe c50) h5_3 (iv_lit (n := 10) 10 (by decide)) (by decide)
        refine lv_iload hx hb dX6_carry_9 (lv_at hl 4 rfl) ?_
        refine lv_if_eq (tgt := 30) hx hb dX6_carry_11 (by decide) (fun c53 => ?_) (fun c53 => ?_)
        · skip
          exact absurd (iv_Eq c53) (by have := (iv_lit (n := 1) 1 (by decide)).1; have := (iv_lit (n := 1) 1 (by decide)).2; have := (iv_lit (n := 0) 0 (by decide)).1; have := (iv_lit (n := 0) 0 (by decide)).2; omega)
        · skip
          have r53 := (iv_nEq c53)
          refine lv_aload_n hx hb dX6_carry_14 rfl (lv_at hl 1 rfl) ?_
          refine lv_iload hx hb dX6_carry_15 (lv_at hl 5 rfl) ?_
          refine lv_aload_n hx hb dX6_carry_17 rfl (lv_at hl 0 rfl) ?_
          refine b_get (ci := 6) (C := RX6) (T := TX6) (Nf := 29) (v := .ref (q 8)) hx hb hts in_X6_carry_X6 hown hK hH 0 (by decide) rfl rfl 12 (by decide) (hts (.fieldLink RX6 35 "StationLineModel" "kept" "[I") (List.mem_of_getElem? (i := 1) rfl)) rfl dX6_carry_18 ?_
          refine lv_iload_n hx hb dX6_carry_21 rfl (lv_at hl 3 rfl) ?_
          refine lv_iload hx hb dX6_carry_22 (lv_at hl 5 rfl) ?_
          refine lv_iadd hx hb dX6_carry_24 ?_
          have i55 : iv 36 45 ((36 : Int32) + x5_3) := (iv_add (iv_lit (n := 36) 36 (by decide)) k52a (by decide) (by decide) (by decide) (by decide))
          have e55 := (iv_addE (iv_lit (n := 36) 36 (by decide)) k52a (by decide) (by decide))
          have := i55.1; have := i55.2
          refine b_iald (v := z_3.2.1 8 ((36 : Int32) + x5_3 : Int32).toNatClampNeg) hx hb hK hH 8 (by decide) rfl (iv_in i55 (by decide) (by decide)) rfl dX6_carry_25 ?_
          refine b_iast hx hb hK hH 3 (by decide) rfl (iv_in k52a (by decide) (by decide)) (upA z_3 3 (upd (z_3.2.1 3) (x5_3 : Int32).toNatClampNeg (z_3.2.1 8 ((36 : Int32) + x5_3 : Int32).toNatClampNeg))) rfl (enM_A _ _ _ _ _) dX6_carry_26 (fun H locs hH => ?_)
          obtain ⟨z56, hz56⟩ : ∃ w : zS, w = upA z_3 3 (upd (z_3.2.1 3) (x5_3 : Int32).toNatClampNeg (z_3.2.1 8 ((36 : Int32) + x5_3 : Int32).toNatClampNeg)) := ⟨_, rfl⟩
          rw [← hz56] at hH
          have hJ : jJ TrM 0 8 0 z0 z56 := by rw [hz56]; exact jJ_A hJ (by decide) (TrM_A hJ.1 (by decide))
          refine lv_goto (tgt := 43) hx hb dX6_carry_27 (by decide) ?_
          have j57 : iv 1 10 (x5_3 + 1) := iv_add k52a (iv_lit (n := 1) 1 (by decide)) (by decide) (by decide) (by decide) (by decide)
          have e57 : (x5_3 + 1).toInt = x5_3.toInt + 1 := (iv_addE k52a (iv_lit (n := 1) 1 (by decide)) (by decide) (by decide)).trans rfl
          refine lv_iinc (v := (x5_3 + 1)) (lv' := [(5, .int (x5_3 + 1)), (0, .ref (q 0)), (1, .ref (q 3)), (2, .int 10), (3, .int 36), (4, .int 1)]) hx hb dX6_carry_43 hl (k := 5) rfl rfl (by decide) rfl (fun ls hl => ?_)
          refine lv_goto (tgt := 3) hx hb dX6_carry_46 (by decide) ?_
          exact ih3 _ (ms_up e57 j57.2 hn3) (x5_3 + 1) z56 H locs ls (iv_w j57 (by decide) (by decide)) (cpy_s1 (k := 3) (a := 36) ex_3 hz56 (by decide) (by have := iv_nat k52a (by decide); have l9 : (36 : Int32).toInt = 36 := (by decide); have e9 := iv_nat (x := (36 : Int32) + x5_3) (a := 0) (b := 180) ⟨by omega, by omega⟩ (by decide); omega) (by have := iv_nat k52a (by decide); have := iv_nat j57 (by decide); omega)) hJ hH (lv_sub hl [1, 2, 3, 4, 5, 0] rfl) rfl
  refine lv_iconst (v := 0) hx hb dX6_carry_0 (by decide) ?_
  refine lv_istore (lv' := [(5, .int 0), (0, .ref (q 0)), (1, .ref (q 3)), (2, .int 10), (3, .int 36), (4, .int 1)]) hx hb dX6_carry_1 hl (by decide) rfl (fun ls hl => ?_)
  exact HL3 _ 0 z0 H locs ls (iv_w (iv_lit (n := 0) 0 (by decide)) (by decide) (by decide)) ((cpy_0 z0 3 _ 36 0)).symm hJ hH (lv_sub hl [1, 2, 3, 4, 5, 0] rfl) rfl
set_option maxHeartbeats 4000000 in
set_option maxRecDepth 100000 in
theorem g_X6_carry_0_4_1 (l : Launch) (D : va_G) (cy : Nat → ClassId) (q : Nat → Nat) (hq : bJ 23 q) (z0 : zS) (hI : TrM z0)  : bCi l yX6_carry wsX6_carry ({ frames := 0, cells := 0, slots := 0, locals := 0 }) D cy 23 (enM cy) q z0 [.ref (q 0), .ref (q 4), .int 100, .int 46, .int 1] (fun v z => jJ TrM 0 16 0 z0 z ∧ iv 146 146 v ∧ (z = upA z0 4 (va_cpy (z0.2.1 8) (z0.2.1 4) 46 0 100))) := by
  refine hM_i cX6_carry (by decide) rfl (own := RX6) rfl hq (Nat.le_of_ble_eq_true rfl) ?_
  intro p e s m args below meth c Q ls H locs hx hb hml hown hts hK hZ hH hl hret
  have hl : lv_has ls 6 [(0, .ref (q 0)), (1, .ref (q 4)), (2, .int 100), (3, .int 46), (4, .int 1)] := hl
  have hJ : jJ TrM 0 16 0 z0 z0 := jJ_rf _ _ _ hI
  have e00 : (0 : Int32).toInt = 0 := (by decide); have e01 : (1 : Int32).toInt = 1 := (by decide); have e02 : (2 : Int32).toInt = 2 := (by decide); have e03 : (3 : Int32).toInt = 3 := (by decide); have e010 : (10 : Int32).toInt = 10 := (by decide)
  have HL3 : ∀ (n : Nat) (x5_3 : Int32) (z_3 : zS) (H : Heap) (locs : List Loc) (ls : Array Slot), iv 0 100 x5_3 → (z_3 = upA z0 4 (va_cpy (z0.2.1 8) (z0.2.1 4) 46 0 (x5_3 : Int32).toNatClampNeg)) → jJ TrM 0 16 0 z0 z_3 → bH D 23 (enM cy) q z_3 s.heap H locs → lv_has ls 6 [(0, .ref (q 0)), (1, .ref (q 4)), (2, .int 100), (3, .int 46), (4, .int 1), (5, .int x5_3)] → (100 - x5_3.toInt).toNat = n → W p l e ({ frames := 0, cells := 0, slots := 0, locals := 0 }) s m args below meth c H locs 0 0 Q (F0 m 3 ls []) := by
    intro n3
    induction n3 using Nat.strongRecOn with
    | ind n3 ih3 =>
      intro x5_3 z_3 H locs ls h5_3 ex_3 hJ hH hl hn3
      have := h5_3.1; have := h5_3.2
      refine lv_iload hx hb dX6_carry_3 (lv_at hl 5 rfl) ?_
      refine lv_iload_n hx hb dX6_carry_5 rfl (lv_at hl 2 rfl) ?_
      refine lv_icmp_ge (tgt := 49) hx hb dX6_carry_6 (by decide) (fun c106 => ?_) (fun c106 => ?_)
      · skip
        have r106 := (iv_Le c106)
        have k107b : iv 100 100 x5_3 := iv_ler (iv_Le c106) (iv_lit (n := 100) 100 (by decide)) h5_3
        refine lv_iload_n hx hb dX6_carry_49 rfl (lv_at hl 3 rfl) ?_
        refine lv_iload_n hx hb dX6_carry_50 rfl (lv_at hl 2 rfl) ?_
        refine lv_iadd hx hb dX6_carry_51 ?_
        refine b_vi (v := 146) (by decide) ?_
        exact hret _ z_3 H locs _ _ ⟨hJ, (iv_lit (n := 146) 146 (by decide)), (by have l8 : (100 : Int32).toInt = 100 := (by decide); have e9 : (x5_3 : Int32).toNatClampNeg = 100 := (by have := iv_nat k107b (by decide); omega); rw [← e9]; exact ex_3)⟩ hH dX6_carry_52
      · skip
        have r106 := (iv_nLe c106)
        have k108a : iv 0 99 x5_3 := iv_ltl (iv_nLe c106) h5_3 (iv_lit (n := 100) 100 (by decide)) (by decide)
        refine lv_iload hx hb dX6_carry_9 (lv_at hl 4 rfl) ?_
        refine lv_if_eq (tgt := 30) hx hb dX6_carry_11 (by decide) (fun c109 => ?_) (fun c109 => ?_)
        · skip
          exact absurd (iv_Eq c109) (by have := (iv_lit (n := 1) 1 (by decide)).1; have := (iv_lit (n := 1) 1 (by decide)).2; have := (iv_lit (n := 0) 0 (by decide)).1; have := (iv_lit (n := 0) 0 (by decide)).2; omega)
        · skip
          have r109 := (iv_nEq c109)
          refine lv_aload_n hx hb dX6_carry_14 rfl (lv_at hl 1 rfl) ?_
          refine lv_iload hx hb dX6_carry_15 (lv_at hl 5 rfl) ?_
          refine lv_aload_n hx hb dX6_carry_17 rfl (lv_at hl 0 rfl) ?_
          refine b_get (ci := 6) (C := RX6) (T := TX6) (Nf := 29) (v := .ref (q 8)) hx hb hts in_X6_carry_X6 hown hK hH 0 (by decide) rfl rfl 12 (by decide) (hts (.fieldLink RX6 35 "StationLineModel" "kept" "[I") (List.mem_of_getElem? (i := 1) rfl)) rfl dX6_carry_18 ?_
          refine lv_iload_n hx hb dX6_carry_21 rfl (lv_at hl 3 rfl) ?_
          refine lv_iload hx hb dX6_carry_22 (lv_at hl 5 rfl) ?_
          refine lv_iadd hx hb dX6_carry_24 ?_
          have i111 : iv 46 145 ((46 : Int32) + x5_3) := (iv_add (iv_lit (n := 46) 46 (by decide)) k108a (by decide) (by decide) (by decide) (by decide))
          have e111 := (iv_addE (iv_lit (n := 46) 46 (by decide)) k108a (by decide) (by decide))
          have := i111.1; have := i111.2
          refine b_iald (v := z_3.2.1 8 ((46 : Int32) + x5_3 : Int32).toNatClampNeg) hx hb hK hH 8 (by decide) rfl (iv_in i111 (by decide) (by decide)) rfl dX6_carry_25 ?_
          refine b_iast hx hb hK hH 4 (by decide) rfl (iv_in k108a (by decide) (by decide)) (upA z_3 4 (upd (z_3.2.1 4) (x5_3 : Int32).toNatClampNeg (z_3.2.1 8 ((46 : Int32) + x5_3 : Int32).toNatClampNeg))) rfl (enM_A _ _ _ _ _) dX6_carry_26 (fun H locs hH => ?_)
          obtain ⟨z112, hz112⟩ : ∃ w : zS, w = upA z_3 4 (upd (z_3.2.1 4) (x5_3 : Int32).toNatClampNeg (z_3.2.1 8 ((46 : Int32) + x5_3 : Int32).toNatClampNeg)) := ⟨_, rfl⟩
          rw [← hz112] at hH
          have hJ : jJ TrM 0 16 0 z0 z112 := by rw [hz112]; exact jJ_A hJ (by decide) (TrM_A hJ.1 (by decide))
          refine lv_goto (tgt := 43) hx hb dX6_carry_27 (by decide) ?_
          have j113 : iv 1 100 (x5_3 + 1) := iv_add k108a (iv_lit (n := 1) 1 (by decide)) (by decide) (by decide) (by decide) (by decide)
          have e113 : (x5_3 + 1).toInt = x5_3.toInt + 1 := (iv_addE k108a (iv_lit (n := 1) 1 (by decide)) (by decide) (by decide)).trans rfl
          refine lv_iinc (v := (x5_3 + 1)) (lv' := [(5, .int (x5_3 + 1)), (0, .ref (q 0)), (1, .ref (q 4)), (2, .int 100), (3, .int 46), (4, .int 1)]) hx hb dX6_carry_43 hl (k := 5) rfl rfl (by decide) rfl (fun ls hl => ?_)
          refine lv_goto (tgt := 3) hx hb dX6_carry_46 (by decide) ?_
          exact ih3 _ (ms_up e113 j113.2 hn3) (x5_3 + 1) z112 H locs ls (iv_w j113 (by decide) (by decide)) (cpy_s1 (k := 4) (a := 46) ex_3 hz112 (by decide) (by have := iv_nat k108a (by decide); have l9 : (46 : Int32).toInt = 46 := (by decide); have e9 := iv_nat (x := (46 : Int32) + x5_3) (a := 0) (b := 180) ⟨by omega, by omega⟩ (by decide); omega) (by have := iv_nat k108a (by decide); have := iv_nat j113 (by decide); omega)) hJ hH (lv_sub hl [1, 2, 3, 4, 5, 0] rfl) rfl
  refine lv_iconst (v := 0) hx hb dX6_carry_0 (by decide) ?_
  refine lv_istore (lv' := [(5, .int 0), (0, .ref (q 0)), (1, .ref (q 4)), (2, .int 100), (3, .int 46), (4, .int 1)]) hx hb dX6_carry_1 hl (by decide) rfl (fun ls hl => ?_)
  exact HL3 _ 0 z0 H locs ls (iv_w (iv_lit (n := 0) 0 (by decide)) (by decide) (by decide)) ((cpy_0 z0 4 _ 46 0)).symm hJ hH (lv_sub hl [1, 2, 3, 4, 5, 0] rfl) rfl
set_option maxHeartbeats 4000000 in
set_option maxRecDepth 100000 in
theorem g_X6_carry_0_5_1 (l : Launch) (D : va_G) (cy : Nat → ClassId) (q : Nat → Nat) (hq : bJ 23 q) (z0 : zS) (hI : TrM z0)  : bCi l yX6_carry wsX6_carry ({ frames := 0, cells := 0, slots := 0, locals := 0 }) D cy 23 (enM cy) q z0 [.ref (q 0), .ref (q 5), .int 10, .int 146, .int 1] (fun v z => jJ TrM 0 32 0 z0 z ∧ iv 156 156 v ∧ (z = upA z0 5 (va_cpy (z0.2.1 8) (z0.2.1 5) 146 0 10))) := by
  refine hM_i cX6_carry (by decide) rfl (own := RX6) rfl hq (Nat.le_of_ble_eq_true rfl) ?_
  intro p e s m args below meth c Q ls H locs hx hb hml hown hts hK hZ hH hl hret
  have hl : lv_has ls 6 [(0, .ref (q 0)), (1, .ref (q 5)), (2, .int 10), (3, .int 146), (4, .int 1)] := hl
  have hJ : jJ TrM 0 32 0 z0 z0 := jJ_rf _ _ _ hI
  have e00 : (0 : Int32).toInt = 0 := (by decide); have e01 : (1 : Int32).toInt = 1 := (by decide); have e02 : (2 : Int32).toInt = 2 := (by decide); have e03 : (3 : Int32).toInt = 3 := (by decide); have e010 : (10 : Int32).toInt = 10 := (by decide)
  have HL3 : ∀ (n : Nat) (x5_3 : Int32) (z_3 : zS) (H : Heap) (locs : List Loc) (ls : Array Slot), iv 0 10 x5_3 → (z_3 = upA z0 5 (va_cpy (z0.2.1 8) (z0.2.1 5) 146 0 (x5_3 : Int32).toNatClampNeg)) → jJ TrM 0 32 0 z0 z_3 → bH D 23 (enM cy) q z_3 s.heap H locs → lv_has ls 6 [(0, .ref (q 0)), (1, .ref (q 5)), (2, .int 10), (3, .int 146), (4, .int 1), (5, .int x5_3)] → (10 - x5_3.toInt).toNat = n → W p l e ({ frames := 0, cells := 0, slots := 0, locals := 0 }) s m args below meth c H locs 0 0 Q (F0 m 3 ls []) := by
    intro n3
    induction n3 using Nat.strongRecOn with
    | ind n3 ih3 =>
      intro x5_3 z_3 H locs ls h5_3 ex_3 hJ hH hl hn3
      have := h5_3.1; have := h5_3.2
      refine lv_iload hx hb dX6_carry_3 (lv_at hl 5 rfl) ?_
      refine lv_iload_n hx hb dX6_carry_5 rfl (lv_at hl 2 rfl) ?_
      refine lv_icmp_ge (tgt := 49) hx hb dX6_carry_6 (by decide) (fun c50 => ?_) (fun c50 => ?_)
      · skip
        have r50 := (iv_Le c50)
        have k51b : iv 10 10 x5_3 := iv_ler (iv_Le c50) (iv_lit (n := 10) 10 (by decide)) h5_3
        refine lv_iload_n hx hb dX6_carry_49 rfl (lv_at hl 3 rfl) ?_
        refine lv_iload_n hx hb dX6_carry_50 rfl (lv_at hl 2 rfl) ?_
        refine lv_iadd hx hb dX6_carry_51 ?_
        refine b_vi (v := 156) (by decide) ?_
        exact hret _ z_3 H locs _ _ ⟨hJ, (iv_lit (n := 156) 156 (by decide)), (by have l8 : (10 : Int32).toInt = 10 := (by decide); have e9 : (x5_3 : Int32).toNatClampNeg = 10 := (by have := iv_nat k51b (by decide); omega); rw [← e9]; exact ex_3)⟩ hH dX6_carry_52
      · skip
        have r50 := (iv_nLe c50)
        have k52a : iv 0 9 x5_3 := iv_ltl (iv_nLe c50) h5_3 (iv_lit (n := 10) 10 (by decide)) (by decide)
        refine lv_iload hx hb dX6_carry_9 (lv_at hl 4 rfl) ?_
        refine lv_if_eq (tgt := 30) hx hb dX6_carry_11 (by decide) (fun c53 => ?_) (fun c53 => ?_)
        · skip
          exact absurd (iv_Eq c53) (by have := (iv_lit (n := 1) 1 (by decide)).1; have := (iv_lit (n := 1) 1 (by decide)).2; have := (iv_lit (n := 0) 0 (by decide)).1; have := (iv_lit (n := 0) 0 (by decide)).2; omega)
        · skip
          have r53 := (iv_nEq c53)
          refine lv_aload_n hx hb dX6_carry_14 rfl (lv_at hl 1 rfl) ?_
          refine lv_iload hx hb dX6_carry_15 (lv_at hl 5 rfl) ?_
          refine lv_aload_n hx hb dX6_carry_17 rfl (lv_at hl 0 rfl) ?_
          refine b_get (ci := 6) (C := RX6) (T := TX6) (Nf := 29) (v := .ref (q 8)) hx hb hts in_X6_carry_X6 hown hK hH 0 (by decide) rfl rfl 12 (by decide) (hts (.fieldLink RX6 35 "StationLineModel" "kept" "[I") (List.mem_of_getElem? (i := 1) rfl)) rfl dX6_carry_18 ?_
          refine lv_iload_n hx hb dX6_carry_21 rfl (lv_at hl 3 rfl) ?_
          refine lv_iload hx hb dX6_carry_22 (lv_at hl 5 rfl) ?_
          refine lv_iadd hx hb dX6_carry_24 ?_
          have i55 : iv 146 155 ((146 : Int32) + x5_3) := (iv_add (iv_lit (n := 146) 146 (by decide)) k52a (by decide) (by decide) (by decide) (by decide))
          have e55 := (iv_addE (iv_lit (n := 146) 146 (by decide)) k52a (by decide) (by decide))
          have := i55.1; have := i55.2
          refine b_iald (v := z_3.2.1 8 ((146 : Int32) + x5_3 : Int32).toNatClampNeg) hx hb hK hH 8 (by decide) rfl (iv_in i55 (by decide) (by decide)) rfl dX6_carry_25 ?_
          refine b_iast hx hb hK hH 5 (by decide) rfl (iv_in k52a (by decide) (by decide)) (upA z_3 5 (upd (z_3.2.1 5) (x5_3 : Int32).toNatClampNeg (z_3.2.1 8 ((146 : Int32) + x5_3 : Int32).toNatClampNeg))) rfl (enM_A _ _ _ _ _) dX6_carry_26 (fun H locs hH => ?_)
          obtain ⟨z56, hz56⟩ : ∃ w : zS, w = upA z_3 5 (upd (z_3.2.1 5) (x5_3 : Int32).toNatClampNeg (z_3.2.1 8 ((146 : Int32) + x5_3 : Int32).toNatClampNeg)) := ⟨_, rfl⟩
          rw [← hz56] at hH
          have hJ : jJ TrM 0 32 0 z0 z56 := by rw [hz56]; exact jJ_A hJ (by decide) (TrM_A hJ.1 (by decide))
          refine lv_goto (tgt := 43) hx hb dX6_carry_27 (by decide) ?_
          have j57 : iv 1 10 (x5_3 + 1) := iv_add k52a (iv_lit (n := 1) 1 (by decide)) (by decide) (by decide) (by decide) (by decide)
          have e57 : (x5_3 + 1).toInt = x5_3.toInt + 1 := (iv_addE k52a (iv_lit (n := 1) 1 (by decide)) (by decide) (by decide)).trans rfl
          refine lv_iinc (v := (x5_3 + 1)) (lv' := [(5, .int (x5_3 + 1)), (0, .ref (q 0)), (1, .ref (q 5)), (2, .int 10), (3, .int 146), (4, .int 1)]) hx hb dX6_carry_43 hl (k := 5) rfl rfl (by decide) rfl (fun ls hl => ?_)
          refine lv_goto (tgt := 3) hx hb dX6_carry_46 (by decide) ?_
          exact ih3 _ (ms_up e57 j57.2 hn3) (x5_3 + 1) z56 H locs ls (iv_w j57 (by decide) (by decide)) (cpy_s1 (k := 5) (a := 146) ex_3 hz56 (by decide) (by have := iv_nat k52a (by decide); have l9 : (146 : Int32).toInt = 146 := (by decide); have e9 := iv_nat (x := (146 : Int32) + x5_3) (a := 0) (b := 180) ⟨by omega, by omega⟩ (by decide); omega) (by have := iv_nat k52a (by decide); have := iv_nat j57 (by decide); omega)) hJ hH (lv_sub hl [1, 2, 3, 4, 5, 0] rfl) rfl
  refine lv_iconst (v := 0) hx hb dX6_carry_0 (by decide) ?_
  refine lv_istore (lv' := [(5, .int 0), (0, .ref (q 0)), (1, .ref (q 5)), (2, .int 10), (3, .int 146), (4, .int 1)]) hx hb dX6_carry_1 hl (by decide) rfl (fun ls hl => ?_)
  exact HL3 _ 0 z0 H locs ls (iv_w (iv_lit (n := 0) 0 (by decide)) (by decide) (by decide)) ((cpy_0 z0 5 _ 146 0)).symm hJ hH (lv_sub hl [1, 2, 3, 4, 5, 0] rfl) rfl
set_option maxHeartbeats 4000000 in
set_option maxRecDepth 100000 in
theorem g_X6_carry_0_6_1 (l : Launch) (D : va_G) (cy : Nat → ClassId) (q : Nat → Nat) (hq : bJ 23 q) (z0 : zS) (hI : TrM z0)  : bCi l yX6_carry wsX6_carry ({ frames := 0, cells := 0, slots := 0, locals := 0 }) D cy 23 (enM cy) q z0 [.ref (q 0), .ref (q 6), .int 10, .int 156, .int 1] (fun v z => jJ TrM 0 64 0 z0 z ∧ iv 166 166 v ∧ (z = upA z0 6 (va_cpy (z0.2.1 8) (z0.2.1 6) 156 0 10))) := by
  refine hM_i cX6_carry (by decide) rfl (own := RX6) rfl hq (Nat.le_of_ble_eq_true rfl) ?_
  intro p e s m args below meth c Q ls H locs hx hb hml hown hts hK hZ hH hl hret
  have hl : lv_has ls 6 [(0, .ref (q 0)), (1, .ref (q 6)), (2, .int 10), (3, .int 156), (4, .int 1)] := hl
  have hJ : jJ TrM 0 64 0 z0 z0 := jJ_rf _ _ _ hI
  have e00 : (0 : Int32).toInt = 0 := (by decide); have e01 : (1 : Int32).toInt = 1 := (by decide); have e02 : (2 : Int32).toInt = 2 := (by decide); have e03 : (3 : Int32).toInt = 3 := (by decide); have e010 : (10 : Int32).toInt = 10 := (by decide)
  have HL3 : ∀ (n : Nat) (x5_3 : Int32) (z_3 : zS) (H : Heap) (locs : List Loc) (ls : Array Slot), iv 0 10 x5_3 → (z_3 = upA z0 6 (va_cpy (z0.2.1 8) (z0.2.1 6) 156 0 (x5_3 : Int32).toNatClampNeg)) → jJ TrM 0 64 0 z0 z_3 → bH D 23 (enM cy) q z_3 s.heap H locs → lv_has ls 6 [(0, .ref (q 0)), (1, .ref (q 6)), (2, .int 10), (3, .int 156), (4, .int 1), (5, .int x5_3)] → (10 - x5_3.toInt).toNat = n → W p l e ({ frames := 0, cells := 0, slots := 0, locals := 0 }) s m args below meth c H locs 0 0 Q (F0 m 3 ls []) := by
    intro n3
    induction n3 using Nat.strongRecOn with
    | ind n3 ih3 =>
      intro x5_3 z_3 H locs ls h5_3 ex_3 hJ hH hl hn3
      have := h5_3.1; have := h5_3.2
      refine lv_iload hx hb dX6_carry_3 (lv_at hl 5 rfl) ?_
      refine lv_iload_n hx hb dX6_carry_5 rfl (lv_at hl 2 rfl) ?_
      refine lv_icmp_ge (tgt := 49) hx hb dX6_carry_6 (by decide) (fun c50 => ?_) (fun c50 => ?_)
      · skip
        have r50 := (iv_Le c50)
        have k51b : iv 10 10 x5_3 := iv_ler (iv_Le c50) (iv_lit (n := 10) 10 (by decide)) h5_3
        refine lv_iload_n hx hb dX6_carry_49 rfl (lv_at hl 3 rfl) ?_
        refine lv_iload_n hx hb dX6_carry_50 rfl (lv_at hl 2 rfl) ?_
        refine lv_iadd hx hb dX6_carry_51 ?_
        refine b_vi (v := 166) (by decide) ?_
        exact hret _ z_3 H locs _ _ ⟨hJ, (iv_lit (n := 166) 166 (by decide)), (by have l8 : (10 : Int32).toInt = 10 := (by decide); have e9 : (x5_3 : Int32).toNatClampNeg = 10 := (by have := iv_nat k51b (by decide); omega); rw [← e9]; exact ex_3)⟩ hH dX6_carry_52
      · skip
        have r50 := (iv_nLe c50)
        have k52a : iv 0 9 x5_3 := iv_ltl (iv_nLe c50) h5_3 (iv_lit (n := 10) 10 (by decide)) (by decide)
        refine lv_iload hx hb dX6_carry_9 (lv_at hl 4 rfl) ?_
        refine lv_if_eq (tgt := 30) hx hb dX6_carry_11 (by decide) (fun c53 => ?_) (fun c53 => ?_)
        · skip
          exact absurd (iv_Eq c53) (by have := (iv_lit (n := 1) 1 (by decide)).1; have := (iv_lit (n := 1) 1 (by decide)).2; have := (iv_lit (n := 0) 0 (by decide)).1; have := (iv_lit (n := 0) 0 (by decide)).2; omega)
        · skip
          have r53 := (iv_nEq c53)
          refine lv_aload_n hx hb dX6_carry_14 rfl (lv_at hl 1 rfl) ?_
          refine lv_iload hx hb dX6_carry_15 (lv_at hl 5 rfl) ?_
          refine lv_aload_n hx hb dX6_carry_17 rfl (lv_at hl 0 rfl) ?_
          refine b_get (ci := 6) (C := RX6) (T := TX6) (Nf := 29) (v := .ref (q 8)) hx hb hts in_X6_carry_X6 hown hK hH 0 (by decide) rfl rfl 12 (by decide) (hts (.fieldLink RX6 35 "StationLineModel" "kept" "[I") (List.mem_of_getElem? (i := 1) rfl)) rfl dX6_carry_18 ?_
          refine lv_iload_n hx hb dX6_carry_21 rfl (lv_at hl 3 rfl) ?_
          refine lv_iload hx hb dX6_carry_22 (lv_at hl 5 rfl) ?_
          refine lv_iadd hx hb dX6_carry_24 ?_
          have i55 : iv 156 165 ((156 : Int32) + x5_3) := (iv_add (iv_lit (n := 156) 156 (by decide)) k52a (by decide) (by decide) (by decide) (by decide))
          have e55 := (iv_addE (iv_lit (n := 156) 156 (by decide)) k52a (by decide) (by decide))
          have := i55.1; have := i55.2
          refine b_iald (v := z_3.2.1 8 ((156 : Int32) + x5_3 : Int32).toNatClampNeg) hx hb hK hH 8 (by decide) rfl (iv_in i55 (by decide) (by decide)) rfl dX6_carry_25 ?_
          refine b_iast hx hb hK hH 6 (by decide) rfl (iv_in k52a (by decide) (by decide)) (upA z_3 6 (upd (z_3.2.1 6) (x5_3 : Int32).toNatClampNeg (z_3.2.1 8 ((156 : Int32) + x5_3 : Int32).toNatClampNeg))) rfl (enM_A _ _ _ _ _) dX6_carry_26 (fun H locs hH => ?_)
          obtain ⟨z56, hz56⟩ : ∃ w : zS, w = upA z_3 6 (upd (z_3.2.1 6) (x5_3 : Int32).toNatClampNeg (z_3.2.1 8 ((156 : Int32) + x5_3 : Int32).toNatClampNeg)) := ⟨_, rfl⟩
          rw [← hz56] at hH
          have hJ : jJ TrM 0 64 0 z0 z56 := by rw [hz56]; exact jJ_A hJ (by decide) (TrM_A hJ.1 (by decide))
          refine lv_goto (tgt := 43) hx hb dX6_carry_27 (by decide) ?_
          have j57 : iv 1 10 (x5_3 + 1) := iv_add k52a (iv_lit (n := 1) 1 (by decide)) (by decide) (by decide) (by decide) (by decide)
          have e57 : (x5_3 + 1).toInt = x5_3.toInt + 1 := (iv_addE k52a (iv_lit (n := 1) 1 (by decide)) (by decide) (by decide)).trans rfl
          refine lv_iinc (v := (x5_3 + 1)) (lv' := [(5, .int (x5_3 + 1)), (0, .ref (q 0)), (1, .ref (q 6)), (2, .int 10), (3, .int 156), (4, .int 1)]) hx hb dX6_carry_43 hl (k := 5) rfl rfl (by decide) rfl (fun ls hl => ?_)
          refine lv_goto (tgt := 3) hx hb dX6_carry_46 (by decide) ?_
          exact ih3 _ (ms_up e57 j57.2 hn3) (x5_3 + 1) z56 H locs ls (iv_w j57 (by decide) (by decide)) (cpy_s1 (k := 6) (a := 156) ex_3 hz56 (by decide) (by have := iv_nat k52a (by decide); have l9 : (156 : Int32).toInt = 156 := (by decide); have e9 := iv_nat (x := (156 : Int32) + x5_3) (a := 0) (b := 180) ⟨by omega, by omega⟩ (by decide); omega) (by have := iv_nat k52a (by decide); have := iv_nat j57 (by decide); omega)) hJ hH (lv_sub hl [1, 2, 3, 4, 5, 0] rfl) rfl
  refine lv_iconst (v := 0) hx hb dX6_carry_0 (by decide) ?_
  refine lv_istore (lv' := [(5, .int 0), (0, .ref (q 0)), (1, .ref (q 6)), (2, .int 10), (3, .int 156), (4, .int 1)]) hx hb dX6_carry_1 hl (by decide) rfl (fun ls hl => ?_)
  exact HL3 _ 0 z0 H locs ls (iv_w (iv_lit (n := 0) 0 (by decide)) (by decide) (by decide)) ((cpy_0 z0 6 _ 156 0)).symm hJ hH (lv_sub hl [1, 2, 3, 4, 5, 0] rfl) rfl
set_option maxHeartbeats 4000000 in
set_option maxRecDepth 100000 in
theorem g_X6_carryAll_0_0 (l : Launch) (D : va_G) (cy : Nat → ClassId) (q : Nat → Nat) (hq : bJ 23 q) (z0 : zS) (hI : TrM z0)  : bCv l yX6_carryAll wsX6_carryAll ({ frames := 1, cells := 0, slots := 0, locals := 25 }) D cy 23 (enM cy) q z0 [.ref (q 0), .int 0] (fun z => jJ TrM 7 4194560 0 z0 z ∧ (CAR0 z0 z)) := by
  refine hM_v cX6_carryAll (by decide) rfl (own := RX6) rfl hq (Nat.le_of_ble_eq_true rfl) ?_
  intro p e s m args below meth c Q ls H locs hx hb hml hown hts hK hZ hH hl hret
  have hl : lv_has ls 3 [(0, .ref (q 0)), (1, .int 0)] := hl
  have hJ : jJ TrM 7 4194560 0 z0 z0 := jJ_rf _ _ _ hI
  refine lv_aload_n hx hb dX6_carryAll_0 rfl (lv_at hl 0 rfl) ?_
  refine b_get (ci := 6) (C := RX6) (T := TX6) (Nf := 29) (v := .ref (q 22)) hx hb hts in_X6_carryAll_X6 hown hK hH 0 (by decide) rfl rfl 28 (by decide) (hts (.fieldLink RX6 79 "StationLineModel" "some" "[I") (List.mem_of_getElem? (i := 1) rfl)) rfl dX6_carryAll_1 ?_
  refine lv_iconst (v := 0) hx hb dX6_carryAll_4 (by decide) ?_
  refine lv_aload_n hx hb dX6_carryAll_5 rfl (lv_at hl 0 rfl) ?_
  refine b_get (ci := 6) (C := RX6) (T := TX6) (Nf := 29) (v := .int (z0.1 0)) hx hb hts in_X6_carryAll_X6 hown hK hH 0 (by decide) rfl rfl 0 (by decide) (hts (.fieldLink RX6 85 "StationLineModel" "tasks" "I") (List.mem_of_getElem? (i := 2) rfl)) rfl dX6_carryAll_6 ?_
  refine b_iast hx hb hK hH 22 (by decide) rfl (by unfold vp_in; decide) (upA z0 22 (upd (z0.2.1 22) (0 : Int32).toNatClampNeg (z0.1 0))) rfl (enM_A _ _ _ _ _) dX6_carryAll_9 (fun H locs hH => ?_)
  obtain ⟨z14, hz14⟩ : ∃ w : zS, w = upA z0 22 (upd (z0.2.1 22) (0 : Int32).toNatClampNeg (z0.1 0)) := ⟨_, rfl⟩
  rw [← hz14] at hH
  have hJ : jJ TrM 7 4194560 0 z0 z14 := by rw [hz14]; exact jJ_A hJ (by decide) (TrM_A hJ.1 (by decide))
  refine lv_aload_n hx hb dX6_carryAll_10 rfl (lv_at hl 0 rfl) ?_
  refine b_get (ci := 6) (C := RX6) (T := TX6) (Nf := 29) (v := .ref (q 22)) hx hb hts in_X6_carryAll_X6 hown hK hH 0 (by decide) rfl rfl 28 (by decide) (hts (.fieldLink RX6 79 "StationLineModel" "some" "[I") (List.mem_of_getElem? (i := 1) rfl)) rfl dX6_carryAll_11 ?_
  refine lv_iconst (v := 1) hx hb dX6_carryAll_14 (by decide) ?_
  refine lv_aload_n hx hb dX6_carryAll_15 rfl (lv_at hl 0 rfl) ?_
  refine b_get (ci := 6) (C := RX6) (T := TX6) (Nf := 29) (v := .int (z14.1 1)) hx hb hts in_X6_carryAll_X6 hown hK hH 0 (by decide) rfl rfl 7 (by decide) (hts (.fieldLink RX6 113 "StationLineModel" "kind" "I") (List.mem_of_getElem? (i := 3) rfl)) rfl dX6_carryAll_16 ?_
  refine b_iast hx hb hK hH 22 (by decide) rfl (by unfold vp_in; decide) (upA z14 22 (upd (z14.2.1 22) (1 : Int32).toNatClampNeg (z14.1 1))) rfl (enM_A _ _ _ _ _) dX6_carryAll_19 (fun H locs hH => ?_)
  obtain ⟨z15, hz15⟩ : ∃ w : zS, w = upA z14 22 (upd (z14.2.1 22) (1 : Int32).toNatClampNeg (z14.1 1)) := ⟨_, rfl⟩
  rw [← hz15] at hH
  have hJ : jJ TrM 7 4194560 0 z0 z15 := by rw [hz15]; exact jJ_A hJ (by decide) (TrM_A hJ.1 (by decide))
  refine lv_aload_n hx hb dX6_carryAll_20 rfl (lv_at hl 0 rfl) ?_
  refine b_get (ci := 6) (C := RX6) (T := TX6) (Nf := 29) (v := .ref (q 22)) hx hb hts in_X6_carryAll_X6 hown hK hH 0 (by decide) rfl rfl 28 (by decide) (hts (.fieldLink RX6 79 "StationLineModel" "some" "[I") (List.mem_of_getElem? (i := 1) rfl)) rfl dX6_carryAll_21 ?_
  refine lv_iconst (v := 2) hx hb dX6_carryAll_24 (by decide) ?_
  refine lv_aload_n hx hb dX6_carryAll_25 rfl (lv_at hl 0 rfl) ?_
  refine b_get (ci := 6) (C := RX6) (T := TX6) (Nf := 29) (v := .int (z15.1 2)) hx hb hts in_X6_carryAll_X6 hown hK hH 0 (by decide) rfl rfl 8 (by decide) (hts (.fieldLink RX6 28 "StationLineModel" "beat" "I") (List.mem_of_getElem? (i := 4) rfl)) rfl dX6_carryAll_26 ?_
  refine b_iast hx hb hK hH 22 (by decide) rfl (by unfold vp_in; decide) (upA z15 22 (upd (z15.2.1 22) (2 : Int32).toNatClampNeg (z15.1 2))) rfl (enM_A _ _ _ _ _) dX6_carryAll_29 (fun H locs hH => ?_)
  obtain ⟨z16, hz16⟩ : ∃ w : zS, w = upA z15 22 (upd (z15.2.1 22) (2 : Int32).toNatClampNeg (z15.1 2)) := ⟨_, rfl⟩
  rw [← hz16] at hH
  have hJ : jJ TrM 7 4194560 0 z0 z16 := by rw [hz16]; exact jJ_A hJ (by decide) (TrM_A hJ.1 (by decide))
  refine lv_aload_n hx hb dX6_carryAll_30 rfl (lv_at hl 0 rfl) ?_
  refine lv_aload_n hx hb dX6_carryAll_31 rfl (lv_at hl 0 rfl) ?_
  refine b_get (ci := 6) (C := RX6) (T := TX6) (Nf := 29) (v := .ref (q 22)) hx hb hts in_X6_carryAll_X6 hown hK hH 0 (by decide) rfl rfl 28 (by decide) (hts (.fieldLink RX6 79 "StationLineModel" "some" "[I") (List.mem_of_getElem? (i := 1) rfl)) rfl dX6_carryAll_32 ?_
  refine lv_iconst (v := 3) hx hb dX6_carryAll_35 (by decide) ?_
  refine lv_iconst (v := 0) hx hb dX6_carryAll_36 (by decide) ?_
  refine lv_iload_n hx hb dX6_carryAll_37 rfl (lv_at hl 1 rfl) ?_
  refine b_calli (As := [.ref (q 22), .int 3, .int 0, .int 0]) (rest := []) ⟨hx, hb, hml, hown, hts⟩ 0 6 (g_X6_carry_0_22_0 l D cy q hH.2.1 z16 hJ.1 ) (cwV 4 hts gX6_carryAll_X6_carry rfl rfl rfl (by decide +kernel) ⟨Nat.le_of_ble_eq_true rfl, Nat.le_of_ble_eq_true rfl⟩) hK hZ hH (by decide) rfl rfl rfl hl.1 rfl (Nat.le_of_ble_eq_true rfl) ⟨Nat.zero_le _, Nat.zero_le _⟩ dX6_carryAll_38 (fun w17 z17 H locs hp hH => ?_)
  have hJ := jJ_tr hJ hp.1 (by decide) (by decide) (by decide)
  have i17 := hp.2.1
  obtain rfl : w17 = 3 := iv_one i17 (by decide)
  have f17_0 := hp.2.2
  have hA17 := hp.1.2
  refine lv_istore_n (lv' := [(2, .int 3), (0, .ref (q 0)), (1, .int 0)]) hx hb dX6_carryAll_41 rfl hl (by decide) rfl (fun ls hl => ?_)
  refine lv_aload_n hx hb dX6_carryAll_42 rfl (lv_at hl 1 rfl) ?_
  refine lv_aload_n hx hb dX6_carryAll_43 rfl (lv_at hl 1 rfl) ?_
  refine b_get (ci := 6) (C := RX6) (T := TX6) (Nf := 29) (v := .ref (q 1)) hx hb hts in_X6_carryAll_X6 hown hK hH 0 (by decide) rfl rfl 1 (by decide) (hts (.fieldLink RX6 7 "StationLineModel" "times" "[I") (List.mem_of_getElem? (i := 5) rfl)) rfl dX6_carryAll_44 ?_
  refine lv_bipush (v := 30) hx hb dX6_carryAll_47 (by decide) ?_
  refine lv_iload_n hx hb dX6_carryAll_49 rfl (lv_at hl 0 rfl) ?_
  refine lv_iload_n hx hb dX6_carryAll_50 rfl (lv_at hl 2 rfl) ?_
  refine b_calli (As := [.ref (q 1), .int 30, .int 3, .int 0]) (rest := []) ⟨hx, hb, hml, hown, hts⟩ 0 6 (g_X6_carry_0_1_0 l D cy q hH.2.1 z17 hJ.1 ) (cwV 4 hts gX6_carryAll_X6_carry rfl rfl rfl (by decide +kernel) ⟨Nat.le_of_ble_eq_true rfl, Nat.le_of_ble_eq_true rfl⟩) hK hZ hH (by decide) rfl rfl rfl hl.1 rfl (Nat.le_of_ble_eq_true rfl) ⟨Nat.zero_le _, Nat.zero_le _⟩ dX6_carryAll_51 (fun w18 z18 H locs hp hH => ?_)
  have hJ := jJ_tr hJ hp.1 (by decide) (by decide) (by decide)
  have i18 := hp.2.1
  obtain rfl : w18 = 33 := iv_one i18 (by decide)
  have f18_0 := hp.2.2
  have hA18 := hp.1.2
  refine lv_istore_n (lv' := [(2, .int 33), (0, .ref (q 0)), (1, .int 0)]) hx hb dX6_carryAll_54 rfl hl (by decide) rfl (fun ls hl => ?_)
  refine lv_aload_n hx hb dX6_carryAll_55 rfl (lv_at hl 1 rfl) ?_
  refine lv_aload_n hx hb dX6_carryAll_56 rfl (lv_at hl 1 rfl) ?_
  refine b_get (ci := 6) (C := RX6) (T := TX6) (Nf := 29) (v := .ref (q 2)) hx hb hts in_X6_carryAll_X6 hown hK hH 0 (by decide) rfl rfl 2 (by decide) (hts (.fieldLink RX6 13 "StationLineModel" "shares" "[I") (List.mem_of_getElem? (i := 6) rfl)) rfl dX6_carryAll_57 ?_
  refine lv_iconst (v := 3) hx hb dX6_carryAll_60 (by decide) ?_
  refine lv_iload_n hx hb dX6_carryAll_61 rfl (lv_at hl 0 rfl) ?_
  refine lv_iload_n hx hb dX6_carryAll_62 rfl (lv_at hl 2 rfl) ?_
  refine b_calli (As := [.ref (q 2), .int 3, .int 33, .int 0]) (rest := []) ⟨hx, hb, hml, hown, hts⟩ 0 6 (g_X6_carry_0_2_0 l D cy q hH.2.1 z18 hJ.1 ) (cwV 4 hts gX6_carryAll_X6_carry rfl rfl rfl (by decide +kernel) ⟨Nat.le_of_ble_eq_true rfl, Nat.le_of_ble_eq_true rfl⟩) hK hZ hH (by decide) rfl rfl rfl hl.1 rfl (Nat.le_of_ble_eq_true rfl) ⟨Nat.zero_le _, Nat.zero_le _⟩ dX6_carryAll_63 (fun w19 z19 H locs hp hH => ?_)
  have hJ := jJ_tr hJ hp.1 (by decide) (by decide) (by decide)
  have i19 := hp.2.1
  obtain rfl : w19 = 36 := iv_one i19 (by decide)
  have f19_0 := hp.2.2
  have hA19 := hp.1.2
  refine lv_istore_n (lv' := [(2, .int 36), (0, .ref (q 0)), (1, .int 0)]) hx hb dX6_carryAll_66 rfl hl (by decide) rfl (fun ls hl => ?_)
  refine lv_aload_n hx hb dX6_carryAll_67 rfl (lv_at hl 1 rfl) ?_
  refine lv_aload_n hx hb dX6_carryAll_68 rfl (lv_at hl 1 rfl) ?_
  refine b_get (ci := 6) (C := RX6) (T := TX6) (Nf := 29) (v := .ref (q 3)) hx hb hts in_X6_carryAll_X6 hown hK hH 0 (by decide) rfl rfl 3 (by decide) (hts (.fieldLink RX6 16 "StationLineModel" "straight" "[I") (List.mem_of_getElem? (i := 7) rfl)) rfl dX6_carryAll_69 ?_
  refine lv_bipush (v := 10) hx hb dX6_carryAll_72 (by decide) ?_
  refine lv_iload_n hx hb dX6_carryAll_74 rfl (lv_at hl 0 rfl) ?_
  refine lv_iload_n hx hb dX6_carryAll_75 rfl (lv_at hl 2 rfl) ?_
  refine b_calli (As := [.ref (q 3), .int 10, .int 36, .int 0]) (rest := []) ⟨hx, hb, hml, hown, hts⟩ 0 6 (g_X6_carry_0_3_0 l D cy q hH.2.1 z19 hJ.1 ) (cwV 4 hts gX6_carryAll_X6_carry rfl rfl rfl (by decide +kernel) ⟨Nat.le_of_ble_eq_true rfl, Nat.le_of_ble_eq_true rfl⟩) hK hZ hH (by decide) rfl rfl rfl hl.1 rfl (Nat.le_of_ble_eq_true rfl) ⟨Nat.zero_le _, Nat.zero_le _⟩ dX6_carryAll_76 (fun w20 z20 H locs hp hH => ?_)
  have hJ := jJ_tr hJ hp.1 (by decide) (by decide) (by decide)
  have i20 := hp.2.1
  obtain rfl : w20 = 46 := iv_one i20 (by decide)
  have f20_0 := hp.2.2
  have hA20 := hp.1.2
  refine lv_istore_n (lv' := [(2, .int 46), (0, .ref (q 0)), (1, .int 0)]) hx hb dX6_carryAll_79 rfl hl (by decide) rfl (fun ls hl => ?_)
  refine lv_aload_n hx hb dX6_carryAll_80 rfl (lv_at hl 1 rfl) ?_
  refine lv_aload_n hx hb dX6_carryAll_81 rfl (lv_at hl 1 rfl) ?_
  refine b_get (ci := 6) (C := RX6) (T := TX6) (Nf := 29) (v := .ref (q 4)) hx hb hts in_X6_carryAll_X6 hown hK hH 0 (by decide) rfl rfl 4 (by decide) (hts (.fieldLink RX6 19 "StationLineModel" "pairs" "[I") (List.mem_of_getElem? (i := 8) rfl)) rfl dX6_carryAll_82 ?_
  refine lv_bipush (v := 100) hx hb dX6_carryAll_85 (by decide) ?_
  refine lv_iload_n hx hb dX6_carryAll_87 rfl (lv_at hl 0 rfl) ?_
  refine lv_iload_n hx hb dX6_carryAll_88 rfl (lv_at hl 2 rfl) ?_
  refine b_calli (As := [.ref (q 4), .int 100, .int 46, .int 0]) (rest := []) ⟨hx, hb, hml, hown, hts⟩ 0 6 (g_X6_carry_0_4_0 l D cy q hH.2.1 z20 hJ.1 ) (cwV 4 hts gX6_carryAll_X6_carry rfl rfl rfl (by decide +kernel) ⟨Nat.le_of_ble_eq_true rfl, Nat.le_of_ble_eq_true rfl⟩) hK hZ hH (by decide) rfl rfl rfl hl.1 rfl (Nat.le_of_ble_eq_true rfl) ⟨Nat.zero_le _, Nat.zero_le _⟩ dX6_carryAll_89 (fun w21 z21 H locs hp hH => ?_)
  have hJ := jJ_tr hJ hp.1 (by decide) (by decide) (by decide)
  have i21 := hp.2.1
  obtain rfl : w21 = 146 := iv_one i21 (by decide)
  have f21_0 := hp.2.2
  have hA21 := hp.1.2
  refine lv_istore_n (lv' := [(2, .int 146), (0, .ref (q 0)), (1, .int 0)]) hx hb dX6_carryAll_92 rfl hl (by decide) rfl (fun ls hl => ?_)
  refine lv_aload_n hx hb dX6_carryAll_93 rfl (lv_at hl 1 rfl) ?_
  refine lv_aload_n hx hb dX6_carryAll_94 rfl (lv_at hl 1 rfl) ?_
  refine b_get (ci := 6) (C := RX6) (T := TX6) (Nf := 29) (v := .ref (q 5)) hx hb hts in_X6_carryAll_X6 hown hK hH 0 (by decide) rfl rfl 5 (by decide) (hts (.fieldLink RX6 22 "StationLineModel" "held" "[I") (List.mem_of_getElem? (i := 9) rfl)) rfl dX6_carryAll_95 ?_
  refine lv_bipush (v := 10) hx hb dX6_carryAll_98 (by decide) ?_
  refine lv_iload_n hx hb dX6_carryAll_100 rfl (lv_at hl 0 rfl) ?_
  refine lv_iload_n hx hb dX6_carryAll_101 rfl (lv_at hl 2 rfl) ?_
  refine b_calli (As := [.ref (q 5), .int 10, .int 146, .int 0]) (rest := []) ⟨hx, hb, hml, hown, hts⟩ 0 6 (g_X6_carry_0_5_0 l D cy q hH.2.1 z21 hJ.1 ) (cwV 4 hts gX6_carryAll_X6_carry rfl rfl rfl (by decide +kernel) ⟨Nat.le_of_ble_eq_true rfl, Nat.le_of_ble_eq_true rfl⟩) hK hZ hH (by decide) rfl rfl rfl hl.1 rfl (Nat.le_of_ble_eq_true rfl) ⟨Nat.zero_le _, Nat.zero_le _⟩ dX6_carryAll_102 (fun w22 z22 H locs hp hH => ?_)
  have hJ := jJ_tr hJ hp.1 (by decide) (by decide) (by decide)
  have i22 := hp.2.1
  obtain rfl : w22 = 156 := iv_one i22 (by decide)
  have f22_0 := hp.2.2
  have hA22 := hp.1.2
  refine lv_istore_n (lv' := [(2, .int 156), (0, .ref (q 0)), (1, .int 0)]) hx hb dX6_carryAll_105 rfl hl (by decide) rfl (fun ls hl => ?_)
  refine lv_aload_n hx hb dX6_carryAll_106 rfl (lv_at hl 1 rfl) ?_
  refine lv_aload_n hx hb dX6_carryAll_107 rfl (lv_at hl 1 rfl) ?_
  refine b_get (ci := 6) (C := RX6) (T := TX6) (Nf := 29) (v := .ref (q 6)) hx hb hts in_X6_carryAll_X6 hown hK hH 0 (by decide) rfl rfl 6 (by decide) (hts (.fieldLink RX6 25 "StationLineModel" "hand" "[I") (List.mem_of_getElem? (i := 10) rfl)) rfl dX6_carryAll_108 ?_
  refine lv_bipush (v := 10) hx hb dX6_carryAll_111 (by decide) ?_
  refine lv_iload_n hx hb dX6_carryAll_113 rfl (lv_at hl 0 rfl) ?_
  refine lv_iload_n hx hb dX6_carryAll_114 rfl (lv_at hl 2 rfl) ?_
  refine b_calli (As := [.ref (q 6), .int 10, .int 156, .int 0]) (rest := []) ⟨hx, hb, hml, hown, hts⟩ 0 6 (g_X6_carry_0_6_0 l D cy q hH.2.1 z22 hJ.1 ) (cwV 4 hts gX6_carryAll_X6_carry rfl rfl rfl (by decide +kernel) ⟨Nat.le_of_ble_eq_true rfl, Nat.le_of_ble_eq_true rfl⟩) hK hZ hH (by decide) rfl rfl rfl hl.1 rfl (Nat.le_of_ble_eq_true rfl) ⟨Nat.zero_le _, Nat.zero_le _⟩ dX6_carryAll_115 (fun w23 z23 H locs hp hH => ?_)
  have hJ := jJ_tr hJ hp.1 (by decide) (by decide) (by decide)
  have i23 := hp.2.1
  obtain rfl : w23 = 166 := iv_one i23 (by decide)
  have f23_0 := hp.2.2
  have hA23 := hp.1.2
  refine lv_istore_n (lv' := [(2, .int 166), (0, .ref (q 0)), (1, .int 0)]) hx hb dX6_carryAll_118 rfl hl (by decide) rfl (fun ls hl => ?_)
  refine lv_aload_n hx hb dX6_carryAll_119 rfl (lv_at hl 1 rfl) ?_
  refine lv_aload_n hx hb dX6_carryAll_120 rfl (lv_at hl 1 rfl) ?_
  refine b_get (ci := 6) (C := RX6) (T := TX6) (Nf := 29) (v := .ref (q 22)) hx hb hts in_X6_carryAll_X6 hown hK hH 0 (by decide) rfl rfl 28 (by decide) (hts (.fieldLink RX6 79 "StationLineModel" "some" "[I") (List.mem_of_getElem? (i := 1) rfl)) rfl dX6_carryAll_121 ?_
  refine lv_iconst (v := 0) hx hb dX6_carryAll_124 (by decide) ?_
  refine b_iald (v := z23.2.1 22 0) hx hb hK hH 22 (by decide) rfl (by unfold vp_in; decide) rfl dX6_carryAll_125 ?_
  refine b_put (ci := 6) (C := RX6) (T := TX6) (Nf := 29) (v := .int (z23.2.1 22 0)) (ty := .int) hx hb hts in_X6_carryAll_X6 tyX6 tyX6_ok nmX6 hown hK hH 0 (by decide) rfl rfl 0 (by decide) (hts (.fieldLink RX6 85 "StationLineModel" "tasks" "I") (List.mem_of_getElem? (i := 2) rfl)) rfl (by decide +kernel) rfl rfl (Nat.le_of_ble_eq_true rfl) (upS z23 0 (z23.2.1 22 0)) rfl (enM_S0 _ _ _ _) dX6_carryAll_126 (fun H locs hH => ?_)
  obtain ⟨z24, hz24⟩ : ∃ w : zS, w = upS z23 0 (z23.2.1 22 0) := ⟨_, rfl⟩
  rw [← hz24] at hH
  have hJ : jJ TrM 7 4194560 0 z0 z24 := by rw [hz24]; exact jJ_S hJ (by decide) (TrM_S0 hJ.1)
  refine lv_aload_n hx hb dX6_carryAll_129 rfl (lv_at hl 1 rfl) ?_
  refine lv_aload_n hx hb dX6_carryAll_130 rfl (lv_at hl 1 rfl) ?_
  refine b_get (ci := 6) (C := RX6) (T := TX6) (Nf := 29) (v := .ref (q 22)) hx hb hts in_X6_carryAll_X6 hown hK hH 0 (by decide) rfl rfl 28 (by decide) (hts (.fieldLink RX6 79 "StationLineModel" "some" "[I") (List.mem_of_getElem? (i := 1) rfl)) rfl dX6_carryAll_131 ?_
  refine lv_iconst (v := 1) hx hb dX6_carryAll_134 (by decide) ?_
  refine b_iald (v := z24.2.1 22 1) hx hb hK hH 22 (by decide) rfl (by unfold vp_in; decide) rfl dX6_carryAll_135 ?_
  refine b_put (ci := 6) (C := RX6) (T := TX6) (Nf := 29) (v := .int (z24.2.1 22 1)) (ty := .int) hx hb hts in_X6_carryAll_X6 tyX6 tyX6_ok nmX6 hown hK hH 0 (by decide) rfl rfl 7 (by decide) (hts (.fieldLink RX6 113 "StationLineModel" "kind" "I") (List.mem_of_getElem? (i := 3) rfl)) rfl (by decide +kernel) rfl rfl (Nat.le_of_ble_eq_true rfl) (upS z24 1 (z24.2.1 22 1)) rfl (enM_S1 _ _ _ _) dX6_carryAll_136 (fun H locs hH => ?_)
  obtain ⟨z25, hz25⟩ : ∃ w : zS, w = upS z24 1 (z24.2.1 22 1) := ⟨_, rfl⟩
  rw [← hz25] at hH
  have hJ : jJ TrM 7 4194560 0 z0 z25 := by rw [hz25]; exact jJ_S hJ (by decide) (TrM_S1 hJ.1)
  refine lv_aload_n hx hb dX6_carryAll_139 rfl (lv_at hl 1 rfl) ?_
  refine lv_aload_n hx hb dX6_carryAll_140 rfl (lv_at hl 1 rfl) ?_
  refine b_get (ci := 6) (C := RX6) (T := TX6) (Nf := 29) (v := .ref (q 22)) hx hb hts in_X6_carryAll_X6 hown hK hH 0 (by decide) rfl rfl 28 (by decide) (hts (.fieldLink RX6 79 "StationLineModel" "some" "[I") (List.mem_of_getElem? (i := 1) rfl)) rfl dX6_carryAll_141 ?_
  refine lv_iconst (v := 2) hx hb dX6_carryAll_144 (by decide) ?_
  refine b_iald (v := z25.2.1 22 2) hx hb hK hH 22 (by decide) rfl (by unfold vp_in; decide) rfl dX6_carryAll_145 ?_
  refine b_put (ci := 6) (C := RX6) (T := TX6) (Nf := 29) (v := .int (z25.2.1 22 2)) (ty := .int) hx hb hts in_X6_carryAll_X6 tyX6 tyX6_ok nmX6 hown hK hH 0 (by decide) rfl rfl 8 (by decide) (hts (.fieldLink RX6 28 "StationLineModel" "beat" "I") (List.mem_of_getElem? (i := 4) rfl)) rfl (by decide +kernel) rfl rfl (Nat.le_of_ble_eq_true rfl) (upS z25 2 (z25.2.1 22 2)) rfl (enM_S2 _ _ _ _) dX6_carryAll_146 (fun H locs hH => ?_)
  obtain ⟨z26, hz26⟩ : ∃ w : zS, w = upS z25 2 (z25.2.1 22 2) := ⟨_, rfl⟩
  rw [← hz26] at hH
  have hJ : jJ TrM 7 4194560 0 z0 z26 := by rw [hz26]; exact jJ_S hJ (by decide) (TrM_S2 hJ.1)
  exact hret z26 H locs _ _ ⟨hJ, (car_0 hz14 hz15 hz16 f17_0 f18_0 f19_0 f20_0 f21_0 f22_0 f23_0 hz24 hz25 hz26)⟩ hH dX6_carryAll_149
set_option maxHeartbeats 4000000 in
set_option maxRecDepth 100000 in
theorem g_X6_carryAll_0_1 (l : Launch) (D : va_G) (cy : Nat → ClassId) (q : Nat → Nat) (hq : bJ 23 q) (z0 : zS) (hI : TrM z0)  : bCv l yX6_carryAll wsX6_carryAll ({ frames := 1, cells := 0, slots := 0, locals := 25 }) D cy 23 (enM cy) q z0 [.ref (q 0), .int 1] (fun z => jJ TrM 7 4194430 0 z0 z ∧ (CAR1 z0 z)) := by
  refine hM_v cX6_carryAll (by decide) rfl (own := RX6) rfl hq (Nat.le_of_ble_eq_true rfl) ?_
  intro p e s m args below meth c Q ls H locs hx hb hml hown hts hK hZ hH hl hret
  have hl : lv_has ls 3 [(0, .ref (q 0)), (1, .int 1)] := hl
  have hJ : jJ TrM 7 4194430 0 z0 z0 := jJ_rf _ _ _ hI
  refine lv_aload_n hx hb dX6_carryAll_0 rfl (lv_at hl 0 rfl) ?_
  refine b_get (ci := 6) (C := RX6) (T := TX6) (Nf := 29) (v := .ref (q 22)) hx hb hts in_X6_carryAll_X6 hown hK hH 0 (by decide) rfl rfl 28 (by decide) (hts (.fieldLink RX6 79 "StationLineModel" "some" "[I") (List.mem_of_getElem? (i := 1) rfl)) rfl dX6_carryAll_1 ?_
  refine lv_iconst (v := 0) hx hb dX6_carryAll_4 (by decide) ?_
  refine lv_aload_n hx hb dX6_carryAll_5 rfl (lv_at hl 0 rfl) ?_
  refine b_get (ci := 6) (C := RX6) (T := TX6) (Nf := 29) (v := .int (z0.1 0)) hx hb hts in_X6_carryAll_X6 hown hK hH 0 (by decide) rfl rfl 0 (by decide) (hts (.fieldLink RX6 85 "StationLineModel" "tasks" "I") (List.mem_of_getElem? (i := 2) rfl)) rfl dX6_carryAll_6 ?_
  refine b_iast hx hb hK hH 22 (by decide) rfl (by unfold vp_in; decide) (upA z0 22 (upd (z0.2.1 22) (0 : Int32).toNatClampNeg (z0.1 0))) rfl (enM_A _ _ _ _ _) dX6_carryAll_9 (fun H locs hH => ?_)
  obtain ⟨z14, hz14⟩ : ∃ w : zS, w = upA z0 22 (upd (z0.2.1 22) (0 : Int32).toNatClampNeg (z0.1 0)) := ⟨_, rfl⟩
  rw [← hz14] at hH
  have hJ : jJ TrM 7 4194430 0 z0 z14 := by rw [hz14]; exact jJ_A hJ (by decide) (TrM_A hJ.1 (by decide))
  refine lv_aload_n hx hb dX6_carryAll_10 rfl (lv_at hl 0 rfl) ?_
  refine b_get (ci := 6) (C := RX6) (T := TX6) (Nf := 29) (v := .ref (q 22)) hx hb hts in_X6_carryAll_X6 hown hK hH 0 (by decide) rfl rfl 28 (by decide) (hts (.fieldLink RX6 79 "StationLineModel" "some" "[I") (List.mem_of_getElem? (i := 1) rfl)) rfl dX6_carryAll_11 ?_
  refine lv_iconst (v := 1) hx hb dX6_carryAll_14 (by decide) ?_
  refine lv_aload_n hx hb dX6_carryAll_15 rfl (lv_at hl 0 rfl) ?_
  refine b_get (ci := 6) (C := RX6) (T := TX6) (Nf := 29) (v := .int (z14.1 1)) hx hb hts in_X6_carryAll_X6 hown hK hH 0 (by decide) rfl rfl 7 (by decide) (hts (.fieldLink RX6 113 "StationLineModel" "kind" "I") (List.mem_of_getElem? (i := 3) rfl)) rfl dX6_carryAll_16 ?_
  refine b_iast hx hb hK hH 22 (by decide) rfl (by unfold vp_in; decide) (upA z14 22 (upd (z14.2.1 22) (1 : Int32).toNatClampNeg (z14.1 1))) rfl (enM_A _ _ _ _ _) dX6_carryAll_19 (fun H locs hH => ?_)
  obtain ⟨z15, hz15⟩ : ∃ w : zS, w = upA z14 22 (upd (z14.2.1 22) (1 : Int32).toNatClampNeg (z14.1 1)) := ⟨_, rfl⟩
  rw [← hz15] at hH
  have hJ : jJ TrM 7 4194430 0 z0 z15 := by rw [hz15]; exact jJ_A hJ (by decide) (TrM_A hJ.1 (by decide))
  refine lv_aload_n hx hb dX6_carryAll_20 rfl (lv_at hl 0 rfl) ?_
  refine b_get (ci := 6) (C := RX6) (T := TX6) (Nf := 29) (v := .ref (q 22)) hx hb hts in_X6_carryAll_X6 hown hK hH 0 (by decide) rfl rfl 28 (by decide) (hts (.fieldLink RX6 79 "StationLineModel" "some" "[I") (List.mem_of_getElem? (i := 1) rfl)) rfl dX6_carryAll_21 ?_
  refine lv_iconst (v := 2) hx hb dX6_carryAll_24 (by decide) ?_
  refine lv_aload_n hx hb dX6_carryAll_25 rfl (lv_at hl 0 rfl) ?_
  refine b_get (ci := 6) (C := RX6) (T := TX6) (Nf := 29) (v := .int (z15.1 2)) hx hb hts in_X6_carryAll_X6 hown hK hH 0 (by decide) rfl rfl 8 (by decide) (hts (.fieldLink RX6 28 "StationLineModel" "beat" "I") (List.mem_of_getElem? (i := 4) rfl)) rfl dX6_carryAll_26 ?_
  refine b_iast hx hb hK hH 22 (by decide) rfl (by unfold vp_in; decide) (upA z15 22 (upd (z15.2.1 22) (2 : Int32).toNatClampNeg (z15.1 2))) rfl (enM_A _ _ _ _ _) dX6_carryAll_29 (fun H locs hH => ?_)
  obtain ⟨z16, hz16⟩ : ∃ w : zS, w = upA z15 22 (upd (z15.2.1 22) (2 : Int32).toNatClampNeg (z15.1 2)) := ⟨_, rfl⟩
  rw [← hz16] at hH
  have hJ : jJ TrM 7 4194430 0 z0 z16 := by rw [hz16]; exact jJ_A hJ (by decide) (TrM_A hJ.1 (by decide))
  refine lv_aload_n hx hb dX6_carryAll_30 rfl (lv_at hl 0 rfl) ?_
  refine lv_aload_n hx hb dX6_carryAll_31 rfl (lv_at hl 0 rfl) ?_
  refine b_get (ci := 6) (C := RX6) (T := TX6) (Nf := 29) (v := .ref (q 22)) hx hb hts in_X6_carryAll_X6 hown hK hH 0 (by decide) rfl rfl 28 (by decide) (hts (.fieldLink RX6 79 "StationLineModel" "some" "[I") (List.mem_of_getElem? (i := 1) rfl)) rfl dX6_carryAll_32 ?_
  refine lv_iconst (v := 3) hx hb dX6_carryAll_35 (by decide) ?_
  refine lv_iconst (v := 0) hx hb dX6_carryAll_36 (by decide) ?_
  refine lv_iload_n hx hb dX6_carryAll_37 rfl (lv_at hl 1 rfl) ?_
  refine b_calli (As := [.ref (q 22), .int 3, .int 0, .int 1]) (rest := []) ⟨hx, hb, hml, hown, hts⟩ 0 6 (g_X6_carry_0_22_1 l D cy q hH.2.1 z16 hJ.1 ) (cwV 4 hts gX6_carryAll_X6_carry rfl rfl rfl (by decide +kernel) ⟨Nat.le_of_ble_eq_true rfl, Nat.le_of_ble_eq_true rfl⟩) hK hZ hH (by decide) rfl rfl rfl hl.1 rfl (Nat.le_of_ble_eq_true rfl) ⟨Nat.zero_le _, Nat.zero_le _⟩ dX6_carryAll_38 (fun w17 z17 H locs hp hH => ?_)
  have hJ := jJ_tr hJ hp.1 (by decide) (by decide) (by decide)
  have i17 := hp.2.1
  obtain rfl : w17 = 3 := iv_one i17 (by decide)
  have f17_0 := hp.2.2
  have hA17 := hp.1.2
  refine lv_istore_n (lv' := [(2, .int 3), (0, .ref (q 0)), (1, .int 1)]) hx hb dX6_carryAll_41 rfl hl (by decide) rfl (fun ls hl => ?_)
  refine lv_aload_n hx hb dX6_carryAll_42 rfl (lv_at hl 1 rfl) ?_
  refine lv_aload_n hx hb dX6_carryAll_43 rfl (lv_at hl 1 rfl) ?_
  refine b_get (ci := 6) (C := RX6) (T := TX6) (Nf := 29) (v := .ref (q 1)) hx hb hts in_X6_carryAll_X6 hown hK hH 0 (by decide) rfl rfl 1 (by decide) (hts (.fieldLink RX6 7 "StationLineModel" "times" "[I") (List.mem_of_getElem? (i := 5) rfl)) rfl dX6_carryAll_44 ?_
  refine lv_bipush (v := 30) hx hb dX6_carryAll_47 (by decide) ?_
  refine lv_iload_n hx hb dX6_carryAll_49 rfl (lv_at hl 0 rfl) ?_
  refine lv_iload_n hx hb dX6_carryAll_50 rfl (lv_at hl 2 rfl) ?_
  refine b_calli (As := [.ref (q 1), .int 30, .int 3, .int 1]) (rest := []) ⟨hx, hb, hml, hown, hts⟩ 0 6 (g_X6_carry_0_1_1 l D cy q hH.2.1 z17 hJ.1 ) (cwV 4 hts gX6_carryAll_X6_carry rfl rfl rfl (by decide +kernel) ⟨Nat.le_of_ble_eq_true rfl, Nat.le_of_ble_eq_true rfl⟩) hK hZ hH (by decide) rfl rfl rfl hl.1 rfl (Nat.le_of_ble_eq_true rfl) ⟨Nat.zero_le _, Nat.zero_le _⟩ dX6_carryAll_51 (fun w18 z18 H locs hp hH => ?_)
  have hJ := jJ_tr hJ hp.1 (by decide) (by decide) (by decide)
  have i18 := hp.2.1
  obtain rfl : w18 = 33 := iv_one i18 (by decide)
  have f18_0 := hp.2.2
  have hA18 := hp.1.2
  refine lv_istore_n (lv' := [(2, .int 33), (0, .ref (q 0)), (1, .int 1)]) hx hb dX6_carryAll_54 rfl hl (by decide) rfl (fun ls hl => ?_)
  refine lv_aload_n hx hb dX6_carryAll_55 rfl (lv_at hl 1 rfl) ?_
  refine lv_aload_n hx hb dX6_carryAll_56 rfl (lv_at hl 1 rfl) ?_
  refine b_get (ci := 6) (C := RX6) (T := TX6) (Nf := 29) (v := .ref (q 2)) hx hb hts in_X6_carryAll_X6 hown hK hH 0 (by decide) rfl rfl 2 (by decide) (hts (.fieldLink RX6 13 "StationLineModel" "shares" "[I") (List.mem_of_getElem? (i := 6) rfl)) rfl dX6_carryAll_57 ?_
  refine lv_iconst (v := 3) hx hb dX6_carryAll_60 (by decide) ?_
  refine lv_iload_n hx hb dX6_carryAll_61 rfl (lv_at hl 0 rfl) ?_
  refine lv_iload_n hx hb dX6_carryAll_62 rfl (lv_at hl 2 rfl) ?_
  refine b_calli (As := [.ref (q 2), .int 3, .int 33, .int 1]) (rest := []) ⟨hx, hb, hml, hown, hts⟩ 0 6 (g_X6_carry_0_2_1 l D cy q hH.2.1 z18 hJ.1 ) (cwV 4 hts gX6_carryAll_X6_carry rfl rfl rfl (by decide +kernel) ⟨Nat.le_of_ble_eq_true rfl, Nat.le_of_ble_eq_true rfl⟩) hK hZ hH (by decide) rfl rfl rfl hl.1 rfl (Nat.le_of_ble_eq_true rfl) ⟨Nat.zero_le _, Nat.zero_le _⟩ dX6_carryAll_63 (fun w19 z19 H locs hp hH => ?_)
  have hJ := jJ_tr hJ hp.1 (by decide) (by decide) (by decide)
  have i19 := hp.2.1
  obtain rfl : w19 = 36 := iv_one i19 (by decide)
  have f19_0 := hp.2.2
  have hA19 := hp.1.2
  refine lv_istore_n (lv' := [(2, .int 36), (0, .ref (q 0)), (1, .int 1)]) hx hb dX6_carryAll_66 rfl hl (by decide) rfl (fun ls hl => ?_)
  refine lv_aload_n hx hb dX6_carryAll_67 rfl (lv_at hl 1 rfl) ?_
  refine lv_aload_n hx hb dX6_carryAll_68 rfl (lv_at hl 1 rfl) ?_
  refine b_get (ci := 6) (C := RX6) (T := TX6) (Nf := 29) (v := .ref (q 3)) hx hb hts in_X6_carryAll_X6 hown hK hH 0 (by decide) rfl rfl 3 (by decide) (hts (.fieldLink RX6 16 "StationLineModel" "straight" "[I") (List.mem_of_getElem? (i := 7) rfl)) rfl dX6_carryAll_69 ?_
  refine lv_bipush (v := 10) hx hb dX6_carryAll_72 (by decide) ?_
  refine lv_iload_n hx hb dX6_carryAll_74 rfl (lv_at hl 0 rfl) ?_
  refine lv_iload_n hx hb dX6_carryAll_75 rfl (lv_at hl 2 rfl) ?_
  refine b_calli (As := [.ref (q 3), .int 10, .int 36, .int 1]) (rest := []) ⟨hx, hb, hml, hown, hts⟩ 0 6 (g_X6_carry_0_3_1 l D cy q hH.2.1 z19 hJ.1 ) (cwV 4 hts gX6_carryAll_X6_carry rfl rfl rfl (by decide +kernel) ⟨Nat.le_of_ble_eq_true rfl, Nat.le_of_ble_eq_true rfl⟩) hK hZ hH (by decide) rfl rfl rfl hl.1 rfl (Nat.le_of_ble_eq_true rfl) ⟨Nat.zero_le _, Nat.zero_le _⟩ dX6_carryAll_76 (fun w20 z20 H locs hp hH => ?_)
  have hJ := jJ_tr hJ hp.1 (by decide) (by decide) (by decide)
  have i20 := hp.2.1
  obtain rfl : w20 = 46 := iv_one i20 (by decide)
  have f20_0 := hp.2.2
  have hA20 := hp.1.2
  refine lv_istore_n (lv' := [(2, .int 46), (0, .ref (q 0)), (1, .int 1)]) hx hb dX6_carryAll_79 rfl hl (by decide) rfl (fun ls hl => ?_)
  refine lv_aload_n hx hb dX6_carryAll_80 rfl (lv_at hl 1 rfl) ?_
  refine lv_aload_n hx hb dX6_carryAll_81 rfl (lv_at hl 1 rfl) ?_
  refine b_get (ci := 6) (C := RX6) (T := TX6) (Nf := 29) (v := .ref (q 4)) hx hb hts in_X6_carryAll_X6 hown hK hH 0 (by decide) rfl rfl 4 (by decide) (hts (.fieldLink RX6 19 "StationLineModel" "pairs" "[I") (List.mem_of_getElem? (i := 8) rfl)) rfl dX6_carryAll_82 ?_
  refine lv_bipush (v := 100) hx hb dX6_carryAll_85 (by decide) ?_
  refine lv_iload_n hx hb dX6_carryAll_87 rfl (lv_at hl 0 rfl) ?_
  refine lv_iload_n hx hb dX6_carryAll_88 rfl (lv_at hl 2 rfl) ?_
  refine b_calli (As := [.ref (q 4), .int 100, .int 46, .int 1]) (rest := []) ⟨hx, hb, hml, hown, hts⟩ 0 6 (g_X6_carry_0_4_1 l D cy q hH.2.1 z20 hJ.1 ) (cwV 4 hts gX6_carryAll_X6_carry rfl rfl rfl (by decide +kernel) ⟨Nat.le_of_ble_eq_true rfl, Nat.le_of_ble_eq_true rfl⟩) hK hZ hH (by decide) rfl rfl rfl hl.1 rfl (Nat.le_of_ble_eq_true rfl) ⟨Nat.zero_le _, Nat.zero_le _⟩ dX6_carryAll_89 (fun w21 z21 H locs hp hH => ?_)
  have hJ := jJ_tr hJ hp.1 (by decide) (by decide) (by decide)
  have i21 := hp.2.1
  obtain rfl : w21 = 146 := iv_one i21 (by decide)
  have f21_0 := hp.2.2
  have hA21 := hp.1.2
  refine lv_istore_n (lv' := [(2, .int 146), (0, .ref (q 0)), (1, .int 1)]) hx hb dX6_carryAll_92 rfl hl (by decide) rfl (fun ls hl => ?_)
  refine lv_aload_n hx hb dX6_carryAll_93 rfl (lv_at hl 1 rfl) ?_
  refine lv_aload_n hx hb dX6_carryAll_94 rfl (lv_at hl 1 rfl) ?_
  refine b_get (ci := 6) (C := RX6) (T := TX6) (Nf := 29) (v := .ref (q 5)) hx hb hts in_X6_carryAll_X6 hown hK hH 0 (by decide) rfl rfl 5 (by decide) (hts (.fieldLink RX6 22 "StationLineModel" "held" "[I") (List.mem_of_getElem? (i := 9) rfl)) rfl dX6_carryAll_95 ?_
  refine lv_bipush (v := 10) hx hb dX6_carryAll_98 (by decide) ?_
  refine lv_iload_n hx hb dX6_carryAll_100 rfl (lv_at hl 0 rfl) ?_
  refine lv_iload_n hx hb dX6_carryAll_101 rfl (lv_at hl 2 rfl) ?_
  refine b_calli (As := [.ref (q 5), .int 10, .int 146, .int 1]) (rest := []) ⟨hx, hb, hml, hown, hts⟩ 0 6 (g_X6_carry_0_5_1 l D cy q hH.2.1 z21 hJ.1 ) (cwV 4 hts gX6_carryAll_X6_carry rfl rfl rfl (by decide +kernel) ⟨Nat.le_of_ble_eq_true rfl, Nat.le_of_ble_eq_true rfl⟩) hK hZ hH (by decide) rfl rfl rfl hl.1 rfl (Nat.le_of_ble_eq_true rfl) ⟨Nat.zero_le _, Nat.zero_le _⟩ dX6_carryAll_102 (fun w22 z22 H locs hp hH => ?_)
  have hJ := jJ_tr hJ hp.1 (by decide) (by decide) (by decide)
  have i22 := hp.2.1
  obtain rfl : w22 = 156 := iv_one i22 (by decide)
  have f22_0 := hp.2.2
  have hA22 := hp.1.2
  refine lv_istore_n (lv' := [(2, .int 156), (0, .ref (q 0)), (1, .int 1)]) hx hb dX6_carryAll_105 rfl hl (by decide) rfl (fun ls hl => ?_)
  refine lv_aload_n hx hb dX6_carryAll_106 rfl (lv_at hl 1 rfl) ?_
  refine lv_aload_n hx hb dX6_carryAll_107 rfl (lv_at hl 1 rfl) ?_
  refine b_get (ci := 6) (C := RX6) (T := TX6) (Nf := 29) (v := .ref (q 6)) hx hb hts in_X6_carryAll_X6 hown hK hH 0 (by decide) rfl rfl 6 (by decide) (hts (.fieldLink RX6 25 "StationLineModel" "hand" "[I") (List.mem_of_getElem? (i := 10) rfl)) rfl dX6_carryAll_108 ?_
  refine lv_bipush (v := 10) hx hb dX6_carryAll_111 (by decide) ?_
  refine lv_iload_n hx hb dX6_carryAll_113 rfl (lv_at hl 0 rfl) ?_
  refine lv_iload_n hx hb dX6_carryAll_114 rfl (lv_at hl 2 rfl) ?_
  refine b_calli (As := [.ref (q 6), .int 10, .int 156, .int 1]) (rest := []) ⟨hx, hb, hml, hown, hts⟩ 0 6 (g_X6_carry_0_6_1 l D cy q hH.2.1 z22 hJ.1 ) (cwV 4 hts gX6_carryAll_X6_carry rfl rfl rfl (by decide +kernel) ⟨Nat.le_of_ble_eq_true rfl, Nat.le_of_ble_eq_true rfl⟩) hK hZ hH (by decide) rfl rfl rfl hl.1 rfl (Nat.le_of_ble_eq_true rfl) ⟨Nat.zero_le _, Nat.zero_le _⟩ dX6_carryAll_115 (fun w23 z23 H locs hp hH => ?_)
  have hJ := jJ_tr hJ hp.1 (by decide) (by decide) (by decide)
  have i23 := hp.2.1
  obtain rfl : w23 = 166 := iv_one i23 (by decide)
  have f23_0 := hp.2.2
  have hA23 := hp.1.2
  refine lv_istore_n (lv' := [(2, .int 166), (0, .ref (q 0)), (1, .int 1)]) hx hb dX6_carryAll_118 rfl hl (by decide) rfl (fun ls hl => ?_)
  refine lv_aload_n hx hb dX6_carryAll_119 rfl (lv_at hl 1 rfl) ?_
  refine lv_aload_n hx hb dX6_carryAll_120 rfl (lv_at hl 1 rfl) ?_
  refine b_get (ci := 6) (C := RX6) (T := TX6) (Nf := 29) (v := .ref (q 22)) hx hb hts in_X6_carryAll_X6 hown hK hH 0 (by decide) rfl rfl 28 (by decide) (hts (.fieldLink RX6 79 "StationLineModel" "some" "[I") (List.mem_of_getElem? (i := 1) rfl)) rfl dX6_carryAll_121 ?_
  refine lv_iconst (v := 0) hx hb dX6_carryAll_124 (by decide) ?_
  refine b_iald (v := z23.2.1 22 0) hx hb hK hH 22 (by decide) rfl (by unfold vp_in; decide) rfl dX6_carryAll_125 ?_
  refine b_put (ci := 6) (C := RX6) (T := TX6) (Nf := 29) (v := .int (z23.2.1 22 0)) (ty := .int) hx hb hts in_X6_carryAll_X6 tyX6 tyX6_ok nmX6 hown hK hH 0 (by decide) rfl rfl 0 (by decide) (hts (.fieldLink RX6 85 "StationLineModel" "tasks" "I") (List.mem_of_getElem? (i := 2) rfl)) rfl (by decide +kernel) rfl rfl (Nat.le_of_ble_eq_true rfl) (upS z23 0 (z23.2.1 22 0)) rfl (enM_S0 _ _ _ _) dX6_carryAll_126 (fun H locs hH => ?_)
  obtain ⟨z24, hz24⟩ : ∃ w : zS, w = upS z23 0 (z23.2.1 22 0) := ⟨_, rfl⟩
  rw [← hz24] at hH
  have hJ : jJ TrM 7 4194430 0 z0 z24 := by rw [hz24]; exact jJ_S hJ (by decide) (TrM_S0 hJ.1)
  refine lv_aload_n hx hb dX6_carryAll_129 rfl (lv_at hl 1 rfl) ?_
  refine lv_aload_n hx hb dX6_carryAll_130 rfl (lv_at hl 1 rfl) ?_
  refine b_get (ci := 6) (C := RX6) (T := TX6) (Nf := 29) (v := .ref (q 22)) hx hb hts in_X6_carryAll_X6 hown hK hH 0 (by decide) rfl rfl 28 (by decide) (hts (.fieldLink RX6 79 "StationLineModel" "some" "[I") (List.mem_of_getElem? (i := 1) rfl)) rfl dX6_carryAll_131 ?_
  refine lv_iconst (v := 1) hx hb dX6_carryAll_134 (by decide) ?_
  refine b_iald (v := z24.2.1 22 1) hx hb hK hH 22 (by decide) rfl (by unfold vp_in; decide) rfl dX6_carryAll_135 ?_
  refine b_put (ci := 6) (C := RX6) (T := TX6) (Nf := 29) (v := .int (z24.2.1 22 1)) (ty := .int) hx hb hts in_X6_carryAll_X6 tyX6 tyX6_ok nmX6 hown hK hH 0 (by decide) rfl rfl 7 (by decide) (hts (.fieldLink RX6 113 "StationLineModel" "kind" "I") (List.mem_of_getElem? (i := 3) rfl)) rfl (by decide +kernel) rfl rfl (Nat.le_of_ble_eq_true rfl) (upS z24 1 (z24.2.1 22 1)) rfl (enM_S1 _ _ _ _) dX6_carryAll_136 (fun H locs hH => ?_)
  obtain ⟨z25, hz25⟩ : ∃ w : zS, w = upS z24 1 (z24.2.1 22 1) := ⟨_, rfl⟩
  rw [← hz25] at hH
  have hJ : jJ TrM 7 4194430 0 z0 z25 := by rw [hz25]; exact jJ_S hJ (by decide) (TrM_S1 hJ.1)
  refine lv_aload_n hx hb dX6_carryAll_139 rfl (lv_at hl 1 rfl) ?_
  refine lv_aload_n hx hb dX6_carryAll_140 rfl (lv_at hl 1 rfl) ?_
  refine b_get (ci := 6) (C := RX6) (T := TX6) (Nf := 29) (v := .ref (q 22)) hx hb hts in_X6_carryAll_X6 hown hK hH 0 (by decide) rfl rfl 28 (by decide) (hts (.fieldLink RX6 79 "StationLineModel" "some" "[I") (List.mem_of_getElem? (i := 1) rfl)) rfl dX6_carryAll_141 ?_
  refine lv_iconst (v := 2) hx hb dX6_carryAll_144 (by decide) ?_
  refine b_iald (v := z25.2.1 22 2) hx hb hK hH 22 (by decide) rfl (by unfold vp_in; decide) rfl dX6_carryAll_145 ?_
  refine b_put (ci := 6) (C := RX6) (T := TX6) (Nf := 29) (v := .int (z25.2.1 22 2)) (ty := .int) hx hb hts in_X6_carryAll_X6 tyX6 tyX6_ok nmX6 hown hK hH 0 (by decide) rfl rfl 8 (by decide) (hts (.fieldLink RX6 28 "StationLineModel" "beat" "I") (List.mem_of_getElem? (i := 4) rfl)) rfl (by decide +kernel) rfl rfl (Nat.le_of_ble_eq_true rfl) (upS z25 2 (z25.2.1 22 2)) rfl (enM_S2 _ _ _ _) dX6_carryAll_146 (fun H locs hH => ?_)
  obtain ⟨z26, hz26⟩ : ∃ w : zS, w = upS z25 2 (z25.2.1 22 2) := ⟨_, rfl⟩
  rw [← hz26] at hH
  have hJ : jJ TrM 7 4194430 0 z0 z26 := by rw [hz26]; exact jJ_S hJ (by decide) (TrM_S2 hJ.1)
  exact hret z26 H locs _ _ ⟨hJ, (car_1 hz14 hz15 hz16 f17_0 f18_0 f19_0 f20_0 f21_0 f22_0 f23_0 hz24 hz25 hz26)⟩ hH dX6_carryAll_149
theorem kp_ok {z : zS} {f : Nat → Int32} (h : IvM z) (k : KP z f) : KpOk f := by
  obtain ⟨k0, k1, k2, k3, k4, k5, k6, k7, k8⟩ := k
  refine ⟨k0 ▸ IvM_s0 h, k2 ▸ IvM_s2 h, fun i hi => (k3 i hi) ▸ IvM_a1 h i hi, fun i hi => (k4 i hi) ▸ IvM_a2 h i hi, ?_, fun i hi => (k8 i hi) ▸ IvM_a6 h i hi⟩
  have h0 := IvM_x0 h
  unfold ShOk at h0 ⊢
  show 1 ≤ (f (33 + 0)).toInt + (f (33 + 1)).toInt + (f (33 + 2)).toInt
  rw [k4 0 (by decide), k4 1 (by decide), k4 2 (by decide)]
  exact h0
theorem car0_inv {z z' : zS} (h : IvM z) (c : CAR0 z z') : IvM z' := by
  obtain ⟨c1, c2, c3, c4⟩ := c
  have r : ∀ k, k ≠ 8 → k ≠ 22 → z'.2.1 k = z.2.1 k := c3
  refine ⟨?_, ?_, ?_, ?_, ?_, ?_, ?_, ?_, ?_, ?_, ?_, Or.inr (kp_ok h c4)⟩
  · rw [c1]; exact IvM_s0 h
  · rw [c1]; exact IvM_s2 h
  · rw [c1]; exact IvM_s3 h
  · rw [c1]; exact IvM_s5 h
  · rw [r 1 (by decide) (by decide)]; exact IvM_a1 h
  · rw [r 2 (by decide) (by decide)]; exact IvM_a2 h
  · rw [r 6 (by decide) (by decide)]; exact IvM_a6 h
  · rw [r 10 (by decide) (by decide)]; exact IvM_a10 h
  · rw [r 16 (by decide) (by decide)]; exact IvM_a16 h
  · rw [r 21 (by decide) (by decide)]; exact IvM_a21 h
  · rw [r 2 (by decide) (by decide)]; exact IvM_x0 h
theorem car1_inv {z z' : zS} (h : IvM z) (kp : KpOk (z.2.1 8)) (c : CAR1 z z') : IvM z' := by
  obtain ⟨c1, c2, c3, k0, k1, k2, k3, k4, k5, k6, k7, k8⟩ := c
  obtain ⟨p0, p2, p3, p4, p5, p6⟩ := kp
  refine ⟨k0 ▸ p0, k2 ▸ p2, ?_, ?_, fun i hi => (k3 i hi) ▸ p3 i hi, fun i hi => (k4 i hi) ▸ p4 i hi, fun i hi => (k8 i hi) ▸ p6 i hi, ?_, ?_, ?_, ?_, ?_⟩
  · rw [c1 3 (by decide)]; exact IvM_s3 h
  · rw [c1 5 (by decide)]; exact IvM_s5 h
  · rw [c3 10 (by decide)]; exact IvM_a10 h
  · rw [c3 16 (by decide)]; exact IvM_a16 h
  · rw [c3 21 (by decide)]; exact IvM_a21 h
  · unfold ShOk at p5 ⊢
    rw [← k4 0 (by decide), ← k4 1 (by decide), ← k4 2 (by decide)]
    exact p5
  · rw [c1 4 (by decide), c3 8 (by decide)]; exact IvM_x1 h
theorem gi_X6_carryAll_0 (l : Launch) (D : va_G) (cy : Nat → ClassId) (q : Nat → Nat) (hq : bJ 23 q) (z0 : zS) (hI : IvM z0) : bCv l yX6_carryAll wsX6_carryAll ({ frames := 1, cells := 0, slots := 0, locals := 25 }) D cy 23 (enM cy) q z0 [.ref (q 0), .int 0] (fun z => jJ IvM 7 4194560 0 z0 z ∧ CAR0 z0 z) :=
  bCv_mono (g_X6_carryAll_0_0 l D cy q hq z0 trivial) (fun z h => ⟨⟨car0_inv hI h.2, h.1.2⟩, h.2⟩)
theorem gi_X6_carryAll_1 (l : Launch) (D : va_G) (cy : Nat → ClassId) (q : Nat → Nat) (hq : bJ 23 q) (z0 : zS) (hI : IvM z0) (hpre : KpOk (z0.2.1 8)) : bCv l yX6_carryAll wsX6_carryAll ({ frames := 1, cells := 0, slots := 0, locals := 25 }) D cy 23 (enM cy) q z0 [.ref (q 0), .int 1] (fun z => jJ IvM 7 4194430 0 z0 z ∧ CAR1 z0 z) :=
  bCv_mono (g_X6_carryAll_0_1 l D cy q hq z0 trivial) (fun z h => ⟨⟨car1_inv hI hpre h.2, h.1.2⟩, h.2⟩)
set_option maxHeartbeats 4000000 in
set_option maxRecDepth 100000 in
theorem g_X6_keep_0 (l : Launch) (D : va_G) (cy : Nat → ClassId) (q : Nat → Nat) (hq : bJ 23 q) (z0 : zS) (hI : IvM z0)  : bCi l yX6_keep wsX6_keep ({ frames := 2, cells := 0, slots := 0, locals := 47 }) D cy 23 (enM cy) q z0 [.ref (q 0)] (fun v z => jJ IvM 23 4194560 0 z0 z ∧ iv 0 10 v ∧ (v = z0.1 0 ∧ z.2.1 8 0 = z0.1 0 ∧ z.2.1 8 1 = z0.1 1 ∧ z.2.1 8 2 = z0.1 2 ∧ z.1 4 = 1 ∧ z.1 0 = z0.1 0 ∧ z.1 1 = z0.1 1 ∧ z.1 2 = z0.1 2) ∧ ((∀ i : Nat, i < 10 → z.2.1 8 (36 + i) = z0.2.1 3 i) ∧ (∀ i : Nat, i < 10 → z.2.1 8 (146 + i) = z0.2.1 5 i)) ∧ (SameT (fun a b => z0.2.1 1 (3 * b + a)) (fun a b => z.2.1 8 (3 + (3 * b + a)))) ∧ (SameP (fun x y => z0.2.1 4 (10 * x + y)) (fun x y => z.2.1 8 (46 + (10 * x + y))))) := by
  refine hM_i cX6_keep (by decide) rfl (own := RX6) rfl hq (Nat.le_of_ble_eq_true rfl) ?_
  intro p e s m args below meth c Q ls H locs hx hb hml hown hts hK hZ hH hl hret
  have hl : lv_has ls 1 [(0, .ref (q 0))] := hl
  have hJ : jJ IvM 23 4194560 0 z0 z0 := jJ_rf _ _ _ hI
  refine lv_aload_n hx hb dX6_keep_0 rfl (lv_at hl 0 rfl) ?_
  refine lv_iconst (v := 0) hx hb dX6_keep_1 (by decide) ?_
  refine b_callv (As := [.int 0]) (rest := []) ⟨hx, hb, hml, hown, hts⟩ 0 6 (gi_X6_carryAll_0 l D cy q hH.2.1 z0 hJ.1 ) (cwV 1 hts gX6_keep_X6_carryAll rfl rfl rfl (by decide +kernel) ⟨Nat.le_of_ble_eq_true rfl, Nat.le_of_ble_eq_true rfl⟩) hK hZ hH (by decide) rfl rfl rfl hl.1 rfl (Nat.le_of_ble_eq_true rfl) ⟨Nat.zero_le _, Nat.zero_le _⟩ dX6_keep_2 (fun z5 H locs hp hH => ?_)
  have hJ := jJ_tr hJ hp.1 (by decide) (by decide) (by decide)
  have f5_0 := hp.2
  have hA5 := hp.1.2
  refine lv_aload_n hx hb dX6_keep_5 rfl (lv_at hl 0 rfl) ?_
  refine lv_iconst (v := 1) hx hb dX6_keep_6 (by decide) ?_
  refine b_put (ci := 6) (C := RX6) (T := TX6) (Nf := 29) (v := .int 1) (ty := .boolean) hx hb hts in_X6_keep_X6 tyX6 tyX6_ok nmX6 hown hK hH 0 (by decide) rfl rfl 11 (by decide) (hts (.fieldLink RX6 212 "StationLineModel" "isKept" "Z") (List.mem_of_getElem? (i := 1) rfl)) rfl (by decide +kernel) rfl rfl (Nat.le_of_ble_eq_true rfl) (upS z5 4 1) rfl (enM_S4 _ _ _ _) dX6_keep_7 (fun H locs hH => ?_)
  obtain ⟨z6, hz6⟩ : ∃ w : zS, w = upS z5 4 1 := ⟨_, rfl⟩
  rw [← hz6] at hH
  have hJ : jJ IvM 23 4194560 0 z0 z6 := by rw [hz6]; exact jJ_S hJ (by decide) (IvM_S4 hJ.1 (Or.inr (kp_ok hI f5_0.2.2.2)))
  have g7 : iv 1 1 (z6.1 4) := by rw [hz6]; exact (iv_lit (n := 1) 1 (by decide))
  refine lv_aload_n hx hb dX6_keep_10 rfl (lv_at hl 0 rfl) ?_
  refine b_get (ci := 6) (C := RX6) (T := TX6) (Nf := 29) (v := .int (z6.1 0)) hx hb hts in_X6_keep_X6 hown hK hH 0 (by decide) rfl rfl 0 (by decide) (hts (.fieldLink RX6 85 "StationLineModel" "tasks" "I") (List.mem_of_getElem? (i := 2) rfl)) rfl dX6_keep_11 ?_
  have i8 := IvM_s0 hJ.1
  exact hret _ z6 H locs _ _ ⟨hJ, i8, ⟨(((show z6.1 0 = z5.1 0 by rw [hz6]; first | rfl | exact upA_n (by omega)))).trans (congrFun f5_0.1 0), (congrFun (((show z6.2.1 8 = z5.2.1 8 by rw [hz6]; first | rfl | exact upA_n (by omega)))) 0).trans f5_0.2.2.2.1, (congrFun (((show z6.2.1 8 = z5.2.1 8 by rw [hz6]; first | rfl | exact upA_n (by omega)))) 1).trans f5_0.2.2.2.2.1, (congrFun (((show z6.2.1 8 = z5.2.1 8 by rw [hz6]; first | rfl | exact upA_n (by omega)))) 2).trans f5_0.2.2.2.2.2.1, by rw [hz6]; rfl, (((show z6.1 0 = z5.1 0 by rw [hz6]; first | rfl | exact upA_n (by omega)))).trans (congrFun f5_0.1 0), (((show z6.1 1 = z5.1 1 by rw [hz6]; first | rfl | exact upA_n (by omega)))).trans (congrFun f5_0.1 1), (((show z6.1 2 = z5.1 2 by rw [hz6]; first | rfl | exact upA_n (by omega)))).trans (congrFun f5_0.1 2)⟩, ⟨fun i hi => (congrFun (((show z6.2.1 8 = z5.2.1 8 by rw [hz6]; first | rfl | exact upA_n (by omega)))) (36 + i)).trans (f5_0.2.2.2.2.2.2.2.2.1 i hi), fun i hi => (congrFun (((show z6.2.1 8 = z5.2.1 8 by rw [hz6]; first | rfl | exact upA_n (by omega)))) (146 + i)).trans (f5_0.2.2.2.2.2.2.2.2.2.2.1 i hi)⟩, (kp_T (fun i hi => (congrFun (((show z6.2.1 8 = z5.2.1 8 by rw [hz6]; first | rfl | exact upA_n (by omega)))) (3 + i)).trans (f5_0.2.2.2.2.2.2.1 i hi))), (kp_P (fun i hi => (congrFun (((show z6.2.1 8 = z5.2.1 8 by rw [hz6]; first | rfl | exact upA_n (by omega)))) (46 + i)).trans (f5_0.2.2.2.2.2.2.2.2.2.1 i hi)))⟩ hH dX6_keep_14
set_option maxHeartbeats 4000000 in
set_option maxRecDepth 100000 in
theorem g_X6_back_0 (l : Launch) (D : va_G) (cy : Nat → ClassId) (q : Nat → Nat) (hq : bJ 23 q) (z0 : zS) (hI : IvM z0)  : bCi l yX6_back wsX6_back ({ frames := 2, cells := 0, slots := 0, locals := 47 }) D cy 23 (enM cy) q z0 [.ref (q 0)] (fun v z => jJ IvM 71 4194430 0 z0 z ∧ iv (-2147483648) 2147483647 v ∧ ((z0.1 4 = 0 → v = -10 ∧ z.1 0 = z0.1 0 ∧ z.1 1 = z0.1 1 ∧ z.1 2 = z0.1 2) ∧ (¬ z0.1 4 = 0 → v = z0.2.1 8 0 ∧ z.1 0 = z0.2.1 8 0 ∧ z.1 1 = z0.2.1 8 1 ∧ z.1 2 = z0.2.1 8 2 ∧ z.2.1 8 = z0.2.1 8)) ∧ (BkR (z0.1 4) (z0.2.1 3) (fun i => z0.2.1 8 (36 + i)) (z.2.1 3) ∧ BkR (z0.1 4) (z0.2.1 5) (fun i => z0.2.1 8 (146 + i)) (z.2.1 5)) ∧ (BkT (z0.1 4) (fun a b => z0.2.1 1 (3 * b + a)) (fun a b => z0.2.1 8 (3 + (3 * b + a))) (fun a b => z.2.1 1 (3 * b + a))) ∧ (BkM (z0.1 4) (fun x y => z0.2.1 4 (10 * x + y)) (fun x y => z0.2.1 8 (46 + (10 * x + y))) (fun x y => z.2.1 4 (10 * x + y)))) := by
  refine hM_i cX6_back (by decide) rfl (own := RX6) rfl hq (Nat.le_of_ble_eq_true rfl) ?_
  intro p e s m args below meth c Q ls H locs hx hb hml hown hts hK hZ hH hl hret
  have hl : lv_has ls 1 [(0, .ref (q 0))] := hl
  have hJ : jJ IvM 71 4194430 0 z0 z0 := jJ_rf _ _ _ hI
  refine lv_aload_n hx hb dX6_back_0 rfl (lv_at hl 0 rfl) ?_
  refine b_get (ci := 6) (C := RX6) (T := TX6) (Nf := 29) (v := .int (z0.1 4)) hx hb hts in_X6_back_X6 hown hK hH 0 (by decide) rfl rfl 11 (by decide) (hts (.fieldLink RX6 212 "StationLineModel" "isKept" "Z") (List.mem_of_getElem? (i := 1) rfl)) rfl dX6_back_1 ?_
  refine lv_if_ne (tgt := 14) hx hb dX6_back_4 (by decide) (fun c8 => ?_) (fun c8 => ?_)
  · skip
    refine lv_aload_n hx hb dX6_back_14 rfl (lv_at hl 0 rfl) ?_
    refine lv_iconst (v := 1) hx hb dX6_back_15 (by decide) ?_
    refine b_callv (As := [.int 1]) (rest := []) ⟨hx, hb, hml, hown, hts⟩ 0 6 (gi_X6_carryAll_1 l D cy q hH.2.1 z0 hJ.1 ((IvM_x1 hJ.1).resolve_left c8)) (cwV 1 hts gX6_back_X6_carryAll rfl rfl rfl (by decide +kernel) ⟨Nat.le_of_ble_eq_true rfl, Nat.le_of_ble_eq_true rfl⟩) hK hZ hH (by decide) rfl rfl rfl hl.1 rfl (Nat.le_of_ble_eq_true rfl) ⟨Nat.zero_le _, Nat.zero_le _⟩ dX6_back_16 (fun z10 H locs hp hH => ?_)
    have hJ := jJ_tr hJ hp.1 (by decide) (by decide) (by decide)
    have f10_0 := hp.2
    have hA10 := hp.1.2
    refine lv_aload_n hx hb dX6_back_19 rfl (lv_at hl 0 rfl) ?_
    refine b_get (ci := 6) (C := RX6) (T := TX6) (Nf := 29) (v := .int (z10.1 0)) hx hb hts in_X6_back_X6 hown hK hH 0 (by decide) rfl rfl 0 (by decide) (hts (.fieldLink RX6 85 "StationLineModel" "tasks" "I") (List.mem_of_getElem? (i := 2) rfl)) rfl dX6_back_20 ?_
    have i11 := IvM_s0 hJ.1
    exact hret _ z10 H locs _ _ ⟨hJ, (iv_w i11 (by decide) (by decide)), ⟨fun q => absurd q c8, fun _ => ⟨f10_0.2.2.2.1.symm, f10_0.2.2.2.1.symm, f10_0.2.2.2.2.1.symm, f10_0.2.2.2.2.2.1.symm, f10_0.2.2.1 8 (Or.inl rfl)⟩⟩, ⟨⟨fun q => absurd q c8, fun _ i hi => (f10_0.2.2.2.2.2.2.2.2.1 i hi).symm⟩, ⟨fun q => absurd q c8, fun _ i hi => (f10_0.2.2.2.2.2.2.2.2.2.2.1 i hi).symm⟩⟩, ⟨fun q => absurd q c8, fun _ => same_sy (kp_T f10_0.2.2.2.2.2.2.1)⟩, ⟨fun q => absurd q c8, fun _ => sp_sy (kp_P f10_0.2.2.2.2.2.2.2.2.2.1)⟩⟩ hH dX6_back_23
  · skip
    have k12a : iv 0 0 (z0.1 4) := iv_eql (iv_Eq c8) (iv_all (z0.1 4)) (iv_lit (n := 0) 0 (by decide)) (by decide) (by decide)
    refine lv_aload_n hx hb dX6_back_7 rfl (lv_at hl 0 rfl) ?_
    refine lv_bipush (v := (-10)) hx hb dX6_back_8 (by decide) ?_
    refine b_calli (As := [.int (-10)]) (rest := []) ⟨hx, hb, hml, hown, hts⟩ 0 6 (g_X6_meet_0 l D cy q hH.2.1 z0 hJ.1 (-10)) (cwV 1 hts gX6_back_X6_meet rfl rfl rfl (by decide +kernel) ⟨Nat.le_of_ble_eq_true rfl, Nat.le_of_ble_eq_true rfl⟩) hK hZ hH (by decide) rfl rfl rfl hl.1 rfl (Nat.le_of_ble_eq_true rfl) ⟨Nat.zero_le _, Nat.zero_le _⟩ dX6_back_10 (fun w13 z13 H locs hp hH => ?_)
    have hJ := jJ_tr hJ hp.1 (by decide) (by decide) (by decide)
    have f13_0 := hp.2.2
    have hA13 := hp.1.2
    have g14 : iv 0 0 (z13.1 4) := by rw [(hp.1).2.1 4 (by decide)]; exact k12a
    exact hret _ z13 H locs _ _ ⟨hJ, (iv_all w13), ⟨fun _ => ⟨f13_0, ((hA13.1 0 (by decide))), ((hA13.1 1 (by decide))), ((hA13.1 2 (by decide)))⟩, fun q => absurd c8 q⟩, ⟨⟨fun _ => ((hA13.2.1 3 (by decide))), fun q => absurd c8 q⟩, ⟨fun _ => ((hA13.2.1 5 (by decide))), fun q => absurd c8 q⟩⟩, ⟨fun _ => m_T (((hA13.2.1 1 (by decide)))), fun q => absurd c8 q⟩, ⟨fun _ => sp_m (((hA13.2.1 4 (by decide)))), fun q => absurd c8 q⟩⟩ hH dX6_back_13
