set_option maxHeartbeats 4000000 in
set_option maxRecDepth 100000 in
theorem g_X6_tellWays_0 (l : Launch) (D : va_G) (cy : Nat → ClassId) (q : Nat → Nat) (hq : bJ 23 q) (z0 : zS) (hI : IvM z0)  : bCi l yX6_tellWays wsX6_tellWays ({ frames := 4, cells := 0, slots := 0, locals := 95 }) D cy 23 (enM cy) q z0 [.ref (q 0)] (fun v z => jJ IvM 0 507904 524288 z0 z ∧ iv (-1) 10 v ∧ (v.toInt < 0 ∨ Ch (CB z) (allF z) v.toNatClampNeg (allF z))) := by
  refine hM_i cX6_tellWays (by decide) rfl (own := RX6) rfl hq (Nat.le_of_ble_eq_true rfl) ?_
  intro p e s m args below meth c Q ls H locs hx hb hml hown hts hK hZ hH hl hret
  have hl : lv_has ls 7 [(0, .ref (q 0))] := hl
  have hJ : jJ IvM 0 507904 524288 z0 z0 := jJ_rf _ _ _ hI
  have e00 : (0 : Int32).toInt = 0 := (by decide); have e01 : (1 : Int32).toInt = 1 := (by decide); have e02 : (2 : Int32).toInt = 2 := (by decide); have e03 : (3 : Int32).toInt = 3 := (by decide); have e010 : (10 : Int32).toInt = 10 := (by decide)
  have HL6 : ∀ (n : Nat) (x1_6 : Int32) (z_6 : zS) (H : Heap) (locs : List Loc) (ls : Array Slot), iv 0 11 x1_6 → (W1 z_6 (x1_6 : Int32).toInt) → jJ IvM 0 507904 524288 z0 z_6 → bH D 23 (enM cy) q z_6 s.heap H locs → lv_has ls 7 [(0, .ref (q 0)), (1, .int x1_6)] → (11 - x1_6.toInt).toNat = n → W p l e ({ frames := 4, cells := 0, slots := 0, locals := 95 }) s m args below meth c H locs 0 0 Q (F0 m 6 ls []) := by
    intro n6
    induction n6 using Nat.strongRecOn with
    | ind n6 ih6 =>
      intro x1_6 z_6 H locs ls h1_6 ex_6 hJ hH hl hn6
      have := h1_6.1; have := h1_6.2
      have HL14 : ∀ (n : Nat) (x2_14 : Int32) (z_14 : zS) (H : Heap) (locs : List Loc) (ls : Array Slot), iv 0 10 x1_6 → iv 0 1024 x2_14 → (W1 z_14 (x1_6 : Int32).toInt ∧ W2 z_14 x1_6 (x2_14 : Int32).toInt) → jJ IvM 0 507904 524288 z0 z_14 → bH D 23 (enM cy) q z_14 s.heap H locs → lv_has ls 7 [(0, .ref (q 0)), (1, .int x1_6), (2, .int x2_14)] → (1024 - x2_14.toInt).toNat = n → W p l e ({ frames := 4, cells := 0, slots := 0, locals := 95 }) s m args below meth c H locs 0 0 Q (F0 m 14 ls []) := by
        intro n14
        induction n14 using Nat.strongRecOn with
        | ind n14 ih14 =>
          intro x2_14 z_14 H locs ls h1_14 h2_14 ex_14 hJ hH hl hn14
          have := h1_14.1; have := h1_14.2; have := h2_14.1; have := h2_14.2
          have HL55 : ∀ (n : Nat) (x2_55 : Int32) (z_55 : zS) (H : Heap) (locs : List Loc) (ls : Array Slot), iv 0 1024 x2_55 → (W1 z_55 (x1_6 : Int32).toInt ∧ W2 z_55 x1_6 1024) → jJ IvM 0 507904 524288 z0 z_55 → bH D 23 (enM cy) q z_55 s.heap H locs → lv_has ls 7 [(0, .ref (q 0)), (1, .int x1_6), (2, .int x2_55)] → (1024 - x2_55.toInt).toNat = n → W p l e ({ frames := 4, cells := 0, slots := 0, locals := 95 }) s m args below meth c H locs 0 0 Q (F0 m 55 ls []) := by
            intro n55
            induction n55 using Nat.strongRecOn with
            | ind n55 ih55 =>
              intro x2_55 z_55 H locs ls h2_55 ex_55 hJ hH hl hn55
              have := h2_55.1; have := h2_55.2
              have HL95 : ∀ (n : Nat) (x3_95 : Int64) (x5_95 : Int32) (x6_95 : Int32) (z_95 : zS) (H : Heap) (locs : List Loc) (ls : Array Slot), iv 1 10 x1_6 → iv 0 1023 x2_55 → iv 0 1023 x5_95 → iv 0 1024 x6_95 → ((W1 z_95 (x1_6 : Int32).toInt ∧ W2 z_95 x1_6 1024) ∧ (0 < (x3_95 : Int64).toInt → Ch (CB z_95) (allF z_95) (x1_6 - 1).toNatClampNeg x2_55) ∧ x5_95 = (allF z_95 &&& (x2_55 ^^^ (-1))) ∧ 0 < (x1_6 : Int32).toInt ∧ (x2_55 : Int32).toInt ≤ (allF z_95).toInt) → jJ IvM 0 507904 524288 z0 z_95 → bH D 23 (enM cy) q z_95 s.heap H locs → lv_has ls 7 [(0, .ref (q 0)), (1, .int x1_6), (2, .int x2_55), (3, .long x3_95), (5, .int x5_95), (6, .int x6_95)] → (1024 - x6_95.toInt).toNat = n → W p l e ({ frames := 4, cells := 0, slots := 0, locals := 95 }) s m args below meth c H locs 0 0 Q (F0 m 95 ls []) := by
                intro n95
                induction n95 using Nat.strongRecOn with
                | ind n95 ih95 =>
                  intro x3_95 x5_95 x6_95 z_95 H locs ls h1_95 h2_95 h5_95 h6_95 ex_95 hJ hH hl hn95
                  have := h1_95.1; have := h1_95.2; have := h2_95.1; have := h2_95.2; have := h5_95.1; have := h5_95.2; have := h6_95.1; have := h6_95.2
                  refine lv_iload hx hb dX6_tellWays_95 (lv_at hl 5 rfl) ?_
                  refine lv_iload hx hb dX6_tellWays_97 (lv_at hl 4 rfl) ?_
                  refine lv_icmp_gt (tgt := 154) hx hb dX6_tellWays_99 (by decide) (fun c2615 => ?_) (fun c2615 => ?_)
                  · skip
                    have r2615 := (iv_Lt c2615)
                    have k2616b : iv 1 1024 x6_95 := iv_ltr (iv_Lt c2615) h5_95 h6_95 (by decide)
                    have j2617 : iv 1 1024 (x2_55 + 1) := iv_add h2_95 (iv_lit (n := 1) 1 (by decide)) (by decide) (by decide) (by decide) (by decide)
                    have e2617 : (x2_55 + 1).toInt = x2_55.toInt + 1 := (iv_addE h2_95 (iv_lit (n := 1) 1 (by decide)) (by decide) (by decide)).trans rfl
                    refine lv_iinc (v := (x2_55 + 1)) (lv' := [(2, .int (x2_55 + 1)), (0, .ref (q 0)), (1, .int x1_6), (3, .long x3_95), (5, .int x5_95), (6, .int x6_95)]) hx hb dX6_tellWays_154 hl (k := 2) rfl rfl (by decide) rfl (fun ls hl => ?_)
                    refine lv_goto (tgt := 55) hx hb dX6_tellWays_157 (by decide) ?_
                    exact ih55 _ (ms_up e2617 j2617.2 hn55) (x2_55 + 1) z_95 H locs ls (iv_w j2617 (by decide) (by decide)) ex_95.1 hJ hH (lv_sub hl [1, 2, 0] rfl) rfl
                  · skip
                    have r2615 := (iv_nLt c2615)
                    have k2618a : iv 0 1023 x6_95 := iv_lel (iv_nLt c2615) h6_95 h5_95
                    refine lv_lload_n hx hb dX6_tellWays_102 rfl (lv_at hl 3 rfl) ?_
                    refine lv_lconst (v := 0) hx hb dX6_tellWays_103 (by decide) ?_
                    refine W.lcmp hx hb dX6_tellWays_104 ?_
                    refine lv_if_le (tgt := 154) hx hb dX6_tellWays_105 (by decide) (fun c2620 => ?_) (fun c2620 => ?_)
                    · skip
                      have r2620 := (iv_Le c2620)
                      have k2621a : iv (-2147483648) 0 (lg_cmp x3_95 0) := iv_lel (iv_Le c2620) (iv_all (lg_cmp x3_95 0)) (iv_lit (n := 0) 0 (by decide))
                      have j2622 : iv 1 1024 (x2_55 + 1) := iv_add h2_95 (iv_lit (n := 1) 1 (by decide)) (by decide) (by decide) (by decide) (by decide)
                      have e2622 : (x2_55 + 1).toInt = x2_55.toInt + 1 := (iv_addE h2_95 (iv_lit (n := 1) 1 (by decide)) (by decide) (by decide)).trans rfl
                      refine lv_iinc (v := (x2_55 + 1)) (lv' := [(2, .int (x2_55 + 1)), (0, .ref (q 0)), (1, .int x1_6), (3, .long x3_95), (5, .int x5_95), (6, .int x6_95)]) hx hb dX6_tellWays_154 hl (k := 2) rfl rfl (by decide) rfl (fun ls hl => ?_)
                      refine lv_goto (tgt := 55) hx hb dX6_tellWays_157 (by decide) ?_
                      exact ih55 _ (ms_up e2622 j2622.2 hn55) (x2_55 + 1) z_95 H locs ls (iv_w j2622 (by decide) (by decide)) ex_95.1 hJ hH (lv_sub hl [1, 2, 0] rfl) rfl
                    · skip
                      have r2620 := (iv_nLe c2620)
                      have k2623b : iv 1 2147483647 (lg_cmp x3_95 0) := iv_ltr (iv_nLe c2620) (iv_lit (n := 0) 0 (by decide)) (iv_all (lg_cmp x3_95 0)) (by decide)
                      refine lv_iload hx hb dX6_tellWays_108 (lv_at hl 5 rfl) ?_
                      refine lv_iload hx hb dX6_tellWays_110 (lv_at hl 4 rfl) ?_
                      refine lv_iconst (v := (-1)) hx hb dX6_tellWays_112 (by decide) ?_
                      refine lv_ixor hx hb dX6_tellWays_113 ?_
                      refine lv_iand hx hb dX6_tellWays_114 ?_
                      have i2625 : iv 0 1023 (x6_95 &&& (x5_95 ^^^ (-1))) := (iv_and k2618a (iv_all (x5_95 ^^^ (-1))) (by decide) (by decide))
                      have e2625 : (x6_95 &&& (x5_95 ^^^ (-1))).toInt ≤ x6_95.toInt := (iv_andlt k2618a (by decide))
                      refine lv_if_ne (tgt := 148) hx hb dX6_tellWays_115 (by decide) (fun c2626 => ?_) (fun c2626 => ?_)
                      · skip
                        have r2626 := (iv_nEq c2626)
                        have k2627a : iv 1 1023 (x6_95 &&& (x5_95 ^^^ (-1))) := iv_neLo (iv_nEq c2626) i2625 (by decide) (by decide)
                        have j2628 : iv 1 1024 (x6_95 + 1) := iv_add k2618a (iv_lit (n := 1) 1 (by decide)) (by decide) (by decide) (by decide) (by decide)
                        have e2628 : (x6_95 + 1).toInt = x6_95.toInt + 1 := (iv_addE k2618a (iv_lit (n := 1) 1 (by decide)) (by decide) (by decide)).trans rfl
                        refine lv_iinc (v := (x6_95 + 1)) (lv' := [(6, .int (x6_95 + 1)), (0, .ref (q 0)), (1, .int x1_6), (2, .int x2_55), (3, .long x3_95), (5, .int x5_95)]) hx hb dX6_tellWays_148 hl (k := 5) rfl rfl (by decide) rfl (fun ls hl => ?_)
                        refine lv_goto (tgt := 95) hx hb dX6_tellWays_151 (by decide) ?_
                        exact ih95 _ (ms_up e2628 j2628.2 hn95) x3_95 x5_95 (x6_95 + 1) z_95 H locs ls h1_95 h2_95 h5_95 (iv_w j2628 (by decide) (by decide)) ex_95 hJ hH (lv_sub hl [1, 2, 3, 4, 5, 0] rfl) rfl
                      · skip
                        have r2626 := (iv_Eq c2626)
                        have k2629a : iv 0 0 (x6_95 &&& (x5_95 ^^^ (-1))) := iv_eql (iv_Eq c2626) i2625 (iv_lit (n := 0) 0 (by decide)) (by decide) (by decide)
                        refine lv_aload_n hx hb dX6_tellWays_118 rfl (lv_at hl 0 rfl) ?_
                        refine lv_iload hx hb dX6_tellWays_119 (lv_at hl 5 rfl) ?_
                        refine lv_iload_n hx hb dX6_tellWays_121 rfl (lv_at hl 1 rfl) ?_
                        refine lv_iload_n hx hb dX6_tellWays_122 rfl (lv_at hl 2 rfl) ?_
                        refine b_calli (As := [.int x6_95, .int x1_6, .int x2_55]) (rest := []) ⟨hx, hb, hml, hown, hts⟩ 0 6 (g_X6_canBe_0 l D cy q hH.2.1 z_95 hJ.1 x6_95 k2618a x1_6 x2_55) (cwV 3 hts gX6_tellWays_X6_canBe rfl rfl rfl (by decide +kernel) ⟨Nat.le_of_ble_eq_true rfl, Nat.le_of_ble_eq_true rfl⟩) hK hZ hH (by decide) rfl rfl rfl hl.1 rfl (Nat.le_of_ble_eq_true rfl) ⟨Nat.zero_le _, Nat.zero_le _⟩ dX6_tellWays_123 (fun w2630 z2630 H locs hp hH => ?_)
                        rw [Ag_0 hp.1.2] at hH
                        have i2630 := hp.2.1
                        have := i2630.1; have := i2630.2
                        have f2630_0 := hp.2.2
                        refine lv_if_eq (tgt := 148) hx hb dX6_tellWays_126 (by decide) (fun c2631 => ?_) (fun c2631 => ?_)
                        · skip
                          have r2631 := (iv_Eq c2631)
                          have k2632a : iv 0 0 w2630 := iv_eql (iv_Eq c2631) i2630 (iv_lit (n := 0) 0 (by decide)) (by decide) (by decide)
                          have j2633 : iv 1 1024 (x6_95 + 1) := iv_add k2618a (iv_lit (n := 1) 1 (by decide)) (by decide) (by decide) (by decide) (by decide)
                          have e2633 : (x6_95 + 1).toInt = x6_95.toInt + 1 := (iv_addE k2618a (iv_lit (n := 1) 1 (by decide)) (by decide) (by decide)).trans rfl
                          refine lv_iinc (v := (x6_95 + 1)) (lv' := [(6, .int (x6_95 + 1)), (0, .ref (q 0)), (1, .int x1_6), (2, .int x2_55), (3, .long x3_95), (5, .int x5_95)]) hx hb dX6_tellWays_148 hl (k := 5) rfl rfl (by decide) rfl (fun ls hl => ?_)
                          refine lv_goto (tgt := 95) hx hb dX6_tellWays_151 (by decide) ?_
                          exact ih95 _ (ms_up e2633 j2633.2 hn95) x3_95 x5_95 (x6_95 + 1) z_95 H locs ls h1_95 h2_95 h5_95 (iv_w j2633 (by decide) (by decide)) ex_95 hJ hH (lv_sub hl [1, 2, 3, 4, 5, 0] rfl) rfl
                        · skip
                          have r2631 := (iv_nEq c2631)
                          have k2634a : iv 1 1 w2630 := iv_neLo (iv_nEq c2631) i2630 (by decide) (by decide)
                          refine lv_aload_n hx hb dX6_tellWays_129 rfl (lv_at hl 0 rfl) ?_
                          refine b_get (ci := 6) (C := RX6) (T := TX6) (Nf := 29) (v := .ref (q 19)) hx hb hts in_X6_tellWays_X6 hown hK hH 0 (by decide) rfl rfl 25 (by decide) (hts (.fieldLink RX6 69 "StationLineModel" "ways" "[J") (List.mem_of_getElem? (i := 1) rfl)) rfl dX6_tellWays_130 ?_
                          refine lv_sipush (v := 1024) hx hb dX6_tellWays_133 (by decide) ?_
                          refine lv_iload_n hx hb dX6_tellWays_136 rfl (lv_at hl 1 rfl) ?_
                          refine lv_imul hx hb dX6_tellWays_137 ?_
                          have i2635 : iv 1024 10240 ((1024 : Int32) * x1_6) := (iv_mul (iv_lit (n := 1024) 1024 (by decide)) h1_95 (by decide) (by decide) (by decide) (by decide) (by decide))
                          refine lv_iload_n hx hb dX6_tellWays_138 rfl (lv_at hl 2 rfl) ?_
                          refine lv_iload hx hb dX6_tellWays_139 (lv_at hl 5 rfl) ?_
                          refine lv_ior hx hb dX6_tellWays_141 ?_
                          have i2636 : iv 0 1023 (x2_55 ||| x6_95) := (iv_or 10 (b := 1023) (d := 1023) (iv_w h2_95 (by decide) (by decide)) (iv_w k2618a (by decide) (by decide)) (by decide) (by decide) (by decide) (by decide))
                          refine lv_iadd hx hb dX6_tellWays_142 ?_
                          have i2637 : iv 1024 11263 (((1024 : Int32) * x1_6) + (x2_55 ||| x6_95)) := (iv_add i2635 i2636 (by decide) (by decide) (by decide) (by decide))
                          refine lv_dup2_11 hx hb dX6_tellWays_143 rfl rfl ?_
                          refine b_lald hx hb hK hH 19 (by decide) rfl (iv_in i2637 (by decide) (by decide)) rfl dX6_tellWays_144 ?_
                          refine lv_lload_n hx hb dX6_tellWays_145 rfl (lv_at hl 3 rfl) ?_
                          refine lv_ladd hx hb dX6_tellWays_146 ?_
                          refine b_last hx hb hK hH 19 (by decide) rfl (iv_in i2637 (by decide) (by decide)) (upL z_95 19 (vp_updL (z_95.2.2 19) (((1024 : Int32) * x1_6) + (x2_55 ||| x6_95) : Int32).toNatClampNeg ((z_95.2.2 19 (((1024 : Int32) * x1_6) + (x2_55 ||| x6_95) : Int32).toNatClampNeg) + x3_95))) rfl (enM_L _ _ _ _ _) dX6_tellWays_147 (fun H locs hH => ?_)
                          obtain ⟨z2638, hz2638⟩ : ∃ w : zS, w = upL z_95 19 (vp_updL (z_95.2.2 19) (((1024 : Int32) * x1_6) + (x2_55 ||| x6_95) : Int32).toNatClampNeg ((z_95.2.2 19 (((1024 : Int32) * x1_6) + (x2_55 ||| x6_95) : Int32).toNatClampNeg) + x3_95)) := ⟨_, rfl⟩
                          rw [← hz2638] at hH
                          have hJ : jJ IvM 0 507904 524288 z0 z2638 := by rw [hz2638]; exact jJ_L hJ (by decide) (IvM_L hJ.1)
                          have j2639 : iv 1 1024 (x6_95 + 1) := iv_add k2618a (iv_lit (n := 1) 1 (by decide)) (by decide) (by decide) (by decide) (by decide)
                          have e2639 : (x6_95 + 1).toInt = x6_95.toInt + 1 := (iv_addE k2618a (iv_lit (n := 1) 1 (by decide)) (by decide) (by decide)).trans rfl
                          refine lv_iinc (v := (x6_95 + 1)) (lv' := [(6, .int (x6_95 + 1)), (0, .ref (q 0)), (1, .int x1_6), (2, .int x2_55), (3, .long x3_95), (5, .int x5_95)]) hx hb dX6_tellWays_148 hl (k := 5) rfl rfl (by decide) rfl (fun ls hl => ?_)
                          refine lv_goto (tgt := 95) hx hb dX6_tellWays_151 (by decide) ?_
                          exact ih95 _ (ms_up e2639 j2639.2 hn95) x3_95 x5_95 (x6_95 + 1) z2638 H locs ls h1_95 h2_95 h5_95 (iv_w j2639 (by decide) (by decide)) ⟨⟨w1_up hz2638 (iv_w h1_95 (by decide) (by decide)) (or_iv h2_95 k2618a) ex_95.1.1, w2_set hz2638 (iv_w h1_95 (by decide) (by decide)) (or_iv h2_95 k2618a) ex_95.1.2 (Or.inl (Int.le_refl _)) (fun _ => ch_step ⟨by omega, by omega⟩ (ex_95.2.1 (lgc_pos c2620)) k2618a (by rw [← ex_95.2.2.1]; exact c2626) (f2630_0.mp c2631))⟩, by rw [hz2638]; exact ex_95.2⟩ hJ hH (lv_sub hl [1, 2, 3, 4, 5, 0] rfl) rfl
              refine lv_iload_n hx hb dX6_tellWays_55 rfl (lv_at hl 2 rfl) ?_
              refine lv_aload_n hx hb dX6_tellWays_56 rfl (lv_at hl 0 rfl) ?_
              refine b_calli (As := []) (rest := [.int x2_55]) ⟨hx, hb, hml, hown, hts⟩ 0 6 (g_X6_all_0 l D cy q hH.2.1 z_55 hJ.1 ) (cwV 0 hts gX6_tellWays_X6_all rfl rfl rfl (by decide +kernel) ⟨Nat.le_of_ble_eq_true rfl, Nat.le_of_ble_eq_true rfl⟩) hK hZ hH (by decide) rfl rfl rfl hl.1 rfl (Nat.le_of_ble_eq_true rfl) ⟨Nat.zero_le _, Nat.zero_le _⟩ dX6_tellWays_57 (fun w2640 z2640 H locs hp hH => ?_)
              rw [Ag_0 hp.1.2] at hH
              have i2640 := hp.2.1
              have := i2640.1; have := i2640.2
              have f2640_0 := hp.2.2
              refine lv_icmp_gt (tgt := 160) hx hb dX6_tellWays_60 (by decide) (fun c2641 => ?_) (fun c2641 => ?_)
              · skip
                have r2641 := (iv_Lt c2641)
                have k2642b : iv 1 1024 x2_55 := iv_ltr (iv_Lt c2641) i2640 h2_55 (by decide)
                refine lv_aload_n hx hb dX6_tellWays_160 rfl (lv_at hl 0 rfl) ?_
                refine b_get (ci := 6) (C := RX6) (T := TX6) (Nf := 29) (v := .ref (q 19)) hx hb hts in_X6_tellWays_X6 hown hK hH 0 (by decide) rfl rfl 25 (by decide) (hts (.fieldLink RX6 69 "StationLineModel" "ways" "[J") (List.mem_of_getElem? (i := 1) rfl)) rfl dX6_tellWays_161 ?_
                refine lv_sipush (v := 1024) hx hb dX6_tellWays_164 (by decide) ?_
                refine lv_iload_n hx hb dX6_tellWays_167 rfl (lv_at hl 1 rfl) ?_
                refine lv_imul hx hb dX6_tellWays_168 ?_
                have i2643 : iv 0 10240 ((1024 : Int32) * x1_6) := (iv_mul (iv_lit (n := 1024) 1024 (by decide)) h1_14 (by decide) (by decide) (by decide) (by decide) (by decide))
                refine lv_aload_n hx hb dX6_tellWays_169 rfl (lv_at hl 0 rfl) ?_
                refine b_calli (As := []) (rest := [.int ((1024 : Int32) * x1_6), .ref (q 19)]) ⟨hx, hb, hml, hown, hts⟩ 0 6 (g_X6_all_0 l D cy q hH.2.1 z_55 hJ.1 ) (cwV 0 hts gX6_tellWays_X6_all rfl rfl rfl (by decide +kernel) ⟨Nat.le_of_ble_eq_true rfl, Nat.le_of_ble_eq_true rfl⟩) hK hZ hH (by decide) rfl rfl rfl hl.1 rfl (Nat.le_of_ble_eq_true rfl) ⟨Nat.zero_le _, Nat.zero_le _⟩ dX6_tellWays_170 (fun w2644 z2644 H locs hp hH => ?_)
                rw [Ag_0 hp.1.2] at hH
                have i2644 := hp.2.1
                have := i2644.1; have := i2644.2
                have f2644_0 := hp.2.2
                refine lv_iadd hx hb dX6_tellWays_173 ?_
                have i2645 : iv 0 11263 (((1024 : Int32) * x1_6) + w2644) := (iv_add i2643 i2644 (by decide) (by decide) (by decide) (by decide))
                refine b_lald hx hb hK hH 19 (by decide) rfl (iv_in i2645 (by decide) (by decide)) rfl dX6_tellWays_174 ?_
                refine lv_lconst (v := 0) hx hb dX6_tellWays_175 (by decide) ?_
                refine W.lcmp hx hb dX6_tellWays_176 ?_
                refine lv_if_le (tgt := 182) hx hb dX6_tellWays_177 (by decide) (fun c2647 => ?_) (fun c2647 => ?_)
                · skip
                  have r2647 := (iv_Le c2647)
                  have k2648a : iv (-2147483648) 0 (lg_cmp (z_55.2.2 19 (((1024 : Int32) * x1_6) + w2644 : Int32).toNatClampNeg) 0) := iv_lel (iv_Le c2647) (iv_all (lg_cmp (z_55.2.2 19 (((1024 : Int32) * x1_6) + w2644 : Int32).toNatClampNeg) 0)) (iv_lit (n := 0) 0 (by decide))
                  have j2649 : iv 1 11 (x1_6 + 1) := iv_add h1_14 (iv_lit (n := 1) 1 (by decide)) (by decide) (by decide) (by decide) (by decide)
                  have e2649 : (x1_6 + 1).toInt = x1_6.toInt + 1 := (iv_addE h1_14 (iv_lit (n := 1) 1 (by decide)) (by decide) (by decide)).trans rfl
                  refine lv_iinc (v := (x1_6 + 1)) (lv' := [(1, .int (x1_6 + 1)), (0, .ref (q 0)), (2, .int x2_55)]) hx hb dX6_tellWays_182 hl (k := 1) rfl rfl (by decide) rfl (fun ls hl => ?_)
                  refine lv_goto (tgt := 6) hx hb dX6_tellWays_185 (by decide) ?_
                  exact ih6 _ (ms_up e2649 j2649.2 hn6) (x1_6 + 1) z_55 H locs ls (iv_w j2649 (by decide) (by decide)) (w1_next ex_55.1 ex_55.2 (by have := iv_Eq f2644_0; omega) _ (by omega)) hJ hH (lv_sub hl [1, 0] rfl) rfl
                · skip
                  have r2647 := (iv_nLe c2647)
                  have k2650b : iv 1 2147483647 (lg_cmp (z_55.2.2 19 (((1024 : Int32) * x1_6) + w2644 : Int32).toNatClampNeg) 0) := iv_ltr (iv_nLe c2647) (iv_lit (n := 0) 0 (by decide)) (iv_all (lg_cmp (z_55.2.2 19 (((1024 : Int32) * x1_6) + w2644 : Int32).toNatClampNeg) 0)) (by decide)
                  refine lv_iload_n hx hb dX6_tellWays_180 rfl (lv_at hl 1 rfl) ?_
                  exact hret _ z_55 H locs _ _ ⟨hJ, (iv_w h1_14 (by decide) (by decide)), Or.inr (by have h9 := ex_55.2 w2644 i2644 (by omega) (by rw [← f2644_0]; omega) (by have h8 := lgc_pos c2647; exact fun q => absurd h8 (by intro h7; exact absurd (show (Ww _ _ _).toInt = _ from q) (Int.ne_of_gt h7))); rw [f2644_0] at h9; exact h9)⟩ hH dX6_tellWays_181
              · skip
                have r2641 := (iv_nLt c2641)
                have k2651a : iv 0 1023 x2_55 := iv_lel (iv_nLt c2641) h2_55 i2640
                refine lv_iload_n hx hb dX6_tellWays_63 rfl (lv_at hl 1 rfl) ?_
                refine lv_if_le (tgt := 160) hx hb dX6_tellWays_64 (by decide) (fun c2652 => ?_) (fun c2652 => ?_)
                · skip
                  have r2652 := (iv_Le c2652)
                  have k2653a : iv 0 0 x1_6 := iv_lel (iv_Le c2652) h1_14 (iv_lit (n := 0) 0 (by decide))
                  refine lv_aload_n hx hb dX6_tellWays_160 rfl (lv_at hl 0 rfl) ?_
                  refine b_get (ci := 6) (C := RX6) (T := TX6) (Nf := 29) (v := .ref (q 19)) hx hb hts in_X6_tellWays_X6 hown hK hH 0 (by decide) rfl rfl 25 (by decide) (hts (.fieldLink RX6 69 "StationLineModel" "ways" "[J") (List.mem_of_getElem? (i := 1) rfl)) rfl dX6_tellWays_161 ?_
                  refine lv_sipush (v := 1024) hx hb dX6_tellWays_164 (by decide) ?_
                  refine lv_iload_n hx hb dX6_tellWays_167 rfl (lv_at hl 1 rfl) ?_
                  refine lv_imul hx hb dX6_tellWays_168 ?_
                  have i2654 : iv 0 0 ((1024 : Int32) * x1_6) := (iv_mul (iv_lit (n := 1024) 1024 (by decide)) k2653a (by decide) (by decide) (by decide) (by decide) (by decide))
                  refine lv_aload_n hx hb dX6_tellWays_169 rfl (lv_at hl 0 rfl) ?_
                  refine b_calli (As := []) (rest := [.int ((1024 : Int32) * x1_6), .ref (q 19)]) ⟨hx, hb, hml, hown, hts⟩ 0 6 (g_X6_all_0 l D cy q hH.2.1 z_55 hJ.1 ) (cwV 0 hts gX6_tellWays_X6_all rfl rfl rfl (by decide +kernel) ⟨Nat.le_of_ble_eq_true rfl, Nat.le_of_ble_eq_true rfl⟩) hK hZ hH (by decide) rfl rfl rfl hl.1 rfl (Nat.le_of_ble_eq_true rfl) ⟨Nat.zero_le _, Nat.zero_le _⟩ dX6_tellWays_170 (fun w2655 z2655 H locs hp hH => ?_)
                  rw [Ag_0 hp.1.2] at hH
                  have i2655 := hp.2.1
                  have := i2655.1; have := i2655.2
                  have f2655_0 := hp.2.2
                  refine lv_iadd hx hb dX6_tellWays_173 ?_
                  have i2656 : iv 0 1023 (((1024 : Int32) * x1_6) + w2655) := (iv_add i2654 i2655 (by decide) (by decide) (by decide) (by decide))
                  refine b_lald hx hb hK hH 19 (by decide) rfl (iv_in i2656 (by decide) (by decide)) rfl dX6_tellWays_174 ?_
                  refine lv_lconst (v := 0) hx hb dX6_tellWays_175 (by decide) ?_
                  refine W.lcmp hx hb dX6_tellWays_176 ?_
                  refine lv_if_le (tgt := 182) hx hb dX6_tellWays_177 (by decide) (fun c2658 => ?_) (fun c2658 => ?_)
                  · skip
                    have r2658 := (iv_Le c2658)
                    have k2659a : iv (-2147483648) 0 (lg_cmp (z_55.2.2 19 (((1024 : Int32) * x1_6) + w2655 : Int32).toNatClampNeg) 0) := iv_lel (iv_Le c2658) (iv_all (lg_cmp (z_55.2.2 19 (((1024 : Int32) * x1_6) + w2655 : Int32).toNatClampNeg) 0)) (iv_lit (n := 0) 0 (by decide))
                    have j2660 : iv 1 1 (x1_6 + 1) := iv_add k2653a (iv_lit (n := 1) 1 (by decide)) (by decide) (by decide) (by decide) (by decide)
                    have e2660 : (x1_6 + 1).toInt = x1_6.toInt + 1 := (iv_addE k2653a (iv_lit (n := 1) 1 (by decide)) (by decide) (by decide)).trans rfl
                    refine lv_iinc (v := (x1_6 + 1)) (lv' := [(1, .int (x1_6 + 1)), (0, .ref (q 0)), (2, .int x2_55)]) hx hb dX6_tellWays_182 hl (k := 1) rfl rfl (by decide) rfl (fun ls hl => ?_)
                    refine lv_goto (tgt := 6) hx hb dX6_tellWays_185 (by decide) ?_
                    exact ih6 _ (ms_up e2660 j2660.2 hn6) (x1_6 + 1) z_55 H locs ls (iv_w j2660 (by decide) (by decide)) (w1_next ex_55.1 ex_55.2 (by have := iv_Eq f2655_0; omega) _ (by omega)) hJ hH (lv_sub hl [1, 0] rfl) rfl
                  · skip
                    have r2658 := (iv_nLe c2658)
                    have k2661b : iv 1 2147483647 (lg_cmp (z_55.2.2 19 (((1024 : Int32) * x1_6) + w2655 : Int32).toNatClampNeg) 0) := iv_ltr (iv_nLe c2658) (iv_lit (n := 0) 0 (by decide)) (iv_all (lg_cmp (z_55.2.2 19 (((1024 : Int32) * x1_6) + w2655 : Int32).toNatClampNeg) 0)) (by decide)
                    refine lv_iload_n hx hb dX6_tellWays_180 rfl (lv_at hl 1 rfl) ?_
                    exact hret _ z_55 H locs _ _ ⟨hJ, (iv_w k2653a (by decide) (by decide)), Or.inr (by have h9 := ex_55.2 w2655 i2655 (by omega) (by rw [← f2655_0]; omega) (by have h8 := lgc_pos c2658; exact fun q => absurd h8 (by intro h7; exact absurd (show (Ww _ _ _).toInt = _ from q) (Int.ne_of_gt h7))); rw [f2655_0] at h9; exact h9)⟩ hH dX6_tellWays_181
                · skip
                  have r2652 := (iv_nLe c2652)
                  have k2662b : iv 1 10 x1_6 := iv_ltr (iv_nLe c2652) (iv_lit (n := 0) 0 (by decide)) h1_14 (by decide)
                  refine lv_aload_n hx hb dX6_tellWays_67 rfl (lv_at hl 0 rfl) ?_
                  refine b_get (ci := 6) (C := RX6) (T := TX6) (Nf := 29) (v := .ref (q 19)) hx hb hts in_X6_tellWays_X6 hown hK hH 0 (by decide) rfl rfl 25 (by decide) (hts (.fieldLink RX6 69 "StationLineModel" "ways" "[J") (List.mem_of_getElem? (i := 1) rfl)) rfl dX6_tellWays_68 ?_
                  refine lv_sipush (v := 1024) hx hb dX6_tellWays_71 (by decide) ?_
                  refine lv_iload_n hx hb dX6_tellWays_74 rfl (lv_at hl 1 rfl) ?_
                  refine lv_iconst (v := 1) hx hb dX6_tellWays_75 (by decide) ?_
                  refine lv_isub hx hb dX6_tellWays_76 ?_
                  have i2663 : iv 0 9 (x1_6 - 1) := (iv_sub k2662b (iv_lit (n := 1) 1 (by decide)) (by decide) (by decide) (by decide) (by decide))
                  have e2663 : (x1_6 - 1).toInt = x1_6.toInt - 1 := ((iv_subE k2662b (iv_lit (n := 1) 1 (by decide)) (by decide) (by decide)).trans rfl)
                  have := i2663.1; have := i2663.2
                  refine lv_imul hx hb dX6_tellWays_77 ?_
                  have i2664 : iv 0 9216 ((1024 : Int32) * (x1_6 - 1)) := (iv_mul (iv_lit (n := 1024) 1024 (by decide)) i2663 (by decide) (by decide) (by decide) (by decide) (by decide))
                  refine lv_iload_n hx hb dX6_tellWays_78 rfl (lv_at hl 2 rfl) ?_
                  refine lv_iadd hx hb dX6_tellWays_79 ?_
                  have i2665 : iv 0 10239 (((1024 : Int32) * (x1_6 - 1)) + x2_55) := (iv_add i2664 k2651a (by decide) (by decide) (by decide) (by decide))
                  refine b_lald hx hb hK hH 19 (by decide) rfl (iv_in i2665 (by decide) (by decide)) rfl dX6_tellWays_80 ?_
                  refine lv_lstore_n (lv' := [(3, .long (z_55.2.2 19 (((1024 : Int32) * (x1_6 - 1)) + x2_55 : Int32).toNatClampNeg)), (0, .ref (q 0)), (1, .int x1_6), (2, .int x2_55)]) hx hb dX6_tellWays_81 rfl hl (by decide) rfl (fun ls hl => ?_)
                  refine lv_aload_n hx hb dX6_tellWays_82 rfl (lv_at hl 1 rfl) ?_
                  refine b_calli (As := []) (rest := []) ⟨hx, hb, hml, hown, hts⟩ 0 6 (g_X6_all_0 l D cy q hH.2.1 z_55 hJ.1 ) (cwV 0 hts gX6_tellWays_X6_all rfl rfl rfl (by decide +kernel) ⟨Nat.le_of_ble_eq_true rfl, Nat.le_of_ble_eq_true rfl⟩) hK hZ hH (by decide) rfl rfl rfl hl.1 rfl (Nat.le_of_ble_eq_true rfl) ⟨Nat.zero_le _, Nat.zero_le _⟩ dX6_tellWays_83 (fun w2666 z2666 H locs hp hH => ?_)
                  rw [Ag_0 hp.1.2] at hH
                  have i2666 := hp.2.1
                  have := i2666.1; have := i2666.2
                  have f2666_0 := hp.2.2
                  refine lv_iload_n hx hb dX6_tellWays_86 rfl (lv_at hl 3 rfl) ?_
                  refine lv_iconst (v := (-1)) hx hb dX6_tellWays_87 (by decide) ?_
                  refine lv_ixor hx hb dX6_tellWays_88 ?_
                  refine lv_iand hx hb dX6_tellWays_89 ?_
                  have i2668 : iv 0 1023 (w2666 &&& (x2_55 ^^^ (-1))) := (iv_and i2666 (iv_all (x2_55 ^^^ (-1))) (by decide) (by decide))
                  have e2668 : (w2666 &&& (x2_55 ^^^ (-1))).toInt ≤ w2666.toInt := (iv_andlt i2666 (by decide))
                  refine lv_istore (lv' := [(5, .int (w2666 &&& (x2_55 ^^^ (-1)))), (3, .long (z_55.2.2 19 (((1024 : Int32) * (x1_6 - 1)) + x2_55 : Int32).toNatClampNeg)), (0, .ref (q 0)), (1, .int x1_6), (2, .int x2_55)]) hx hb dX6_tellWays_90 hl (by decide) rfl (fun ls hl => ?_)
                  refine lv_iconst (v := 0) hx hb dX6_tellWays_92 (by decide) ?_
                  refine lv_istore (lv' := [(6, .int 0), (5, .int (w2666 &&& (x2_55 ^^^ (-1)))), (3, .long (z_55.2.2 19 (((1024 : Int32) * (x1_6 - 1)) + x2_55 : Int32).toNatClampNeg)), (0, .ref (q 0)), (1, .int x1_6), (2, .int x2_55)]) hx hb dX6_tellWays_93 hl (by decide) rfl (fun ls hl => ?_)
                  exact HL95 _ (z_55.2.2 19 (((1024 : Int32) * (x1_6 - 1)) + x2_55 : Int32).toNatClampNeg) (w2666 &&& (x2_55 ^^^ (-1))) 0 z_55 H locs ls k2662b k2651a i2668 (iv_w (iv_lit (n := 0) 0 (by decide)) (by decide) (by decide)) ⟨ex_55, fun q => ex_55.1 (x1_6 - 1) x2_55 ⟨by omega, by omega⟩ (by omega) k2651a (by have := iv_Eq f2640_0; omega) q, by rw [← f2666_0], by omega, by have := iv_Eq f2640_0; omega⟩ hJ hH (lv_sub hl [3, 4, 5, 2, 1, 0] rfl) rfl
          refine lv_iload_n hx hb dX6_tellWays_14 rfl (lv_at hl 2 rfl) ?_
          refine lv_aload_n hx hb dX6_tellWays_15 rfl (lv_at hl 0 rfl) ?_
          refine b_calli (As := []) (rest := [.int x2_14]) ⟨hx, hb, hml, hown, hts⟩ 0 6 (g_X6_all_0 l D cy q hH.2.1 z_14 hJ.1 ) (cwV 0 hts gX6_tellWays_X6_all rfl rfl rfl (by decide +kernel) ⟨Nat.le_of_ble_eq_true rfl, Nat.le_of_ble_eq_true rfl⟩) hK hZ hH (by decide) rfl rfl rfl hl.1 rfl (Nat.le_of_ble_eq_true rfl) ⟨Nat.zero_le _, Nat.zero_le _⟩ dX6_tellWays_16 (fun w2669 z2669 H locs hp hH => ?_)
          rw [Ag_0 hp.1.2] at hH
          have i2669 := hp.2.1
          have := i2669.1; have := i2669.2
          have f2669_0 := hp.2.2
          refine lv_icmp_gt (tgt := 53) hx hb dX6_tellWays_19 (by decide) (fun c2670 => ?_) (fun c2670 => ?_)
          · skip
            have r2670 := (iv_Lt c2670)
            have k2671b : iv 1 1024 x2_14 := iv_ltr (iv_Lt c2670) i2669 h2_14 (by decide)
            refine lv_iconst (v := 0) hx hb dX6_tellWays_53 (by decide) ?_
            refine lv_istore_n (lv' := [(2, .int 0), (0, .ref (q 0)), (1, .int x1_6)]) hx hb dX6_tellWays_54 rfl hl (by decide) rfl (fun ls hl => ?_)
            exact HL55 _ 0 z_14 H locs ls (iv_w (iv_lit (n := 0) 0 (by decide)) (by decide) (by decide)) ⟨ex_14.1, fun p hp hlt hA h0 => ex_14.2 p hp (by have := iv_Eq f2669_0; omega) hA h0⟩ hJ hH (lv_sub hl [1, 2, 0] rfl) rfl
          · skip
            have r2670 := (iv_nLt c2670)
            have k2672a : iv 0 1023 x2_14 := iv_lel (iv_nLt c2670) h2_14 i2669
            refine lv_aload_n hx hb dX6_tellWays_22 rfl (lv_at hl 0 rfl) ?_
            refine b_get (ci := 6) (C := RX6) (T := TX6) (Nf := 29) (v := .ref (q 19)) hx hb hts in_X6_tellWays_X6 hown hK hH 0 (by decide) rfl rfl 25 (by decide) (hts (.fieldLink RX6 69 "StationLineModel" "ways" "[J") (List.mem_of_getElem? (i := 1) rfl)) rfl dX6_tellWays_23 ?_
            refine lv_sipush (v := 1024) hx hb dX6_tellWays_26 (by decide) ?_
            refine lv_iload_n hx hb dX6_tellWays_29 rfl (lv_at hl 1 rfl) ?_
            refine lv_imul hx hb dX6_tellWays_30 ?_
            have i2673 : iv 0 10240 ((1024 : Int32) * x1_6) := (iv_mul (iv_lit (n := 1024) 1024 (by decide)) h1_14 (by decide) (by decide) (by decide) (by decide) (by decide))
            refine lv_iload_n hx hb dX6_tellWays_31 rfl (lv_at hl 2 rfl) ?_
            refine lv_iadd hx hb dX6_tellWays_32 ?_
            have i2674 : iv 0 11263 (((1024 : Int32) * x1_6) + x2_14) := (iv_add i2673 k2672a (by decide) (by decide) (by decide) (by decide))
            refine lv_iload_n hx hb dX6_tellWays_33 rfl (lv_at hl 1 rfl) ?_
            refine lv_if_ne (tgt := 45) hx hb dX6_tellWays_34 (by decide) (fun c2675 => ?_) (fun c2675 => ?_)
            · skip
              have r2675 := (iv_nEq c2675)
              have k2676a : iv 1 10 x1_6 := iv_neLo (iv_nEq c2675) h1_14 (by decide) (by decide)
              refine lv_lconst (v := 0) hx hb dX6_tellWays_45 (by decide) ?_
              refine b_last hx hb hK hH 19 (by decide) rfl (iv_in i2674 (by decide) (by decide)) (upL z_14 19 (vp_updL (z_14.2.2 19) (((1024 : Int32) * x1_6) + x2_14 : Int32).toNatClampNeg 0)) rfl (enM_L _ _ _ _ _) dX6_tellWays_46 (fun H locs hH => ?_)
              obtain ⟨z2677, hz2677⟩ : ∃ w : zS, w = upL z_14 19 (vp_updL (z_14.2.2 19) (((1024 : Int32) * x1_6) + x2_14 : Int32).toNatClampNeg 0) := ⟨_, rfl⟩
              rw [← hz2677] at hH
              have hJ : jJ IvM 0 507904 524288 z0 z2677 := by rw [hz2677]; exact jJ_L hJ (by decide) (IvM_L hJ.1)
              have j2678 : iv 1 1024 (x2_14 + 1) := iv_add k2672a (iv_lit (n := 1) 1 (by decide)) (by decide) (by decide) (by decide) (by decide)
              have e2678 : (x2_14 + 1).toInt = x2_14.toInt + 1 := (iv_addE k2672a (iv_lit (n := 1) 1 (by decide)) (by decide) (by decide)).trans rfl
              refine lv_iinc (v := (x2_14 + 1)) (lv' := [(2, .int (x2_14 + 1)), (0, .ref (q 0)), (1, .int x1_6)]) hx hb dX6_tellWays_47 hl (k := 2) rfl rfl (by decide) rfl (fun ls hl => ?_)
              refine lv_goto (tgt := 14) hx hb dX6_tellWays_50 (by decide) ?_
              exact ih14 _ (ms_up e2678 j2678.2 hn14) (x2_14 + 1) z2677 H locs ls (iv_w k2676a (by decide) (by decide)) (iv_w j2678 (by decide) (by decide)) ⟨w1_up hz2677 (iv_w k2676a (by decide) (by decide)) (iv_w k2672a (by decide) (by decide)) ex_14.1, w2_set hz2677 (iv_w k2676a (by decide) (by decide)) (iv_w k2672a (by decide) (by decide)) ex_14.2 (Or.inr ⟨rfl, by omega⟩) (fun q => absurd (by decide) q)⟩ hJ hH (lv_sub hl [1, 2, 0] rfl) rfl
            · skip
              have r2675 := (iv_Eq c2675)
              have k2679a : iv 0 0 x1_6 := iv_eql (iv_Eq c2675) h1_14 (iv_lit (n := 0) 0 (by decide)) (by decide) (by decide)
              refine lv_iload_n hx hb dX6_tellWays_37 rfl (lv_at hl 2 rfl) ?_
              refine lv_if_ne (tgt := 45) hx hb dX6_tellWays_38 (by decide) (fun c2680 => ?_) (fun c2680 => ?_)
              · skip
                have r2680 := (iv_nEq c2680)
                have k2681a : iv 1 1023 x2_14 := iv_neLo (iv_nEq c2680) k2672a (by decide) (by decide)
                refine lv_lconst (v := 0) hx hb dX6_tellWays_45 (by decide) ?_
                refine b_last hx hb hK hH 19 (by decide) rfl (iv_in i2674 (by decide) (by decide)) (upL z_14 19 (vp_updL (z_14.2.2 19) (((1024 : Int32) * x1_6) + x2_14 : Int32).toNatClampNeg 0)) rfl (enM_L _ _ _ _ _) dX6_tellWays_46 (fun H locs hH => ?_)
                obtain ⟨z2682, hz2682⟩ : ∃ w : zS, w = upL z_14 19 (vp_updL (z_14.2.2 19) (((1024 : Int32) * x1_6) + x2_14 : Int32).toNatClampNeg 0) := ⟨_, rfl⟩
                rw [← hz2682] at hH
                have hJ : jJ IvM 0 507904 524288 z0 z2682 := by rw [hz2682]; exact jJ_L hJ (by decide) (IvM_L hJ.1)
                have j2683 : iv 2 1024 (x2_14 + 1) := iv_add k2681a (iv_lit (n := 1) 1 (by decide)) (by decide) (by decide) (by decide) (by decide)
                have e2683 : (x2_14 + 1).toInt = x2_14.toInt + 1 := (iv_addE k2681a (iv_lit (n := 1) 1 (by decide)) (by decide) (by decide)).trans rfl
                refine lv_iinc (v := (x2_14 + 1)) (lv' := [(2, .int (x2_14 + 1)), (0, .ref (q 0)), (1, .int x1_6)]) hx hb dX6_tellWays_47 hl (k := 2) rfl rfl (by decide) rfl (fun ls hl => ?_)
                refine lv_goto (tgt := 14) hx hb dX6_tellWays_50 (by decide) ?_
                exact ih14 _ (ms_up e2683 j2683.2 hn14) (x2_14 + 1) z2682 H locs ls (iv_w k2679a (by decide) (by decide)) (iv_w j2683 (by decide) (by decide)) ⟨w1_up hz2682 (iv_w k2679a (by decide) (by decide)) (iv_w k2681a (by decide) (by decide)) ex_14.1, w2_set hz2682 (iv_w k2679a (by decide) (by decide)) (iv_w k2681a (by decide) (by decide)) ex_14.2 (Or.inr ⟨rfl, by omega⟩) (fun q => absurd (by decide) q)⟩ hJ hH (lv_sub hl [1, 2, 0] rfl) rfl
              · skip
                have r2680 := (iv_Eq c2680)
                have k2684a : iv 0 0 x2_14 := iv_eql (iv_Eq c2680) k2672a (iv_lit (n := 0) 0 (by decide)) (by decide) (by decide)
                refine lv_lconst (v := 1) hx hb dX6_tellWays_41 (by decide) ?_
                refine lv_goto (tgt := 46) hx hb dX6_tellWays_42 (by decide) ?_
                refine b_last hx hb hK hH 19 (by decide) rfl (iv_in i2674 (by decide) (by decide)) (upL z_14 19 (vp_updL (z_14.2.2 19) (((1024 : Int32) * x1_6) + x2_14 : Int32).toNatClampNeg 1)) rfl (enM_L _ _ _ _ _) dX6_tellWays_46 (fun H locs hH => ?_)
                obtain ⟨z2685, hz2685⟩ : ∃ w : zS, w = upL z_14 19 (vp_updL (z_14.2.2 19) (((1024 : Int32) * x1_6) + x2_14 : Int32).toNatClampNeg 1) := ⟨_, rfl⟩
                rw [← hz2685] at hH
                have hJ : jJ IvM 0 507904 524288 z0 z2685 := by rw [hz2685]; exact jJ_L hJ (by decide) (IvM_L hJ.1)
                have j2686 : iv 1 1 (x2_14 + 1) := iv_add k2684a (iv_lit (n := 1) 1 (by decide)) (by decide) (by decide) (by decide) (by decide)
                have e2686 : (x2_14 + 1).toInt = x2_14.toInt + 1 := (iv_addE k2684a (iv_lit (n := 1) 1 (by decide)) (by decide) (by decide)).trans rfl
                refine lv_iinc (v := (x2_14 + 1)) (lv' := [(2, .int (x2_14 + 1)), (0, .ref (q 0)), (1, .int x1_6)]) hx hb dX6_tellWays_47 hl (k := 2) rfl rfl (by decide) rfl (fun ls hl => ?_)
                refine lv_goto (tgt := 14) hx hb dX6_tellWays_50 (by decide) ?_
                exact ih14 _ (ms_up e2686 j2686.2 hn14) (x2_14 + 1) z2685 H locs ls (iv_w k2679a (by decide) (by decide)) (iv_w j2686 (by decide) (by decide)) ⟨w1_up hz2685 (iv_w k2679a (by decide) (by decide)) (iv_w k2684a (by decide) (by decide)) ex_14.1, w2_set hz2685 (iv_w k2679a (by decide) (by decide)) (iv_w k2684a (by decide) (by decide)) ex_14.2 (Or.inr ⟨rfl, by omega⟩) (fun _ => by rw [c2675, c2680]; exact Ch_z)⟩ hJ hH (lv_sub hl [1, 2, 0] rfl) rfl
      refine lv_iload_n hx hb dX6_tellWays_6 rfl (lv_at hl 1 rfl) ?_
      refine lv_bipush (v := 10) hx hb dX6_tellWays_7 (by decide) ?_
      refine lv_icmp_gt (tgt := 188) hx hb dX6_tellWays_9 (by decide) (fun c2687 => ?_) (fun c2687 => ?_)
      · skip
        have r2687 := (iv_Lt c2687)
        have k2688b : iv 11 11 x1_6 := iv_ltr (iv_Lt c2687) (iv_lit (n := 10) 10 (by decide)) h1_6 (by decide)
        refine lv_iconst (v := (-1)) hx hb dX6_tellWays_188 (by decide) ?_
        exact hret _ z_6 H locs _ _ ⟨hJ, (iv_w (iv_lit (n := (-1)) (-1) (by decide)) (by decide) (by decide)), Or.inl (by decide)⟩ hH dX6_tellWays_189
      · skip
        have r2687 := (iv_nLt c2687)
        have k2689a : iv 0 10 x1_6 := iv_lel (iv_nLt c2687) h1_6 (iv_lit (n := 10) 10 (by decide))
        refine lv_iconst (v := 0) hx hb dX6_tellWays_12 (by decide) ?_
        refine lv_istore_n (lv' := [(2, .int 0), (0, .ref (q 0)), (1, .int x1_6)]) hx hb dX6_tellWays_13 rfl hl (by decide) rfl (fun ls hl => ?_)
        exact HL14 _ 0 z_6 H locs ls k2689a (iv_w (iv_lit (n := 0) 0 (by decide)) (by decide) (by decide)) ⟨ex_6, fun p hp hlt => absurd hlt (by have := hp.1; omega)⟩ hJ hH (lv_sub hl [1, 2, 0] rfl) rfl
  refine lv_aload_n hx hb dX6_tellWays_0 rfl (lv_at hl 0 rfl) ?_
  refine b_callv (As := []) (rest := []) ⟨hx, hb, hml, hown, hts⟩ 0 6 (g_X6_tellSets_0 l D cy q hH.2.1 z0 hJ.1 ) (cwV 0 hts gX6_tellWays_X6_tellSets rfl rfl rfl (by decide +kernel) ⟨Nat.le_of_ble_eq_true rfl, Nat.le_of_ble_eq_true rfl⟩) hK hZ hH (by decide) rfl rfl rfl hl.1 rfl (Nat.le_of_ble_eq_true rfl) ⟨Nat.zero_le _, Nat.zero_le _⟩ dX6_tellWays_1 (fun z2690 H locs hp hH => ?_)
  have hJ := jJ_tr hJ hp (by decide) (by decide) (by decide)
  have hA2690 := hp.2
  refine lv_iconst (v := 0) hx hb dX6_tellWays_4 (by decide) ?_
  refine lv_istore_n (lv' := [(1, .int 0), (0, .ref (q 0))]) hx hb dX6_tellWays_5 rfl hl (by decide) rfl (fun ls hl => ?_)
  exact HL6 _ 0 z2690 H locs ls (iv_w (iv_lit (n := 0) 0 (by decide)) (by decide) (by decide)) (fun k p hk hlt => absurd hlt (by have := hk.1; omega)) hJ hH (lv_sub hl [1, 0] rfl) rfl
set_option maxHeartbeats 4000000 in
set_option maxRecDepth 100000 in
theorem g_X6_fewest_0 (l : Launch) (D : va_G) (cy : Nat → ClassId) (q : Nat → Nat) (hq : bJ 23 q) (z0 : zS) (hI : IvM z0)  : bCi l yX6_fewest wsX6_fewest ({ frames := 5, cells := 0, slots := 0, locals := 121 }) D cy 23 (enM cy) q z0 [.ref (q 0)] (fun v z => jJ IvM 0 507904 524288 z0 z ∧ iv (-4) 10 v) := by
  refine hM_i cX6_fewest (by decide) rfl (own := RX6) rfl hq (Nat.le_of_ble_eq_true rfl) ?_
  intro p e s m args below meth c Q ls H locs hx hb hml hown hts hK hZ hH hl hret
  have hl : lv_has ls 2 [(0, .ref (q 0))] := hl
  have hJ : jJ IvM 0 507904 524288 z0 z0 := jJ_rf _ _ _ hI
  refine lv_aload_n hx hb dX6_fewest_0 rfl (lv_at hl 0 rfl) ?_
  refine b_calli (As := []) (rest := []) ⟨hx, hb, hml, hown, hts⟩ 0 6 (g_X6_tellWays_0 l D cy q hH.2.1 z0 hJ.1 ) (cwV 0 hts gX6_fewest_X6_tellWays rfl rfl rfl (by decide +kernel) ⟨Nat.le_of_ble_eq_true rfl, Nat.le_of_ble_eq_true rfl⟩) hK hZ hH (by decide) rfl rfl rfl hl.1 rfl (Nat.le_of_ble_eq_true rfl) ⟨Nat.zero_le _, Nat.zero_le _⟩ dX6_fewest_1 (fun w5 z5 H locs hp hH => ?_)
  have hJ := jJ_tr hJ hp.1 (by decide) (by decide) (by decide)
  have i5 := hp.2.1
  have f5_0 := hp.2.2
  have hA5 := hp.1.2
  refine lv_istore_n (lv' := [(1, .int w5), (0, .ref (q 0))]) hx hb dX6_fewest_4 rfl hl (by decide) rfl (fun ls hl => ?_)
  refine lv_iload_n hx hb dX6_fewest_5 rfl (lv_at hl 0 rfl) ?_
  refine lv_if_ge (tgt := 14) hx hb dX6_fewest_6 (by decide) (fun c6 => ?_) (fun c6 => ?_)
  · skip
    have k7b : iv 0 10 w5 := iv_ler (iv_Le c6) (iv_lit (n := 0) 0 (by decide)) i5
    refine lv_iload_n hx hb dX6_fewest_14 rfl (lv_at hl 0 rfl) ?_
    exact hret _ z5 H locs _ _ ⟨hJ, (iv_w k7b (by decide) (by decide))⟩ hH dX6_fewest_15
  · skip
    have k8a : iv (-1) (-1) w5 := iv_ltl (iv_nLe c6) i5 (iv_lit (n := 0) 0 (by decide)) (by decide)
    refine lv_bipush (v := (-4)) hx hb dX6_fewest_9 (by decide) ?_
    refine lv_goto (tgt := 15) hx hb dX6_fewest_11 (by decide) ?_
    exact hret _ z5 H locs _ _ ⟨hJ, (iv_w (iv_lit (n := (-4)) (-4) (by decide)) (by decide) (by decide))⟩ hH dX6_fewest_15
set_option maxHeartbeats 4000000 in
set_option maxRecDepth 100000 in
theorem g_X6_many_0 (l : Launch) (D : va_G) (cy : Nat → ClassId) (q : Nat → Nat) (hq : bJ 23 q) (z0 : zS) (hI : IvM z0)  : bCl l yX6_many wsX6_many ({ frames := 5, cells := 0, slots := 0, locals := 121 }) D cy 23 (enM cy) q z0 [.ref (q 0)] (fun v z => jJ IvM 0 507904 524288 z0 z) := by
  refine hM_l cX6_many (by decide) rfl (own := RX6) rfl hq (Nat.le_of_ble_eq_true rfl) ?_
  intro p e s m args below meth c Q ls H locs hx hb hml hown hts hK hZ hH hl hret
  have hl : lv_has ls 2 [(0, .ref (q 0))] := hl
  have hJ : jJ IvM 0 507904 524288 z0 z0 := jJ_rf _ _ _ hI
  refine lv_aload_n hx hb dX6_many_0 rfl (lv_at hl 0 rfl) ?_
  refine b_calli (As := []) (rest := []) ⟨hx, hb, hml, hown, hts⟩ 0 6 (g_X6_tellWays_0 l D cy q hH.2.1 z0 hJ.1 ) (cwV 0 hts gX6_many_X6_tellWays rfl rfl rfl (by decide +kernel) ⟨Nat.le_of_ble_eq_true rfl, Nat.le_of_ble_eq_true rfl⟩) hK hZ hH (by decide) rfl rfl rfl hl.1 rfl (Nat.le_of_ble_eq_true rfl) ⟨Nat.zero_le _, Nat.zero_le _⟩ dX6_many_1 (fun w9 z9 H locs hp hH => ?_)
  have hJ := jJ_tr hJ hp.1 (by decide) (by decide) (by decide)
  have i9 := hp.2.1
  have f9_0 := hp.2.2
  have hA9 := hp.1.2
  refine lv_istore_n (lv' := [(1, .int w9), (0, .ref (q 0))]) hx hb dX6_many_4 rfl hl (by decide) rfl (fun ls hl => ?_)
  refine lv_iload_n hx hb dX6_many_5 rfl (lv_at hl 0 rfl) ?_
  refine lv_if_ge (tgt := 13) hx hb dX6_many_6 (by decide) (fun c10 => ?_) (fun c10 => ?_)
  · skip
    have k11b : iv 0 10 w9 := iv_ler (iv_Le c10) (iv_lit (n := 0) 0 (by decide)) i9
    refine lv_aload_n hx hb dX6_many_13 rfl (lv_at hl 1 rfl) ?_
    refine b_get (ci := 6) (C := RX6) (T := TX6) (Nf := 29) (v := .ref (q 19)) hx hb hts in_X6_many_X6 hown hK hH 0 (by decide) rfl rfl 25 (by decide) (hts (.fieldLink RX6 69 "StationLineModel" "ways" "[J") (List.mem_of_getElem? (i := 1) rfl)) rfl dX6_many_14 ?_
    refine lv_sipush (v := 1024) hx hb dX6_many_17 (by decide) ?_
    refine lv_iload_n hx hb dX6_many_20 rfl (lv_at hl 0 rfl) ?_
    refine lv_imul hx hb dX6_many_21 ?_
    refine h_i (a := 0) (b := 10240) (iv_mul (iv_lit (n := 1024) 1024 (by decide)) k11b (by decide) (by decide) (by decide) (by decide) (by decide)) (fun w12 i12 => ?_)
    refine lv_aload_n hx hb dX6_many_22 rfl (lv_at hl 1 rfl) ?_
    refine b_calli (As := []) (rest := [.int w12, .ref (q 19)]) ⟨hx, hb, hml, hown, hts⟩ 0 6 (g_X6_all_0 l D cy q hH.2.1 z9 hJ.1 ) (cwV 0 hts gX6_many_X6_all rfl rfl rfl (by decide +kernel) ⟨Nat.le_of_ble_eq_true rfl, Nat.le_of_ble_eq_true rfl⟩) hK hZ hH (by decide) rfl rfl rfl hl.1 rfl (Nat.le_of_ble_eq_true rfl) ⟨Nat.zero_le _, Nat.zero_le _⟩ dX6_many_23 (fun w13 z13 H locs hp hH => ?_)
    rw [Ag_0 hp.1.2] at hH
    have i13 := hp.2.1
    have f13_0 := hp.2.2
    refine lv_iadd hx hb dX6_many_26 ?_
    refine h_i (a := 0) (b := 11263) (iv_add i12 i13 (by decide) (by decide) (by decide) (by decide)) (fun w14 i14 => ?_)
    refine b_lald hx hb hK hH 19 (by decide) rfl (iv_in i14 (by decide) (by decide)) rfl dX6_many_27 ?_
    refine h_l (fun w15 => ?_)
    exact hret _ z9 H locs _ _ hJ hH dX6_many_28
  · skip
    have k16a : iv (-1) (-1) w9 := iv_ltl (iv_nLe c10) i9 (iv_lit (n := 0) 0 (by decide)) (by decide)
    refine lv_lconst (v := 0) hx hb dX6_many_9 (by decide) ?_
    refine lv_goto (tgt := 28) hx hb dX6_many_10 (by decide) ?_
    exact hret _ z9 H locs _ _ hJ hH dX6_many_28
set_option maxHeartbeats 4000000 in
set_option maxRecDepth 100000 in
theorem g_X6_tellLeast_0 (l : Launch) (D : va_G) (cy : Nat → ClassId) (q : Nat → Nat) (hq : bJ 23 q) (z0 : zS) (hI : IvM z0) (p0 : Int32) (hp0 : iv 0 10 p0) : bCv l yX6_tellLeast wsX6_tellLeast ({ frames := 2, cells := 0, slots := 0, locals := 46 }) D cy 23 (enM cy) q z0 [.ref (q 0), .int p0] (fun z => jJ IvM 0 0 1048576 z0 z ∧ (EK z0 z p0 (-1))) := by
  refine hM_v cX6_tellLeast (by decide) rfl (own := RX6) rfl hq (Nat.le_of_ble_eq_true rfl) ?_
  intro p e s m args below meth c Q ls H locs hx hb hml hown hts hK hZ hH hl hret
  have hl : lv_has ls 10 [(0, .ref (q 0)), (1, .int p0)] := hl
  have hJ : jJ IvM 0 0 1048576 z0 z0 := jJ_rf _ _ _ hI
  have e00 : (0 : Int32).toInt = 0 := (by decide); have e01 : (1 : Int32).toInt = 1 := (by decide); have e02 : (2 : Int32).toInt = 2 := (by decide); have e03 : (3 : Int32).toInt = 3 := (by decide); have e010 : (10 : Int32).toInt = 10 := (by decide)
  have hAll : iv 0 1023 (allF z0) := all_iv (IvM_s0 hI); have := hp0.1; have := hp0.2; have lm : (-1 : Int64).toInt = -1 := (by decide)
  have HL2 : ∀ (n : Nat) (x2_2 : Int32) (z_2 : zS) (H : Heap) (locs : List Loc) (ls : Array Slot), iv (-1) 10 x2_2 → (EK z0 z_2 p0 (x2_2 : Int32).toInt ∧ (x2_2 : Int32).toInt ≤ p0.toInt) → jJ IvM 0 0 1048576 z0 z_2 → bH D 23 (enM cy) q z_2 s.heap H locs → lv_has ls 10 [(0, .ref (q 0)), (1, .int p0), (2, .int x2_2)] → (x2_2.toInt - (-1)).toNat = n → W p l e ({ frames := 2, cells := 0, slots := 0, locals := 46 }) s m args below meth c H locs 0 0 Q (F0 m 2 ls []) := by
    intro n2
    induction n2 using Nat.strongRecOn with
    | ind n2 ih2 =>
      intro x2_2 z_2 H locs ls h2_2 ex_2 hJ hH hl hn2
      have := h2_2.1; have := h2_2.2
      have HL11 : ∀ (n : Nat) (x3_11 : Int32) (z_11 : zS) (H : Heap) (locs : List Loc) (ls : Array Slot), iv 0 10 x2_2 → iv (-1) 1023 x3_11 → (EK z0 z_11 p0 (x2_2 : Int32).toInt ∧ EP z0 z_11 p0 x2_2 (x3_11 : Int32).toInt ∧ (x2_2 : Int32).toInt ≤ p0.toInt ∧ (x3_11 : Int32).toInt ≤ (allF z0).toInt) → jJ IvM 0 0 1048576 z0 z_11 → bH D 23 (enM cy) q z_11 s.heap H locs → lv_has ls 10 [(0, .ref (q 0)), (1, .int p0), (2, .int x2_2), (3, .int x3_11)] → (x3_11.toInt - (-1)).toNat = n → W p l e ({ frames := 2, cells := 0, slots := 0, locals := 46 }) s m args below meth c H locs 0 0 Q (F0 m 11 ls []) := by
        intro n11
        induction n11 using Nat.strongRecOn with
        | ind n11 ih11 =>
          intro x3_11 z_11 H locs ls h2_11 h3_11 ex_11 hJ hH hl hn11
          have := h2_11.1; have := h2_11.2; have := h3_11.1; have := h3_11.2
          have HL50 : ∀ (n : Nat) (x4_50 : Int64) (x6_50 : Int32) (x7_50 : Int32) (z_50 : zS) (H : Heap) (locs : List Loc) (ls : Array Slot), iv 0 1023 x3_11 → iv 0 1023 x6_50 → iv 0 1024 x7_50 → (EK z0 z_50 p0 (x2_2 : Int32).toInt ∧ EP z0 z_50 p0 x2_2 (x3_11 : Int32).toInt ∧ ES z0 z_50 p0 x2_2 x3_11 (x7_50 : Int32).toInt x4_50 ∧ (x2_2 : Int32).toInt ≤ p0.toInt ∧ (x3_11 : Int32).toInt ≤ (allF z0).toInt ∧ x6_50 = (allF z0 &&& (x3_11 ^^^ (-1)))) → jJ IvM 0 0 1048576 z0 z_50 → bH D 23 (enM cy) q z_50 s.heap H locs → lv_has ls 10 [(0, .ref (q 0)), (1, .int p0), (2, .int x2_2), (3, .int x3_11), (4, .long x4_50), (6, .int x6_50), (7, .int x7_50)] → (1024 - x7_50.toInt).toNat = n → W p l e ({ frames := 2, cells := 0, slots := 0, locals := 46 }) s m args below meth c H locs 0 0 Q (F0 m 50 ls []) := by
            intro n50
            induction n50 using Nat.strongRecOn with
            | ind n50 ih50 =>
              intro x4_50 x6_50 x7_50 z_50 H locs ls h3_50 h6_50 h7_50 ex_50 hJ hH hl hn50
              have := h3_50.1; have := h3_50.2; have := h6_50.1; have := h6_50.2; have := h7_50.1; have := h7_50.2
              have g1 := Ag_1 hJ.2; have g2 := Ag_2 hJ.2; have gA := iv_Eq (allF_eq g1)
              refine lv_iload hx hb dX6_tellLeast_50 (lv_at hl 6 rfl) ?_
              refine lv_iload hx hb dX6_tellLeast_52 (lv_at hl 5 rfl) ?_
              refine lv_icmp_gt (tgt := 163) hx hb dX6_tellLeast_54 (by decide) (fun c1314 => ?_) (fun c1314 => ?_)
              · skip
                have r1314 := (iv_Lt c1314)
                have k1315b : iv 1 1024 x7_50 := iv_ltr (iv_Lt c1314) h6_50 h7_50 (by decide)
                refine lv_aload_n hx hb dX6_tellLeast_163 rfl (lv_at hl 0 rfl) ?_
                refine b_get (ci := 6) (C := RX6) (T := TX6) (Nf := 29) (v := .ref (q 20)) hx hb hts in_X6_tellLeast_X6 hown hK hH 0 (by decide) rfl rfl 26 (by decide) (hts (.fieldLink RX6 73 "StationLineModel" "least" "[J") (List.mem_of_getElem? (i := 2) rfl)) rfl dX6_tellLeast_164 ?_
                refine lv_sipush (v := 1024) hx hb dX6_tellLeast_167 (by decide) ?_
                refine lv_iload_n hx hb dX6_tellLeast_170 rfl (lv_at hl 2 rfl) ?_
                refine lv_imul hx hb dX6_tellLeast_171 ?_
                have i1316 : iv 0 10240 ((1024 : Int32) * x2_2) := (iv_mul (iv_lit (n := 1024) 1024 (by decide)) h2_11 (by decide) (by decide) (by decide) (by decide) (by decide))
                refine lv_iload_n hx hb dX6_tellLeast_172 rfl (lv_at hl 3 rfl) ?_
                refine lv_iadd hx hb dX6_tellLeast_173 ?_
                have i1317 : iv 0 11263 (((1024 : Int32) * x2_2) + x3_11) := (iv_add i1316 h3_50 (by decide) (by decide) (by decide) (by decide))
                refine lv_lload hx hb dX6_tellLeast_174 (lv_at hl 4 rfl) ?_
                refine b_last hx hb hK hH 20 (by decide) rfl (iv_in i1317 (by decide) (by decide)) (upL z_50 20 (vp_updL (z_50.2.2 20) (((1024 : Int32) * x2_2) + x3_11 : Int32).toNatClampNeg x4_50)) rfl (enM_L _ _ _ _ _) dX6_tellLeast_176 (fun H locs hH => ?_)
                obtain ⟨z1318, hz1318⟩ : ∃ w : zS, w = upL z_50 20 (vp_updL (z_50.2.2 20) (((1024 : Int32) * x2_2) + x3_11 : Int32).toNatClampNeg x4_50) := ⟨_, rfl⟩
                rw [← hz1318] at hH
                have hJ : jJ IvM 0 0 1048576 z0 z1318 := by rw [hz1318]; exact jJ_L hJ (by decide) (IvM_L hJ.1)
                have j1319 : iv (-1) 1022 (x3_11 + (-1)) := iv_add h3_50 (iv_lit (n := (-1)) (-1) (by decide)) (by decide) (by decide) (by decide) (by decide)
                have e1319 : (x3_11 + (-1)).toInt = x3_11.toInt + (-1) := (iv_addE h3_50 (iv_lit (n := (-1)) (-1) (by decide)) (by decide) (by decide)).trans rfl
                obtain ⟨y1319, hy1319⟩ : ∃ y : Int32, x3_11 + (-1) = y := ⟨_, rfl⟩
                rw [hy1319] at j1319 e1319
                refine lv_iinc (v := y1319) (lv' := [(3, .int y1319), (0, .ref (q 0)), (1, .int p0), (2, .int x2_2), (4, .long x4_50), (6, .int x6_50), (7, .int x7_50)]) hx hb dX6_tellLeast_177 hl (k := 3) rfl hy1319 (by decide) rfl (fun ls hl => ?_)
                refine lv_goto (tgt := 11) hx hb dX6_tellLeast_180 (by decide) ?_
                exact ih11 _ (ms_down e1319 j1319.1 hn11) y1319 z1318 H locs ls h2_11 (iv_w j1319 (by decide) (by decide)) ⟨ek_up hz1318 h2_11 hp0 h3_50 ex_50.1, ep_up hz1318 h2_11 hp0 h3_50 hAll ex_50.2.1 ex_50.2.2.1 (fun _ => by rw [← ex_50.2.2.2.2.2]; omega) (by omega), ex_50.2.2.2.1, by omega⟩ hJ hH (lv_sub hl [1, 2, 3, 0] rfl) rfl
              · skip
                have r1314 := (iv_nLt c1314)
                have k1320a : iv 0 1023 x7_50 := iv_lel (iv_nLt c1314) h7_50 h6_50
                refine lv_iload_n hx hb dX6_tellLeast_57 rfl (lv_at hl 2 rfl) ?_
                refine lv_iload_n hx hb dX6_tellLeast_58 rfl (lv_at hl 1 rfl) ?_
                refine lv_icmp_ge (tgt := 163) hx hb dX6_tellLeast_59 (by decide) (fun c1321 => ?_) (fun c1321 => ?_)
                · skip
                  have r1321 := (iv_Le c1321)
                  refine lv_aload_n hx hb dX6_tellLeast_163 rfl (lv_at hl 0 rfl) ?_
                  refine b_get (ci := 6) (C := RX6) (T := TX6) (Nf := 29) (v := .ref (q 20)) hx hb hts in_X6_tellLeast_X6 hown hK hH 0 (by decide) rfl rfl 26 (by decide) (hts (.fieldLink RX6 73 "StationLineModel" "least" "[J") (List.mem_of_getElem? (i := 2) rfl)) rfl dX6_tellLeast_164 ?_
                  refine lv_sipush (v := 1024) hx hb dX6_tellLeast_167 (by decide) ?_
                  refine lv_iload_n hx hb dX6_tellLeast_170 rfl (lv_at hl 2 rfl) ?_
                  refine lv_imul hx hb dX6_tellLeast_171 ?_
                  have i1323 : iv 0 10240 ((1024 : Int32) * x2_2) := (iv_mul (iv_lit (n := 1024) 1024 (by decide)) h2_11 (by decide) (by decide) (by decide) (by decide) (by decide))
                  refine lv_iload_n hx hb dX6_tellLeast_172 rfl (lv_at hl 3 rfl) ?_
                  refine lv_iadd hx hb dX6_tellLeast_173 ?_
                  have i1324 : iv 0 11263 (((1024 : Int32) * x2_2) + x3_11) := (iv_add i1323 h3_50 (by decide) (by decide) (by decide) (by decide))
                  refine lv_lload hx hb dX6_tellLeast_174 (lv_at hl 4 rfl) ?_
                  refine b_last hx hb hK hH 20 (by decide) rfl (iv_in i1324 (by decide) (by decide)) (upL z_50 20 (vp_updL (z_50.2.2 20) (((1024 : Int32) * x2_2) + x3_11 : Int32).toNatClampNeg x4_50)) rfl (enM_L _ _ _ _ _) dX6_tellLeast_176 (fun H locs hH => ?_)
                  obtain ⟨z1325, hz1325⟩ : ∃ w : zS, w = upL z_50 20 (vp_updL (z_50.2.2 20) (((1024 : Int32) * x2_2) + x3_11 : Int32).toNatClampNeg x4_50) := ⟨_, rfl⟩
                  rw [← hz1325] at hH
                  have hJ : jJ IvM 0 0 1048576 z0 z1325 := by rw [hz1325]; exact jJ_L hJ (by decide) (IvM_L hJ.1)
                  have j1326 : iv (-1) 1022 (x3_11 + (-1)) := iv_add h3_50 (iv_lit (n := (-1)) (-1) (by decide)) (by decide) (by decide) (by decide) (by decide)
                  have e1326 : (x3_11 + (-1)).toInt = x3_11.toInt + (-1) := (iv_addE h3_50 (iv_lit (n := (-1)) (-1) (by decide)) (by decide) (by decide)).trans rfl
                  obtain ⟨y1326, hy1326⟩ : ∃ y : Int32, x3_11 + (-1) = y := ⟨_, rfl⟩
                  rw [hy1326] at j1326 e1326
                  refine lv_iinc (v := y1326) (lv' := [(3, .int y1326), (0, .ref (q 0)), (1, .int p0), (2, .int x2_2), (4, .long x4_50), (6, .int x6_50), (7, .int x7_50)]) hx hb dX6_tellLeast_177 hl (k := 3) rfl hy1326 (by decide) rfl (fun ls hl => ?_)
                  refine lv_goto (tgt := 11) hx hb dX6_tellLeast_180 (by decide) ?_
                  exact ih11 _ (ms_down e1326 j1326.1 hn11) y1326 z1325 H locs ls h2_11 (iv_w j1326 (by decide) (by decide)) ⟨ek_up hz1325 h2_11 hp0 h3_50 ex_50.1, ep_up hz1325 h2_11 hp0 h3_50 hAll ex_50.2.1 ex_50.2.2.1 (fun q => absurd q (by omega)) (by omega), ex_50.2.2.2.1, by omega⟩ hJ hH (lv_sub hl [1, 2, 3, 0] rfl) rfl
                · skip
                  have r1321 := (iv_nLe c1321)
                  have k1327a : iv 0 9 x2_2 := iv_ltl (iv_nLe c1321) h2_11 hp0 (by decide)
                  have k1327b : iv 1 10 p0 := iv_ltr (iv_nLe c1321) h2_11 hp0 (by decide)
                  refine lv_iload hx hb dX6_tellLeast_62 (lv_at hl 6 rfl) ?_
                  refine lv_iload hx hb dX6_tellLeast_64 (lv_at hl 5 rfl) ?_
                  refine lv_iconst (v := (-1)) hx hb dX6_tellLeast_66 (by decide) ?_
                  refine lv_ixor hx hb dX6_tellLeast_67 ?_
                  refine lv_iand hx hb dX6_tellLeast_68 ?_
                  have i1329 : iv 0 1023 (x7_50 &&& (x6_50 ^^^ (-1))) := (iv_and k1320a (iv_all (x6_50 ^^^ (-1))) (by decide) (by decide))
                  have e1329 : (x7_50 &&& (x6_50 ^^^ (-1))).toInt ≤ x7_50.toInt := (iv_andlt k1320a (by decide))
                  refine lv_if_ne (tgt := 157) hx hb dX6_tellLeast_69 (by decide) (fun c1330 => ?_) (fun c1330 => ?_)
                  · skip
                    have r1330 := (iv_nEq c1330)
                    have k1331a : iv 1 1023 (x7_50 &&& (x6_50 ^^^ (-1))) := iv_neLo (iv_nEq c1330) i1329 (by decide) (by decide)
                    have j1332 : iv 1 1024 (x7_50 + 1) := iv_add k1320a (iv_lit (n := 1) 1 (by decide)) (by decide) (by decide) (by decide) (by decide)
                    have e1332 : (x7_50 + 1).toInt = x7_50.toInt + 1 := (iv_addE k1320a (iv_lit (n := 1) 1 (by decide)) (by decide) (by decide)).trans rfl
                    refine lv_iinc (v := (x7_50 + 1)) (lv' := [(7, .int (x7_50 + 1)), (0, .ref (q 0)), (1, .int p0), (2, .int x2_2), (3, .int x3_11), (4, .long x4_50), (6, .int x6_50)]) hx hb dX6_tellLeast_157 hl (k := 6) rfl rfl (by decide) rfl (fun ls hl => ?_)
                    refine lv_goto (tgt := 50) hx hb dX6_tellLeast_160 (by decide) ?_
                    exact ih50 _ (ms_up e1332 j1332.2 hn50) x4_50 x6_50 (x7_50 + 1) z_50 H locs ls h3_50 h6_50 (iv_w j1332 (by decide) (by decide)) ⟨ex_50.1, ex_50.2.1, es_skip ex_50.2.2.1 (by omega) (fun q => absurd q.2.1 (by rw [← ex_50.2.2.2.2.2]; exact c1330)), ex_50.2.2.2.1, ex_50.2.2.2.2.1, ex_50.2.2.2.2.2⟩ hJ hH (lv_sub hl [1, 2, 3, 4, 5, 6, 0] rfl) rfl
                  · skip
                    have r1330 := (iv_Eq c1330)
                    have k1333a : iv 0 0 (x7_50 &&& (x6_50 ^^^ (-1))) := iv_eql (iv_Eq c1330) i1329 (iv_lit (n := 0) 0 (by decide)) (by decide) (by decide)
                    refine lv_aload_n hx hb dX6_tellLeast_72 rfl (lv_at hl 0 rfl) ?_
                    refine b_get (ci := 6) (C := RX6) (T := TX6) (Nf := 29) (v := .ref (q 20)) hx hb hts in_X6_tellLeast_X6 hown hK hH 0 (by decide) rfl rfl 26 (by decide) (hts (.fieldLink RX6 73 "StationLineModel" "least" "[J") (List.mem_of_getElem? (i := 2) rfl)) rfl dX6_tellLeast_73 ?_
                    refine lv_sipush (v := 1024) hx hb dX6_tellLeast_76 (by decide) ?_
                    refine lv_iload_n hx hb dX6_tellLeast_79 rfl (lv_at hl 2 rfl) ?_
                    refine lv_iconst (v := 1) hx hb dX6_tellLeast_80 (by decide) ?_
                    refine lv_iadd hx hb dX6_tellLeast_81 ?_
                    have i1334 : iv 1 10 (x2_2 + 1) := (iv_add k1327a (iv_lit (n := 1) 1 (by decide)) (by decide) (by decide) (by decide) (by decide))
                    have e1334 : (x2_2 + 1).toInt = x2_2.toInt + 1 := ((iv_addE k1327a (iv_lit (n := 1) 1 (by decide)) (by decide) (by decide)).trans rfl)
                    have := i1334.1; have := i1334.2
                    refine lv_imul hx hb dX6_tellLeast_82 ?_
                    have i1335 : iv 1024 10240 ((1024 : Int32) * (x2_2 + 1)) := (iv_mul (iv_lit (n := 1024) 1024 (by decide)) i1334 (by decide) (by decide) (by decide) (by decide) (by decide))
                    refine lv_iload_n hx hb dX6_tellLeast_83 rfl (lv_at hl 3 rfl) ?_
                    refine lv_iload hx hb dX6_tellLeast_84 (lv_at hl 6 rfl) ?_
                    refine lv_ior hx hb dX6_tellLeast_86 ?_
                    have i1336 : iv 0 1023 (x3_11 ||| x7_50) := (iv_or 10 (b := 1023) (d := 1023) (iv_w h3_50 (by decide) (by decide)) (iv_w k1320a (by decide) (by decide)) (by decide) (by decide) (by decide) (by decide))
                    refine lv_iadd hx hb dX6_tellLeast_87 ?_
                    have i1337 : iv 1024 11263 (((1024 : Int32) * (x2_2 + 1)) + (x3_11 ||| x7_50)) := (iv_add i1335 i1336 (by decide) (by decide) (by decide) (by decide))
                    refine b_lald hx hb hK hH 20 (by decide) rfl (iv_in i1337 (by decide) (by decide)) rfl dX6_tellLeast_88 ?_
                    refine lv_lconst (v := 0) hx hb dX6_tellLeast_89 (by decide) ?_
                    refine W.lcmp hx hb dX6_tellLeast_90 ?_
                    refine lv_if_lt (tgt := 157) hx hb dX6_tellLeast_91 (by decide) (fun c1339 => ?_) (fun c1339 => ?_)
                    · skip
                      have r1339 := (iv_Lt c1339)
                      have k1340a : iv (-2147483648) (-1) (lg_cmp (z_50.2.2 20 (((1024 : Int32) * (x2_2 + 1)) + (x3_11 ||| x7_50) : Int32).toNatClampNeg) 0) := iv_ltl (iv_Lt c1339) (iv_all (lg_cmp (z_50.2.2 20 (((1024 : Int32) * (x2_2 + 1)) + (x3_11 ||| x7_50) : Int32).toNatClampNeg) 0)) (iv_lit (n := 0) 0 (by decide)) (by decide)
                      have j1341 : iv 1 1024 (x7_50 + 1) := iv_add k1320a (iv_lit (n := 1) 1 (by decide)) (by decide) (by decide) (by decide) (by decide)
                      have e1341 : (x7_50 + 1).toInt = x7_50.toInt + 1 := (iv_addE k1320a (iv_lit (n := 1) 1 (by decide)) (by decide) (by decide)).trans rfl
                      refine lv_iinc (v := (x7_50 + 1)) (lv' := [(7, .int (x7_50 + 1)), (0, .ref (q 0)), (1, .int p0), (2, .int x2_2), (3, .int x3_11), (4, .long x4_50), (6, .int x6_50)]) hx hb dX6_tellLeast_157 hl (k := 6) rfl rfl (by decide) rfl (fun ls hl => ?_)
                      refine lv_goto (tgt := 50) hx hb dX6_tellLeast_160 (by decide) ?_
                      exact ih50 _ (ms_up e1341 j1341.2 hn50) x4_50 x6_50 (x7_50 + 1) z_50 H locs ls h3_50 h6_50 (iv_w j1341 (by decide) (by decide)) ⟨ex_50.1, ex_50.2.1, es_skip ex_50.2.2.1 (by omega) (fun q => absurd q.2.2.2 (fun r => absurd (lgc_ng c1339) (Int.not_lt.mpr r))), ex_50.2.2.2.1, ex_50.2.2.2.2.1, ex_50.2.2.2.2.2⟩ hJ hH (lv_sub hl [1, 2, 3, 4, 5, 6, 0] rfl) rfl
                    · skip
                      have r1339 := (iv_nLt c1339)
                      have k1342b : iv 0 2147483647 (lg_cmp (z_50.2.2 20 (((1024 : Int32) * (x2_2 + 1)) + (x3_11 ||| x7_50) : Int32).toNatClampNeg) 0) := iv_ler (iv_nLt c1339) (iv_lit (n := 0) 0 (by decide)) (iv_all (lg_cmp (z_50.2.2 20 (((1024 : Int32) * (x2_2 + 1)) + (x3_11 ||| x7_50) : Int32).toNatClampNeg) 0))
                      refine lv_aload_n hx hb dX6_tellLeast_94 rfl (lv_at hl 0 rfl) ?_
                      refine lv_iload hx hb dX6_tellLeast_95 (lv_at hl 6 rfl) ?_
                      refine lv_iload_n hx hb dX6_tellLeast_97 rfl (lv_at hl 2 rfl) ?_
                      refine lv_iconst (v := 1) hx hb dX6_tellLeast_98 (by decide) ?_
                      refine lv_iadd hx hb dX6_tellLeast_99 ?_
                      have i1343 : iv 1 10 (x2_2 + 1) := (iv_add k1327a (iv_lit (n := 1) 1 (by decide)) (by decide) (by decide) (by decide) (by decide))
                      have e1343 : (x2_2 + 1).toInt = x2_2.toInt + 1 := ((iv_addE k1327a (iv_lit (n := 1) 1 (by decide)) (by decide) (by decide)).trans rfl)
                      have := i1343.1; have := i1343.2
                      refine lv_iload_n hx hb dX6_tellLeast_100 rfl (lv_at hl 3 rfl) ?_
                      refine b_calli (As := [.int x7_50, .int (x2_2 + 1), .int x3_11]) (rest := []) ⟨hx, hb, hml, hown, hts⟩ 0 6 (g_X6_canBe_0 l D cy q hH.2.1 z_50 hJ.1 x7_50 k1320a (x2_2 + 1) x3_11) (cwV 3 hts gX6_tellLeast_X6_canBe rfl rfl rfl (by decide +kernel) ⟨Nat.le_of_ble_eq_true rfl, Nat.le_of_ble_eq_true rfl⟩) hK hZ hH (by decide) rfl rfl rfl hl.1 rfl (Nat.le_of_ble_eq_true rfl) ⟨Nat.zero_le _, Nat.zero_le _⟩ dX6_tellLeast_101 (fun w1344 z1344 H locs hp hH => ?_)
                      rw [Ag_0 hp.1.2] at hH
                      have i1344 := hp.2.1
                      have := i1344.1; have := i1344.2
                      have f1344_0 := hp.2.2
                      refine lv_if_eq (tgt := 157) hx hb dX6_tellLeast_104 (by decide) (fun c1345 => ?_) (fun c1345 => ?_)
                      · skip
                        have r1345 := (iv_Eq c1345)
                        have k1346a : iv 0 0 w1344 := iv_eql (iv_Eq c1345) i1344 (iv_lit (n := 0) 0 (by decide)) (by decide) (by decide)
                        have j1347 : iv 1 1024 (x7_50 + 1) := iv_add k1320a (iv_lit (n := 1) 1 (by decide)) (by decide) (by decide) (by decide) (by decide)
                        have e1347 : (x7_50 + 1).toInt = x7_50.toInt + 1 := (iv_addE k1320a (iv_lit (n := 1) 1 (by decide)) (by decide) (by decide)).trans rfl
                        refine lv_iinc (v := (x7_50 + 1)) (lv' := [(7, .int (x7_50 + 1)), (0, .ref (q 0)), (1, .int p0), (2, .int x2_2), (3, .int x3_11), (4, .long x4_50), (6, .int x6_50)]) hx hb dX6_tellLeast_157 hl (k := 6) rfl rfl (by decide) rfl (fun ls hl => ?_)
                        refine lv_goto (tgt := 50) hx hb dX6_tellLeast_160 (by decide) ?_
                        exact ih50 _ (ms_up e1347 j1347.2 hn50) x4_50 x6_50 (x7_50 + 1) z_50 H locs ls h3_50 h6_50 (iv_w j1347 (by decide) (by decide)) ⟨ex_50.1, ex_50.2.1, es_skip ex_50.2.2.1 (by omega) (fun q => absurd (f1344_0.mpr (by rw [CB_eq2 g1 g2]; exact q.2.2.1)) (fun r => r c1345)), ex_50.2.2.2.1, ex_50.2.2.2.2.1, ex_50.2.2.2.2.2⟩ hJ hH (lv_sub hl [1, 2, 3, 4, 5, 6, 0] rfl) rfl
                      · skip
                        have r1345 := (iv_nEq c1345)
                        have k1348a : iv 1 1 w1344 := iv_neLo (iv_nEq c1345) i1344 (by decide) (by decide)
                        refine lv_aload_n hx hb dX6_tellLeast_107 rfl (lv_at hl 0 rfl) ?_
                        refine lv_iload hx hb dX6_tellLeast_108 (lv_at hl 6 rfl) ?_
                        refine b_calll (As := [.int x7_50]) (rest := []) ⟨hx, hb, hml, hown, hts⟩ 0 6 (g_X6_square_0 l D cy q hH.2.1 z_50 hJ.1 x7_50 k1320a) (cwV 1 hts gX6_tellLeast_X6_square rfl rfl rfl (by decide +kernel) ⟨Nat.le_of_ble_eq_true rfl, Nat.le_of_ble_eq_true rfl⟩) hK hZ hH (by decide) rfl rfl rfl hl.1 rfl (Nat.le_of_ble_eq_true rfl) ⟨Nat.zero_le _, Nat.zero_le _⟩ dX6_tellLeast_110 (fun w1349 z1349 H locs hp hH => ?_)
                        rw [Ag_0 hp.1.2] at hH
                        have f1349_0 := hp.2
                        refine lv_aload_n hx hb dX6_tellLeast_113 rfl (lv_at hl 0 rfl) ?_
                        refine b_get (ci := 6) (C := RX6) (T := TX6) (Nf := 29) (v := .ref (q 20)) hx hb hts in_X6_tellLeast_X6 hown hK hH 0 (by decide) rfl rfl 26 (by decide) (hts (.fieldLink RX6 73 "StationLineModel" "least" "[J") (List.mem_of_getElem? (i := 2) rfl)) rfl dX6_tellLeast_114 ?_
                        refine lv_sipush (v := 1024) hx hb dX6_tellLeast_117 (by decide) ?_
                        refine lv_iload_n hx hb dX6_tellLeast_120 rfl (lv_at hl 2 rfl) ?_
                        refine lv_iconst (v := 1) hx hb dX6_tellLeast_121 (by decide) ?_
                        refine lv_iadd hx hb dX6_tellLeast_122 ?_
                        have i1350 : iv 1 10 (x2_2 + 1) := (iv_add k1327a (iv_lit (n := 1) 1 (by decide)) (by decide) (by decide) (by decide) (by decide))
                        have e1350 : (x2_2 + 1).toInt = x2_2.toInt + 1 := ((iv_addE k1327a (iv_lit (n := 1) 1 (by decide)) (by decide) (by decide)).trans rfl)
                        have := i1350.1; have := i1350.2
                        refine lv_imul hx hb dX6_tellLeast_123 ?_
                        have i1351 : iv 1024 10240 ((1024 : Int32) * (x2_2 + 1)) := (iv_mul (iv_lit (n := 1024) 1024 (by decide)) i1350 (by decide) (by decide) (by decide) (by decide) (by decide))
                        refine lv_iload_n hx hb dX6_tellLeast_124 rfl (lv_at hl 3 rfl) ?_
                        refine lv_iload hx hb dX6_tellLeast_125 (lv_at hl 6 rfl) ?_
                        refine lv_ior hx hb dX6_tellLeast_127 ?_
                        have i1352 : iv 0 1023 (x3_11 ||| x7_50) := (iv_or 10 (b := 1023) (d := 1023) (iv_w h3_50 (by decide) (by decide)) (iv_w k1320a (by decide) (by decide)) (by decide) (by decide) (by decide) (by decide))
                        refine lv_iadd hx hb dX6_tellLeast_128 ?_
                        have i1353 : iv 1024 11263 (((1024 : Int32) * (x2_2 + 1)) + (x3_11 ||| x7_50)) := (iv_add i1351 i1352 (by decide) (by decide) (by decide) (by decide))
                        refine b_lald hx hb hK hH 20 (by decide) rfl (iv_in i1353 (by decide) (by decide)) rfl dX6_tellLeast_129 ?_
                        refine lv_ladd hx hb dX6_tellLeast_130 ?_
                        refine lv_lstore (lv' := [(8, .long (w1349 + (z_50.2.2 20 (((1024 : Int32) * (x2_2 + 1)) + (x3_11 ||| x7_50) : Int32).toNatClampNeg))), (0, .ref (q 0)), (1, .int p0), (2, .int x2_2), (3, .int x3_11), (4, .long x4_50), (6, .int x6_50), (7, .int x7_50)]) hx hb dX6_tellLeast_131 hl (by decide) rfl (fun ls hl => ?_)
                        refine lv_lload hx hb dX6_tellLeast_133 (lv_at hl 5 rfl) ?_
                        refine lv_lconst (v := 0) hx hb dX6_tellLeast_135 (by decide) ?_
                        refine W.lcmp hx hb dX6_tellLeast_136 ?_
                        refine lv_if_lt (tgt := 148) hx hb dX6_tellLeast_137 (by decide) (fun c1355 => ?_) (fun c1355 => ?_)
                        · skip
                          have r1355 := (iv_Lt c1355)
                          have k1356a : iv (-2147483648) (-1) (lg_cmp x4_50 0) := iv_ltl (iv_Lt c1355) (iv_all (lg_cmp x4_50 0)) (iv_lit (n := 0) 0 (by decide)) (by decide)
                          refine lv_lload hx hb dX6_tellLeast_148 (lv_at hl 0 rfl) ?_
                          refine lv_goto (tgt := 155) hx hb dX6_tellLeast_150 (by decide) ?_
                          refine lv_lstore (lv' := [(4, .long (w1349 + (z_50.2.2 20 (((1024 : Int32) * (x2_2 + 1)) + (x3_11 ||| x7_50) : Int32).toNatClampNeg))), (8, .long (w1349 + (z_50.2.2 20 (((1024 : Int32) * (x2_2 + 1)) + (x3_11 ||| x7_50) : Int32).toNatClampNeg))), (0, .ref (q 0)), (1, .int p0), (2, .int x2_2), (3, .int x3_11), (6, .int x6_50), (7, .int x7_50)]) hx hb dX6_tellLeast_155 hl (by decide) rfl (fun ls hl => ?_)
                          have j1357 : iv 1 1024 (x7_50 + 1) := iv_add k1320a (iv_lit (n := 1) 1 (by decide)) (by decide) (by decide) (by decide) (by decide)
                          have e1357 : (x7_50 + 1).toInt = x7_50.toInt + 1 := (iv_addE k1320a (iv_lit (n := 1) 1 (by decide)) (by decide) (by decide)).trans rfl
                          refine lv_iinc (v := (x7_50 + 1)) (lv' := [(7, .int (x7_50 + 1)), (4, .long (w1349 + (z_50.2.2 20 (((1024 : Int32) * (x2_2 + 1)) + (x3_11 ||| x7_50) : Int32).toNatClampNeg))), (8, .long (w1349 + (z_50.2.2 20 (((1024 : Int32) * (x2_2 + 1)) + (x3_11 ||| x7_50) : Int32).toNatClampNeg))), (0, .ref (q 0)), (1, .int p0), (2, .int x2_2), (3, .int x3_11), (6, .int x6_50)]) hx hb dX6_tellLeast_157 hl (k := 7) rfl rfl (by decide) rfl (fun ls hl => ?_)
                          refine lv_goto (tgt := 50) hx hb dX6_tellLeast_160 (by decide) ?_
                          exact ih50 _ (ms_up e1357 j1357.2 hn50) (w1349 + (z_50.2.2 20 (((1024 : Int32) * (x2_2 + 1)) + (x3_11 ||| x7_50) : Int32).toNatClampNeg)) x6_50 (x7_50 + 1) z_50 H locs ls h3_50 h6_50 (iv_w j1357 (by decide) (by decide)) ⟨ex_50.1, ex_50.2.1, es_take ex_50.2.2.1 (by omega) (by omega) (show OKs z0 z_50 x2_2 x3_11 x7_50 from ⟨k1320a, by rw [← ex_50.2.2.2.2.2]; exact c1330, by rw [← CB_eq2 g1 g2]; exact f1344_0.mp c1345, lgc_nn c1339⟩) (by rw [f1349_0, sqS_z g2]; rfl) (by rw [f1349_0, sqS_z g2]; exact sum_bd (IvM_a16 hI) hAll ex_50.1 (iv_w k1327a (by decide) (by decide)) hp0 (by omega) h3_50 ex_50.2.2.2.2.1 (or_le (all_pow (IvM_s0 hI)) h3_50 k1320a ex_50.2.2.2.2.1 (by have := sub_le k1320a hAll (by rw [← ex_50.2.2.2.2.2]; exact c1330); have := iv_andlt (x := allF z0) (y := x3_11 ^^^ (-1)) hAll (by decide); omega)) (show OKs z0 z_50 x2_2 x3_11 x7_50 from ⟨k1320a, by rw [← ex_50.2.2.2.2.2]; exact c1330, by rw [← CB_eq2 g1 g2]; exact f1344_0.mp c1345, lgc_nn c1339⟩)), ex_50.2.2.2.1, ex_50.2.2.2.2.1, ex_50.2.2.2.2.2⟩ hJ hH (lv_sub hl [3, 4, 5, 6, 1, 7, 0] rfl) rfl
                        · skip
                          have r1355 := (iv_nLt c1355)
                          have k1358b : iv 0 2147483647 (lg_cmp x4_50 0) := iv_ler (iv_nLt c1355) (iv_lit (n := 0) 0 (by decide)) (iv_all (lg_cmp x4_50 0))
                          refine lv_lload hx hb dX6_tellLeast_140 (lv_at hl 0 rfl) ?_
                          refine lv_lload hx hb dX6_tellLeast_142 (lv_at hl 5 rfl) ?_
                          refine W.lcmp hx hb dX6_tellLeast_144 ?_
                          refine lv_if_ge (tgt := 153) hx hb dX6_tellLeast_145 (by decide) (fun c1360 => ?_) (fun c1360 => ?_)
                          · skip
                            have r1360 := (iv_Le c1360)
                            have k1361b : iv 0 2147483647 (lg_cmp (w1349 + (z_50.2.2 20 (((1024 : Int32) * (x2_2 + 1)) + (x3_11 ||| x7_50) : Int32).toNatClampNeg)) x4_50) := iv_ler (iv_Le c1360) (iv_lit (n := 0) 0 (by decide)) (iv_all (lg_cmp (w1349 + (z_50.2.2 20 (((1024 : Int32) * (x2_2 + 1)) + (x3_11 ||| x7_50) : Int32).toNatClampNeg)) x4_50))
                            refine lv_lload hx hb dX6_tellLeast_153 (lv_at hl 5 rfl) ?_
                            refine lv_lstore (lv' := [(4, .long x4_50), (8, .long (w1349 + (z_50.2.2 20 (((1024 : Int32) * (x2_2 + 1)) + (x3_11 ||| x7_50) : Int32).toNatClampNeg))), (0, .ref (q 0)), (1, .int p0), (2, .int x2_2), (3, .int x3_11), (6, .int x6_50), (7, .int x7_50)]) hx hb dX6_tellLeast_155 hl (by decide) rfl (fun ls hl => ?_)
                            have j1362 : iv 1 1024 (x7_50 + 1) := iv_add k1320a (iv_lit (n := 1) 1 (by decide)) (by decide) (by decide) (by decide) (by decide)
                            have e1362 : (x7_50 + 1).toInt = x7_50.toInt + 1 := (iv_addE k1320a (iv_lit (n := 1) 1 (by decide)) (by decide) (by decide)).trans rfl
                            refine lv_iinc (v := (x7_50 + 1)) (lv' := [(7, .int (x7_50 + 1)), (4, .long x4_50), (8, .long (w1349 + (z_50.2.2 20 (((1024 : Int32) * (x2_2 + 1)) + (x3_11 ||| x7_50) : Int32).toNatClampNeg))), (0, .ref (q 0)), (1, .int p0), (2, .int x2_2), (3, .int x3_11), (6, .int x6_50)]) hx hb dX6_tellLeast_157 hl (k := 7) rfl rfl (by decide) rfl (fun ls hl => ?_)
                            refine lv_goto (tgt := 50) hx hb dX6_tellLeast_160 (by decide) ?_
                            exact ih50 _ (ms_up e1362 j1362.2 hn50) x4_50 x6_50 (x7_50 + 1) z_50 H locs ls h3_50 h6_50 (iv_w j1362 (by decide) (by decide)) ⟨ex_50.1, ex_50.2.1, es_leave ex_50.2.2.1 (by omega) (lgc_nn c1355), ex_50.2.2.2.1, ex_50.2.2.2.2.1, ex_50.2.2.2.2.2⟩ hJ hH (lv_sub hl [3, 4, 5, 6, 1, 7, 0] rfl) rfl
                          · skip
                            have r1360 := (iv_nLe c1360)
                            have k1363a : iv (-2147483648) (-1) (lg_cmp (w1349 + (z_50.2.2 20 (((1024 : Int32) * (x2_2 + 1)) + (x3_11 ||| x7_50) : Int32).toNatClampNeg)) x4_50) := iv_ltl (iv_nLe c1360) (iv_all (lg_cmp (w1349 + (z_50.2.2 20 (((1024 : Int32) * (x2_2 + 1)) + (x3_11 ||| x7_50) : Int32).toNatClampNeg)) x4_50)) (iv_lit (n := 0) 0 (by decide)) (by decide)
                            refine lv_lload hx hb dX6_tellLeast_148 (lv_at hl 0 rfl) ?_
                            refine lv_goto (tgt := 155) hx hb dX6_tellLeast_150 (by decide) ?_
                            refine lv_lstore (lv' := [(4, .long (w1349 + (z_50.2.2 20 (((1024 : Int32) * (x2_2 + 1)) + (x3_11 ||| x7_50) : Int32).toNatClampNeg))), (8, .long (w1349 + (z_50.2.2 20 (((1024 : Int32) * (x2_2 + 1)) + (x3_11 ||| x7_50) : Int32).toNatClampNeg))), (0, .ref (q 0)), (1, .int p0), (2, .int x2_2), (3, .int x3_11), (6, .int x6_50), (7, .int x7_50)]) hx hb dX6_tellLeast_155 hl (by decide) rfl (fun ls hl => ?_)
                            have j1364 : iv 1 1024 (x7_50 + 1) := iv_add k1320a (iv_lit (n := 1) 1 (by decide)) (by decide) (by decide) (by decide) (by decide)
                            have e1364 : (x7_50 + 1).toInt = x7_50.toInt + 1 := (iv_addE k1320a (iv_lit (n := 1) 1 (by decide)) (by decide) (by decide)).trans rfl
                            refine lv_iinc (v := (x7_50 + 1)) (lv' := [(7, .int (x7_50 + 1)), (4, .long (w1349 + (z_50.2.2 20 (((1024 : Int32) * (x2_2 + 1)) + (x3_11 ||| x7_50) : Int32).toNatClampNeg))), (8, .long (w1349 + (z_50.2.2 20 (((1024 : Int32) * (x2_2 + 1)) + (x3_11 ||| x7_50) : Int32).toNatClampNeg))), (0, .ref (q 0)), (1, .int p0), (2, .int x2_2), (3, .int x3_11), (6, .int x6_50)]) hx hb dX6_tellLeast_157 hl (k := 7) rfl rfl (by decide) rfl (fun ls hl => ?_)
                            refine lv_goto (tgt := 50) hx hb dX6_tellLeast_160 (by decide) ?_
                            exact ih50 _ (ms_up e1364 j1364.2 hn50) (w1349 + (z_50.2.2 20 (((1024 : Int32) * (x2_2 + 1)) + (x3_11 ||| x7_50) : Int32).toNatClampNeg)) x6_50 (x7_50 + 1) z_50 H locs ls h3_50 h6_50 (iv_w j1364 (by decide) (by decide)) ⟨ex_50.1, ex_50.2.1, es_take ex_50.2.2.1 (by omega) (by omega) (show OKs z0 z_50 x2_2 x3_11 x7_50 from ⟨k1320a, by rw [← ex_50.2.2.2.2.2]; exact c1330, by rw [← CB_eq2 g1 g2]; exact f1344_0.mp c1345, lgc_nn c1339⟩) (by rw [f1349_0, sqS_z g2]; rfl) (by rw [f1349_0, sqS_z g2]; exact sum_bd (IvM_a16 hI) hAll ex_50.1 (iv_w k1327a (by decide) (by decide)) hp0 (by omega) h3_50 ex_50.2.2.2.2.1 (or_le (all_pow (IvM_s0 hI)) h3_50 k1320a ex_50.2.2.2.2.1 (by have := sub_le k1320a hAll (by rw [← ex_50.2.2.2.2.2]; exact c1330); have := iv_andlt (x := allF z0) (y := x3_11 ^^^ (-1)) hAll (by decide); omega)) (show OKs z0 z_50 x2_2 x3_11 x7_50 from ⟨k1320a, by rw [← ex_50.2.2.2.2.2]; exact c1330, by rw [← CB_eq2 g1 g2]; exact f1344_0.mp c1345, lgc_nn c1339⟩)), ex_50.2.2.2.1, ex_50.2.2.2.2.1, ex_50.2.2.2.2.2⟩ hJ hH (lv_sub hl [3, 4, 5, 6, 1, 7, 0] rfl) rfl
          have g1 := Ag_1 hJ.2; have g2 := Ag_2 hJ.2; have gA := iv_Eq (allF_eq g1)
          refine lv_iload_n hx hb dX6_tellLeast_11 rfl (lv_at hl 3 rfl) ?_
          refine lv_if_lt (tgt := 183) hx hb dX6_tellLeast_12 (by decide) (fun c1365 => ?_) (fun c1365 => ?_)
          · skip
            have r1365 := (iv_Lt c1365)
            have k1366a : iv (-1) (-1) x3_11 := iv_ltl (iv_Lt c1365) h3_11 (iv_lit (n := 0) 0 (by decide)) (by decide)
            have j1367 : iv (-1) 9 (x2_2 + (-1)) := iv_add h2_11 (iv_lit (n := (-1)) (-1) (by decide)) (by decide) (by decide) (by decide) (by decide)
            have e1367 : (x2_2 + (-1)).toInt = x2_2.toInt + (-1) := (iv_addE h2_11 (iv_lit (n := (-1)) (-1) (by decide)) (by decide) (by decide)).trans rfl
            obtain ⟨y1367, hy1367⟩ : ∃ y : Int32, x2_2 + (-1) = y := ⟨_, rfl⟩
            rw [hy1367] at j1367 e1367
            refine lv_iinc (v := y1367) (lv' := [(2, .int y1367), (0, .ref (q 0)), (1, .int p0), (3, .int x3_11)]) hx hb dX6_tellLeast_183 hl (k := 2) rfl hy1367 (by decide) rfl (fun ls hl => ?_)
            refine lv_goto (tgt := 2) hx hb dX6_tellLeast_186 (by decide) ?_
            exact ih2 _ (ms_down e1367 j1367.1 hn2) y1367 z_11 H locs ls (iv_w j1367 (by decide) (by decide)) ⟨ek_next ex_11.1 ex_11.2.1 (by omega) (by omega), by omega⟩ hJ hH (lv_sub hl [1, 2, 0] rfl) rfl
          · skip
            have r1365 := (iv_nLt c1365)
            have k1368b : iv 0 1023 x3_11 := iv_ler (iv_nLt c1365) (iv_lit (n := 0) 0 (by decide)) h3_11
            refine lv_iload_n hx hb dX6_tellLeast_15 rfl (lv_at hl 2 rfl) ?_
            refine lv_iload_n hx hb dX6_tellLeast_16 rfl (lv_at hl 1 rfl) ?_
            refine lv_icmp_ne (tgt := 32) hx hb dX6_tellLeast_17 (by decide) (fun c1369 => ?_) (fun c1369 => ?_)
            · skip
              have r1369 := (iv_nEq c1369)
              refine lv_ldc2 hx hb hown (hts (.constantLong RX6 165 (-1)) (List.mem_of_getElem? (i := 1) rfl)) dX6_tellLeast_32 ?_
              refine lv_lstore (lv' := [(4, .long (-1)), (0, .ref (q 0)), (1, .int p0), (2, .int x2_2), (3, .int x3_11)]) hx hb dX6_tellLeast_35 hl (by decide) rfl (fun ls hl => ?_)
              refine lv_aload_n hx hb dX6_tellLeast_37 rfl (lv_at hl 1 rfl) ?_
              refine b_calli (As := []) (rest := []) ⟨hx, hb, hml, hown, hts⟩ 0 6 (g_X6_all_0 l D cy q hH.2.1 z_11 hJ.1 ) (cwV 0 hts gX6_tellLeast_X6_all rfl rfl rfl (by decide +kernel) ⟨Nat.le_of_ble_eq_true rfl, Nat.le_of_ble_eq_true rfl⟩) hK hZ hH (by decide) rfl rfl rfl hl.1 rfl (Nat.le_of_ble_eq_true rfl) ⟨Nat.zero_le _, Nat.zero_le _⟩ dX6_tellLeast_38 (fun w1371 z1371 H locs hp hH => ?_)
              rw [Ag_0 hp.1.2] at hH
              have i1371 := hp.2.1
              have := i1371.1; have := i1371.2
              have f1371_0 := hp.2.2
              refine lv_iload_n hx hb dX6_tellLeast_41 rfl (lv_at hl 4 rfl) ?_
              refine lv_iconst (v := (-1)) hx hb dX6_tellLeast_42 (by decide) ?_
              refine lv_ixor hx hb dX6_tellLeast_43 ?_
              refine lv_iand hx hb dX6_tellLeast_44 ?_
              have i1373 : iv 0 1023 (w1371 &&& (x3_11 ^^^ (-1))) := (iv_and i1371 (iv_all (x3_11 ^^^ (-1))) (by decide) (by decide))
              have e1373 : (w1371 &&& (x3_11 ^^^ (-1))).toInt ≤ w1371.toInt := (iv_andlt i1371 (by decide))
              refine lv_istore (lv' := [(6, .int (w1371 &&& (x3_11 ^^^ (-1)))), (4, .long (-1)), (0, .ref (q 0)), (1, .int p0), (2, .int x2_2), (3, .int x3_11)]) hx hb dX6_tellLeast_45 hl (by decide) rfl (fun ls hl => ?_)
              refine lv_iconst (v := 0) hx hb dX6_tellLeast_47 (by decide) ?_
              refine lv_istore (lv' := [(7, .int 0), (6, .int (w1371 &&& (x3_11 ^^^ (-1)))), (4, .long (-1)), (0, .ref (q 0)), (1, .int p0), (2, .int x2_2), (3, .int x3_11)]) hx hb dX6_tellLeast_48 hl (by decide) rfl (fun ls hl => ?_)
              exact HL50 _ (-1) (w1371 &&& (x3_11 ^^^ (-1))) 0 z_11 H locs ls k1368b i1373 (iv_w (iv_lit (n := 0) 0 (by decide)) (by decide) (by decide)) ⟨ex_11.1, ex_11.2.1, es_0 ex_11.2.2.1 (by omega) (Or.inr ⟨by decide, fun q => absurd q.1 (by omega)⟩), ex_11.2.2.1, ex_11.2.2.2, by rw [f1371_0, allF_eq g1]⟩ hJ hH (lv_sub hl [3, 4, 5, 6, 2, 1, 0] rfl) rfl
            · skip
              have r1369 := (iv_Eq c1369)
              refine lv_iload_n hx hb dX6_tellLeast_20 rfl (lv_at hl 3 rfl) ?_
              refine lv_aload_n hx hb dX6_tellLeast_21 rfl (lv_at hl 0 rfl) ?_
              refine b_calli (As := []) (rest := [.int x3_11]) ⟨hx, hb, hml, hown, hts⟩ 0 6 (g_X6_all_0 l D cy q hH.2.1 z_11 hJ.1 ) (cwV 0 hts gX6_tellLeast_X6_all rfl rfl rfl (by decide +kernel) ⟨Nat.le_of_ble_eq_true rfl, Nat.le_of_ble_eq_true rfl⟩) hK hZ hH (by decide) rfl rfl rfl hl.1 rfl (Nat.le_of_ble_eq_true rfl) ⟨Nat.zero_le _, Nat.zero_le _⟩ dX6_tellLeast_22 (fun w1375 z1375 H locs hp hH => ?_)
              rw [Ag_0 hp.1.2] at hH
              have i1375 := hp.2.1
              have := i1375.1; have := i1375.2
              have f1375_0 := hp.2.2
              refine lv_icmp_ne (tgt := 32) hx hb dX6_tellLeast_25 (by decide) (fun c1376 => ?_) (fun c1376 => ?_)
              · skip
                have r1376 := (iv_nEq c1376)
                refine lv_ldc2 hx hb hown (hts (.constantLong RX6 165 (-1)) (List.mem_of_getElem? (i := 1) rfl)) dX6_tellLeast_32 ?_
                refine lv_lstore (lv' := [(4, .long (-1)), (0, .ref (q 0)), (1, .int p0), (2, .int x2_2), (3, .int x3_11)]) hx hb dX6_tellLeast_35 hl (by decide) rfl (fun ls hl => ?_)
                refine lv_aload_n hx hb dX6_tellLeast_37 rfl (lv_at hl 1 rfl) ?_
                refine b_calli (As := []) (rest := []) ⟨hx, hb, hml, hown, hts⟩ 0 6 (g_X6_all_0 l D cy q hH.2.1 z_11 hJ.1 ) (cwV 0 hts gX6_tellLeast_X6_all rfl rfl rfl (by decide +kernel) ⟨Nat.le_of_ble_eq_true rfl, Nat.le_of_ble_eq_true rfl⟩) hK hZ hH (by decide) rfl rfl rfl hl.1 rfl (Nat.le_of_ble_eq_true rfl) ⟨Nat.zero_le _, Nat.zero_le _⟩ dX6_tellLeast_38 (fun w1378 z1378 H locs hp hH => ?_)
                rw [Ag_0 hp.1.2] at hH
                have i1378 := hp.2.1
                have := i1378.1; have := i1378.2
                have f1378_0 := hp.2.2
                refine lv_iload_n hx hb dX6_tellLeast_41 rfl (lv_at hl 4 rfl) ?_
                refine lv_iconst (v := (-1)) hx hb dX6_tellLeast_42 (by decide) ?_
                refine lv_ixor hx hb dX6_tellLeast_43 ?_
                refine lv_iand hx hb dX6_tellLeast_44 ?_
                have i1380 : iv 0 1023 (w1378 &&& (x3_11 ^^^ (-1))) := (iv_and i1378 (iv_all (x3_11 ^^^ (-1))) (by decide) (by decide))
                have e1380 : (w1378 &&& (x3_11 ^^^ (-1))).toInt ≤ w1378.toInt := (iv_andlt i1378 (by decide))
                refine lv_istore (lv' := [(6, .int (w1378 &&& (x3_11 ^^^ (-1)))), (4, .long (-1)), (0, .ref (q 0)), (1, .int p0), (2, .int x2_2), (3, .int x3_11)]) hx hb dX6_tellLeast_45 hl (by decide) rfl (fun ls hl => ?_)
                refine lv_iconst (v := 0) hx hb dX6_tellLeast_47 (by decide) ?_
                refine lv_istore (lv' := [(7, .int 0), (6, .int (w1378 &&& (x3_11 ^^^ (-1)))), (4, .long (-1)), (0, .ref (q 0)), (1, .int p0), (2, .int x2_2), (3, .int x3_11)]) hx hb dX6_tellLeast_48 hl (by decide) rfl (fun ls hl => ?_)
                exact HL50 _ (-1) (w1378 &&& (x3_11 ^^^ (-1))) 0 z_11 H locs ls k1368b i1380 (iv_w (iv_lit (n := 0) 0 (by decide)) (by decide) (by decide)) ⟨ex_11.1, ex_11.2.1, es_0 ex_11.2.2.1 (by omega) (Or.inr ⟨by decide, fun q => absurd q.2 (by have := iv_Eq f1375_0; omega)⟩), ex_11.2.2.1, ex_11.2.2.2, by rw [f1378_0, allF_eq g1]⟩ hJ hH (lv_sub hl [3, 4, 5, 6, 2, 1, 0] rfl) rfl
              · skip
                have r1376 := (iv_Eq c1376)
                refine lv_lconst (v := 0) hx hb dX6_tellLeast_28 (by decide) ?_
                refine lv_goto (tgt := 35) hx hb dX6_tellLeast_29 (by decide) ?_
                refine lv_lstore (lv' := [(4, .long 0), (0, .ref (q 0)), (1, .int p0), (2, .int x2_2), (3, .int x3_11)]) hx hb dX6_tellLeast_35 hl (by decide) rfl (fun ls hl => ?_)
                refine lv_aload_n hx hb dX6_tellLeast_37 rfl (lv_at hl 1 rfl) ?_
                refine b_calli (As := []) (rest := []) ⟨hx, hb, hml, hown, hts⟩ 0 6 (g_X6_all_0 l D cy q hH.2.1 z_11 hJ.1 ) (cwV 0 hts gX6_tellLeast_X6_all rfl rfl rfl (by decide +kernel) ⟨Nat.le_of_ble_eq_true rfl, Nat.le_of_ble_eq_true rfl⟩) hK hZ hH (by decide) rfl rfl rfl hl.1 rfl (Nat.le_of_ble_eq_true rfl) ⟨Nat.zero_le _, Nat.zero_le _⟩ dX6_tellLeast_38 (fun w1382 z1382 H locs hp hH => ?_)
                rw [Ag_0 hp.1.2] at hH
                have i1382 := hp.2.1
                have := i1382.1; have := i1382.2
                have f1382_0 := hp.2.2
                refine lv_iload_n hx hb dX6_tellLeast_41 rfl (lv_at hl 4 rfl) ?_
                refine lv_iconst (v := (-1)) hx hb dX6_tellLeast_42 (by decide) ?_
                refine lv_ixor hx hb dX6_tellLeast_43 ?_
                refine lv_iand hx hb dX6_tellLeast_44 ?_
                have i1384 : iv 0 1023 (w1382 &&& (x3_11 ^^^ (-1))) := (iv_and i1382 (iv_all (x3_11 ^^^ (-1))) (by decide) (by decide))
                have e1384 : (w1382 &&& (x3_11 ^^^ (-1))).toInt ≤ w1382.toInt := (iv_andlt i1382 (by decide))
                refine lv_istore (lv' := [(6, .int (w1382 &&& (x3_11 ^^^ (-1)))), (4, .long 0), (0, .ref (q 0)), (1, .int p0), (2, .int x2_2), (3, .int x3_11)]) hx hb dX6_tellLeast_45 hl (by decide) rfl (fun ls hl => ?_)
                refine lv_iconst (v := 0) hx hb dX6_tellLeast_47 (by decide) ?_
                refine lv_istore (lv' := [(7, .int 0), (6, .int (w1382 &&& (x3_11 ^^^ (-1)))), (4, .long 0), (0, .ref (q 0)), (1, .int p0), (2, .int x2_2), (3, .int x3_11)]) hx hb dX6_tellLeast_48 hl (by decide) rfl (fun ls hl => ?_)
                exact HL50 _ 0 (w1382 &&& (x3_11 ^^^ (-1))) 0 z_11 H locs ls k1368b i1384 (iv_w (iv_lit (n := 0) 0 (by decide)) (by decide) (by decide)) ⟨ex_11.1, ex_11.2.1, es_0 ex_11.2.2.1 (by omega) (Or.inl ⟨by decide, by omega, by have := iv_Eq f1375_0; omega⟩), ex_11.2.2.1, ex_11.2.2.2, by rw [f1382_0, allF_eq g1]⟩ hJ hH (lv_sub hl [3, 4, 5, 6, 2, 1, 0] rfl) rfl
      have g1 := Ag_1 hJ.2; have g2 := Ag_2 hJ.2; have gA := iv_Eq (allF_eq g1)
      refine lv_iload_n hx hb dX6_tellLeast_2 rfl (lv_at hl 2 rfl) ?_
      refine lv_if_lt (tgt := 189) hx hb dX6_tellLeast_3 (by decide) (fun c1385 => ?_) (fun c1385 => ?_)
      · skip
        have r1385 := (iv_Lt c1385)
        have k1386a : iv (-1) (-1) x2_2 := iv_ltl (iv_Lt c1385) h2_2 (iv_lit (n := 0) 0 (by decide)) (by decide)
        exact hret z_2 H locs _ _ ⟨hJ, (by have h9 := ex_2.1; rw [show x2_2.toInt = -1 by omega] at h9; exact h9)⟩ hH dX6_tellLeast_189
      · skip
        have r1385 := (iv_nLt c1385)
        have k1387b : iv 0 10 x2_2 := iv_ler (iv_nLt c1385) (iv_lit (n := 0) 0 (by decide)) h2_2
        refine lv_aload_n hx hb dX6_tellLeast_6 rfl (lv_at hl 0 rfl) ?_
        refine b_calli (As := []) (rest := []) ⟨hx, hb, hml, hown, hts⟩ 0 6 (g_X6_all_0 l D cy q hH.2.1 z_2 hJ.1 ) (cwV 0 hts gX6_tellLeast_X6_all rfl rfl rfl (by decide +kernel) ⟨Nat.le_of_ble_eq_true rfl, Nat.le_of_ble_eq_true rfl⟩) hK hZ hH (by decide) rfl rfl rfl hl.1 rfl (Nat.le_of_ble_eq_true rfl) ⟨Nat.zero_le _, Nat.zero_le _⟩ dX6_tellLeast_7 (fun w1388 z1388 H locs hp hH => ?_)
        rw [Ag_0 hp.1.2] at hH
        have i1388 := hp.2.1
        have := i1388.1; have := i1388.2
        have f1388_0 := hp.2.2
        refine lv_istore_n (lv' := [(3, .int w1388), (0, .ref (q 0)), (1, .int p0), (2, .int x2_2)]) hx hb dX6_tellLeast_10 rfl hl (by decide) rfl (fun ls hl => ?_)
        exact HL11 _ w1388 z_2 H locs ls k1387b (iv_w i1388 (by decide) (by decide)) ⟨ex_2.1, fun p h1 h2 h3 => absurd h2 (by have := iv_Eq f1388_0; omega), ex_2.2, by have := iv_Eq f1388_0; omega⟩ hJ hH (lv_sub hl [1, 2, 3, 0] rfl) rfl
  refine lv_iload_n hx hb dX6_tellLeast_0 rfl (lv_at hl 1 rfl) ?_
  refine lv_istore_n (lv' := [(2, .int p0), (0, .ref (q 0)), (1, .int p0)]) hx hb dX6_tellLeast_1 rfl hl (by decide) rfl (fun ls hl => ?_)
  exact HL2 _ p0 z0 H locs ls (iv_w hp0 (by decide) (by decide)) ⟨fun j p _ h1 h2 => absurd h1 (by omega), by omega⟩ hJ hH (lv_sub hl [1, 2, 0] rfl) rfl
set_option maxHeartbeats 4000000 in
set_option maxRecDepth 100000 in
theorem g_X6_evenest_0 (l : Launch) (D : va_G) (cy : Nat → ClassId) (q : Nat → Nat) (hq : bJ 23 q) (z0 : zS) (hI : IvM z0)  : bCl l yX6_evenest wsX6_evenest ({ frames := 5, cells := 0, slots := 0, locals := 121 }) D cy 23 (enM cy) q z0 [.ref (q 0)] (fun v z => jJ IvM 0 507904 1572864 z0 z) := by
  refine hM_l cX6_evenest (by decide) rfl (own := RX6) rfl hq (Nat.le_of_ble_eq_true rfl) ?_
  intro p e s m args below meth c Q ls H locs hx hb hml hown hts hK hZ hH hl hret
  have hl : lv_has ls 2 [(0, .ref (q 0))] := hl
  have hJ : jJ IvM 0 507904 1572864 z0 z0 := jJ_rf _ _ _ hI
  refine lv_aload_n hx hb dX6_evenest_0 rfl (lv_at hl 0 rfl) ?_
  refine b_calli (As := []) (rest := []) ⟨hx, hb, hml, hown, hts⟩ 0 6 (g_X6_tellWays_0 l D cy q hH.2.1 z0 hJ.1 ) (cwV 0 hts gX6_evenest_X6_tellWays rfl rfl rfl (by decide +kernel) ⟨Nat.le_of_ble_eq_true rfl, Nat.le_of_ble_eq_true rfl⟩) hK hZ hH (by decide) rfl rfl rfl hl.1 rfl (Nat.le_of_ble_eq_true rfl) ⟨Nat.zero_le _, Nat.zero_le _⟩ dX6_evenest_1 (fun w7 z7 H locs hp hH => ?_)
  have hJ := jJ_tr hJ hp.1 (by decide) (by decide) (by decide)
  have i7 := hp.2.1
  have f7_0 := hp.2.2
  have hA7 := hp.1.2
  refine lv_istore_n (lv' := [(1, .int w7), (0, .ref (q 0))]) hx hb dX6_evenest_4 rfl hl (by decide) rfl (fun ls hl => ?_)
  refine lv_iload_n hx hb dX6_evenest_5 rfl (lv_at hl 0 rfl) ?_
  refine lv_if_ge (tgt := 13) hx hb dX6_evenest_6 (by decide) (fun c8 => ?_) (fun c8 => ?_)
  · skip
    have k9b : iv 0 10 w7 := iv_ler (iv_Le c8) (iv_lit (n := 0) 0 (by decide)) i7
    refine lv_aload_n hx hb dX6_evenest_13 rfl (lv_at hl 1 rfl) ?_
    refine lv_iload_n hx hb dX6_evenest_14 rfl (lv_at hl 0 rfl) ?_
    refine b_callv (As := [.int w7]) (rest := []) ⟨hx, hb, hml, hown, hts⟩ 0 6 (g_X6_tellLeast_0 l D cy q hH.2.1 z7 hJ.1 w7 k9b) (cwV 1 hts gX6_evenest_X6_tellLeast rfl rfl rfl (by decide +kernel) ⟨Nat.le_of_ble_eq_true rfl, Nat.le_of_ble_eq_true rfl⟩) hK hZ hH (by decide) rfl rfl rfl hl.1 rfl (Nat.le_of_ble_eq_true rfl) ⟨Nat.zero_le _, Nat.zero_le _⟩ dX6_evenest_15 (fun z10 H locs hp hH => ?_)
    have hJ := jJ_tr hJ hp.1 (by decide) (by decide) (by decide)
    have f10_0 := hp.2
    have hA10 := hp.1.2
    refine lv_aload_n hx hb dX6_evenest_18 rfl (lv_at hl 1 rfl) ?_
    refine b_get (ci := 6) (C := RX6) (T := TX6) (Nf := 29) (v := .ref (q 20)) hx hb hts in_X6_evenest_X6 hown hK hH 0 (by decide) rfl rfl 26 (by decide) (hts (.fieldLink RX6 73 "StationLineModel" "least" "[J") (List.mem_of_getElem? (i := 2) rfl)) rfl dX6_evenest_19 ?_
    refine lv_iconst (v := 0) hx hb dX6_evenest_22 (by decide) ?_
    refine b_lald hx hb hK hH 20 (by decide) rfl (by unfold vp_in; decide) rfl dX6_evenest_23 ?_
    refine h_l (fun w11 => ?_)
    exact hret _ z10 H locs _ _ hJ hH dX6_evenest_24
  · skip
    have k12a : iv (-1) (-1) w7 := iv_ltl (iv_nLe c8) i7 (iv_lit (n := 0) 0 (by decide)) (by decide)
    refine lv_ldc2 hx hb hown (hts (.constantLong RX6 165 (-1)) (List.mem_of_getElem? (i := 1) rfl)) dX6_evenest_9 ?_
    exact hret _ z7 H locs _ _ hJ hH dX6_evenest_12
set_option maxHeartbeats 4000000 in
set_option maxRecDepth 100000 in
theorem g_X6_best_0 (l : Launch) (D : va_G) (cy : Nat → ClassId) (q : Nat → Nat) (hq : bJ 23 q) (z0 : zS) (hI : IvM z0) (p0 : Int32) : bCi l yX6_best wsX6_best ({ frames := 5, cells := 0, slots := 0, locals := 121 }) D cy 23 (enM cy) q z0 [.ref (q 0), .int p0] (fun v z => jJ IvM 0 507968 1572864 z0 z ∧ iv (-4) 10 v) := by
  refine hM_i cX6_best (by decide) rfl (own := RX6) rfl hq (Nat.le_of_ble_eq_true rfl) ?_
  intro p e s m args below meth c Q ls H locs hx hb hml hown hts hK hZ hH hl hret
  have hl : lv_has ls 7 [(0, .ref (q 0)), (1, .int p0)] := hl
  have hJ : jJ IvM 0 507968 1572864 z0 z0 := jJ_rf _ _ _ hI
  have e00 : (0 : Int32).toInt = 0 := (by decide); have e01 : (1 : Int32).toInt = 1 := (by decide); have e02 : (2 : Int32).toInt = 2 := (by decide); have e03 : (3 : Int32).toInt = 3 := (by decide); have e010 : (10 : Int32).toInt = 10 := (by decide)
  have HL22 : ∀ (n : Nat) (x2_22 : Int32) (x3_22 : Int32) (x4_22 : Int32) (z_22 : zS) (H : Heap) (locs : List Loc) (ls : Array Slot), iv 0 10 x2_22 → iv 0 1023 x3_22 → iv 1 11 x4_22 → (BL z_22 x2_22 x4_22 x3_22) → jJ IvM 0 507968 1572864 z0 z_22 → bH D 23 (enM cy) q z_22 s.heap H locs → lv_has ls 7 [(0, .ref (q 0)), (1, .int p0), (2, .int x2_22), (3, .int x3_22), (4, .int x4_22)] → (11 - x4_22.toInt).toNat = n → W p l e ({ frames := 5, cells := 0, slots := 0, locals := 121 }) s m args below meth c H locs 0 0 Q (F0 m 22 ls []) := by
    intro n22
    induction n22 using Nat.strongRecOn with
    | ind n22 ih22 =>
      intro x2_22 x3_22 x4_22 z_22 H locs ls h2_22 h3_22 h4_22 ex_22 hJ hH hl hn22
      have := h2_22.1; have := h2_22.2; have := h3_22.1; have := h3_22.2; have := h4_22.1; have := h4_22.2
      have HL31 : ∀ (n : Nat) (x5_31 : Int32) (z_31 : zS) (H : Heap) (locs : List Loc) (ls : Array Slot), iv 1 10 x2_22 → iv 1 10 x4_22 → iv 0 1024 x5_31 → (BL z_31 x2_22 x4_22 x3_22 ∧ 0 ≤ (x5_31 : Int32).toInt ∧ (x4_22 : Int32).toInt ≤ (x2_22 : Int32).toInt ∧ ∃ s9 : Int32, (x5_31 : Int32).toInt ≤ s9.toInt ∧ iv 0 1023 s9 ∧ s9.toInt ≤ (allF z_31).toInt ∧ NX z_31 s9 x4_22 x3_22 p0) → jJ IvM 0 507968 1572864 z0 z_31 → bH D 23 (enM cy) q z_31 s.heap H locs → lv_has ls 7 [(0, .ref (q 0)), (1, .int p0), (2, .int x2_22), (3, .int x3_22), (4, .int x4_22), (5, .int x5_31)] → (1024 - x5_31.toInt).toNat = n → W p l e ({ frames := 5, cells := 0, slots := 0, locals := 121 }) s m args below meth c H locs 0 0 Q (F0 m 31 ls []) := by
        intro n31
        induction n31 using Nat.strongRecOn with
        | ind n31 ih31 =>
          intro x5_31 z_31 H locs ls h2_31 h4_31 h5_31 ex_31 hJ hH hl hn31
          have := h2_31.1; have := h2_31.2; have := h4_31.1; have := h4_31.2; have := h5_31.1; have := h5_31.2
          have HL53 : ∀ (n : Nat) (x6_53 : Int32) (z_53 : zS) (H : Heap) (locs : List Loc) (ls : Array Slot), iv 0 1023 x5_31 → iv 0 10 x6_53 → (BL z_53 x2_22 (x4_22 + 1) (x3_22 ||| x5_31)) → jJ IvM 0 507968 1572864 z0 z_53 → bH D 23 (enM cy) q z_53 s.heap H locs → lv_has ls 7 [(0, .ref (q 0)), (1, .int p0), (2, .int x2_22), (3, .int x3_22), (4, .int x4_22), (5, .int x5_31), (6, .int x6_53)] → (10 - x6_53.toInt).toNat = n → W p l e ({ frames := 5, cells := 0, slots := 0, locals := 121 }) s m args below meth c H locs 0 0 Q (F0 m 53 ls []) := by
            intro n53
            induction n53 using Nat.strongRecOn with
            | ind n53 ih53 =>
              intro x6_53 z_53 H locs ls h5_53 h6_53 ex_53 hJ hH hl hn53
              have := h5_53.1; have := h5_53.2; have := h6_53.1; have := h6_53.2
              refine lv_iload hx hb dX6_best_53 (lv_at hl 6 rfl) ?_
              refine lv_aload_n hx hb dX6_best_55 rfl (lv_at hl 0 rfl) ?_
              refine b_get (ci := 6) (C := RX6) (T := TX6) (Nf := 29) (v := .int (z_53.1 0)) hx hb hts in_X6_best_X6 hown hK hH 0 (by decide) rfl rfl 0 (by decide) (hts (.fieldLink RX6 85 "StationLineModel" "tasks" "I") (List.mem_of_getElem? (i := 1) rfl)) rfl dX6_best_56 ?_
              have i295 := IvM_s0 hJ.1
              have := i295.1; have := i295.2
              refine lv_icmp_ge (tgt := 97) hx hb dX6_best_59 (by decide) (fun c296 => ?_) (fun c296 => ?_)
              · skip
                have r296 := (iv_Le c296)
                refine lv_iload_n hx hb dX6_best_97 rfl (lv_at hl 3 rfl) ?_
                refine lv_iload hx hb dX6_best_98 (lv_at hl 5 rfl) ?_
                refine lv_ior hx hb dX6_best_100 ?_
                have i298 : iv 0 1023 (x3_22 ||| x5_31) := (iv_or 10 (b := 1023) (d := 1023) (iv_w h3_22 (by decide) (by decide)) (iv_w h5_53 (by decide) (by decide)) (by decide) (by decide) (by decide) (by decide))
                refine lv_istore_n (lv' := [(3, .int (x3_22 ||| x5_31)), (0, .ref (q 0)), (1, .int p0), (2, .int x2_22), (4, .int x4_22), (5, .int x5_31), (6, .int x6_53)]) hx hb dX6_best_101 rfl hl (by decide) rfl (fun ls hl => ?_)
                have j299 : iv 2 11 (x4_22 + 1) := iv_add h4_31 (iv_lit (n := 1) 1 (by decide)) (by decide) (by decide) (by decide) (by decide)
                have e299 : (x4_22 + 1).toInt = x4_22.toInt + 1 := (iv_addE h4_31 (iv_lit (n := 1) 1 (by decide)) (by decide) (by decide)).trans rfl
                refine lv_iinc (v := (x4_22 + 1)) (lv' := [(4, .int (x4_22 + 1)), (3, .int (x3_22 ||| x5_31)), (0, .ref (q 0)), (1, .int p0), (2, .int x2_22), (5, .int x5_31), (6, .int x6_53)]) hx hb dX6_best_102 hl (k := 4) rfl rfl (by decide) rfl (fun ls hl => ?_)
                refine lv_goto (tgt := 22) hx hb dX6_best_105 (by decide) ?_
                exact ih22 _ (ms_up e299 j299.2 hn22) x2_22 (x3_22 ||| x5_31) (x4_22 + 1) z_53 H locs ls (iv_w h2_31 (by decide) (by decide)) i298 (iv_w j299 (by decide) (by decide)) ex_53 hJ hH (lv_sub hl [2, 3, 4, 1, 0] rfl) rfl
              · skip
                have r296 := (iv_nLe c296)
                have k300a : iv 0 9 x6_53 := iv_ltl (iv_nLe c296) h6_53 i295 (by decide)
                have k300b : iv 1 10 (z_53.1 0) := iv_ltr (iv_nLe c296) h6_53 i295 (by decide)
                refine lv_aload_n hx hb dX6_best_62 rfl (lv_at hl 0 rfl) ?_
                refine b_get (ci := 6) (C := RX6) (T := TX6) (Nf := 29) (v := .ref (q 6)) hx hb hts in_X6_best_X6 hown hK hH 0 (by decide) rfl rfl 6 (by decide) (hts (.fieldLink RX6 25 "StationLineModel" "hand" "[I") (List.mem_of_getElem? (i := 2) rfl)) rfl dX6_best_63 ?_
                refine lv_iload hx hb dX6_best_66 (lv_at hl 6 rfl) ?_
                refine lv_iload hx hb dX6_best_68 (lv_at hl 5 rfl) ?_
                refine lv_iload hx hb dX6_best_70 (lv_at hl 6 rfl) ?_
                refine b_stati (As := [.int x5_31, .int x6_53]) (rest := [.int x6_53, .ref (q 6)]) ⟨hx, hb, hml, hown, hts⟩ (g_X6_in l D cy q hH.2.1 z_53 hJ.1 x5_31 x6_53) (va_cwS 2 hts gX6_best_X6_in rfl rfl rfl (by decide +kernel) ⟨Nat.le_of_ble_eq_true rfl, Nat.le_of_ble_eq_true rfl⟩) hK hZ hH rfl hl.1 rfl (Nat.le_of_ble_eq_true rfl) ⟨Nat.zero_le _, Nat.zero_le _⟩ dX6_best_72 (fun w301 z301 H locs hp hH => ?_)
                rw [Ag_0 hp.1.2] at hH
                have i301 := hp.2.1
                have := i301.1; have := i301.2
                have f301_0 := hp.2.2
                refine lv_if_eq (tgt := 83) hx hb dX6_best_75 (by decide) (fun c302 => ?_) (fun c302 => ?_)
                · skip
                  have r302 := (iv_Eq c302)
                  have k303a : iv 0 0 w301 := iv_eql (iv_Eq c302) i301 (iv_lit (n := 0) 0 (by decide)) (by decide) (by decide)
                  refine lv_aload_n hx hb dX6_best_83 rfl (lv_at hl 0 rfl) ?_
                  refine b_get (ci := 6) (C := RX6) (T := TX6) (Nf := 29) (v := .ref (q 6)) hx hb hts in_X6_best_X6 hown hK hH 0 (by decide) rfl rfl 6 (by decide) (hts (.fieldLink RX6 25 "StationLineModel" "hand" "[I") (List.mem_of_getElem? (i := 2) rfl)) rfl dX6_best_84 ?_
                  refine lv_iload hx hb dX6_best_87 (lv_at hl 6 rfl) ?_
                  refine b_iald (v := z_53.2.1 6 (x6_53 : Int32).toNatClampNeg) hx hb hK hH 6 (by decide) rfl (iv_in k300a (by decide) (by decide)) rfl dX6_best_89 ?_
                  have i304 : iv 0 10 (z_53.2.1 6 (x6_53 : Int32).toNatClampNeg) := IvM_a6 hJ.1 _ (b_inlt (iv_in k300a (by decide) (by decide)))
                  have := i304.1; have := i304.2
                  refine b_iast hx hb hK hH 6 (by decide) rfl (iv_in k300a (by decide) (by decide)) (upA z_53 6 (upd (z_53.2.1 6) (x6_53 : Int32).toNatClampNeg (z_53.2.1 6 (x6_53 : Int32).toNatClampNeg))) rfl (enM_A _ _ _ _ _) dX6_best_90 (fun H locs hH => ?_)
                  obtain ⟨z305, hz305⟩ : ∃ w : zS, w = upA z_53 6 (upd (z_53.2.1 6) (x6_53 : Int32).toNatClampNeg (z_53.2.1 6 (x6_53 : Int32).toNatClampNeg)) := ⟨_, rfl⟩
                  rw [← hz305] at hH
                  have hJ : jJ IvM 0 507968 1572864 z0 z305 := by rw [hz305]; exact jJ_A hJ (by decide) (IvM_A6 hJ.1 _ (iv_w i304 (by decide) (by decide)))
                  have g306 : iv 1 10 (z305.1 0) := by rw [hz305]; exact k300b
                  have j307 : iv 1 10 (x6_53 + 1) := iv_add k300a (iv_lit (n := 1) 1 (by decide)) (by decide) (by decide) (by decide) (by decide)
                  have e307 : (x6_53 + 1).toInt = x6_53.toInt + 1 := (iv_addE k300a (iv_lit (n := 1) 1 (by decide)) (by decide) (by decide)).trans rfl
                  refine lv_iinc (v := (x6_53 + 1)) (lv' := [(6, .int (x6_53 + 1)), (0, .ref (q 0)), (1, .int p0), (2, .int x2_22), (3, .int x3_22), (4, .int x4_22), (5, .int x5_31)]) hx hb dX6_best_91 hl (k := 6) rfl rfl (by decide) rfl (fun ls hl => ?_)
                  refine lv_goto (tgt := 53) hx hb dX6_best_94 (by decide) ?_
                  exact ih53 _ (ms_up e307 j307.2 hn53) (x6_53 + 1) z305 H locs ls h5_53 (iv_w j307 (by decide) (by decide)) (BL_eq (by rw [hz305]; rfl) (by rw [hz305]; rfl) (by rw [hz305]; rfl) (by rw [hz305]; rfl) (by rw [hz305]; rfl) (by rw [hz305]; rfl) (by rw [hz305]; rfl) ex_53) hJ hH (lv_sub hl [1, 2, 3, 4, 5, 6, 0] rfl) rfl
                · skip
                  have r302 := (iv_nEq c302)
                  have k308a : iv 1 1 w301 := iv_neLo (iv_nEq c302) i301 (by decide) (by decide)
                  refine lv_iload hx hb dX6_best_78 (lv_at hl 4 rfl) ?_
                  refine lv_goto (tgt := 90) hx hb dX6_best_80 (by decide) ?_
                  refine b_iast hx hb hK hH 6 (by decide) rfl (iv_in k300a (by decide) (by decide)) (upA z_53 6 (upd (z_53.2.1 6) (x6_53 : Int32).toNatClampNeg x4_22)) rfl (enM_A _ _ _ _ _) dX6_best_90 (fun H locs hH => ?_)
                  obtain ⟨z309, hz309⟩ : ∃ w : zS, w = upA z_53 6 (upd (z_53.2.1 6) (x6_53 : Int32).toNatClampNeg x4_22) := ⟨_, rfl⟩
                  rw [← hz309] at hH
                  have hJ : jJ IvM 0 507968 1572864 z0 z309 := by rw [hz309]; exact jJ_A hJ (by decide) (IvM_A6 hJ.1 _ (iv_w h4_31 (by decide) (by decide)))
                  have g310 : iv 1 10 (z309.1 0) := by rw [hz309]; exact k300b
                  have j311 : iv 1 10 (x6_53 + 1) := iv_add k300a (iv_lit (n := 1) 1 (by decide)) (by decide) (by decide) (by decide) (by decide)
                  have e311 : (x6_53 + 1).toInt = x6_53.toInt + 1 := (iv_addE k300a (iv_lit (n := 1) 1 (by decide)) (by decide) (by decide)).trans rfl
                  refine lv_iinc (v := (x6_53 + 1)) (lv' := [(6, .int (x6_53 + 1)), (0, .ref (q 0)), (1, .int p0), (2, .int x2_22), (3, .int x3_22), (4, .int x4_22), (5, .int x5_31)]) hx hb dX6_best_91 hl (k := 6) rfl rfl (by decide) rfl (fun ls hl => ?_)
                  refine lv_goto (tgt := 53) hx hb dX6_best_94 (by decide) ?_
                  exact ih53 _ (ms_up e311 j311.2 hn53) (x6_53 + 1) z309 H locs ls h5_53 (iv_w j311 (by decide) (by decide)) (BL_eq (by rw [hz309]; rfl) (by rw [hz309]; rfl) (by rw [hz309]; rfl) (by rw [hz309]; rfl) (by rw [hz309]; rfl) (by rw [hz309]; rfl) (by rw [hz309]; rfl) ex_53) hJ hH (lv_sub hl [1, 2, 3, 4, 5, 6, 0] rfl) rfl
          obtain ⟨s9, s1, s2, s3, s4⟩ := ex_31.2.2.2; have := s2.1; have := s2.2
          have b312 : iv 0 1023 x5_31 := ⟨by omega, by omega⟩
          have := b312.1; have := b312.2
          refine lv_aload_n hx hb dX6_best_31 rfl (lv_at hl 0 rfl) ?_
          refine lv_iload hx hb dX6_best_32 (lv_at hl 5 rfl) ?_
          refine lv_iload hx hb dX6_best_34 (lv_at hl 4 rfl) ?_
          refine lv_iload_n hx hb dX6_best_36 rfl (lv_at hl 3 rfl) ?_
          refine lv_iload_n hx hb dX6_best_37 rfl (lv_at hl 1 rfl) ?_
          refine b_calli (As := [.int x5_31, .int x4_22, .int x3_22, .int p0]) (rest := []) ⟨hx, hb, hml, hown, hts⟩ 0 6 (g_X6_isNext_0 l D cy q hH.2.1 z_31 hJ.1 x5_31 b312 x4_22 h4_31 x3_22 h3_22 p0) (cwV 4 hts gX6_best_X6_isNext rfl rfl rfl (by decide +kernel) ⟨Nat.le_of_ble_eq_true rfl, Nat.le_of_ble_eq_true rfl⟩) hK hZ hH (by decide) rfl rfl rfl hl.1 rfl (Nat.le_of_ble_eq_true rfl) ⟨Nat.zero_le _, Nat.zero_le _⟩ dX6_best_38 (fun w313 z313 H locs hp hH => ?_)
          rw [Ag_0 hp.1.2] at hH
          have i313 := hp.2.1
          have := i313.1; have := i313.2
          have f313_0 := hp.2.2
          refine lv_if_ne (tgt := 50) hx hb dX6_best_41 (by decide) (fun c314 => ?_) (fun c314 => ?_)
          · skip
            have r314 := (iv_nEq c314)
            have k315a : iv 1 1 w313 := iv_neLo (iv_nEq c314) i313 (by decide) (by decide)
            refine lv_iconst (v := 0) hx hb dX6_best_50 (by decide) ?_
            refine lv_istore (lv' := [(6, .int 0), (0, .ref (q 0)), (1, .int p0), (2, .int x2_22), (3, .int x3_22), (4, .int x4_22), (5, .int x5_31)]) hx hb dX6_best_51 hl (by decide) rfl (fun ls hl => ?_)
            exact HL53 _ 0 z_31 H locs ls b312 (iv_w (iv_lit (n := 0) 0 (by decide)) (by decide) (by decide)) (bl_next (even := p0) ex_31.1 (IvM_s0 hJ.1) h3_22 b312 (by omega) (f313_0.mp c314) (by exact Int32.toInt_inj.mp (by have q1 := iv_addE h4_31 (iv_lit (n := 1) 1 (by decide)) (by decide) (by decide); have q2 := iv_subE (x := x4_22 + 1) (a := 2) (b := 11) ⟨by omega, by omega⟩ (iv_lit (n := 1) 1 (by decide)) (by decide) (by decide); omega))) hJ hH (lv_sub hl [1, 2, 3, 4, 5, 6, 0] rfl) rfl
          · skip
            have r314 := (iv_Eq c314)
            have k316a : iv 0 0 w313 := iv_eql (iv_Eq c314) i313 (iv_lit (n := 0) 0 (by decide)) (by decide) (by decide)
            have j317 : iv 1 1024 (x5_31 + 1) := iv_add b312 (iv_lit (n := 1) 1 (by decide)) (by decide) (by decide) (by decide) (by decide)
            have e317 : (x5_31 + 1).toInt = x5_31.toInt + 1 := (iv_addE b312 (iv_lit (n := 1) 1 (by decide)) (by decide) (by decide)).trans rfl
            refine lv_iinc (v := (x5_31 + 1)) (lv' := [(5, .int (x5_31 + 1)), (0, .ref (q 0)), (1, .int p0), (2, .int x2_22), (3, .int x3_22), (4, .int x4_22)]) hx hb dX6_best_44 hl (k := 5) rfl rfl (by decide) rfl (fun ls hl => ?_)
            refine lv_goto (tgt := 31) hx hb dX6_best_47 (by decide) ?_
            exact ih31 _ (ms_up e317 j317.2 hn31) (x5_31 + 1) z_31 H locs ls h2_31 h4_31 (iv_w j317 (by decide) (by decide)) ⟨ex_31.1, by omega, ex_31.2.2.1, s9, by have hne : ¬ x5_31.toInt = s9.toInt := (fun e => (f313_0.mpr (by rw [Int32.toInt_inj.mp e]; exact s4)) c314); omega, s2, s3, s4⟩ hJ hH (lv_sub hl [1, 2, 3, 4, 5, 0] rfl) rfl
      refine lv_iload hx hb dX6_best_22 (lv_at hl 4 rfl) ?_
      refine lv_iload_n hx hb dX6_best_24 rfl (lv_at hl 2 rfl) ?_
      refine lv_icmp_gt (tgt := 108) hx hb dX6_best_25 (by decide) (fun c318 => ?_) (fun c318 => ?_)
      · skip
        have r318 := (iv_Lt c318)
        refine lv_iload_n hx hb dX6_best_108 rfl (lv_at hl 2 rfl) ?_
        exact hret _ z_22 H locs _ _ ⟨hJ, (iv_w h2_22 (by decide) (by decide))⟩ hH dX6_best_109
      · skip
        have r318 := (iv_nLt c318)
        have k320a : iv 1 10 x4_22 := iv_lel (iv_nLt c318) h4_22 h2_22
        have k320b : iv 1 10 x2_22 := iv_ler (iv_nLt c318) h4_22 h2_22
        refine lv_iconst (v := 0) hx hb dX6_best_28 (by decide) ?_
        refine lv_istore (lv' := [(5, .int 0), (0, .ref (q 0)), (1, .int p0), (2, .int x2_22), (3, .int x3_22), (4, .int x4_22)]) hx hb dX6_best_29 hl (by decide) rfl (fun ls hl => ?_)
        exact HL31 _ 0 z_22 H locs ls k320b k320a (iv_w (iv_lit (n := 0) 0 (by decide)) (by decide) (by decide)) (by obtain ⟨s9, s1, s2, s3⟩ := nx_ex (even := p0) (iv_w k320b (by decide) (by decide)) ex_22.2.1 ex_22.1 k320a (by omega) h3_22 ex_22.2.2.1 ex_22.2.2.2; exact ⟨ex_22, by omega, by omega, s9, by have := s1.1; omega, s1, s2, s3⟩) hJ hH (lv_sub hl [1, 2, 3, 4, 5, 0] rfl) rfl
  refine lv_aload_n hx hb dX6_best_0 rfl (lv_at hl 0 rfl) ?_
  refine b_calli (As := []) (rest := []) ⟨hx, hb, hml, hown, hts⟩ 0 6 (g_X6_tellWays_0 l D cy q hH.2.1 z0 hJ.1 ) (cwV 0 hts gX6_best_X6_tellWays rfl rfl rfl (by decide +kernel) ⟨Nat.le_of_ble_eq_true rfl, Nat.le_of_ble_eq_true rfl⟩) hK hZ hH (by decide) rfl rfl rfl hl.1 rfl (Nat.le_of_ble_eq_true rfl) ⟨Nat.zero_le _, Nat.zero_le _⟩ dX6_best_1 (fun w321 z321 H locs hp hH => ?_)
  have hJ := jJ_tr hJ hp.1 (by decide) (by decide) (by decide)
  have i321 := hp.2.1
  have := i321.1; have := i321.2
  have f321_0 := hp.2.2
  have hA321 := hp.1.2
  have hI1 := hJ.1
  refine lv_istore_n (lv' := [(2, .int w321), (0, .ref (q 0)), (1, .int p0)]) hx hb dX6_best_4 rfl hl (by decide) rfl (fun ls hl => ?_)
  refine lv_iload_n hx hb dX6_best_5 rfl (lv_at hl 0 rfl) ?_
  refine lv_if_ge (tgt := 12) hx hb dX6_best_6 (by decide) (fun c322 => ?_) (fun c322 => ?_)
  · skip
    have r322 := (iv_Le c322)
    have k323b : iv 0 10 w321 := iv_ler (iv_Le c322) (iv_lit (n := 0) 0 (by decide)) i321
    refine lv_aload_n hx hb dX6_best_12 rfl (lv_at hl 1 rfl) ?_
    refine lv_iload_n hx hb dX6_best_13 rfl (lv_at hl 0 rfl) ?_
    refine b_callv (As := [.int w321]) (rest := []) ⟨hx, hb, hml, hown, hts⟩ 0 6 (g_X6_tellLeast_0 l D cy q hH.2.1 z321 hJ.1 w321 k323b) (cwV 1 hts gX6_best_X6_tellLeast rfl rfl rfl (by decide +kernel) ⟨Nat.le_of_ble_eq_true rfl, Nat.le_of_ble_eq_true rfl⟩) hK hZ hH (by decide) rfl rfl rfl hl.1 rfl (Nat.le_of_ble_eq_true rfl) ⟨Nat.zero_le _, Nat.zero_le _⟩ dX6_best_14 (fun z324 H locs hp hH => ?_)
    have hJ := jJ_tr hJ hp.1 (by decide) (by decide) (by decide)
    have f324_0 := hp.2
    have hA324 := hp.1.2
    refine lv_iconst (v := 0) hx hb dX6_best_17 (by decide) ?_
    refine lv_istore_n (lv' := [(3, .int 0), (2, .int w321), (0, .ref (q 0)), (1, .int p0)]) hx hb dX6_best_18 rfl hl (by decide) rfl (fun ls hl => ?_)
    refine lv_iconst (v := 1) hx hb dX6_best_19 (by decide) ?_
    refine lv_istore (lv' := [(4, .int 1), (3, .int 0), (2, .int w321), (0, .ref (q 0)), (1, .int p0)]) hx hb dX6_best_20 hl (by decide) rfl (fun ls hl => ?_)
    exact HL22 _ w321 0 1 z324 H locs ls k323b (iv_w (iv_lit (n := 0) 0 (by decide)) (by decide) (by decide)) (iv_w (iv_lit (n := 1) 1 (by decide)) (by decide) (by decide)) (bl_0 (iv_w k323b (by decide) (by decide)) (IvM_s0 hI1) (all_iv (IvM_s0 hI1)) (Ag_1 hA324) (Ag_2 hA324) ((f321_0).resolve_left (by omega)) f324_0) hJ hH (lv_sub hl [3, 4, 2, 1, 0] rfl) rfl
  · skip
    have r322 := (iv_nLe c322)
    have k325a : iv (-1) (-1) w321 := iv_ltl (iv_nLe c322) i321 (iv_lit (n := 0) 0 (by decide)) (by decide)
    refine lv_bipush (v := (-4)) hx hb dX6_best_9 (by decide) ?_
    exact hret _ z321 H locs _ _ ⟨hJ, (iv_w (iv_lit (n := (-4)) (-4) (by decide)) (by decide) (by decide))⟩ hH dX6_best_11
set_option maxHeartbeats 4000000 in
set_option maxRecDepth 100000 in
theorem g_X6_worth_0 (l : Launch) (D : va_G) (cy : Nat → ClassId) (q : Nat → Nat) (hq : bJ 23 q) (z0 : zS) (hI : IvM z0) (p0 : Int32) (p1 : Int32) (hp1 : iv 0 9 p1) : bCi l yX6_worth wsX6_worth ({ frames := 3, cells := 0, slots := 0, locals := 69 }) D cy 23 (enM cy) q z0 [.ref (q 0), .int p0, .int p1] (fun v z => jJ IvM 0 0 0 z0 z ∧ iv (-2147483648) 2147483647 v) := by
  refine hM_i cX6_worth (by decide) rfl (own := RX6) rfl hq (Nat.le_of_ble_eq_true rfl) ?_
  intro p e s m args below meth c Q ls H locs hx hb hml hown hts hK hZ hH hl hret
  have hl : lv_has ls 5 [(0, .ref (q 0)), (1, .int p0), (2, .int p1)] := hl
  have hJ : jJ IvM 0 0 0 z0 z0 := jJ_rf _ _ _ hI
  have HL5 : ∀ (n : Nat) (x3_5 : Int32) (x4_5 : Int32) (H : Heap) (locs : List Loc) (ls : Array Slot), iv 0 10 x4_5 → bH D 23 (enM cy) q z0 s.heap H locs → lv_has ls 5 [(0, .ref (q 0)), (1, .int p0), (2, .int p1), (3, .int x3_5), (4, .int x4_5)] → (10 - x4_5.toInt).toNat = n → W p l e ({ frames := 3, cells := 0, slots := 0, locals := 69 }) s m args below meth c H locs 0 0 Q (F0 m 5 ls []) := by
    intro n5
    induction n5 using Nat.strongRecOn with
    | ind n5 ih5 =>
      intro x3_5 x4_5 H locs ls h4_5 hH hl hn5
      have HJ33 : ∀ (t0_33 : Int32) (t1_33 : Int32) (H : Heap) (locs : List Loc) (ls : Array Slot), iv 0 9 x4_5 → iv 0 1 t0_33 → iv 1 10 (z0.1 0) → bH D 23 (enM cy) q z0 s.heap H locs → lv_has ls 5 [(0, .ref (q 0)), (1, .int p0), (2, .int p1), (4, .int x4_5)] → W p l e ({ frames := 3, cells := 0, slots := 0, locals := 69 }) s m args below meth c H locs 0 0 Q (F0 m 33 ls [.int t0_33, .int t1_33]) := by
        intro t0_33 t1_33 H locs ls h4_33 g0_33 gh0_33 hH hl
        refine lv_iadd hx hb dX6_worth_33 ?_
        refine lv_topi (fun w757 _ => ?_)
        refine lv_istore_n (lv' := [(3, .int w757), (0, .ref (q 0)), (1, .int p0), (2, .int p1), (4, .int x4_5)]) hx hb dX6_worth_34 rfl hl (by decide) rfl (fun ls hl => ?_)
        have j758 : iv 1 10 (x4_5 + 1) := iv_add h4_33 (iv_lit (n := 1) 1 (by decide)) (by decide) (by decide) (by decide) (by decide)
        have e758 : (x4_5 + 1).toInt = x4_5.toInt + 1 := (iv_addE h4_33 (iv_lit (n := 1) 1 (by decide)) (by decide) (by decide)).trans rfl
        refine lv_iinc (v := (x4_5 + 1)) (lv' := [(4, .int (x4_5 + 1)), (3, .int w757), (0, .ref (q 0)), (1, .int p0), (2, .int p1)]) hx hb dX6_worth_35 hl (k := 4) rfl rfl (by decide) rfl (fun ls hl => ?_)
        refine lv_goto (tgt := 5) hx hb dX6_worth_38 (by decide) ?_
        exact ih5 _ (ms_up e758 j758.2 hn5) w757 (x4_5 + 1)  H locs ls (iv_w j758 (by decide) (by decide))  hH (lv_sub hl [2, 3, 4, 1, 0] rfl) rfl
      refine lv_iload hx hb dX6_worth_5 (lv_at hl 4 rfl) ?_
      refine lv_aload_n hx hb dX6_worth_7 rfl (lv_at hl 0 rfl) ?_
      refine b_get (ci := 6) (C := RX6) (T := TX6) (Nf := 29) (v := .int (z0.1 0)) hx hb hts in_X6_worth_X6 hown hK hH 0 (by decide) rfl rfl 0 (by decide) (hts (.fieldLink RX6 85 "StationLineModel" "tasks" "I") (List.mem_of_getElem? (i := 1) rfl)) rfl dX6_worth_8 ?_
      have i759 := IvM_s0 hJ.1
      refine lv_icmp_ge (tgt := 41) hx hb dX6_worth_11 (by decide) (fun c760 => ?_) (fun c760 => ?_)
      · skip
        refine lv_iload_n hx hb dX6_worth_41 rfl (lv_at hl 1 rfl) ?_
        refine lv_if_ne (tgt := 55) hx hb dX6_worth_42 (by decide) (fun c762 => ?_) (fun c762 => ?_)
        · skip
          refine lv_iload_n hx hb dX6_worth_55 rfl (lv_at hl 1 rfl) ?_
          refine lv_iconst (v := 1) hx hb dX6_worth_56 (by decide) ?_
          refine lv_icmp_ne (tgt := 76) hx hb dX6_worth_57 (by decide) (fun c764 => ?_) (fun c764 => ?_)
          · skip
            refine lv_iload_n hx hb dX6_worth_76 rfl (lv_at hl 1 rfl) ?_
            refine lv_iconst (v := 2) hx hb dX6_worth_77 (by decide) ?_
            refine lv_icmp_ne (tgt := 85) hx hb dX6_worth_78 (by decide) (fun c766 => ?_) (fun c766 => ?_)
            · skip
              refine lv_iconst (v := 0) hx hb dX6_worth_85 (by decide) ?_
              exact hret _ z0 H locs _ _ ⟨hJ, (iv_w (iv_lit (n := 0) 0 (by decide)) (by decide) (by decide))⟩ hH dX6_worth_86
            · skip
              have k768a : iv 2 2 p0 := iv_eql (iv_Eq c766) (iv_all p0) (iv_lit (n := 2) 2 (by decide)) (by decide) (by decide)
              refine lv_iload_n hx hb dX6_worth_81 rfl (lv_at hl 3 rfl) ?_
              refine lv_goto (tgt := 86) hx hb dX6_worth_82 (by decide) ?_
              exact hret _ z0 H locs _ _ ⟨hJ, (iv_all x3_5)⟩ hH dX6_worth_86
          · skip
            have k769a : iv 1 1 p0 := iv_eql (iv_Eq c764) (iv_all p0) (iv_lit (n := 1) 1 (by decide)) (by decide) (by decide)
            refine lv_aload_n hx hb dX6_worth_60 rfl (lv_at hl 0 rfl) ?_
            refine lv_iconst (v := 1) hx hb dX6_worth_61 (by decide) ?_
            refine lv_iload_n hx hb dX6_worth_62 rfl (lv_at hl 2 rfl) ?_
            refine lv_ishl hx hb dX6_worth_63 ?_
            refine h_i (a := 1) (b := 512) (iv_bit hp1 (by decide) (by decide)) (fun w770 i770 => ?_)
            refine lv_aload_n hx hb dX6_worth_64 rfl (lv_at hl 0 rfl) ?_
            refine lv_iload_n hx hb dX6_worth_65 rfl (lv_at hl 2 rfl) ?_
            refine b_calli (As := [.int p1]) (rest := [.int w770, .ref (q 0)]) ⟨hx, hb, hml, hown, hts⟩ 0 6 (g_X6_following_0 l D cy q hH.2.1 z0 hJ.1 p1 hp1) (cwV 1 hts gX6_worth_X6_following rfl rfl rfl (by decide +kernel) ⟨Nat.le_of_ble_eq_true rfl, Nat.le_of_ble_eq_true rfl⟩) hK hZ hH (by decide) rfl rfl rfl hl.1 rfl (Nat.le_of_ble_eq_true rfl) ⟨Nat.zero_le _, Nat.zero_le _⟩ dX6_worth_66 (fun w771 z771 H locs hp hH => ?_)
            rw [Ag_0 hp.1.2] at hH
            have i771 := hp.2
            refine lv_ior hx hb dX6_worth_69 ?_
            refine h_i (a := 0) (b := 1023) (iv_or 10 (b := 512) (d := 1023) (iv_w i770 (by decide) (by decide)) (iv_w i771 (by decide) (by decide)) (by decide) (by decide) (by decide) (by decide)) (fun w772 i772 => ?_)
            refine b_calli (As := [.int w772]) (rest := []) ⟨hx, hb, hml, hown, hts⟩ 0 6 (g_X6_loadOf_0 l D cy q hH.2.1 z0 hJ.1 w772) (cwV 1 hts gX6_worth_X6_loadOf rfl rfl rfl (by decide +kernel) ⟨Nat.le_of_ble_eq_true rfl, Nat.le_of_ble_eq_true rfl⟩) hK hZ hH (by decide) rfl rfl rfl hl.1 rfl (Nat.le_of_ble_eq_true rfl) ⟨Nat.zero_le _, Nat.zero_le _⟩ dX6_worth_70 (fun w773 z773 H locs hp hH => ?_)
            rw [Ag_0 hp.1.2] at hH
            have i773 := hp.2.1
            have f773_0 := hp.2.2
            refine lv_goto (tgt := 86) hx hb dX6_worth_73 (by decide) ?_
            exact hret _ z0 H locs _ _ ⟨hJ, (iv_w i773 (by decide) (by decide))⟩ hH dX6_worth_86
        · skip
          have k774a : iv 0 0 p0 := iv_eql (iv_Eq c762) (iv_all p0) (iv_lit (n := 0) 0 (by decide)) (by decide) (by decide)
          refine lv_aload_n hx hb dX6_worth_45 rfl (lv_at hl 0 rfl) ?_
          refine lv_iconst (v := 1) hx hb dX6_worth_46 (by decide) ?_
          refine lv_iload_n hx hb dX6_worth_47 rfl (lv_at hl 2 rfl) ?_
          refine lv_ishl hx hb dX6_worth_48 ?_
          refine h_i (a := 1) (b := 512) (iv_bit hp1 (by decide) (by decide)) (fun w775 i775 => ?_)
          refine b_calli (As := [.int w775]) (rest := []) ⟨hx, hb, hml, hown, hts⟩ 0 6 (g_X6_loadOf_0 l D cy q hH.2.1 z0 hJ.1 w775) (cwV 1 hts gX6_worth_X6_loadOf rfl rfl rfl (by decide +kernel) ⟨Nat.le_of_ble_eq_true rfl, Nat.le_of_ble_eq_true rfl⟩) hK hZ hH (by decide) rfl rfl rfl hl.1 rfl (Nat.le_of_ble_eq_true rfl) ⟨Nat.zero_le _, Nat.zero_le _⟩ dX6_worth_49 (fun w776 z776 H locs hp hH => ?_)
          rw [Ag_0 hp.1.2] at hH
          have i776 := hp.2.1
          have f776_0 := hp.2.2
          refine lv_goto (tgt := 86) hx hb dX6_worth_52 (by decide) ?_
          exact hret _ z0 H locs _ _ ⟨hJ, (iv_w i776 (by decide) (by decide))⟩ hH dX6_worth_86
      · skip
        have k777a : iv 0 9 x4_5 := iv_ltl (iv_nLe c760) h4_5 i759 (by decide)
        have k777b : iv 1 10 (z0.1 0) := iv_ltr (iv_nLe c760) h4_5 i759 (by decide)
        refine lv_iload_n hx hb dX6_worth_14 rfl (lv_at hl 3 rfl) ?_
        refine lv_aload_n hx hb dX6_worth_15 rfl (lv_at hl 0 rfl) ?_
        refine lv_iload_n hx hb dX6_worth_16 rfl (lv_at hl 2 rfl) ?_
        refine b_calli (As := [.int p1]) (rest := [.int x3_5]) ⟨hx, hb, hml, hown, hts⟩ 0 6 (g_X6_following_0 l D cy q hH.2.1 z0 hJ.1 p1 hp1) (cwV 1 hts gX6_worth_X6_following rfl rfl rfl (by decide +kernel) ⟨Nat.le_of_ble_eq_true rfl, Nat.le_of_ble_eq_true rfl⟩) hK hZ hH (by decide) rfl rfl rfl hl.1 rfl (Nat.le_of_ble_eq_true rfl) ⟨Nat.zero_le _, Nat.zero_le _⟩ dX6_worth_17 (fun w778 z778 H locs hp hH => ?_)
        rw [Ag_0 hp.1.2] at hH
        have i778 := hp.2
        refine lv_iload hx hb dX6_worth_20 (lv_at hl 4 rfl) ?_
        refine b_stati (As := [.int w778, .int x4_5]) (rest := [.int x3_5]) ⟨hx, hb, hml, hown, hts⟩ (g_X6_in l D cy q hH.2.1 z0 hJ.1 w778 x4_5) (va_cwS 2 hts gX6_worth_X6_in rfl rfl rfl (by decide +kernel) ⟨Nat.le_of_ble_eq_true rfl, Nat.le_of_ble_eq_true rfl⟩) hK hZ hH rfl hl.1 rfl (Nat.le_of_ble_eq_true rfl) ⟨Nat.zero_le _, Nat.zero_le _⟩ dX6_worth_22 (fun w779 z779 H locs hp hH => ?_)
        rw [Ag_0 hp.1.2] at hH
        have i779 := hp.2.1
        have f779_0 := hp.2.2
        refine lv_if_eq (tgt := 32) hx hb dX6_worth_25 (by decide) (fun c780 => ?_) (fun c780 => ?_)
        · skip
          have k781a : iv 0 0 w779 := iv_eql (iv_Eq c780) i779 (iv_lit (n := 0) 0 (by decide)) (by decide) (by decide)
          refine lv_iconst (v := 0) hx hb dX6_worth_32 (by decide) ?_
          exact HJ33 0 x3_5  H locs ls k777a (iv_w (iv_lit (n := 0) 0 (by decide)) (by decide) (by decide)) k777b  hH (lv_sub hl [0, 1, 2, 4] rfl)
        · skip
          have k782a : iv 1 1 w779 := iv_neLo (iv_nEq c780) i779 (by decide) (by decide)
          refine lv_iconst (v := 1) hx hb dX6_worth_28 (by decide) ?_
          refine lv_goto (tgt := 33) hx hb dX6_worth_29 (by decide) ?_
          exact HJ33 1 x3_5  H locs ls k777a (iv_w (iv_lit (n := 1) 1 (by decide)) (by decide) (by decide)) k777b  hH (lv_sub hl [0, 1, 2, 4] rfl)
  refine lv_iconst (v := 0) hx hb dX6_worth_0 (by decide) ?_
  refine lv_istore_n (lv' := [(3, .int 0), (0, .ref (q 0)), (1, .int p0), (2, .int p1)]) hx hb dX6_worth_1 rfl hl (by decide) rfl (fun ls hl => ?_)
  refine lv_iconst (v := 0) hx hb dX6_worth_2 (by decide) ?_
  refine lv_istore (lv' := [(4, .int 0), (3, .int 0), (0, .ref (q 0)), (1, .int p0), (2, .int p1)]) hx hb dX6_worth_3 hl (by decide) rfl (fun ls hl => ?_)
  exact HL5 _ 0 0  H locs ls (iv_w (iv_lit (n := 0) 0 (by decide)) (by decide) (by decide))  hH (lv_sub hl [2, 3, 4, 1, 0] rfl) rfl
set_option maxHeartbeats 4000000 in
set_option maxRecDepth 100000 in
theorem g_X6_nextBy_0 (l : Launch) (D : va_G) (cy : Nat → ClassId) (q : Nat → Nat) (hq : bJ 23 q) (z0 : zS) (hI : IvM z0) (p0 : Int32) (p1 : Int32) : bCi l yX6_nextBy wsX6_nextBy ({ frames := 4, cells := 0, slots := 0, locals := 93 }) D cy 23 (enM cy) q z0 [.ref (q 0), .int p0, .int p1] (fun v z => jJ IvM 0 0 0 z0 z ∧ iv (-1) 9 v ∧ ((v.toInt < 0 ∨ (v.toInt < (z0.1 0).toInt ∧ z0.2.1 21 (v : Int32).toNatClampNeg = 0)))) := by
  refine hM_i cX6_nextBy (by decide) rfl (own := RX6) rfl hq (Nat.le_of_ble_eq_true rfl) ?_
  intro p e s m args below meth c Q ls H locs hx hb hml hown hts hK hZ hH hl hret
  have hl : lv_has ls 7 [(0, .ref (q 0)), (1, .int p0), (2, .int p1)] := hl
  have hJ : jJ IvM 0 0 0 z0 z0 := jJ_rf _ _ _ hI
  have e00 : (0 : Int32).toInt = 0 := (by decide); have e01 : (1 : Int32).toInt = 1 := (by decide); have e02 : (2 : Int32).toInt = 2 := (by decide); have e03 : (3 : Int32).toInt = 3 := (by decide); have e010 : (10 : Int32).toInt = 10 := (by decide)
  have HL23 : ∀ (n : Nat) (x3_23 : Int32) (x4_23 : Int32) (x5_23 : Int32) (H : Heap) (locs : List Loc) (ls : Array Slot), iv (-1) 9 x3_23 → iv 0 1023 x4_23 → iv 0 10 x5_23 → (x3_23.toInt < 0 ∨ (x3_23.toInt < (z0.1 0).toInt ∧ z0.2.1 21 (x3_23 : Int32).toNatClampNeg = 0)) → bH D 23 (enM cy) q z0 s.heap H locs → lv_has ls 7 [(0, .ref (q 0)), (1, .int p0), (2, .int p1), (3, .int x3_23), (4, .int x4_23), (5, .int x5_23)] → (10 - x5_23.toInt).toNat = n → W p l e ({ frames := 4, cells := 0, slots := 0, locals := 93 }) s m args below meth c H locs 0 0 Q (F0 m 23 ls []) := by
    intro n23
    induction n23 using Nat.strongRecOn with
    | ind n23 ih23 =>
      intro x3_23 x4_23 x5_23 H locs ls h3_23 h4_23 h5_23 ex_23 hH hl hn23
      have := h3_23.1; have := h3_23.2; have := h4_23.1; have := h4_23.2; have := h5_23.1; have := h5_23.2
      have HJ83 : ∀ (t0_83 : Int32) (H : Heap) (locs : List Loc) (ls : Array Slot), iv 0 9 x5_23 → iv 0 1 t0_83 → iv 1 10 (z0.1 0) → ((t0_83 = 0 ∨ z0.2.1 21 (x5_23 : Int32).toNatClampNeg = 0) ∧ (x5_23 : Int32).toInt < (z0.1 0).toInt) → bH D 23 (enM cy) q z0 s.heap H locs → lv_has ls 7 [(0, .ref (q 0)), (1, .int p0), (2, .int p1), (3, .int x3_23), (4, .int x4_23), (5, .int x5_23)] → W p l e ({ frames := 4, cells := 0, slots := 0, locals := 93 }) s m args below meth c H locs 0 0 Q (F0 m 83 ls [.int t0_83]) := by
        intro t0_83 H locs ls h5_83 g0_83 gh0_83 ex_83 hH hl
        have := h5_83.1; have := h5_83.2; have := g0_83.1; have := g0_83.2; have := gh0_83.1; have := gh0_83.2
        have HJ120 : ∀ (t0_120 : Int32) (H : Heap) (locs : List Loc) (ls : Array Slot), iv 0 1 t0_120 → iv 1 10 (z0.1 0) → ((t0_120 = 0 ∨ z0.2.1 21 (x5_23 : Int32).toNatClampNeg = 0) ∧ (x5_23 : Int32).toInt < (z0.1 0).toInt) → bH D 23 (enM cy) q z0 s.heap H locs → lv_has ls 7 [(0, .ref (q 0)), (1, .int p0), (2, .int p1), (3, .int x3_23), (4, .int x4_23), (5, .int x5_23)] → W p l e ({ frames := 4, cells := 0, slots := 0, locals := 93 }) s m args below meth c H locs 0 0 Q (F0 m 120 ls [.int t0_120]) := by
          intro t0_120 H locs ls g0_120 gh0_120 ex_120 hH hl
          have := g0_120.1; have := g0_120.2; have := gh0_120.1; have := gh0_120.2
          refine lv_istore (lv' := [(6, .int t0_120), (0, .ref (q 0)), (1, .int p0), (2, .int p1), (3, .int x3_23), (4, .int x4_23), (5, .int x5_23)]) hx hb dX6_nextBy_120 hl (by decide) rfl (fun ls hl => ?_)
          refine lv_iload hx hb dX6_nextBy_122 (lv_at hl 0 rfl) ?_
          refine lv_if_eq (tgt := 152) hx hb dX6_nextBy_124 (by decide) (fun c504 => ?_) (fun c504 => ?_)
          · skip
            have r504 := (iv_Eq c504)
            have k505a : iv 0 0 t0_120 := iv_eql (iv_Eq c504) g0_120 (iv_lit (n := 0) 0 (by decide)) (by decide) (by decide)
            refine lv_iload_n hx hb dX6_nextBy_152 rfl (lv_at hl 4 rfl) ?_
            refine lv_istore_n (lv' := [(3, .int x3_23), (6, .int t0_120), (0, .ref (q 0)), (1, .int p0), (2, .int p1), (4, .int x4_23), (5, .int x5_23)]) hx hb dX6_nextBy_153 rfl hl (by decide) rfl (fun ls hl => ?_)
            have j506 : iv 1 10 (x5_23 + 1) := iv_add h5_83 (iv_lit (n := 1) 1 (by decide)) (by decide) (by decide) (by decide) (by decide)
            have e506 : (x5_23 + 1).toInt = x5_23.toInt + 1 := (iv_addE h5_83 (iv_lit (n := 1) 1 (by decide)) (by decide) (by decide)).trans rfl
            refine lv_iinc (v := (x5_23 + 1)) (lv' := [(5, .int (x5_23 + 1)), (3, .int x3_23), (6, .int t0_120), (0, .ref (q 0)), (1, .int p0), (2, .int p1), (4, .int x4_23)]) hx hb dX6_nextBy_154 hl (k := 6) rfl rfl (by decide) rfl (fun ls hl => ?_)
            refine lv_goto (tgt := 23) hx hb dX6_nextBy_157 (by decide) ?_
            exact ih23 _ (ms_up e506 j506.2 hn23) x3_23 x4_23 (x5_23 + 1)  H locs ls h3_23 h4_23 (iv_w j506 (by decide) (by decide)) ex_23  hH (lv_sub hl [3, 4, 5, 1, 6, 0] rfl) rfl
          · skip
            have r504 := (iv_nEq c504)
            have k507a : iv 1 1 t0_120 := iv_neLo (iv_nEq c504) g0_120 (by decide) (by decide)
            refine lv_iload_n hx hb dX6_nextBy_127 rfl (lv_at hl 4 rfl) ?_
            refine lv_if_lt (tgt := 147) hx hb dX6_nextBy_128 (by decide) (fun c508 => ?_) (fun c508 => ?_)
            · skip
              have r508 := (iv_Lt c508)
              have k509a : iv (-1) (-1) x3_23 := iv_ltl (iv_Lt c508) h3_23 (iv_lit (n := 0) 0 (by decide)) (by decide)
              refine lv_iload hx hb dX6_nextBy_147 (lv_at hl 6 rfl) ?_
              refine lv_goto (tgt := 153) hx hb dX6_nextBy_149 (by decide) ?_
              refine lv_istore_n (lv' := [(3, .int x5_23), (6, .int t0_120), (0, .ref (q 0)), (1, .int p0), (2, .int p1), (4, .int x4_23), (5, .int x5_23)]) hx hb dX6_nextBy_153 rfl hl (by decide) rfl (fun ls hl => ?_)
              have j510 : iv 1 10 (x5_23 + 1) := iv_add h5_83 (iv_lit (n := 1) 1 (by decide)) (by decide) (by decide) (by decide) (by decide)
              have e510 : (x5_23 + 1).toInt = x5_23.toInt + 1 := (iv_addE h5_83 (iv_lit (n := 1) 1 (by decide)) (by decide) (by decide)).trans rfl
              refine lv_iinc (v := (x5_23 + 1)) (lv' := [(5, .int (x5_23 + 1)), (3, .int x5_23), (6, .int t0_120), (0, .ref (q 0)), (1, .int p0), (2, .int p1), (4, .int x4_23)]) hx hb dX6_nextBy_154 hl (k := 6) rfl rfl (by decide) rfl (fun ls hl => ?_)
              refine lv_goto (tgt := 23) hx hb dX6_nextBy_157 (by decide) ?_
              exact ih23 _ (ms_up e510 j510.2 hn23) x5_23 x4_23 (x5_23 + 1)  H locs ls (iv_w h5_83 (by decide) (by decide)) h4_23 (iv_w j510 (by decide) (by decide)) (Or.inr ⟨ex_120.2, ex_120.1.resolve_left c504⟩)  hH (lv_sub hl [3, 4, 5, 1, 6, 0] rfl) rfl
            · skip
              have r508 := (iv_nLt c508)
              have k511b : iv 0 9 x3_23 := iv_ler (iv_nLt c508) (iv_lit (n := 0) 0 (by decide)) h3_23
              refine lv_aload_n hx hb dX6_nextBy_131 rfl (lv_at hl 1 rfl) ?_
              refine lv_iload_n hx hb dX6_nextBy_132 rfl (lv_at hl 2 rfl) ?_
              refine lv_iload hx hb dX6_nextBy_133 (lv_at hl 6 rfl) ?_
              refine b_calli (As := [.int p0, .int x5_23]) (rest := []) ⟨hx, hb, hml, hown, hts⟩ 0 6 (g_X6_worth_0 l D cy q hH.2.1 z0 hJ.1 p0 x5_23 h5_83) (cwV 2 hts gX6_nextBy_X6_worth rfl rfl rfl (by decide +kernel) ⟨Nat.le_of_ble_eq_true rfl, Nat.le_of_ble_eq_true rfl⟩) hK hZ hH (by decide) rfl rfl rfl hl.1 rfl (Nat.le_of_ble_eq_true rfl) ⟨Nat.zero_le _, Nat.zero_le _⟩ dX6_nextBy_135 (fun w512 z512 H locs hp hH => ?_)
              rw [Ag_0 hp.1.2] at hH
              refine lv_aload_n hx hb dX6_nextBy_138 rfl (lv_at hl 1 rfl) ?_
              refine lv_iload_n hx hb dX6_nextBy_139 rfl (lv_at hl 2 rfl) ?_
              refine lv_iload_n hx hb dX6_nextBy_140 rfl (lv_at hl 4 rfl) ?_
              refine b_calli (As := [.int p0, .int x3_23]) (rest := [.int w512]) ⟨hx, hb, hml, hown, hts⟩ 0 6 (g_X6_worth_0 l D cy q hH.2.1 z0 hJ.1 p0 x3_23 k511b) (cwV 2 hts gX6_nextBy_X6_worth rfl rfl rfl (by decide +kernel) ⟨Nat.le_of_ble_eq_true rfl, Nat.le_of_ble_eq_true rfl⟩) hK hZ hH (by decide) rfl rfl rfl hl.1 rfl (Nat.le_of_ble_eq_true rfl) ⟨Nat.zero_le _, Nat.zero_le _⟩ dX6_nextBy_141 (fun w513 z513 H locs hp hH => ?_)
              rw [Ag_0 hp.1.2] at hH
              refine lv_icmp_le (tgt := 152) hx hb dX6_nextBy_144 (by decide) (fun c514 => ?_) (fun c514 => ?_)
              · skip
                have r514 := (iv_Le c514)
                refine lv_iload_n hx hb dX6_nextBy_152 rfl (lv_at hl 4 rfl) ?_
                refine lv_istore_n (lv' := [(3, .int x3_23), (6, .int t0_120), (0, .ref (q 0)), (1, .int p0), (2, .int p1), (4, .int x4_23), (5, .int x5_23)]) hx hb dX6_nextBy_153 rfl hl (by decide) rfl (fun ls hl => ?_)
                have j516 : iv 1 10 (x5_23 + 1) := iv_add h5_83 (iv_lit (n := 1) 1 (by decide)) (by decide) (by decide) (by decide) (by decide)
                have e516 : (x5_23 + 1).toInt = x5_23.toInt + 1 := (iv_addE h5_83 (iv_lit (n := 1) 1 (by decide)) (by decide) (by decide)).trans rfl
                refine lv_iinc (v := (x5_23 + 1)) (lv' := [(5, .int (x5_23 + 1)), (3, .int x3_23), (6, .int t0_120), (0, .ref (q 0)), (1, .int p0), (2, .int p1), (4, .int x4_23)]) hx hb dX6_nextBy_154 hl (k := 6) rfl rfl (by decide) rfl (fun ls hl => ?_)
                refine lv_goto (tgt := 23) hx hb dX6_nextBy_157 (by decide) ?_
                exact ih23 _ (ms_up e516 j516.2 hn23) x3_23 x4_23 (x5_23 + 1)  H locs ls (iv_w k511b (by decide) (by decide)) h4_23 (iv_w j516 (by decide) (by decide)) ex_23  hH (lv_sub hl [3, 4, 5, 1, 6, 0] rfl) rfl
              · skip
                have r514 := (iv_nLe c514)
                have k517a : iv (-2147483648) 2147483646 w513 := iv_ltl (iv_nLe c514) (iv_all w513) (iv_all w512) (by decide)
                have k517b : iv (-2147483647) 2147483647 w512 := iv_ltr (iv_nLe c514) (iv_all w513) (iv_all w512) (by decide)
                refine lv_iload hx hb dX6_nextBy_147 (lv_at hl 6 rfl) ?_
                refine lv_goto (tgt := 153) hx hb dX6_nextBy_149 (by decide) ?_
                refine lv_istore_n (lv' := [(3, .int x5_23), (6, .int t0_120), (0, .ref (q 0)), (1, .int p0), (2, .int p1), (4, .int x4_23), (5, .int x5_23)]) hx hb dX6_nextBy_153 rfl hl (by decide) rfl (fun ls hl => ?_)
                have j518 : iv 1 10 (x5_23 + 1) := iv_add h5_83 (iv_lit (n := 1) 1 (by decide)) (by decide) (by decide) (by decide) (by decide)
                have e518 : (x5_23 + 1).toInt = x5_23.toInt + 1 := (iv_addE h5_83 (iv_lit (n := 1) 1 (by decide)) (by decide) (by decide)).trans rfl
                refine lv_iinc (v := (x5_23 + 1)) (lv' := [(5, .int (x5_23 + 1)), (3, .int x5_23), (6, .int t0_120), (0, .ref (q 0)), (1, .int p0), (2, .int p1), (4, .int x4_23)]) hx hb dX6_nextBy_154 hl (k := 6) rfl rfl (by decide) rfl (fun ls hl => ?_)
                refine lv_goto (tgt := 23) hx hb dX6_nextBy_157 (by decide) ?_
                exact ih23 _ (ms_up e518 j518.2 hn23) x5_23 x4_23 (x5_23 + 1)  H locs ls (iv_w h5_83 (by decide) (by decide)) h4_23 (iv_w j518 (by decide) (by decide)) (Or.inr ⟨ex_120.2, ex_120.1.resolve_left c504⟩)  hH (lv_sub hl [3, 4, 5, 1, 6, 0] rfl) rfl
        refine lv_istore (lv' := [(6, .int t0_83), (0, .ref (q 0)), (1, .int p0), (2, .int p1), (3, .int x3_23), (4, .int x4_23), (5, .int x5_23)]) hx hb dX6_nextBy_83 hl (by decide) rfl (fun ls hl => ?_)
        refine lv_iload hx hb dX6_nextBy_85 (lv_at hl 0 rfl) ?_
        refine lv_if_eq (tgt := 119) hx hb dX6_nextBy_87 (by decide) (fun c519 => ?_) (fun c519 => ?_)
        · skip
          have r519 := (iv_Eq c519)
          have k520a : iv 0 0 t0_83 := iv_eql (iv_Eq c519) g0_83 (iv_lit (n := 0) 0 (by decide)) (by decide) (by decide)
          refine lv_iconst (v := 0) hx hb dX6_nextBy_119 (by decide) ?_
          exact HJ120 0  H locs ls (iv_w (iv_lit (n := 0) 0 (by decide)) (by decide) (by decide)) gh0_83 ⟨Or.inl rfl, ex_83.2⟩  hH (lv_sub hl [1, 2, 3, 4, 5, 6] rfl)
        · skip
          have r519 := (iv_nEq c519)
          have k521a : iv 1 1 t0_83 := iv_neLo (iv_nEq c519) g0_83 (by decide) (by decide)
          refine lv_aload_n hx hb dX6_nextBy_90 rfl (lv_at hl 1 rfl) ?_
          refine lv_aload_n hx hb dX6_nextBy_91 rfl (lv_at hl 1 rfl) ?_
          refine lv_aload_n hx hb dX6_nextBy_92 rfl (lv_at hl 1 rfl) ?_
          refine b_get (ci := 6) (C := RX6) (T := TX6) (Nf := 29) (v := .ref (q 21)) hx hb hts in_X6_nextBy_X6 hown hK hH 0 (by decide) rfl rfl 27 (by decide) (hts (.fieldLink RX6 76 "StationLineModel" "trial" "[I") (List.mem_of_getElem? (i := 1) rfl)) rfl dX6_nextBy_93 ?_
          refine lv_iload_n hx hb dX6_nextBy_96 rfl (lv_at hl 3 rfl) ?_
          refine b_calli (As := [.ref (q 21), .int p1]) (rest := [.ref (q 0)]) ⟨hx, hb, hml, hown, hts⟩ 0 6 (g_X6_setAt_0_21 l D cy q hH.2.1 z0 hJ.1 p1) (cwV 2 hts gX6_nextBy_X6_setAt rfl rfl rfl (by decide +kernel) ⟨Nat.le_of_ble_eq_true rfl, Nat.le_of_ble_eq_true rfl⟩) hK hZ hH (by decide) rfl rfl rfl hl.1 rfl (Nat.le_of_ble_eq_true rfl) ⟨Nat.zero_le _, Nat.zero_le _⟩ dX6_nextBy_97 (fun w522 z522 H locs hp hH => ?_)
          rw [Ag_0 hp.1.2] at hH
          have i522 := hp.2.1
          have := i522.1; have := i522.2
          have f522_0 := hp.2.2
          refine lv_iconst (v := 1) hx hb dX6_nextBy_100 (by decide) ?_
          refine lv_iload hx hb dX6_nextBy_101 (lv_at hl 6 rfl) ?_
          refine lv_ishl hx hb dX6_nextBy_103 ?_
          refine h_i (a := 1) (b := 512) (iv_bit h5_83 (by decide) (by decide)) (fun w523 i523 => ?_)
          have := i523.1; have := i523.2
          refine lv_ior hx hb dX6_nextBy_104 ?_
          refine h_i (a := 0) (b := 1023) (iv_or 10 (b := 1023) (d := 512) (iv_w i522 (by decide) (by decide)) (iv_w i523 (by decide) (by decide)) (by decide) (by decide) (by decide) (by decide)) (fun w524 i524 => ?_)
          have := i524.1; have := i524.2
          refine b_calli (As := [.int w524]) (rest := []) ⟨hx, hb, hml, hown, hts⟩ 0 6 (g_X6_loadOf_0 l D cy q hH.2.1 z0 hJ.1 w524) (cwV 1 hts gX6_nextBy_X6_loadOf rfl rfl rfl (by decide +kernel) ⟨Nat.le_of_ble_eq_true rfl, Nat.le_of_ble_eq_true rfl⟩) hK hZ hH (by decide) rfl rfl rfl hl.1 rfl (Nat.le_of_ble_eq_true rfl) ⟨Nat.zero_le _, Nat.zero_le _⟩ dX6_nextBy_105 (fun w525 z525 H locs hp hH => ?_)
          rw [Ag_0 hp.1.2] at hH
          have i525 := hp.2.1
          have := i525.1; have := i525.2
          have f525_0 := hp.2.2
          refine lv_aload_n hx hb dX6_nextBy_108 rfl (lv_at hl 1 rfl) ?_
          refine b_calli (As := []) (rest := [.int w525]) ⟨hx, hb, hml, hown, hts⟩ 0 6 (g_X6_room_0 l D cy q hH.2.1 z0 hJ.1 ) (cwV 0 hts gX6_nextBy_X6_room rfl rfl rfl (by decide +kernel) ⟨Nat.le_of_ble_eq_true rfl, Nat.le_of_ble_eq_true rfl⟩) hK hZ hH (by decide) rfl rfl rfl hl.1 rfl (Nat.le_of_ble_eq_true rfl) ⟨Nat.zero_le _, Nat.zero_le _⟩ dX6_nextBy_109 (fun w526 z526 H locs hp hH => ?_)
          rw [Ag_0 hp.1.2] at hH
          have i526 := hp.2
          have := i526.1; have := i526.2
          refine lv_icmp_gt (tgt := 119) hx hb dX6_nextBy_112 (by decide) (fun c527 => ?_) (fun c527 => ?_)
          · skip
            have r527 := (iv_Lt c527)
            have k528a : iv 1 26999 w526 := iv_ltl (iv_Lt c527) i526 i525 (by decide)
            have k528b : iv 2 27000 w525 := iv_ltr (iv_Lt c527) i526 i525 (by decide)
            refine lv_iconst (v := 0) hx hb dX6_nextBy_119 (by decide) ?_
            exact HJ120 0  H locs ls (iv_w (iv_lit (n := 0) 0 (by decide)) (by decide) (by decide)) gh0_83 ⟨Or.inl rfl, ex_83.2⟩  hH (lv_sub hl [1, 2, 3, 4, 5, 6] rfl)
          · skip
            have r527 := (iv_nLt c527)
            refine lv_iconst (v := 1) hx hb dX6_nextBy_115 (by decide) ?_
            refine lv_goto (tgt := 120) hx hb dX6_nextBy_116 (by decide) ?_
            exact HJ120 1  H locs ls (iv_w (iv_lit (n := 1) 1 (by decide)) (by decide) (by decide)) gh0_83 ⟨Or.inr (ex_83.1.resolve_left c519), ex_83.2⟩  hH (lv_sub hl [1, 2, 3, 4, 5, 6] rfl)
      refine lv_iload hx hb dX6_nextBy_23 (lv_at hl 5 rfl) ?_
      refine lv_aload_n hx hb dX6_nextBy_25 rfl (lv_at hl 0 rfl) ?_
      refine b_get (ci := 6) (C := RX6) (T := TX6) (Nf := 29) (v := .int (z0.1 0)) hx hb hts in_X6_nextBy_X6 hown hK hH 0 (by decide) rfl rfl 0 (by decide) (hts (.fieldLink RX6 85 "StationLineModel" "tasks" "I") (List.mem_of_getElem? (i := 2) rfl)) rfl dX6_nextBy_26 ?_
      have i530 := IvM_s0 hJ.1
      have := i530.1; have := i530.2
      refine lv_icmp_ge (tgt := 160) hx hb dX6_nextBy_29 (by decide) (fun c531 => ?_) (fun c531 => ?_)
      · skip
        have r531 := (iv_Le c531)
        refine lv_iload_n hx hb dX6_nextBy_160 rfl (lv_at hl 3 rfl) ?_
        exact hret _ z0 H locs _ _ ⟨hJ, h3_23, ex_23⟩ hH dX6_nextBy_161
      · skip
        have r531 := (iv_nLe c531)
        have k533a : iv 0 9 x5_23 := iv_ltl (iv_nLe c531) h5_23 i530 (by decide)
        have k533b : iv 1 10 (z0.1 0) := iv_ltr (iv_nLe c531) h5_23 i530 (by decide)
        refine lv_aload_n hx hb dX6_nextBy_32 rfl (lv_at hl 0 rfl) ?_
        refine b_get (ci := 6) (C := RX6) (T := TX6) (Nf := 29) (v := .ref (q 21)) hx hb hts in_X6_nextBy_X6 hown hK hH 0 (by decide) rfl rfl 27 (by decide) (hts (.fieldLink RX6 76 "StationLineModel" "trial" "[I") (List.mem_of_getElem? (i := 1) rfl)) rfl dX6_nextBy_33 ?_
        refine lv_iload hx hb dX6_nextBy_36 (lv_at hl 5 rfl) ?_
        refine b_iald (v := z0.2.1 21 (x5_23 : Int32).toNatClampNeg) hx hb hK hH 21 (by decide) rfl (iv_in k533a (by decide) (by decide)) rfl dX6_nextBy_38 ?_
        have i534 : iv 0 10 (z0.2.1 21 (x5_23 : Int32).toNatClampNeg) := IvM_a21 hJ.1 _ (b_inlt (iv_in k533a (by decide) (by decide)))
        have := i534.1; have := i534.2
        refine lv_if_ne (tgt := 82) hx hb dX6_nextBy_39 (by decide) (fun c535 => ?_) (fun c535 => ?_)
        · skip
          have r535 := (iv_nEq c535)
          have k536a : iv 1 10 (z0.2.1 21 (x5_23 : Int32).toNatClampNeg) := iv_neLo (iv_nEq c535) i534 (by decide) (by decide)
          refine lv_iconst (v := 0) hx hb dX6_nextBy_82 (by decide) ?_
          exact HJ83 0  H locs ls k533a (iv_w (iv_lit (n := 0) 0 (by decide)) (by decide) (by decide)) k533b ⟨Or.inl rfl, by omega⟩  hH (lv_sub hl [0, 1, 2, 3, 4, 5] rfl)
        · skip
          have r535 := (iv_Eq c535)
          have k537a : iv 0 0 (z0.2.1 21 (x5_23 : Int32).toNatClampNeg) := iv_eql (iv_Eq c535) i534 (iv_lit (n := 0) 0 (by decide)) (by decide) (by decide)
          refine lv_aload_n hx hb dX6_nextBy_42 rfl (lv_at hl 0 rfl) ?_
          refine lv_iload hx hb dX6_nextBy_43 (lv_at hl 5 rfl) ?_
          refine b_calli (As := [.int x5_23]) (rest := []) ⟨hx, hb, hml, hown, hts⟩ 0 6 (g_X6_leading_0 l D cy q hH.2.1 z0 hJ.1 x5_23 k533a) (cwV 1 hts gX6_nextBy_X6_leading rfl rfl rfl (by decide +kernel) ⟨Nat.le_of_ble_eq_true rfl, Nat.le_of_ble_eq_true rfl⟩) hK hZ hH (by decide) rfl rfl rfl hl.1 rfl (Nat.le_of_ble_eq_true rfl) ⟨Nat.zero_le _, Nat.zero_le _⟩ dX6_nextBy_45 (fun w538 z538 H locs hp hH => ?_)
          rw [Ag_0 hp.1.2] at hH
          have f538_0 := hp.2.2.1
          have f538_1 := hp.2.2.2
          refine lv_iload hx hb dX6_nextBy_48 (lv_at hl 4 rfl) ?_
          refine lv_iconst (v := (-1)) hx hb dX6_nextBy_50 (by decide) ?_
          refine lv_ixor hx hb dX6_nextBy_51 ?_
          refine lv_topi (fun w539 _ => ?_)
          refine lv_iand hx hb dX6_nextBy_52 ?_
          refine lv_topi (fun w540 _ => ?_)
          refine lv_if_eq (tgt := 78) hx hb dX6_nextBy_53 (by decide) (fun c541 => ?_) (fun c541 => ?_)
          · skip
            have r541 := (iv_Eq c541)
            have k542a : iv 0 0 w540 := iv_eql (iv_Eq c541) (iv_all w540) (iv_lit (n := 0) 0 (by decide)) (by decide) (by decide)
            refine lv_iconst (v := 1) hx hb dX6_nextBy_78 (by decide) ?_
            refine lv_goto (tgt := 83) hx hb dX6_nextBy_79 (by decide) ?_
            exact HJ83 1  H locs ls k533a (iv_w (iv_lit (n := 1) 1 (by decide)) (by decide) (by decide)) k533b ⟨Or.inr c535, by omega⟩  hH (lv_sub hl [0, 1, 2, 3, 4, 5] rfl)
          · skip
            have r541 := (iv_nEq c541)
            refine lv_aload_n hx hb dX6_nextBy_56 rfl (lv_at hl 0 rfl) ?_
            refine b_get (ci := 6) (C := RX6) (T := TX6) (Nf := 29) (v := .int (z0.1 1)) hx hb hts in_X6_nextBy_X6 hown hK hH 0 (by decide) rfl rfl 7 (by decide) (hts (.fieldLink RX6 113 "StationLineModel" "kind" "I") (List.mem_of_getElem? (i := 3) rfl)) rfl dX6_nextBy_57 ?_
            refine lv_iconst (v := 1) hx hb dX6_nextBy_60 (by decide) ?_
            refine lv_icmp_ne (tgt := 82) hx hb dX6_nextBy_61 (by decide) (fun c544 => ?_) (fun c544 => ?_)
            · skip
              have r544 := (iv_nEq c544)
              refine lv_iconst (v := 0) hx hb dX6_nextBy_82 (by decide) ?_
              exact HJ83 0  H locs ls k533a (iv_w (iv_lit (n := 0) 0 (by decide)) (by decide) (by decide)) k533b ⟨Or.inl rfl, by omega⟩  hH (lv_sub hl [0, 1, 2, 3, 4, 5] rfl)
            · skip
              have r544 := (iv_Eq c544)
              have k546a : iv 1 1 (z0.1 1) := iv_eql (iv_Eq c544) (iv_all (z0.1 1)) (iv_lit (n := 1) 1 (by decide)) (by decide) (by decide)
              refine lv_aload_n hx hb dX6_nextBy_64 rfl (lv_at hl 0 rfl) ?_
              refine lv_iload hx hb dX6_nextBy_65 (lv_at hl 5 rfl) ?_
              refine b_calli (As := [.int x5_23]) (rest := []) ⟨hx, hb, hml, hown, hts⟩ 0 6 (g_X6_following_0 l D cy q hH.2.1 z0 hJ.1 x5_23 k533a) (cwV 1 hts gX6_nextBy_X6_following rfl rfl rfl (by decide +kernel) ⟨Nat.le_of_ble_eq_true rfl, Nat.le_of_ble_eq_true rfl⟩) hK hZ hH (by decide) rfl rfl rfl hl.1 rfl (Nat.le_of_ble_eq_true rfl) ⟨Nat.zero_le _, Nat.zero_le _⟩ dX6_nextBy_67 (fun w547 z547 H locs hp hH => ?_)
              rw [Ag_0 hp.1.2] at hH
              have i547 := hp.2
              have := i547.1; have := i547.2
              refine lv_iload hx hb dX6_nextBy_70 (lv_at hl 4 rfl) ?_
              refine lv_iconst (v := (-1)) hx hb dX6_nextBy_72 (by decide) ?_
              refine lv_ixor hx hb dX6_nextBy_73 ?_
              refine lv_topi (fun w548 _ => ?_)
              refine lv_iand hx hb dX6_nextBy_74 ?_
              refine h_iL (a := 0) (b := 1023) (iv_and i547 (iv_all w548) (by decide) (by decide)) (iv_andlt i547 (by decide)) (fun w549 i549 e549 => ?_)
              have := i549.1; have := i549.2
              refine lv_if_ne (tgt := 82) hx hb dX6_nextBy_75 (by decide) (fun c550 => ?_) (fun c550 => ?_)
              · skip
                have r550 := (iv_nEq c550)
                have k551a : iv 1 1023 w549 := iv_neLo (iv_nEq c550) i549 (by decide) (by decide)
                refine lv_iconst (v := 0) hx hb dX6_nextBy_82 (by decide) ?_
                exact HJ83 0  H locs ls k533a (iv_w (iv_lit (n := 0) 0 (by decide)) (by decide) (by decide)) k533b ⟨Or.inl rfl, by omega⟩  hH (lv_sub hl [0, 1, 2, 3, 4, 5] rfl)
              · skip
                have r550 := (iv_Eq c550)
                have k552a : iv 0 0 w549 := iv_eql (iv_Eq c550) i549 (iv_lit (n := 0) 0 (by decide)) (by decide) (by decide)
                refine lv_iconst (v := 1) hx hb dX6_nextBy_78 (by decide) ?_
                refine lv_goto (tgt := 83) hx hb dX6_nextBy_79 (by decide) ?_
                exact HJ83 1  H locs ls k533a (iv_w (iv_lit (n := 1) 1 (by decide)) (by decide) (by decide)) k533b ⟨Or.inr c535, by omega⟩  hH (lv_sub hl [0, 1, 2, 3, 4, 5] rfl)
  refine lv_iconst (v := (-1)) hx hb dX6_nextBy_0 (by decide) ?_
  refine lv_istore_n (lv' := [(3, .int (-1)), (0, .ref (q 0)), (1, .int p0), (2, .int p1)]) hx hb dX6_nextBy_1 rfl hl (by decide) rfl (fun ls hl => ?_)
  refine lv_aload_n hx hb dX6_nextBy_2 rfl (lv_at hl 1 rfl) ?_
  refine b_calli (As := []) (rest := []) ⟨hx, hb, hml, hown, hts⟩ 0 6 (g_X6_all_0 l D cy q hH.2.1 z0 hJ.1 ) (cwV 0 hts gX6_nextBy_X6_all rfl rfl rfl (by decide +kernel) ⟨Nat.le_of_ble_eq_true rfl, Nat.le_of_ble_eq_true rfl⟩) hK hZ hH (by decide) rfl rfl rfl hl.1 rfl (Nat.le_of_ble_eq_true rfl) ⟨Nat.zero_le _, Nat.zero_le _⟩ dX6_nextBy_3 (fun w553 z553 H locs hp hH => ?_)
  rw [Ag_0 hp.1.2] at hH
  have i553 := hp.2.1
  have := i553.1; have := i553.2
  have f553_0 := hp.2.2
  refine lv_aload_n hx hb dX6_nextBy_6 rfl (lv_at hl 1 rfl) ?_
  refine lv_aload_n hx hb dX6_nextBy_7 rfl (lv_at hl 1 rfl) ?_
  refine b_get (ci := 6) (C := RX6) (T := TX6) (Nf := 29) (v := .ref (q 21)) hx hb hts in_X6_nextBy_X6 hown hK hH 0 (by decide) rfl rfl 27 (by decide) (hts (.fieldLink RX6 76 "StationLineModel" "trial" "[I") (List.mem_of_getElem? (i := 1) rfl)) rfl dX6_nextBy_8 ?_
  refine lv_iconst (v := 0) hx hb dX6_nextBy_11 (by decide) ?_
  refine b_calli (As := [.ref (q 21), .int 0]) (rest := [.int w553]) ⟨hx, hb, hml, hown, hts⟩ 0 6 (g_X6_setAt_0_21 l D cy q hH.2.1 z0 hJ.1 0) (cwV 2 hts gX6_nextBy_X6_setAt rfl rfl rfl (by decide +kernel) ⟨Nat.le_of_ble_eq_true rfl, Nat.le_of_ble_eq_true rfl⟩) hK hZ hH (by decide) rfl rfl rfl hl.1 rfl (Nat.le_of_ble_eq_true rfl) ⟨Nat.zero_le _, Nat.zero_le _⟩ dX6_nextBy_12 (fun w554 z554 H locs hp hH => ?_)
  rw [Ag_0 hp.1.2] at hH
  have i554 := hp.2.1
  have := i554.1; have := i554.2
  have f554_0 := hp.2.2
  refine lv_iconst (v := (-1)) hx hb dX6_nextBy_15 (by decide) ?_
  refine lv_ixor hx hb dX6_nextBy_16 ?_
  refine lv_topi (fun w555 _ => ?_)
  refine lv_iand hx hb dX6_nextBy_17 ?_
  refine h_iL (a := 0) (b := 1023) (iv_and i553 (iv_all w555) (by decide) (by decide)) (iv_andlt i553 (by decide)) (fun w556 i556 e556 => ?_)
  have := i556.1; have := i556.2
  refine lv_istore (lv' := [(4, .int w556), (3, .int (-1)), (0, .ref (q 0)), (1, .int p0), (2, .int p1)]) hx hb dX6_nextBy_18 hl (by decide) rfl (fun ls hl => ?_)
  refine lv_iconst (v := 0) hx hb dX6_nextBy_20 (by decide) ?_
  refine lv_istore (lv' := [(5, .int 0), (4, .int w556), (3, .int (-1)), (0, .ref (q 0)), (1, .int p0), (2, .int p1)]) hx hb dX6_nextBy_21 hl (by decide) rfl (fun ls hl => ?_)
  exact HL23 _ (-1) w556 0  H locs ls (iv_w (iv_lit (n := (-1)) (-1) (by decide)) (by decide) (by decide)) i556 (iv_w (iv_lit (n := 0) 0 (by decide)) (by decide) (by decide)) (Or.inl (by decide))  hH (lv_sub hl [3, 4, 5, 2, 1, 0] rfl) rfl
set_option maxHeartbeats 4000000 in
set_option maxRecDepth 100000 in
theorem g_X6_rule_0 (l : Launch) (D : va_G) (cy : Nat → ClassId) (q : Nat → Nat) (hq : bJ 23 q) (z0 : zS) (hI : IvM z0) (p0 : Int32) : bCi l yX6_rule wsX6_rule ({ frames := 5, cells := 0, slots := 0, locals := 119 }) D cy 23 (enM cy) q z0 [.ref (q 0), .int p0] (fun v z => jJ IvM 0 2097216 0 z0 z ∧ iv (-4) 10 v) := by
  refine hM_i cX6_rule (by decide) rfl (own := RX6) rfl hq (Nat.le_of_ble_eq_true rfl) ?_
  intro p e s m args below meth c Q ls H locs hx hb hml hown hts hK hZ hH hl hret
  have hl : lv_has ls 4 [(0, .ref (q 0)), (1, .int p0)] := hl
  have hJ : jJ IvM 0 2097216 0 z0 z0 := jJ_rf _ _ _ hI
  have e00 : (0 : Int32).toInt = 0 := (by decide); have e01 : (1 : Int32).toInt = 1 := (by decide); have e02 : (2 : Int32).toInt = 2 := (by decide); have e03 : (3 : Int32).toInt = 3 := (by decide); have e010 : (10 : Int32).toInt = 10 := (by decide)
  have HJ9 : ∀ (z_9 : zS) (H : Heap) (locs : List Loc) (ls : Array Slot), jJ IvM 0 2097216 0 z0 z_9 → bH D 23 (enM cy) q z_9 s.heap H locs → lv_has ls 4 [] → W p l e ({ frames := 5, cells := 0, slots := 0, locals := 119 }) s m args below meth c H locs 0 0 Q (F0 m 9 ls []) := by
    intro z_9 H locs ls hJ hH hl
    refine lv_bipush (v := (-2)) hx hb dX6_rule_9 (by decide) ?_
    exact hret _ z_9 H locs _ _ ⟨hJ, (iv_w (iv_lit (n := (-2)) (-2) (by decide)) (by decide) (by decide))⟩ hH dX6_rule_11
  have HL14 : ∀ (n : Nat) (x2_14 : Int32) (z_14 : zS) (H : Heap) (locs : List Loc) (ls : Array Slot), iv 0 3 p0 → iv 0 10 x2_14 → jJ IvM 0 2097216 0 z0 z_14 → bH D 23 (enM cy) q z_14 s.heap H locs → lv_has ls 4 [(0, .ref (q 0)), (1, .int p0), (2, .int x2_14)] → (10 - x2_14.toInt).toNat = n → W p l e ({ frames := 5, cells := 0, slots := 0, locals := 119 }) s m args below meth c H locs 0 0 Q (F0 m 14 ls []) := by
    intro n14
    induction n14 using Nat.strongRecOn with
    | ind n14 ih14 =>
      intro x2_14 z_14 H locs ls h1_14 h2_14 hJ hH hl hn14
      have := h1_14.1; have := h1_14.2; have := h2_14.1; have := h2_14.2
      have HL54 : ∀ (n : Nat) (x2_54 : Int32) (z_54 : zS) (H : Heap) (locs : List Loc) (ls : Array Slot), iv 1 10 x2_54 → jJ IvM 0 2097216 0 z0 z_54 → bH D 23 (enM cy) q z_54 s.heap H locs → lv_has ls 4 [(0, .ref (q 0)), (1, .int p0), (2, .int x2_54)] → (czN (z_54.2.1 21) 10 + (10 - (x2_54 : Int32).toInt).toNat) = n → W p l e ({ frames := 5, cells := 0, slots := 0, locals := 119 }) s m args below meth c H locs 0 0 Q (F0 m 54 ls []) := by
        intro n54
        induction n54 using Nat.strongRecOn with
        | ind n54 ih54 =>
          intro x2_54 z_54 H locs ls h2_54 hJ hH hl hn54
          have := h2_54.1; have := h2_54.2
          have HL104 : ∀ (n : Nat) (x3_104 : Int32) (z_104 : zS) (H : Heap) (locs : List Loc) (ls : Array Slot), iv 0 10 x3_104 → jJ IvM 0 2097216 0 z0 z_104 → bH D 23 (enM cy) q z_104 s.heap H locs → lv_has ls 4 [(0, .ref (q 0)), (3, .int x3_104)] → (10 - x3_104.toInt).toNat = n → W p l e ({ frames := 5, cells := 0, slots := 0, locals := 119 }) s m args below meth c H locs 0 0 Q (F0 m 104 ls []) := by
            intro n104
            induction n104 using Nat.strongRecOn with
            | ind n104 ih104 =>
              intro x3_104 z_104 H locs ls h3_104 hJ hH hl hn104
              have := h3_104.1; have := h3_104.2
              refine lv_iload_n hx hb dX6_rule_104 rfl (lv_at hl 1 rfl) ?_
              refine lv_aload_n hx hb dX6_rule_105 rfl (lv_at hl 0 rfl) ?_
              refine b_get (ci := 6) (C := RX6) (T := TX6) (Nf := 29) (v := .int (z_104.1 0)) hx hb hts in_X6_rule_X6 hown hK hH 0 (by decide) rfl rfl 0 (by decide) (hts (.fieldLink RX6 85 "StationLineModel" "tasks" "I") (List.mem_of_getElem? (i := 1) rfl)) rfl dX6_rule_106 ?_
              have i273 := IvM_s0 hJ.1
              have := i273.1; have := i273.2
              refine lv_icmp_ge (tgt := 130) hx hb dX6_rule_109 (by decide) (fun c274 => ?_) (fun c274 => ?_)
              · skip
                have r274 := (iv_Le c274)
                refine lv_aload_n hx hb dX6_rule_130 rfl (lv_at hl 0 rfl) ?_
                refine lv_aload_n hx hb dX6_rule_131 rfl (lv_at hl 0 rfl) ?_
                refine b_get (ci := 6) (C := RX6) (T := TX6) (Nf := 29) (v := .ref (q 6)) hx hb hts in_X6_rule_X6 hown hK hH 0 (by decide) rfl rfl 6 (by decide) (hts (.fieldLink RX6 25 "StationLineModel" "hand" "[I") (List.mem_of_getElem? (i := 3) rfl)) rfl dX6_rule_132 ?_
                refine b_calli (As := [.ref (q 6)]) (rest := []) ⟨hx, hb, hml, hown, hts⟩ 0 6 (g_X6_lengthOf_0 l D cy q hH.2.1 z_104 hJ.1 ) (cwV 1 hts gX6_rule_X6_lengthOf rfl rfl rfl (by decide +kernel) ⟨Nat.le_of_ble_eq_true rfl, Nat.le_of_ble_eq_true rfl⟩) hK hZ hH (by decide) rfl rfl rfl hl.1 rfl (Nat.le_of_ble_eq_true rfl) ⟨Nat.zero_le _, Nat.zero_le _⟩ dX6_rule_135 (fun w276 z276 H locs hp hH => ?_)
                rw [Ag_0 hp.1.2] at hH
                have i276 := hp.2
                have := i276.1; have := i276.2
                exact hret _ z_104 H locs _ _ ⟨hJ, (iv_w i276 (by decide) (by decide))⟩ hH dX6_rule_138
              · skip
                have r274 := (iv_nLe c274)
                have k277a : iv 0 9 x3_104 := iv_ltl (iv_nLe c274) h3_104 i273 (by decide)
                have k277b : iv 1 10 (z_104.1 0) := iv_ltr (iv_nLe c274) h3_104 i273 (by decide)
                refine lv_aload_n hx hb dX6_rule_112 rfl (lv_at hl 0 rfl) ?_
                refine b_get (ci := 6) (C := RX6) (T := TX6) (Nf := 29) (v := .ref (q 6)) hx hb hts in_X6_rule_X6 hown hK hH 0 (by decide) rfl rfl 6 (by decide) (hts (.fieldLink RX6 25 "StationLineModel" "hand" "[I") (List.mem_of_getElem? (i := 3) rfl)) rfl dX6_rule_113 ?_
                refine lv_iload_n hx hb dX6_rule_116 rfl (lv_at hl 1 rfl) ?_
                refine lv_aload_n hx hb dX6_rule_117 rfl (lv_at hl 0 rfl) ?_
                refine b_get (ci := 6) (C := RX6) (T := TX6) (Nf := 29) (v := .ref (q 21)) hx hb hts in_X6_rule_X6 hown hK hH 0 (by decide) rfl rfl 27 (by decide) (hts (.fieldLink RX6 76 "StationLineModel" "trial" "[I") (List.mem_of_getElem? (i := 2) rfl)) rfl dX6_rule_118 ?_
                refine lv_iload_n hx hb dX6_rule_121 rfl (lv_at hl 1 rfl) ?_
                refine b_iald (v := z_104.2.1 21 (x3_104 : Int32).toNatClampNeg) hx hb hK hH 21 (by decide) rfl (iv_in k277a (by decide) (by decide)) rfl dX6_rule_122 ?_
                have i278 : iv 0 10 (z_104.2.1 21 (x3_104 : Int32).toNatClampNeg) := IvM_a21 hJ.1 _ (b_inlt (iv_in k277a (by decide) (by decide)))
                have := i278.1; have := i278.2
                refine b_iast hx hb hK hH 6 (by decide) rfl (iv_in k277a (by decide) (by decide)) (upA z_104 6 (upd (z_104.2.1 6) (x3_104 : Int32).toNatClampNeg (z_104.2.1 21 (x3_104 : Int32).toNatClampNeg))) rfl (enM_A _ _ _ _ _) dX6_rule_123 (fun H locs hH => ?_)
                obtain ⟨z279, hz279⟩ : ∃ w : zS, w = upA z_104 6 (upd (z_104.2.1 6) (x3_104 : Int32).toNatClampNeg (z_104.2.1 21 (x3_104 : Int32).toNatClampNeg)) := ⟨_, rfl⟩
                rw [← hz279] at hH
                have hJ : jJ IvM 0 2097216 0 z0 z279 := by rw [hz279]; exact jJ_A hJ (by decide) (IvM_A6 hJ.1 _ (iv_w i278 (by decide) (by decide)))
                have g280 : iv 1 10 (z279.1 0) := by rw [hz279]; exact k277b
                have j281 : iv 1 10 (x3_104 + 1) := iv_add k277a (iv_lit (n := 1) 1 (by decide)) (by decide) (by decide) (by decide) (by decide)
                have e281 : (x3_104 + 1).toInt = x3_104.toInt + 1 := (iv_addE k277a (iv_lit (n := 1) 1 (by decide)) (by decide) (by decide)).trans rfl
                refine lv_iinc (v := (x3_104 + 1)) (lv' := [(3, .int (x3_104 + 1)), (0, .ref (q 0))]) hx hb dX6_rule_124 hl (k := 1) rfl rfl (by decide) rfl (fun ls hl => ?_)
                refine lv_goto (tgt := 104) hx hb dX6_rule_127 (by decide) ?_
                exact ih104 _ (ms_up e281 j281.2 hn104) (x3_104 + 1) z279 H locs ls (iv_w j281 (by decide) (by decide)) hJ hH (lv_sub hl [1, 0] rfl) rfl
          refine lv_aload_n hx hb dX6_rule_54 rfl (lv_at hl 0 rfl) ?_
          refine lv_aload_n hx hb dX6_rule_55 rfl (lv_at hl 0 rfl) ?_
          refine b_get (ci := 6) (C := RX6) (T := TX6) (Nf := 29) (v := .ref (q 21)) hx hb hts in_X6_rule_X6 hown hK hH 0 (by decide) rfl rfl 27 (by decide) (hts (.fieldLink RX6 76 "StationLineModel" "trial" "[I") (List.mem_of_getElem? (i := 2) rfl)) rfl dX6_rule_56 ?_
          refine lv_iconst (v := 0) hx hb dX6_rule_59 (by decide) ?_
          refine b_calli (As := [.ref (q 21), .int 0]) (rest := []) ⟨hx, hb, hml, hown, hts⟩ 0 6 (g_X6_setAt_0_21 l D cy q hH.2.1 z_54 hJ.1 0) (cwV 2 hts gX6_rule_X6_setAt rfl rfl rfl (by decide +kernel) ⟨Nat.le_of_ble_eq_true rfl, Nat.le_of_ble_eq_true rfl⟩) hK hZ hH (by decide) rfl rfl rfl hl.1 rfl (Nat.le_of_ble_eq_true rfl) ⟨Nat.zero_le _, Nat.zero_le _⟩ dX6_rule_60 (fun w282 z282 H locs hp hH => ?_)
          rw [Ag_0 hp.1.2] at hH
          have i282 := hp.2.1
          have := i282.1; have := i282.2
          have f282_0 := hp.2.2
          refine lv_if_eq (tgt := 102) hx hb dX6_rule_63 (by decide) (fun c283 => ?_) (fun c283 => ?_)
          · skip
            have r283 := (iv_Eq c283)
            have k284a : iv 0 0 w282 := iv_eql (iv_Eq c283) i282 (iv_lit (n := 0) 0 (by decide)) (by decide) (by decide)
            refine lv_iconst (v := 0) hx hb dX6_rule_102 (by decide) ?_
            refine lv_istore_n (lv' := [(3, .int 0), (0, .ref (q 0)), (1, .int p0), (2, .int x2_54)]) hx hb dX6_rule_103 rfl hl (by decide) rfl (fun ls hl => ?_)
            exact HL104 _ 0 z_54 H locs ls (iv_w (iv_lit (n := 0) 0 (by decide)) (by decide) (by decide)) hJ hH (lv_sub hl [1, 0] rfl) rfl
          · skip
            have r283 := (iv_nEq c283)
            have k285a : iv 1 1023 w282 := iv_neLo (iv_nEq c283) i282 (by decide) (by decide)
            refine lv_aload_n hx hb dX6_rule_66 rfl (lv_at hl 0 rfl) ?_
            refine lv_iload_n hx hb dX6_rule_67 rfl (lv_at hl 1 rfl) ?_
            refine lv_iload_n hx hb dX6_rule_68 rfl (lv_at hl 2 rfl) ?_
            refine b_calli (As := [.int p0, .int x2_54]) (rest := []) ⟨hx, hb, hml, hown, hts⟩ 0 6 (g_X6_nextBy_0 l D cy q hH.2.1 z_54 hJ.1 p0 x2_54) (cwV 2 hts gX6_rule_X6_nextBy rfl rfl rfl (by decide +kernel) ⟨Nat.le_of_ble_eq_true rfl, Nat.le_of_ble_eq_true rfl⟩) hK hZ hH (by decide) rfl rfl rfl hl.1 rfl (Nat.le_of_ble_eq_true rfl) ⟨Nat.zero_le _, Nat.zero_le _⟩ dX6_rule_69 (fun w286 z286 H locs hp hH => ?_)
            rw [Ag_0 hp.1.2] at hH
            have i286 := hp.2.1
            have := i286.1; have := i286.2
            have f286_0 := hp.2.2
            refine lv_istore_n (lv' := [(3, .int w286), (0, .ref (q 0)), (1, .int p0), (2, .int x2_54)]) hx hb dX6_rule_72 rfl hl (by decide) rfl (fun ls hl => ?_)
            refine lv_iload_n hx hb dX6_rule_73 rfl (lv_at hl 0 rfl) ?_
            refine lv_if_lt (tgt := 87) hx hb dX6_rule_74 (by decide) (fun c287 => ?_) (fun c287 => ?_)
            · skip
              have r287 := (iv_Lt c287)
              have k288a : iv (-1) (-1) w286 := iv_ltl (iv_Lt c287) i286 (iv_lit (n := 0) 0 (by decide)) (by decide)
              refine lv_iload_n hx hb dX6_rule_87 rfl (lv_at hl 3 rfl) ?_
              refine lv_bipush (v := 10) hx hb dX6_rule_88 (by decide) ?_
              refine lv_icmp_ne (tgt := 96) hx hb dX6_rule_90 (by decide) (fun c289 => ?_) (fun c289 => ?_)
              · skip
                have r289 := (iv_nEq c289)
                have k290a : iv 1 9 x2_54 := iv_neHi (iv_nEq c289) h2_54 (by decide) (by decide)
                have j291 : iv 2 10 (x2_54 + 1) := iv_add k290a (iv_lit (n := 1) 1 (by decide)) (by decide) (by decide) (by decide) (by decide)
                have e291 : (x2_54 + 1).toInt = x2_54.toInt + 1 := (iv_addE k290a (iv_lit (n := 1) 1 (by decide)) (by decide) (by decide)).trans rfl
                refine lv_iinc (v := (x2_54 + 1)) (lv' := [(2, .int (x2_54 + 1)), (3, .int w286), (0, .ref (q 0)), (1, .int p0)]) hx hb dX6_rule_96 hl (k := 3) rfl rfl (by decide) rfl (fun ls hl => ?_)
                refine lv_goto (tgt := 54) hx hb dX6_rule_99 (by decide) ?_
                exact ih54 _ (by omega) (x2_54 + 1) z_54 H locs ls (iv_w j291 (by decide) (by decide)) hJ hH (lv_sub hl [2, 3, 0] rfl) rfl
              · skip
                have r289 := (iv_Eq c289)
                have k292a : iv 10 10 x2_54 := iv_eql (iv_Eq c289) h2_54 (iv_lit (n := 10) 10 (by decide)) (by decide) (by decide)
                refine lv_bipush (v := (-4)) hx hb dX6_rule_93 (by decide) ?_
                exact hret _ z_54 H locs _ _ ⟨hJ, (iv_w (iv_lit (n := (-4)) (-4) (by decide)) (by decide) (by decide))⟩ hH dX6_rule_95
            · skip
              have r287 := (iv_nLt c287)
              have k293b : iv 0 9 w286 := iv_ler (iv_nLt c287) (iv_lit (n := 0) 0 (by decide)) i286
              refine lv_aload_n hx hb dX6_rule_77 rfl (lv_at hl 1 rfl) ?_
              refine b_get (ci := 6) (C := RX6) (T := TX6) (Nf := 29) (v := .ref (q 21)) hx hb hts in_X6_rule_X6 hown hK hH 0 (by decide) rfl rfl 27 (by decide) (hts (.fieldLink RX6 76 "StationLineModel" "trial" "[I") (List.mem_of_getElem? (i := 2) rfl)) rfl dX6_rule_78 ?_
              refine lv_iload_n hx hb dX6_rule_81 rfl (lv_at hl 0 rfl) ?_
              refine lv_iload_n hx hb dX6_rule_82 rfl (lv_at hl 3 rfl) ?_
              refine b_iast hx hb hK hH 21 (by decide) rfl (iv_in k293b (by decide) (by decide)) (upA z_54 21 (upd (z_54.2.1 21) (w286 : Int32).toNatClampNeg x2_54)) rfl (enM_A _ _ _ _ _) dX6_rule_83 (fun H locs hH => ?_)
              obtain ⟨z294, hz294⟩ : ∃ w : zS, w = upA z_54 21 (upd (z_54.2.1 21) (w286 : Int32).toNatClampNeg x2_54) := ⟨_, rfl⟩
              rw [← hz294] at hH
              have hJ : jJ IvM 0 2097216 0 z0 z294 := by rw [hz294]; exact jJ_A hJ (by decide) (IvM_A21 hJ.1 _ (iv_w h2_54 (by decide) (by decide)))
              refine lv_goto (tgt := 99) hx hb dX6_rule_84 (by decide) ?_
              refine lv_goto (tgt := 54) hx hb dX6_rule_99 (by decide) ?_
              exact ih54 _ (by have h9 := (f286_0).resolve_left (by omega); have h8 := rl_fall hz294 h9.2 (iv_nz h2_54 (by decide)) (by have := iv_nat k293b (by decide); omega); omega) x2_54 z294 H locs ls h2_54 hJ hH (lv_sub hl [1, 2, 3] rfl) rfl
      refine lv_iload_n hx hb dX6_rule_14 rfl (lv_at hl 2 rfl) ?_
      refine lv_aload_n hx hb dX6_rule_15 rfl (lv_at hl 0 rfl) ?_
      refine b_get (ci := 6) (C := RX6) (T := TX6) (Nf := 29) (v := .int (z_14.1 0)) hx hb hts in_X6_rule_X6 hown hK hH 0 (by decide) rfl rfl 0 (by decide) (hts (.fieldLink RX6 85 "StationLineModel" "tasks" "I") (List.mem_of_getElem? (i := 1) rfl)) rfl dX6_rule_16 ?_
      have i295 := IvM_s0 hJ.1
      have := i295.1; have := i295.2
      refine lv_icmp_ge (tgt := 52) hx hb dX6_rule_19 (by decide) (fun c296 => ?_) (fun c296 => ?_)
      · skip
        have r296 := (iv_Le c296)
        refine lv_iconst (v := 1) hx hb dX6_rule_52 (by decide) ?_
        refine lv_istore_n (lv' := [(2, .int 1), (0, .ref (q 0)), (1, .int p0)]) hx hb dX6_rule_53 rfl hl (by decide) rfl (fun ls hl => ?_)
        exact HL54 _ 1 z_14 H locs ls (iv_w (iv_lit (n := 1) 1 (by decide)) (by decide) (by decide)) hJ hH (lv_sub hl [1, 2, 0] rfl) rfl
      · skip
        have r296 := (iv_nLe c296)
        have k298a : iv 0 9 x2_14 := iv_ltl (iv_nLe c296) h2_14 i295 (by decide)
        have k298b : iv 1 10 (z_14.1 0) := iv_ltr (iv_nLe c296) h2_14 i295 (by decide)
        refine lv_aload_n hx hb dX6_rule_22 rfl (lv_at hl 0 rfl) ?_
        refine b_get (ci := 6) (C := RX6) (T := TX6) (Nf := 29) (v := .ref (q 21)) hx hb hts in_X6_rule_X6 hown hK hH 0 (by decide) rfl rfl 27 (by decide) (hts (.fieldLink RX6 76 "StationLineModel" "trial" "[I") (List.mem_of_getElem? (i := 2) rfl)) rfl dX6_rule_23 ?_
        refine lv_iload_n hx hb dX6_rule_26 rfl (lv_at hl 2 rfl) ?_
        refine lv_iconst (v := 0) hx hb dX6_rule_27 (by decide) ?_
        refine b_iast hx hb hK hH 21 (by decide) rfl (iv_in k298a (by decide) (by decide)) (upA z_14 21 (upd (z_14.2.1 21) (x2_14 : Int32).toNatClampNeg 0)) rfl (enM_A _ _ _ _ _) dX6_rule_28 (fun H locs hH => ?_)
        obtain ⟨z299, hz299⟩ : ∃ w : zS, w = upA z_14 21 (upd (z_14.2.1 21) (x2_14 : Int32).toNatClampNeg 0) := ⟨_, rfl⟩
        rw [← hz299] at hH
        have hJ : jJ IvM 0 2097216 0 z0 z299 := by rw [hz299]; exact jJ_A hJ (by decide) (IvM_A21 hJ.1 _ (iv_w (iv_lit (n := 0) 0 (by decide)) (by decide) (by decide)))
        have g300 : iv 1 10 (z299.1 0) := by rw [hz299]; exact k298b
        refine lv_aload_n hx hb dX6_rule_29 rfl (lv_at hl 0 rfl) ?_
        refine lv_iconst (v := 1) hx hb dX6_rule_30 (by decide) ?_
        refine lv_iload_n hx hb dX6_rule_31 rfl (lv_at hl 2 rfl) ?_
        refine lv_ishl hx hb dX6_rule_32 ?_
        have i301 : iv 1 512 ((1 : Int32) <<< (x2_14 &&& 31)) := (iv_bit k298a (by decide) (by decide))
        refine b_calli (As := [.int ((1 : Int32) <<< (x2_14 &&& 31))]) (rest := []) ⟨hx, hb, hml, hown, hts⟩ 0 6 (g_X6_loadOf_0 l D cy q hH.2.1 z299 hJ.1 ((1 : Int32) <<< (x2_14 &&& 31))) (cwV 1 hts gX6_rule_X6_loadOf rfl rfl rfl (by decide +kernel) ⟨Nat.le_of_ble_eq_true rfl, Nat.le_of_ble_eq_true rfl⟩) hK hZ hH (by decide) rfl rfl rfl hl.1 rfl (Nat.le_of_ble_eq_true rfl) ⟨Nat.zero_le _, Nat.zero_le _⟩ dX6_rule_33 (fun w302 z302 H locs hp hH => ?_)
        rw [Ag_0 hp.1.2] at hH
        have i302 := hp.2.1
        have := i302.1; have := i302.2
        have f302_0 := hp.2.2
        refine lv_aload_n hx hb dX6_rule_36 rfl (lv_at hl 0 rfl) ?_
        refine b_calli (As := []) (rest := [.int w302]) ⟨hx, hb, hml, hown, hts⟩ 0 6 (g_X6_room_0 l D cy q hH.2.1 z299 hJ.1 ) (cwV 0 hts gX6_rule_X6_room rfl rfl rfl (by decide +kernel) ⟨Nat.le_of_ble_eq_true rfl, Nat.le_of_ble_eq_true rfl⟩) hK hZ hH (by decide) rfl rfl rfl hl.1 rfl (Nat.le_of_ble_eq_true rfl) ⟨Nat.zero_le _, Nat.zero_le _⟩ dX6_rule_37 (fun w303 z303 H locs hp hH => ?_)
        rw [Ag_0 hp.1.2] at hH
        have i303 := hp.2
        have := i303.1; have := i303.2
        refine lv_icmp_le (tgt := 46) hx hb dX6_rule_40 (by decide) (fun c304 => ?_) (fun c304 => ?_)
        · skip
          have r304 := (iv_Le c304)
          have j306 : iv 1 10 (x2_14 + 1) := iv_add k298a (iv_lit (n := 1) 1 (by decide)) (by decide) (by decide) (by decide) (by decide)
          have e306 : (x2_14 + 1).toInt = x2_14.toInt + 1 := (iv_addE k298a (iv_lit (n := 1) 1 (by decide)) (by decide) (by decide)).trans rfl
          refine lv_iinc (v := (x2_14 + 1)) (lv' := [(2, .int (x2_14 + 1)), (0, .ref (q 0)), (1, .int p0)]) hx hb dX6_rule_46 hl (k := 2) rfl rfl (by decide) rfl (fun ls hl => ?_)
          refine lv_goto (tgt := 14) hx hb dX6_rule_49 (by decide) ?_
          exact ih14 _ (ms_up e306 j306.2 hn14) (x2_14 + 1) z299 H locs ls h1_14 (iv_w j306 (by decide) (by decide)) hJ hH (lv_sub hl [1, 2, 0] rfl) rfl
        · skip
          have r304 := (iv_nLe c304)
          have k307a : iv 1 26999 w303 := iv_ltl (iv_nLe c304) i303 i302 (by decide)
          have k307b : iv 2 27000 w302 := iv_ltr (iv_nLe c304) i303 i302 (by decide)
          refine lv_bipush (v := (-4)) hx hb dX6_rule_43 (by decide) ?_
          exact hret _ z299 H locs _ _ ⟨hJ, (iv_w (iv_lit (n := (-4)) (-4) (by decide)) (by decide) (by decide))⟩ hH dX6_rule_45
  refine lv_iload_n hx hb dX6_rule_0 rfl (lv_at hl 1 rfl) ?_
  refine lv_if_lt (tgt := 9) hx hb dX6_rule_1 (by decide) (fun c308 => ?_) (fun c308 => ?_)
  · skip
    have r308 := (iv_Lt c308)
    have k309a : iv (-2147483648) (-1) p0 := iv_ltl (iv_Lt c308) (iv_all p0) (iv_lit (n := 0) 0 (by decide)) (by decide)
    exact HJ9  z0 H locs ls  hJ hH (lv_sub hl [] rfl)
  · skip
    have r308 := (iv_nLt c308)
    have k310b : iv 0 2147483647 p0 := iv_ler (iv_nLt c308) (iv_lit (n := 0) 0 (by decide)) (iv_all p0)
    refine lv_iload_n hx hb dX6_rule_4 rfl (lv_at hl 1 rfl) ?_
    refine lv_iconst (v := 3) hx hb dX6_rule_5 (by decide) ?_
    refine lv_icmp_le (tgt := 12) hx hb dX6_rule_6 (by decide) (fun c311 => ?_) (fun c311 => ?_)
    · skip
      have r311 := (iv_Le c311)
      have k312a : iv 0 3 p0 := iv_lel (iv_Le c311) k310b (iv_lit (n := 3) 3 (by decide))
      refine lv_iconst (v := 0) hx hb dX6_rule_12 (by decide) ?_
      refine lv_istore_n (lv' := [(2, .int 0), (0, .ref (q 0)), (1, .int p0)]) hx hb dX6_rule_13 rfl hl (by decide) rfl (fun ls hl => ?_)
      exact HL14 _ 0 z0 H locs ls k312a (iv_w (iv_lit (n := 0) 0 (by decide)) (by decide) (by decide)) hJ hH (lv_sub hl [1, 2, 0] rfl) rfl
    · skip
      have r311 := (iv_nLe c311)
      have k313b : iv 4 2147483647 p0 := iv_ltr (iv_nLe c311) (iv_lit (n := 3) 3 (by decide)) k310b (by decide)
      exact HJ9  z0 H locs ls  hJ hH (lv_sub hl [] rfl)
set_option maxHeartbeats 4000000 in
set_option maxRecDepth 100000 in
theorem g_X6_betters_0 (l : Launch) (D : va_G) (cy : Nat → ClassId) (q : Nat → Nat) (hq : bJ 23 q) (z0 : zS) (hI : IvM z0)  : bCi l yX6_betters wsX6_betters ({ frames := 5, cells := 0, slots := 0, locals := 117 }) D cy 23 (enM cy) q z0 [.ref (q 0)] (fun v z => jJ IvM 0 64 0 z0 z ∧ iv 0 1 v ∧ (v = 0 ∨ SQ z < SQ z0)) := by
  refine hM_z cX6_betters (by decide) rfl (own := RX6) rfl hq (Nat.le_of_ble_eq_true rfl) ?_
  intro p e s m args below meth c Q ls H locs hx hb hml hown hts hK hZ hH hl hret
  have hl : lv_has ls 7 [(0, .ref (q 0))] := hl
  have hJ : jJ IvM 0 64 0 z0 z0 := jJ_rf _ _ _ hI
  have e00 : (0 : Int32).toInt = 0 := (by decide); have e01 : (1 : Int32).toInt = 1 := (by decide); have e02 : (2 : Int32).toInt = 2 := (by decide); have e03 : (3 : Int32).toInt = 3 := (by decide); have e010 : (10 : Int32).toInt = 10 := (by decide)
  have HL21 : ∀ (n : Nat) (x1_21 : Int64) (x3_21 : Int32) (x4_21 : Int32) (z_21 : zS) (H : Heap) (locs : List Loc) (ls : Array Slot), iv 0 10 x3_21 → iv 0 10 x4_21 → (x1_21 = SQ z0) → jJ IvM 0 64 0 z0 z_21 → bH D 23 (enM cy) q z_21 s.heap H locs → lv_has ls 7 [(0, .ref (q 0)), (1, .long x1_21), (3, .int x3_21), (4, .int x4_21)] → (10 - x4_21.toInt).toNat = n → W p l e ({ frames := 5, cells := 0, slots := 0, locals := 117 }) s m args below meth c H locs 0 0 Q (F0 m 21 ls []) := by
    intro n21
    induction n21 using Nat.strongRecOn with
    | ind n21 ih21 =>
      intro x1_21 x3_21 x4_21 z_21 H locs ls h3_21 h4_21 ex_21 hJ hH hl hn21
      have := h3_21.1; have := h3_21.2; have := h4_21.1; have := h4_21.2
      have HL42 : ∀ (n : Nat) (x5_42 : Int32) (x6_42 : Int32) (z_42 : zS) (H : Heap) (locs : List Loc) (ls : Array Slot), iv 0 9 x4_21 → iv 0 10 x5_42 → iv 1 11 x6_42 → iv 1 10 (z_42.1 0) → (x1_21 = SQ z0) → jJ IvM 0 64 0 z0 z_42 → bH D 23 (enM cy) q z_42 s.heap H locs → lv_has ls 7 [(0, .ref (q 0)), (1, .long x1_21), (3, .int x3_21), (4, .int x4_21), (5, .int x5_42), (6, .int x6_42)] → (11 - x6_42.toInt).toNat = n → W p l e ({ frames := 5, cells := 0, slots := 0, locals := 117 }) s m args below meth c H locs 0 0 Q (F0 m 42 ls []) := by
        intro n42
        induction n42 using Nat.strongRecOn with
        | ind n42 ih42 =>
          intro x5_42 x6_42 z_42 H locs ls h4_42 h5_42 h6_42 gh0_42 ex_42 hJ hH hl hn42
          have := h4_42.1; have := h4_42.2; have := h5_42.1; have := h5_42.2; have := h6_42.1; have := h6_42.2; have := gh0_42.1; have := gh0_42.2
          have HJ83 : ∀ (z_83 : zS) (H : Heap) (locs : List Loc) (ls : Array Slot), iv 1 10 x3_21 → iv 1 10 x6_42 → iv 1 10 (z_83.1 0) → (x1_21 = SQ z0) → jJ IvM 0 64 0 z0 z_83 → bH D 23 (enM cy) q z_83 s.heap H locs → lv_has ls 7 [(0, .ref (q 0)), (1, .long x1_21), (3, .int x3_21), (4, .int x4_21), (5, .int x5_42), (6, .int x6_42)] → W p l e ({ frames := 5, cells := 0, slots := 0, locals := 117 }) s m args below meth c H locs 0 0 Q (F0 m 83 ls []) := by
            intro z_83 H locs ls h3_83 h6_83 gh0_83 ex_83 hJ hH hl
            have := h3_83.1; have := h3_83.2; have := h6_83.1; have := h6_83.2; have := gh0_83.1; have := gh0_83.2
            have j253 : iv 2 11 (x6_42 + 1) := iv_add h6_83 (iv_lit (n := 1) 1 (by decide)) (by decide) (by decide) (by decide) (by decide)
            have e253 : (x6_42 + 1).toInt = x6_42.toInt + 1 := (iv_addE h6_83 (iv_lit (n := 1) 1 (by decide)) (by decide) (by decide)).trans rfl
            refine lv_iinc (v := (x6_42 + 1)) (lv' := [(6, .int (x6_42 + 1)), (0, .ref (q 0)), (1, .long x1_21), (3, .int x3_21), (4, .int x4_21), (5, .int x5_42)]) hx hb dX6_betters_83 hl (k := 5) rfl rfl (by decide) rfl (fun ls hl => ?_)
            refine lv_goto (tgt := 42) hx hb dX6_betters_86 (by decide) ?_
            exact ih42 _ (ms_up e253 j253.2 hn42) x5_42 (x6_42 + 1) z_83 H locs ls h4_42 h5_42 (iv_w j253 (by decide) (by decide)) gh0_83 ex_83 hJ hH (lv_sub hl [1, 2, 3, 4, 5, 0] rfl) rfl
          refine lv_iload hx hb dX6_betters_42 (lv_at hl 5 rfl) ?_
          refine lv_iload_n hx hb dX6_betters_44 rfl (lv_at hl 2 rfl) ?_
          refine lv_icmp_gt (tgt := 89) hx hb dX6_betters_45 (by decide) (fun c254 => ?_) (fun c254 => ?_)
          · skip
            have r254 := (iv_Lt c254)
            refine lv_aload_n hx hb dX6_betters_89 rfl (lv_at hl 0 rfl) ?_
            refine b_get (ci := 6) (C := RX6) (T := TX6) (Nf := 29) (v := .ref (q 6)) hx hb hts in_X6_betters_X6 hown hK hH 0 (by decide) rfl rfl 6 (by decide) (hts (.fieldLink RX6 25 "StationLineModel" "hand" "[I") (List.mem_of_getElem? (i := 1) rfl)) rfl dX6_betters_90 ?_
            refine lv_iload hx hb dX6_betters_93 (lv_at hl 3 rfl) ?_
            refine lv_iload hx hb dX6_betters_95 (lv_at hl 4 rfl) ?_
            refine b_iast hx hb hK hH 6 (by decide) rfl (iv_in h4_42 (by decide) (by decide)) (upA z_42 6 (upd (z_42.2.1 6) (x4_21 : Int32).toNatClampNeg x5_42)) rfl (enM_A _ _ _ _ _) dX6_betters_97 (fun H locs hH => ?_)
            obtain ⟨z256, hz256⟩ : ∃ w : zS, w = upA z_42 6 (upd (z_42.2.1 6) (x4_21 : Int32).toNatClampNeg x5_42) := ⟨_, rfl⟩
            rw [← hz256] at hH
            have hJ : jJ IvM 0 64 0 z0 z256 := by rw [hz256]; exact jJ_A hJ (by decide) (IvM_A6 hJ.1 _ (iv_w h5_42 (by decide) (by decide)))
            have g257 : iv 1 10 (z256.1 0) := by rw [hz256]; exact gh0_42
            have j258 : iv 1 10 (x4_21 + 1) := iv_add h4_42 (iv_lit (n := 1) 1 (by decide)) (by decide) (by decide) (by decide) (by decide)
            have e258 : (x4_21 + 1).toInt = x4_21.toInt + 1 := (iv_addE h4_42 (iv_lit (n := 1) 1 (by decide)) (by decide) (by decide)).trans rfl
            refine lv_iinc (v := (x4_21 + 1)) (lv' := [(4, .int (x4_21 + 1)), (0, .ref (q 0)), (1, .long x1_21), (3, .int x3_21), (5, .int x5_42), (6, .int x6_42)]) hx hb dX6_betters_98 hl (k := 3) rfl rfl (by decide) rfl (fun ls hl => ?_)
            refine lv_goto (tgt := 21) hx hb dX6_betters_101 (by decide) ?_
            exact ih21 _ (ms_up e258 j258.2 hn21) x1_21 x3_21 (x4_21 + 1) z256 H locs ls h3_21 (iv_w j258 (by decide) (by decide)) ex_42 hJ hH (lv_sub hl [1, 2, 3, 0] rfl) rfl
          · skip
            have r254 := (iv_nLt c254)
            have k259a : iv 1 10 x6_42 := iv_lel (iv_nLt c254) h6_42 h3_21
            have k259b : iv 1 10 x3_21 := iv_ler (iv_nLt c254) h6_42 h3_21
            refine lv_aload_n hx hb dX6_betters_48 rfl (lv_at hl 0 rfl) ?_
            refine b_get (ci := 6) (C := RX6) (T := TX6) (Nf := 29) (v := .ref (q 6)) hx hb hts in_X6_betters_X6 hown hK hH 0 (by decide) rfl rfl 6 (by decide) (hts (.fieldLink RX6 25 "StationLineModel" "hand" "[I") (List.mem_of_getElem? (i := 1) rfl)) rfl dX6_betters_49 ?_
            refine lv_iload hx hb dX6_betters_52 (lv_at hl 3 rfl) ?_
            refine lv_iload hx hb dX6_betters_54 (lv_at hl 5 rfl) ?_
            refine b_iast hx hb hK hH 6 (by decide) rfl (iv_in h4_42 (by decide) (by decide)) (upA z_42 6 (upd (z_42.2.1 6) (x4_21 : Int32).toNatClampNeg x6_42)) rfl (enM_A _ _ _ _ _) dX6_betters_56 (fun H locs hH => ?_)
            obtain ⟨z260, hz260⟩ : ∃ w : zS, w = upA z_42 6 (upd (z_42.2.1 6) (x4_21 : Int32).toNatClampNeg x6_42) := ⟨_, rfl⟩
            rw [← hz260] at hH
            have hJ : jJ IvM 0 64 0 z0 z260 := by rw [hz260]; exact jJ_A hJ (by decide) (IvM_A6 hJ.1 _ (iv_w k259a (by decide) (by decide)))
            have g261 : iv 1 10 (z260.1 0) := by rw [hz260]; exact gh0_42
            refine lv_aload_n hx hb dX6_betters_57 rfl (lv_at hl 0 rfl) ?_
            refine lv_aload_n hx hb dX6_betters_58 rfl (lv_at hl 0 rfl) ?_
            refine b_get (ci := 6) (C := RX6) (T := TX6) (Nf := 29) (v := .ref (q 6)) hx hb hts in_X6_betters_X6 hown hK hH 0 (by decide) rfl rfl 6 (by decide) (hts (.fieldLink RX6 25 "StationLineModel" "hand" "[I") (List.mem_of_getElem? (i := 1) rfl)) rfl dX6_betters_59 ?_
            refine b_calll (As := [.ref (q 6)]) (rest := []) ⟨hx, hb, hml, hown, hts⟩ 0 6 (g_X6_squaresOf_0 l D cy q hH.2.1 z260 hJ.1 ) (cwV 1 hts gX6_betters_X6_squaresOf rfl rfl rfl (by decide +kernel) ⟨Nat.le_of_ble_eq_true rfl, Nat.le_of_ble_eq_true rfl⟩) hK hZ hH (by decide) rfl rfl rfl hl.1 rfl (Nat.le_of_ble_eq_true rfl) ⟨Nat.zero_le _, Nat.zero_le _⟩ dX6_betters_62 (fun w262 z262 H locs hp hH => ?_)
            rw [Ag_0 hp.1.2] at hH
            have f262_0 := hp.2
            refine lv_lload_n hx hb dX6_betters_65 rfl (lv_at hl 1 rfl) ?_
            refine W.lcmp hx hb dX6_betters_66 ?_
            refine lv_if_ge (tgt := 83) hx hb dX6_betters_67 (by decide) (fun c264 => ?_) (fun c264 => ?_)
            · skip
              have r264 := (iv_Le c264)
              have k265b : iv 0 2147483647 (lg_cmp w262 x1_21) := iv_ler (iv_Le c264) (iv_lit (n := 0) 0 (by decide)) (iv_all (lg_cmp w262 x1_21))
              exact HJ83  z260 H locs ls k259b k259a g261 ex_42 hJ hH (lv_sub hl [0, 1, 2, 3, 4, 5] rfl)
            · skip
              have r264 := (iv_nLe c264)
              have k266a : iv (-2147483648) (-1) (lg_cmp w262 x1_21) := iv_ltl (iv_nLe c264) (iv_all (lg_cmp w262 x1_21)) (iv_lit (n := 0) 0 (by decide)) (by decide)
              refine lv_aload_n hx hb dX6_betters_70 rfl (lv_at hl 0 rfl) ?_
              refine lv_aload_n hx hb dX6_betters_71 rfl (lv_at hl 0 rfl) ?_
              refine b_get (ci := 6) (C := RX6) (T := TX6) (Nf := 29) (v := .ref (q 6)) hx hb hts in_X6_betters_X6 hown hK hH 0 (by decide) rfl rfl 6 (by decide) (hts (.fieldLink RX6 25 "StationLineModel" "hand" "[I") (List.mem_of_getElem? (i := 1) rfl)) rfl dX6_betters_72 ?_
              refine b_calli (As := [.ref (q 6)]) (rest := []) ⟨hx, hb, hml, hown, hts⟩ 0 6 (g_X6_clashIn_0_6 l D cy q hH.2.1 z260 hJ.1 ) (cwV 1 hts gX6_betters_X6_clashIn rfl rfl rfl (by decide +kernel) ⟨Nat.le_of_ble_eq_true rfl, Nat.le_of_ble_eq_true rfl⟩) hK hZ hH (by decide) rfl rfl rfl hl.1 rfl (Nat.le_of_ble_eq_true rfl) ⟨Nat.zero_le _, Nat.zero_le _⟩ dX6_betters_75 (fun w267 z267 H locs hp hH => ?_)
              rw [Ag_0 hp.1.2] at hH
              have i267 := hp.2
              have := i267.1; have := i267.2
              refine lv_if_ge (tgt := 83) hx hb dX6_betters_78 (by decide) (fun c268 => ?_) (fun c268 => ?_)
              · skip
                have r268 := (iv_Le c268)
                have k269b : iv 0 9 w267 := iv_ler (iv_Le c268) (iv_lit (n := 0) 0 (by decide)) i267
                exact HJ83  z260 H locs ls k259b k259a g261 ex_42 hJ hH (lv_sub hl [0, 1, 2, 3, 4, 5] rfl)
              · skip
                have r268 := (iv_nLe c268)
                have k270a : iv (-1) (-1) w267 := iv_ltl (iv_nLe c268) i267 (iv_lit (n := 0) 0 (by decide)) (by decide)
                refine lv_iconst (v := 1) hx hb dX6_betters_81 (by decide) ?_
                exact hret _ z260 H locs _ _ (iv_w (iv_lit (n := 1) 1 (by decide)) (by decide) (by decide)) ⟨hJ, (iv_w (iv_lit (n := 1) 1 (by decide)) (by decide) (by decide)), Or.inr (by have h9 := lgc_lt c264; rw [f262_0, ex_42] at h9; exact h9)⟩ hH dX6_betters_82
      refine lv_iload hx hb dX6_betters_21 (lv_at hl 3 rfl) ?_
      refine lv_aload_n hx hb dX6_betters_23 rfl (lv_at hl 0 rfl) ?_
      refine b_get (ci := 6) (C := RX6) (T := TX6) (Nf := 29) (v := .int (z_21.1 0)) hx hb hts in_X6_betters_X6 hown hK hH 0 (by decide) rfl rfl 0 (by decide) (hts (.fieldLink RX6 85 "StationLineModel" "tasks" "I") (List.mem_of_getElem? (i := 2) rfl)) rfl dX6_betters_24 ?_
      have i271 := IvM_s0 hJ.1
      have := i271.1; have := i271.2
      refine lv_icmp_ge (tgt := 104) hx hb dX6_betters_27 (by decide) (fun c272 => ?_) (fun c272 => ?_)
      · skip
        have r272 := (iv_Le c272)
        refine lv_iconst (v := 0) hx hb dX6_betters_104 (by decide) ?_
        exact hret _ z_21 H locs _ _ (iv_w (iv_lit (n := 0) 0 (by decide)) (by decide) (by decide)) ⟨hJ, (iv_w (iv_lit (n := 0) 0 (by decide)) (by decide) (by decide)), Or.inl rfl⟩ hH dX6_betters_105
      · skip
        have r272 := (iv_nLe c272)
        have k274a : iv 0 9 x4_21 := iv_ltl (iv_nLe c272) h4_21 i271 (by decide)
        have k274b : iv 1 10 (z_21.1 0) := iv_ltr (iv_nLe c272) h4_21 i271 (by decide)
        refine lv_aload_n hx hb dX6_betters_30 rfl (lv_at hl 0 rfl) ?_
        refine b_get (ci := 6) (C := RX6) (T := TX6) (Nf := 29) (v := .ref (q 6)) hx hb hts in_X6_betters_X6 hown hK hH 0 (by decide) rfl rfl 6 (by decide) (hts (.fieldLink RX6 25 "StationLineModel" "hand" "[I") (List.mem_of_getElem? (i := 1) rfl)) rfl dX6_betters_31 ?_
        refine lv_iload hx hb dX6_betters_34 (lv_at hl 3 rfl) ?_
        refine b_iald (v := z_21.2.1 6 (x4_21 : Int32).toNatClampNeg) hx hb hK hH 6 (by decide) rfl (iv_in k274a (by decide) (by decide)) rfl dX6_betters_36 ?_
        have i275 : iv 0 10 (z_21.2.1 6 (x4_21 : Int32).toNatClampNeg) := IvM_a6 hJ.1 _ (b_inlt (iv_in k274a (by decide) (by decide)))
        have := i275.1; have := i275.2
        refine lv_istore (lv' := [(5, .int (z_21.2.1 6 (x4_21 : Int32).toNatClampNeg)), (0, .ref (q 0)), (1, .long x1_21), (3, .int x3_21), (4, .int x4_21)]) hx hb dX6_betters_37 hl (by decide) rfl (fun ls hl => ?_)
        refine lv_iconst (v := 1) hx hb dX6_betters_39 (by decide) ?_
        refine lv_istore (lv' := [(6, .int 1), (5, .int (z_21.2.1 6 (x4_21 : Int32).toNatClampNeg)), (0, .ref (q 0)), (1, .long x1_21), (3, .int x3_21), (4, .int x4_21)]) hx hb dX6_betters_40 hl (by decide) rfl (fun ls hl => ?_)
        exact HL42 _ (z_21.2.1 6 (x4_21 : Int32).toNatClampNeg) 1 z_21 H locs ls k274a i275 (iv_w (iv_lit (n := 1) 1 (by decide)) (by decide) (by decide)) k274b ex_21 hJ hH (lv_sub hl [2, 3, 4, 5, 1, 0] rfl) rfl
  refine lv_aload_n hx hb dX6_betters_0 rfl (lv_at hl 0 rfl) ?_
  refine lv_aload_n hx hb dX6_betters_1 rfl (lv_at hl 0 rfl) ?_
  refine b_get (ci := 6) (C := RX6) (T := TX6) (Nf := 29) (v := .ref (q 6)) hx hb hts in_X6_betters_X6 hown hK hH 0 (by decide) rfl rfl 6 (by decide) (hts (.fieldLink RX6 25 "StationLineModel" "hand" "[I") (List.mem_of_getElem? (i := 1) rfl)) rfl dX6_betters_2 ?_
  refine b_calll (As := [.ref (q 6)]) (rest := []) ⟨hx, hb, hml, hown, hts⟩ 0 6 (g_X6_squaresOf_0 l D cy q hH.2.1 z0 hJ.1 ) (cwV 1 hts gX6_betters_X6_squaresOf rfl rfl rfl (by decide +kernel) ⟨Nat.le_of_ble_eq_true rfl, Nat.le_of_ble_eq_true rfl⟩) hK hZ hH (by decide) rfl rfl rfl hl.1 rfl (Nat.le_of_ble_eq_true rfl) ⟨Nat.zero_le _, Nat.zero_le _⟩ dX6_betters_5 (fun w276 z276 H locs hp hH => ?_)
  rw [Ag_0 hp.1.2] at hH
  have f276_0 := hp.2
  refine lv_lstore_n (lv' := [(1, .long w276), (0, .ref (q 0))]) hx hb dX6_betters_8 rfl hl (by decide) rfl (fun ls hl => ?_)
  refine lv_aload_n hx hb dX6_betters_9 rfl (lv_at hl 1 rfl) ?_
  refine lv_aload_n hx hb dX6_betters_10 rfl (lv_at hl 1 rfl) ?_
  refine b_get (ci := 6) (C := RX6) (T := TX6) (Nf := 29) (v := .ref (q 6)) hx hb hts in_X6_betters_X6 hown hK hH 0 (by decide) rfl rfl 6 (by decide) (hts (.fieldLink RX6 25 "StationLineModel" "hand" "[I") (List.mem_of_getElem? (i := 1) rfl)) rfl dX6_betters_11 ?_
  refine b_calli (As := [.ref (q 6)]) (rest := []) ⟨hx, hb, hml, hown, hts⟩ 0 6 (g_X6_lengthOf_0 l D cy q hH.2.1 z0 hJ.1 ) (cwV 1 hts gX6_betters_X6_lengthOf rfl rfl rfl (by decide +kernel) ⟨Nat.le_of_ble_eq_true rfl, Nat.le_of_ble_eq_true rfl⟩) hK hZ hH (by decide) rfl rfl rfl hl.1 rfl (Nat.le_of_ble_eq_true rfl) ⟨Nat.zero_le _, Nat.zero_le _⟩ dX6_betters_14 (fun w277 z277 H locs hp hH => ?_)
  rw [Ag_0 hp.1.2] at hH
  have i277 := hp.2
  have := i277.1; have := i277.2
  refine lv_istore_n (lv' := [(3, .int w277), (1, .long w276), (0, .ref (q 0))]) hx hb dX6_betters_17 rfl hl (by decide) rfl (fun ls hl => ?_)
  refine lv_iconst (v := 0) hx hb dX6_betters_18 (by decide) ?_
  refine lv_istore (lv' := [(4, .int 0), (3, .int w277), (1, .long w276), (0, .ref (q 0))]) hx hb dX6_betters_19 hl (by decide) rfl (fun ls hl => ?_)
  exact HL21 _ w276 w277 0 z0 H locs ls i277 (iv_w (iv_lit (n := 0) 0 (by decide)) (by decide) (by decide)) f276_0 hJ hH (lv_sub hl [3, 2, 1, 0] rfl) rfl
set_option maxHeartbeats 4000000 in
set_option maxRecDepth 100000 in
theorem g_X6_better_0 (l : Launch) (D : va_G) (cy : Nat → ClassId) (q : Nat → Nat) (hq : bJ 23 q) (z0 : zS) (hI : IvM z0)  : bCi l yX6_better wsX6_better ({ frames := 6, cells := 0, slots := 0, locals := 143 }) D cy 23 (enM cy) q z0 [.ref (q 0)] (fun v z => jJ IvM 0 64 0 z0 z ∧ iv (-2147483648) 2147483647 v) := by
  refine hM_i cX6_better (by decide) rfl (own := RX6) rfl hq (Nat.le_of_ble_eq_true rfl) ?_
  intro p e s m args below meth c Q ls H locs hx hb hml hown hts hK hZ hH hl hret
  have hl : lv_has ls 2 [(0, .ref (q 0))] := hl
  have hJ : jJ IvM 0 64 0 z0 z0 := jJ_rf _ _ _ hI
  have e00 : (0 : Int32).toInt = 0 := (by decide); have e01 : (1 : Int32).toInt = 1 := (by decide); have e02 : (2 : Int32).toInt = 2 := (by decide); have e03 : (3 : Int32).toInt = 3 := (by decide); have e010 : (10 : Int32).toInt = 10 := (by decide)
  have HL12 : ∀ (n : Nat) (x1_12 : Int32) (z_12 : zS) (H : Heap) (locs : List Loc) (ls : Array Slot), jJ IvM 0 64 0 z0 z_12 → bH D 23 (enM cy) q z_12 s.heap H locs → lv_has ls 2 [(0, .ref (q 0)), (1, .int x1_12)] → ((SQ z_12).toInt + 9223372036854775808).toNat = n → W p l e ({ frames := 6, cells := 0, slots := 0, locals := 143 }) s m args below meth c H locs 0 0 Q (F0 m 12 ls []) := by
    intro n12
    induction n12 using Nat.strongRecOn with
    | ind n12 ih12 =>
      intro x1_12 z_12 H locs ls hJ hH hl hn12
      refine lv_aload_n hx hb dX6_better_12 rfl (lv_at hl 0 rfl) ?_
      refine b_calli (As := []) (rest := []) ⟨hx, hb, hml, hown, hts⟩ 0 6 (g_X6_betters_0 l D cy q hH.2.1 z_12 hJ.1 ) (cwV 0 hts gX6_better_X6_betters rfl rfl rfl (by decide +kernel) ⟨Nat.le_of_ble_eq_true rfl, Nat.le_of_ble_eq_true rfl⟩) hK hZ hH (by decide) rfl rfl rfl hl.1 rfl (Nat.le_of_ble_eq_true rfl) ⟨Nat.zero_le _, Nat.zero_le _⟩ dX6_better_13 (fun w150 z150 H locs hp hH => ?_)
      have hJ := jJ_tr hJ hp.1 (by decide) (by decide) (by decide)
      have i150 := hp.2.1
      have := i150.1; have := i150.2
      have f150_0 := hp.2.2
      have hA150 := hp.1.2
      refine lv_if_eq (tgt := 25) hx hb dX6_better_16 (by decide) (fun c151 => ?_) (fun c151 => ?_)
      · skip
        have r151 := (iv_Eq c151)
        have k152a : iv 0 0 w150 := iv_eql (iv_Eq c151) i150 (iv_lit (n := 0) 0 (by decide)) (by decide) (by decide)
        refine lv_iload_n hx hb dX6_better_25 rfl (lv_at hl 1 rfl) ?_
        exact hret _ z150 H locs _ _ ⟨hJ, (iv_all x1_12)⟩ hH dX6_better_26
      · skip
        have r151 := (iv_nEq c151)
        have k153a : iv 1 1 w150 := iv_neLo (iv_nEq c151) i150 (by decide) (by decide)
        refine lv_iinc (v := (x1_12 + 1)) (lv' := [(1, .int (x1_12 + 1)), (0, .ref (q 0))]) hx hb dX6_better_19 hl (k := 1) rfl rfl (by decide) rfl (fun ls hl => ?_)
        refine lv_goto (tgt := 12) hx hb dX6_better_22 (by decide) ?_
        exact ih12 _ (by have h9 := Int64.lt_iff_toInt_lt.mp ((f150_0).resolve_left c151); have h8 := Int64.le_toInt (SQ z150); have h7 := Int64.le_toInt (SQ z_12); omega) (x1_12 + 1) z150 H locs ls  hJ hH (lv_sub hl [1, 0] rfl) rfl
  refine lv_aload_n hx hb dX6_better_0 rfl (lv_at hl 0 rfl) ?_
  refine b_calli (As := []) (rest := []) ⟨hx, hb, hml, hown, hts⟩ 0 6 (g_X6_clash_0 l D cy q hH.2.1 z0 hJ.1 ) (cwV 0 hts gX6_better_X6_clash rfl rfl rfl (by decide +kernel) ⟨Nat.le_of_ble_eq_true rfl, Nat.le_of_ble_eq_true rfl⟩) hK hZ hH (by decide) rfl rfl rfl hl.1 rfl (Nat.le_of_ble_eq_true rfl) ⟨Nat.zero_le _, Nat.zero_le _⟩ dX6_better_1 (fun w155 z155 H locs hp hH => ?_)
  rw [Ag_0 hp.1.2] at hH
  have i155 := hp.2
  have := i155.1; have := i155.2
  refine lv_if_lt (tgt := 10) hx hb dX6_better_4 (by decide) (fun c156 => ?_) (fun c156 => ?_)
  · skip
    have r156 := (iv_Lt c156)
    have k157a : iv (-1) (-1) w155 := iv_ltl (iv_Lt c156) i155 (iv_lit (n := 0) 0 (by decide)) (by decide)
    refine lv_iconst (v := 0) hx hb dX6_better_10 (by decide) ?_
    refine lv_istore_n (lv' := [(1, .int 0), (0, .ref (q 0))]) hx hb dX6_better_11 rfl hl (by decide) rfl (fun ls hl => ?_)
    exact HL12 _ 0 z0 H locs ls  hJ hH (lv_sub hl [1, 0] rfl) rfl
  · skip
    have r156 := (iv_nLt c156)
    have k158b : iv 0 9 w155 := iv_ler (iv_nLt c156) (iv_lit (n := 0) 0 (by decide)) i155
    refine lv_bipush (v := (-4)) hx hb dX6_better_7 (by decide) ?_
    exact hret _ z0 H locs _ _ ⟨hJ, (iv_w (iv_lit (n := (-4)) (-4) (by decide)) (by decide) (by decide))⟩ hH dX6_better_9
