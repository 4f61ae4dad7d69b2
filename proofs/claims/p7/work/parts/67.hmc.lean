set_option maxHeartbeats 4000000 in
set_option maxRecDepth 100000 in
theorem g_X6_causeIn_0_6 (l : Launch) (D : va_G) (cy : Nat → ClassId) (q : Nat → Nat) (hq : bJ 23 q) (z0 : zS) (hI : IvM z0) (p1 : Int32) (hp1 : iv 0 9 p1) : bCi l yX6_causeIn wsX6_causeIn ({ frames := 3, cells := 0, slots := 0, locals := 69 }) D cy 23 (enM cy) q z0 [.ref (q 0), .ref (q 6), .int p1] (fun v z => jJ IvM 0 0 0 z0 z ∧ iv 0 6 v) := by
  refine hM_i cX6_causeIn (by decide) rfl (own := RX6) rfl hq (Nat.le_of_ble_eq_true rfl) ?_
  intro p e s m args below meth c Q ls H locs hx hb hml hown hts hK hZ hH hl hret
  have hl : lv_has ls 7 [(0, .ref (q 0)), (1, .ref (q 6)), (2, .int p1)] := hl
  have hJ : jJ IvM 0 0 0 z0 z0 := jJ_rf _ _ _ hI
  have HL38 : ∀ (n : Nat) (x3_38 : Int32) (x4_38 : Int32) (x5_38 : Int32) (x6_38 : Int32) (H : Heap) (locs : List Loc) (ls : Array Slot), iv 1 10 x3_38 → iv 0 1 x4_38 → iv 0 1 x5_38 → iv 0 10 x6_38 → bH D 23 (enM cy) q z0 s.heap H locs → lv_has ls 7 [(0, .ref (q 0)), (1, .ref (q 6)), (2, .int p1), (3, .int x3_38), (4, .int x4_38), (5, .int x5_38), (6, .int x6_38)] → (10 - x6_38.toInt).toNat = n → W p l e ({ frames := 3, cells := 0, slots := 0, locals := 69 }) s m args below meth c H locs 0 0 Q (F0 m 38 ls []) := by
    intro n38
    induction n38 using Nat.strongRecOn with
    | ind n38 ih38 =>
      intro x3_38 x4_38 x5_38 x6_38 H locs ls h3_38 h4_38 h5_38 h6_38 hH hl hn38
      have HJ143 : ∀ (H : Heap) (locs : List Loc) (ls : Array Slot), bH D 23 (enM cy) q z0 s.heap H locs → lv_has ls 7 [(4, .int x4_38)] → W p l e ({ frames := 3, cells := 0, slots := 0, locals := 69 }) s m args below meth c H locs 0 0 Q (F0 m 143 ls []) := by
        intro H locs ls hH hl
        refine lv_iload hx hb dX6_causeIn_143 (lv_at hl 0 rfl) ?_
        refine lv_if_eq (tgt := 152) hx hb dX6_causeIn_145 (by decide) (fun c363 => ?_) (fun c363 => ?_)
        · skip
          have k364a : iv 0 0 x4_38 := iv_eql (iv_Eq c363) h4_38 (iv_lit (n := 0) 0 (by decide)) (by decide) (by decide)
          refine lv_iconst (v := 4) hx hb dX6_causeIn_152 (by decide) ?_
          exact hret _ z0 H locs _ _ ⟨hJ, (iv_w (iv_lit (n := 4) 4 (by decide)) (by decide) (by decide))⟩ hH dX6_causeIn_153
        · skip
          have k365a : iv 1 1 x4_38 := iv_neLo (iv_nEq c363) h4_38 (by decide) (by decide)
          refine lv_iconst (v := 3) hx hb dX6_causeIn_148 (by decide) ?_
          refine lv_goto (tgt := 153) hx hb dX6_causeIn_149 (by decide) ?_
          exact hret _ z0 H locs _ _ ⟨hJ, (iv_w (iv_lit (n := 3) 3 (by decide)) (by decide) (by decide))⟩ hH dX6_causeIn_153
      have HJ175 : ∀ (H : Heap) (locs : List Loc) (ls : Array Slot), bH D 23 (enM cy) q z0 s.heap H locs → lv_has ls 7 [(0, .ref (q 0)), (1, .ref (q 6)), (2, .int p1), (3, .int x3_38)] → W p l e ({ frames := 3, cells := 0, slots := 0, locals := 69 }) s m args below meth c H locs 0 0 Q (F0 m 175 ls []) := by
        intro H locs ls hH hl
        have HJ216 : ∀ (t0_216 : Int32) (H : Heap) (locs : List Loc) (ls : Array Slot), iv 0 1 t0_216 → bH D 23 (enM cy) q z0 s.heap H locs → lv_has ls 7 [] → W p l e ({ frames := 3, cells := 0, slots := 0, locals := 69 }) s m args below meth c H locs 0 0 Q (F0 m 216 ls [.int t0_216]) := by
          intro t0_216 H locs ls g0_216 hH hl
          refine lv_istore (lv' := [(6, .int t0_216)]) hx hb dX6_causeIn_216 hl (by decide) rfl (fun ls hl => ?_)
          refine lv_iload hx hb dX6_causeIn_218 (lv_at hl 0 rfl) ?_
          refine lv_if_eq (tgt := 227) hx hb dX6_causeIn_220 (by decide) (fun c366 => ?_) (fun c366 => ?_)
          · skip
            have k367a : iv 0 0 t0_216 := iv_eql (iv_Eq c366) g0_216 (iv_lit (n := 0) 0 (by decide)) (by decide) (by decide)
            refine lv_bipush (v := 6) hx hb dX6_causeIn_227 (by decide) ?_
            exact hret _ z0 H locs _ _ ⟨hJ, (iv_w (iv_lit (n := 6) 6 (by decide)) (by decide) (by decide))⟩ hH dX6_causeIn_229
          · skip
            have k368a : iv 1 1 t0_216 := iv_neLo (iv_nEq c366) g0_216 (by decide) (by decide)
            refine lv_iconst (v := 0) hx hb dX6_causeIn_223 (by decide) ?_
            refine lv_goto (tgt := 229) hx hb dX6_causeIn_224 (by decide) ?_
            exact hret _ z0 H locs _ _ ⟨hJ, (iv_w (iv_lit (n := 0) 0 (by decide)) (by decide) (by decide))⟩ hH dX6_causeIn_229
        have HJ211 : ∀ (H : Heap) (locs : List Loc) (ls : Array Slot), bH D 23 (enM cy) q z0 s.heap H locs → lv_has ls 7 [] → W p l e ({ frames := 3, cells := 0, slots := 0, locals := 69 }) s m args below meth c H locs 0 0 Q (F0 m 211 ls []) := by
          intro H locs ls hH hl
          refine lv_iconst (v := 1) hx hb dX6_causeIn_211 (by decide) ?_
          refine lv_goto (tgt := 216) hx hb dX6_causeIn_212 (by decide) ?_
          exact HJ216 1  H locs ls (iv_w (iv_lit (n := 1) 1 (by decide)) (by decide) (by decide))  hH (lv_sub hl [] rfl)
        have HJ215 : ∀ (H : Heap) (locs : List Loc) (ls : Array Slot), bH D 23 (enM cy) q z0 s.heap H locs → lv_has ls 7 [] → W p l e ({ frames := 3, cells := 0, slots := 0, locals := 69 }) s m args below meth c H locs 0 0 Q (F0 m 215 ls []) := by
          intro H locs ls hH hl
          refine lv_iconst (v := 0) hx hb dX6_causeIn_215 (by decide) ?_
          exact HJ216 0  H locs ls (iv_w (iv_lit (n := 0) 0 (by decide)) (by decide) (by decide))  hH (lv_sub hl [] rfl)
        refine lv_aload_n hx hb dX6_causeIn_175 rfl (lv_at hl 0 rfl) ?_
        refine lv_aload_n hx hb dX6_causeIn_176 rfl (lv_at hl 1 rfl) ?_
        refine lv_aload_n hx hb dX6_causeIn_177 rfl (lv_at hl 0 rfl) ?_
        refine lv_iload_n hx hb dX6_causeIn_178 rfl (lv_at hl 2 rfl) ?_
        refine b_calli (As := [.int p1]) (rest := [.ref (q 6), .ref (q 0)]) ⟨hx, hb, hml, hown, hts⟩ 0 6 (g_X6_leading_0 l D cy q hH.2.1 z0 hJ.1 p1 hp1) (cwV 1 hts gX6_causeIn_X6_leading rfl rfl rfl (by decide +kernel) ⟨Nat.le_of_ble_eq_true rfl, Nat.le_of_ble_eq_true rfl⟩) hK hZ hH (by decide) rfl rfl rfl hl.1 rfl (Nat.le_of_ble_eq_true rfl) ⟨Nat.zero_le _, Nat.zero_le _⟩ dX6_causeIn_179 (fun w369 z369 H locs hp hH => ?_)
        rw [Ag_0 hp.1.2] at hH
        have f369_0 := hp.2.2.1
        have f369_1 := hp.2.2.2
        refine lv_iload_n hx hb dX6_causeIn_182 rfl (lv_at hl 3 rfl) ?_
        refine b_calli (As := [.ref (q 6), .int w369, .int x3_38]) (rest := []) ⟨hx, hb, hml, hown, hts⟩ 0 6 (g_X6_areUpTo_0_6 l D cy q hH.2.1 z0 hJ.1 w369 x3_38) (cwV 3 hts gX6_causeIn_X6_areUpTo rfl rfl rfl (by decide +kernel) ⟨Nat.le_of_ble_eq_true rfl, Nat.le_of_ble_eq_true rfl⟩) hK hZ hH (by decide) rfl rfl rfl hl.1 rfl (Nat.le_of_ble_eq_true rfl) ⟨Nat.zero_le _, Nat.zero_le _⟩ dX6_causeIn_183 (fun w370 z370 H locs hp hH => ?_)
        rw [Ag_0 hp.1.2] at hH
        have i370 := hp.2
        refine lv_if_ne (tgt := 211) hx hb dX6_causeIn_186 (by decide) (fun c371 => ?_) (fun c371 => ?_)
        · skip
          have k372a : iv 1 1 w370 := iv_neLo (iv_nEq c371) i370 (by decide) (by decide)
          exact HJ211   H locs ls   hH (lv_sub hl [] rfl)
        · skip
          have k373a : iv 0 0 w370 := iv_eql (iv_Eq c371) i370 (iv_lit (n := 0) 0 (by decide)) (by decide) (by decide)
          refine lv_aload_n hx hb dX6_causeIn_189 rfl (lv_at hl 0 rfl) ?_
          refine b_get (ci := 6) (C := RX6) (T := TX6) (Nf := 29) (v := .int (z0.1 1)) hx hb hts in_X6_causeIn_X6 hown hK hH 0 (by decide) rfl rfl 7 (by decide) (hts (.fieldLink RX6 113 "StationLineModel" "kind" "I") (List.mem_of_getElem? (i := 4) rfl)) rfl dX6_causeIn_190 ?_
          refine lv_iconst (v := 1) hx hb dX6_causeIn_193 (by decide) ?_
          refine lv_icmp_ne (tgt := 215) hx hb dX6_causeIn_194 (by decide) (fun c374 => ?_) (fun c374 => ?_)
          · skip
            exact HJ215   H locs ls   hH (lv_sub hl [] rfl)
          · skip
            have k376a : iv 1 1 (z0.1 1) := iv_eql (iv_Eq c374) (iv_all (z0.1 1)) (iv_lit (n := 1) 1 (by decide)) (by decide) (by decide)
            refine lv_aload_n hx hb dX6_causeIn_197 rfl (lv_at hl 0 rfl) ?_
            refine lv_aload_n hx hb dX6_causeIn_198 rfl (lv_at hl 1 rfl) ?_
            refine lv_aload_n hx hb dX6_causeIn_199 rfl (lv_at hl 0 rfl) ?_
            refine lv_iload_n hx hb dX6_causeIn_200 rfl (lv_at hl 2 rfl) ?_
            refine b_calli (As := [.int p1]) (rest := [.ref (q 6), .ref (q 0)]) ⟨hx, hb, hml, hown, hts⟩ 0 6 (g_X6_following_0 l D cy q hH.2.1 z0 hJ.1 p1 hp1) (cwV 1 hts gX6_causeIn_X6_following rfl rfl rfl (by decide +kernel) ⟨Nat.le_of_ble_eq_true rfl, Nat.le_of_ble_eq_true rfl⟩) hK hZ hH (by decide) rfl rfl rfl hl.1 rfl (Nat.le_of_ble_eq_true rfl) ⟨Nat.zero_le _, Nat.zero_le _⟩ dX6_causeIn_201 (fun w377 z377 H locs hp hH => ?_)
            rw [Ag_0 hp.1.2] at hH
            have i377 := hp.2
            refine lv_iload_n hx hb dX6_causeIn_204 rfl (lv_at hl 3 rfl) ?_
            refine b_calli (As := [.ref (q 6), .int w377, .int x3_38]) (rest := []) ⟨hx, hb, hml, hown, hts⟩ 0 6 (g_X6_areUpTo_0_6 l D cy q hH.2.1 z0 hJ.1 w377 x3_38) (cwV 3 hts gX6_causeIn_X6_areUpTo rfl rfl rfl (by decide +kernel) ⟨Nat.le_of_ble_eq_true rfl, Nat.le_of_ble_eq_true rfl⟩) hK hZ hH (by decide) rfl rfl rfl hl.1 rfl (Nat.le_of_ble_eq_true rfl) ⟨Nat.zero_le _, Nat.zero_le _⟩ dX6_causeIn_205 (fun w378 z378 H locs hp hH => ?_)
            rw [Ag_0 hp.1.2] at hH
            have i378 := hp.2
            refine lv_if_eq (tgt := 215) hx hb dX6_causeIn_208 (by decide) (fun c379 => ?_) (fun c379 => ?_)
            · skip
              have k380a : iv 0 0 w378 := iv_eql (iv_Eq c379) i378 (iv_lit (n := 0) 0 (by decide)) (by decide) (by decide)
              exact HJ215   H locs ls   hH (lv_sub hl [] rfl)
            · skip
              have k381a : iv 1 1 w378 := iv_neLo (iv_nEq c379) i378 (by decide) (by decide)
              exact HJ211   H locs ls   hH (lv_sub hl [] rfl)
      have HJ84 : ∀ (t0_84 : Int32) (t1_84 : Int32) (H : Heap) (locs : List Loc) (ls : Array Slot), iv 0 9 x6_38 → iv 0 1 t0_84 → iv 0 1 t1_84 → iv 1 10 (z0.1 0) → bH D 23 (enM cy) q z0 s.heap H locs → lv_has ls 7 [(0, .ref (q 0)), (1, .ref (q 6)), (2, .int p1), (3, .int x3_38), (5, .int x5_38), (6, .int x6_38)] → W p l e ({ frames := 3, cells := 0, slots := 0, locals := 69 }) s m args below meth c H locs 0 0 Q (F0 m 84 ls [.int t0_84, .int t1_84]) := by
        intro t0_84 t1_84 H locs ls h6_84 g0_84 g1_84 gh0_84 hH hl
        have HJ124 : ∀ (x4_124 : Int32) (t0_124 : Int32) (t1_124 : Int32) (H : Heap) (locs : List Loc) (ls : Array Slot), iv 0 1 x4_124 → iv 0 1 t0_124 → iv 0 1 t1_124 → iv 1 10 (z0.1 0) → bH D 23 (enM cy) q z0 s.heap H locs → lv_has ls 7 [(0, .ref (q 0)), (1, .ref (q 6)), (2, .int p1), (3, .int x3_38), (4, .int x4_124), (6, .int x6_38)] → W p l e ({ frames := 3, cells := 0, slots := 0, locals := 69 }) s m args below meth c H locs 0 0 Q (F0 m 124 ls [.int t0_124, .int t1_124]) := by
          intro x4_124 t0_124 t1_124 H locs ls h4_124 g0_124 g1_124 gh0_124 hH hl
          refine lv_ior hx hb dX6_causeIn_124 ?_
          refine h_i (a := 0) (b := 1) (iv_or 1 (b := 1) (d := 1) (iv_w g1_124 (by decide) (by decide)) (iv_w g0_124 (by decide) (by decide)) (by decide) (by decide) (by decide) (by decide)) (fun w382 i382 => ?_)
          refine lv_istore (lv' := [(5, .int w382), (0, .ref (q 0)), (1, .ref (q 6)), (2, .int p1), (3, .int x3_38), (4, .int x4_124), (6, .int x6_38)]) hx hb dX6_causeIn_125 hl (by decide) rfl (fun ls hl => ?_)
          have j383 : iv 1 10 (x6_38 + 1) := iv_add h6_84 (iv_lit (n := 1) 1 (by decide)) (by decide) (by decide) (by decide) (by decide)
          have e383 : (x6_38 + 1).toInt = x6_38.toInt + 1 := (iv_addE h6_84 (iv_lit (n := 1) 1 (by decide)) (by decide) (by decide)).trans rfl
          refine lv_iinc (v := (x6_38 + 1)) (lv' := [(6, .int (x6_38 + 1)), (5, .int w382), (0, .ref (q 0)), (1, .ref (q 6)), (2, .int p1), (3, .int x3_38), (4, .int x4_124)]) hx hb dX6_causeIn_127 hl (k := 6) rfl rfl (by decide) rfl (fun ls hl => ?_)
          refine lv_goto (tgt := 38) hx hb dX6_causeIn_130 (by decide) ?_
          exact ih38 _ (ms_up e383 j383.2 hn38) x3_38 x4_124 w382 (x6_38 + 1)  H locs ls h3_38 h4_124 i382 (iv_w j383 (by decide) (by decide))  hH (lv_sub hl [2, 3, 4, 5, 6, 1, 0] rfl) rfl
        have HJ123 : ∀ (x4_123 : Int32) (t0_123 : Int32) (H : Heap) (locs : List Loc) (ls : Array Slot), iv 0 1 x4_123 → iv 0 1 t0_123 → iv 1 10 (z0.1 0) → bH D 23 (enM cy) q z0 s.heap H locs → lv_has ls 7 [(0, .ref (q 0)), (1, .ref (q 6)), (2, .int p1), (3, .int x3_38), (4, .int x4_123), (6, .int x6_38)] → W p l e ({ frames := 3, cells := 0, slots := 0, locals := 69 }) s m args below meth c H locs 0 0 Q (F0 m 123 ls [.int t0_123]) := by
          intro x4_123 t0_123 H locs ls h4_123 g0_123 gh0_123 hH hl
          refine lv_iconst (v := 0) hx hb dX6_causeIn_123 (by decide) ?_
          exact HJ124 x4_123 0 t0_123  H locs ls h4_123 (iv_w (iv_lit (n := 0) 0 (by decide)) (by decide) (by decide)) g0_123 gh0_123  hH (lv_sub hl [0, 1, 2, 3, 4, 5] rfl)
        refine lv_ior hx hb dX6_causeIn_84 ?_
        refine h_i (a := 0) (b := 1) (iv_or 1 (b := 1) (d := 1) (iv_w g1_84 (by decide) (by decide)) (iv_w g0_84 (by decide) (by decide)) (by decide) (by decide) (by decide) (by decide)) (fun w384 i384 => ?_)
        refine lv_istore (lv' := [(4, .int w384), (0, .ref (q 0)), (1, .ref (q 6)), (2, .int p1), (3, .int x3_38), (5, .int x5_38), (6, .int x6_38)]) hx hb dX6_causeIn_85 hl (by decide) rfl (fun ls hl => ?_)
        refine lv_iload hx hb dX6_causeIn_87 (lv_at hl 5 rfl) ?_
        refine lv_iload hx hb dX6_causeIn_89 (lv_at hl 6 rfl) ?_
        refine lv_iload_n hx hb dX6_causeIn_91 rfl (lv_at hl 3 rfl) ?_
        refine lv_icmp_eq (tgt := 123) hx hb dX6_causeIn_92 (by decide) (fun c385 => ?_) (fun c385 => ?_)
        · skip
          exact HJ123 w384 x5_38  H locs ls i384 h5_38 gh0_84  hH (lv_sub hl [1, 2, 3, 4, 0, 6] rfl)
        · skip
          refine lv_aload_n hx hb dX6_causeIn_95 rfl (lv_at hl 1 rfl) ?_
          refine b_get (ci := 6) (C := RX6) (T := TX6) (Nf := 29) (v := .ref (q 4)) hx hb hts in_X6_causeIn_X6 hown hK hH 0 (by decide) rfl rfl 4 (by decide) (hts (.fieldLink RX6 19 "StationLineModel" "pairs" "[I") (List.mem_of_getElem? (i := 2) rfl)) rfl dX6_causeIn_96 ?_
          refine lv_bipush (v := 10) hx hb dX6_causeIn_99 (by decide) ?_
          refine lv_iload_n hx hb dX6_causeIn_101 rfl (lv_at hl 3 rfl) ?_
          refine lv_imul hx hb dX6_causeIn_102 ?_
          refine h_i (a := 0) (b := 90) (iv_mul (iv_lit (n := 10) 10 (by decide)) hp1 (by decide) (by decide) (by decide) (by decide) (by decide)) (fun w388 i388 => ?_)
          refine lv_iload hx hb dX6_causeIn_103 (lv_at hl 6 rfl) ?_
          refine lv_iadd hx hb dX6_causeIn_105 ?_
          refine h_i (a := 0) (b := 99) (iv_add i388 h6_84 (by decide) (by decide) (by decide) (by decide)) (fun w389 i389 => ?_)
          refine b_iald (v := z0.2.1 4 (w389 : Int32).toNatClampNeg) hx hb hK hH 4 (by decide) rfl (iv_in i389 (by decide) (by decide)) rfl dX6_causeIn_106 ?_
          refine lv_iconst (v := 2) hx hb dX6_causeIn_107 (by decide) ?_
          refine lv_icmp_ne (tgt := 123) hx hb dX6_causeIn_108 (by decide) (fun c390 => ?_) (fun c390 => ?_)
          · skip
            exact HJ123 w384 x5_38  H locs ls i384 h5_38 gh0_84  hH (lv_sub hl [1, 2, 3, 4, 0, 6] rfl)
          · skip
            have k392a : iv 2 2 (z0.2.1 4 (w389 : Int32).toNatClampNeg) := iv_eql (iv_Eq c390) (iv_all (z0.2.1 4 (w389 : Int32).toNatClampNeg)) (iv_lit (n := 2) 2 (by decide)) (by decide) (by decide)
            refine lv_aload_n hx hb dX6_causeIn_111 rfl (lv_at hl 2 rfl) ?_
            refine lv_iload hx hb dX6_causeIn_112 (lv_at hl 6 rfl) ?_
            refine b_iald (v := z0.2.1 6 (x6_38 : Int32).toNatClampNeg) hx hb hK hH 6 (by decide) rfl (iv_in h6_84 (by decide) (by decide)) rfl dX6_causeIn_114 ?_
            have i393 : iv 0 10 (z0.2.1 6 (x6_38 : Int32).toNatClampNeg) := IvM_a6 hJ.1 _ (b_inlt (iv_in h6_84 (by decide) (by decide)))
            refine lv_iload_n hx hb dX6_causeIn_115 rfl (lv_at hl 4 rfl) ?_
            refine lv_icmp_ne (tgt := 123) hx hb dX6_causeIn_116 (by decide) (fun c394 => ?_) (fun c394 => ?_)
            · skip
              exact HJ123 w384 x5_38  H locs ls i384 h5_38 gh0_84  hH (lv_sub hl [1, 2, 3, 4, 0, 6] rfl)
            · skip
              have k396a : iv 1 10 (z0.2.1 6 (x6_38 : Int32).toNatClampNeg) := iv_eql (iv_Eq c394) i393 h3_38 (by decide) (by decide)
              refine lv_iconst (v := 1) hx hb dX6_causeIn_119 (by decide) ?_
              refine lv_goto (tgt := 124) hx hb dX6_causeIn_120 (by decide) ?_
              exact HJ124 w384 1 x5_38  H locs ls i384 (iv_w (iv_lit (n := 1) 1 (by decide)) (by decide) (by decide)) h5_38 gh0_84  hH (lv_sub hl [1, 2, 3, 4, 0, 6] rfl)
      have HJ83 : ∀ (t0_83 : Int32) (H : Heap) (locs : List Loc) (ls : Array Slot), iv 0 9 x6_38 → iv 0 1 t0_83 → iv 1 10 (z0.1 0) → bH D 23 (enM cy) q z0 s.heap H locs → lv_has ls 7 [(0, .ref (q 0)), (1, .ref (q 6)), (2, .int p1), (3, .int x3_38), (5, .int x5_38), (6, .int x6_38)] → W p l e ({ frames := 3, cells := 0, slots := 0, locals := 69 }) s m args below meth c H locs 0 0 Q (F0 m 83 ls [.int t0_83]) := by
        intro t0_83 H locs ls h6_83 g0_83 gh0_83 hH hl
        refine lv_iconst (v := 0) hx hb dX6_causeIn_83 (by decide) ?_
        exact HJ84 0 t0_83  H locs ls h6_83 (iv_w (iv_lit (n := 0) 0 (by decide)) (by decide) (by decide)) g0_83 gh0_83  hH (lv_sub hl [0, 1, 2, 3, 4, 5] rfl)
      refine lv_iload hx hb dX6_causeIn_38 (lv_at hl 6 rfl) ?_
      refine lv_aload_n hx hb dX6_causeIn_40 rfl (lv_at hl 0 rfl) ?_
      refine b_get (ci := 6) (C := RX6) (T := TX6) (Nf := 29) (v := .int (z0.1 0)) hx hb hts in_X6_causeIn_X6 hown hK hH 0 (by decide) rfl rfl 0 (by decide) (hts (.fieldLink RX6 85 "StationLineModel" "tasks" "I") (List.mem_of_getElem? (i := 1) rfl)) rfl dX6_causeIn_41 ?_
      have i397 := IvM_s0 hJ.1
      refine lv_icmp_ge (tgt := 133) hx hb dX6_causeIn_44 (by decide) (fun c398 => ?_) (fun c398 => ?_)
      · skip
        refine lv_iload hx hb dX6_causeIn_133 (lv_at hl 4 rfl) ?_
        refine lv_if_ne (tgt := 143) hx hb dX6_causeIn_135 (by decide) (fun c400 => ?_) (fun c400 => ?_)
        · skip
          have k401a : iv 1 1 x4_38 := iv_neLo (iv_nEq c400) h4_38 (by decide) (by decide)
          exact HJ143   H locs ls   hH (lv_sub hl [4] rfl)
        · skip
          have k402a : iv 0 0 x4_38 := iv_eql (iv_Eq c400) h4_38 (iv_lit (n := 0) 0 (by decide)) (by decide) (by decide)
          refine lv_iload hx hb dX6_causeIn_138 (lv_at hl 5 rfl) ?_
          refine lv_if_eq (tgt := 154) hx hb dX6_causeIn_140 (by decide) (fun c403 => ?_) (fun c403 => ?_)
          · skip
            have k404a : iv 0 0 x5_38 := iv_eql (iv_Eq c403) h5_38 (iv_lit (n := 0) 0 (by decide)) (by decide) (by decide)
            refine lv_aload_n hx hb dX6_causeIn_154 rfl (lv_at hl 0 rfl) ?_
            refine b_get (ci := 6) (C := RX6) (T := TX6) (Nf := 29) (v := .ref (q 5)) hx hb hts in_X6_causeIn_X6 hown hK hH 0 (by decide) rfl rfl 5 (by decide) (hts (.fieldLink RX6 22 "StationLineModel" "held" "[I") (List.mem_of_getElem? (i := 3) rfl)) rfl dX6_causeIn_155 ?_
            refine lv_iload_n hx hb dX6_causeIn_158 rfl (lv_at hl 2 rfl) ?_
            refine b_iald (v := z0.2.1 5 (p1 : Int32).toNatClampNeg) hx hb hK hH 5 (by decide) rfl (iv_in hp1 (by decide) (by decide)) rfl dX6_causeIn_159 ?_
            refine lv_if_le (tgt := 175) hx hb dX6_causeIn_160 (by decide) (fun c405 => ?_) (fun c405 => ?_)
            · skip
              have k406a : iv (-2147483648) 0 (z0.2.1 5 (p1 : Int32).toNatClampNeg) := iv_lel (iv_Le c405) (iv_all (z0.2.1 5 (p1 : Int32).toNatClampNeg)) (iv_lit (n := 0) 0 (by decide))
              exact HJ175   H locs ls   hH (lv_sub hl [0, 1, 2, 3] rfl)
            · skip
              have k407b : iv 1 2147483647 (z0.2.1 5 (p1 : Int32).toNatClampNeg) := iv_ltr (iv_nLe c405) (iv_lit (n := 0) 0 (by decide)) (iv_all (z0.2.1 5 (p1 : Int32).toNatClampNeg)) (by decide)
              refine lv_aload_n hx hb dX6_causeIn_163 rfl (lv_at hl 0 rfl) ?_
              refine b_get (ci := 6) (C := RX6) (T := TX6) (Nf := 29) (v := .ref (q 5)) hx hb hts in_X6_causeIn_X6 hown hK hH 0 (by decide) rfl rfl 5 (by decide) (hts (.fieldLink RX6 22 "StationLineModel" "held" "[I") (List.mem_of_getElem? (i := 3) rfl)) rfl dX6_causeIn_164 ?_
              refine lv_iload_n hx hb dX6_causeIn_167 rfl (lv_at hl 2 rfl) ?_
              refine b_iald (v := z0.2.1 5 (p1 : Int32).toNatClampNeg) hx hb hK hH 5 (by decide) rfl (iv_in hp1 (by decide) (by decide)) rfl dX6_causeIn_168 ?_
              refine lv_iload_n hx hb dX6_causeIn_169 rfl (lv_at hl 3 rfl) ?_
              refine lv_icmp_eq (tgt := 175) hx hb dX6_causeIn_170 (by decide) (fun c408 => ?_) (fun c408 => ?_)
              · skip
                have k409a : iv 1 10 (z0.2.1 5 (p1 : Int32).toNatClampNeg) := iv_eql (iv_Eq c408) (iv_all (z0.2.1 5 (p1 : Int32).toNatClampNeg)) h3_38 (by decide) (by decide)
                exact HJ175   H locs ls   hH (lv_sub hl [0, 1, 2, 3] rfl)
              · skip
                refine lv_iconst (v := 5) hx hb dX6_causeIn_173 (by decide) ?_
                exact hret _ z0 H locs _ _ ⟨hJ, (iv_w (iv_lit (n := 5) 5 (by decide)) (by decide) (by decide))⟩ hH dX6_causeIn_174
          · skip
            have k411a : iv 1 1 x5_38 := iv_neLo (iv_nEq c403) h5_38 (by decide) (by decide)
            exact HJ143   H locs ls   hH (lv_sub hl [4] rfl)
      · skip
        have k412a : iv 0 9 x6_38 := iv_ltl (iv_nLe c398) h6_38 i397 (by decide)
        have k412b : iv 1 10 (z0.1 0) := iv_ltr (iv_nLe c398) h6_38 i397 (by decide)
        refine lv_iload hx hb dX6_causeIn_47 (lv_at hl 4 rfl) ?_
        refine lv_iload hx hb dX6_causeIn_49 (lv_at hl 6 rfl) ?_
        refine lv_iload_n hx hb dX6_causeIn_51 rfl (lv_at hl 2 rfl) ?_
        refine lv_icmp_eq (tgt := 83) hx hb dX6_causeIn_52 (by decide) (fun c413 => ?_) (fun c413 => ?_)
        · skip
          exact HJ83 x4_38  H locs ls k412a h4_38 k412b  hH (lv_sub hl [0, 1, 2, 3, 5, 6] rfl)
        · skip
          refine lv_aload_n hx hb dX6_causeIn_55 rfl (lv_at hl 0 rfl) ?_
          refine b_get (ci := 6) (C := RX6) (T := TX6) (Nf := 29) (v := .ref (q 4)) hx hb hts in_X6_causeIn_X6 hown hK hH 0 (by decide) rfl rfl 4 (by decide) (hts (.fieldLink RX6 19 "StationLineModel" "pairs" "[I") (List.mem_of_getElem? (i := 2) rfl)) rfl dX6_causeIn_56 ?_
          refine lv_bipush (v := 10) hx hb dX6_causeIn_59 (by decide) ?_
          refine lv_iload_n hx hb dX6_causeIn_61 rfl (lv_at hl 2 rfl) ?_
          refine lv_imul hx hb dX6_causeIn_62 ?_
          refine h_i (a := 0) (b := 90) (iv_mul (iv_lit (n := 10) 10 (by decide)) hp1 (by decide) (by decide) (by decide) (by decide) (by decide)) (fun w416 i416 => ?_)
          refine lv_iload hx hb dX6_causeIn_63 (lv_at hl 6 rfl) ?_
          refine lv_iadd hx hb dX6_causeIn_65 ?_
          refine h_i (a := 0) (b := 99) (iv_add i416 k412a (by decide) (by decide) (by decide) (by decide)) (fun w417 i417 => ?_)
          refine b_iald (v := z0.2.1 4 (w417 : Int32).toNatClampNeg) hx hb hK hH 4 (by decide) rfl (iv_in i417 (by decide) (by decide)) rfl dX6_causeIn_66 ?_
          refine lv_iconst (v := 1) hx hb dX6_causeIn_67 (by decide) ?_
          refine lv_icmp_ne (tgt := 83) hx hb dX6_causeIn_68 (by decide) (fun c418 => ?_) (fun c418 => ?_)
          · skip
            exact HJ83 x4_38  H locs ls k412a h4_38 k412b  hH (lv_sub hl [0, 1, 2, 3, 5, 6] rfl)
          · skip
            have k420a : iv 1 1 (z0.2.1 4 (w417 : Int32).toNatClampNeg) := iv_eql (iv_Eq c418) (iv_all (z0.2.1 4 (w417 : Int32).toNatClampNeg)) (iv_lit (n := 1) 1 (by decide)) (by decide) (by decide)
            refine lv_aload_n hx hb dX6_causeIn_71 rfl (lv_at hl 1 rfl) ?_
            refine lv_iload hx hb dX6_causeIn_72 (lv_at hl 6 rfl) ?_
            refine b_iald (v := z0.2.1 6 (x6_38 : Int32).toNatClampNeg) hx hb hK hH 6 (by decide) rfl (iv_in k412a (by decide) (by decide)) rfl dX6_causeIn_74 ?_
            have i421 : iv 0 10 (z0.2.1 6 (x6_38 : Int32).toNatClampNeg) := IvM_a6 hJ.1 _ (b_inlt (iv_in k412a (by decide) (by decide)))
            refine lv_iload_n hx hb dX6_causeIn_75 rfl (lv_at hl 3 rfl) ?_
            refine lv_icmp_eq (tgt := 83) hx hb dX6_causeIn_76 (by decide) (fun c422 => ?_) (fun c422 => ?_)
            · skip
              have k423a : iv 1 10 (z0.2.1 6 (x6_38 : Int32).toNatClampNeg) := iv_eql (iv_Eq c422) i421 h3_38 (by decide) (by decide)
              exact HJ83 x4_38  H locs ls k412a h4_38 k412b  hH (lv_sub hl [0, 1, 2, 3, 5, 6] rfl)
            · skip
              refine lv_iconst (v := 1) hx hb dX6_causeIn_79 (by decide) ?_
              refine lv_goto (tgt := 84) hx hb dX6_causeIn_80 (by decide) ?_
              exact HJ84 1 x4_38  H locs ls k412a (iv_w (iv_lit (n := 1) 1 (by decide)) (by decide) (by decide)) h4_38 k412b  hH (lv_sub hl [0, 1, 2, 3, 5, 6] rfl)
  refine lv_aload_n hx hb dX6_causeIn_0 rfl (lv_at hl 1 rfl) ?_
  refine lv_iload_n hx hb dX6_causeIn_1 rfl (lv_at hl 2 rfl) ?_
  refine b_iald (v := z0.2.1 6 (p1 : Int32).toNatClampNeg) hx hb hK hH 6 (by decide) rfl (iv_in hp1 (by decide) (by decide)) rfl dX6_causeIn_2 ?_
  have i425 : iv 0 10 (z0.2.1 6 (p1 : Int32).toNatClampNeg) := IvM_a6 hJ.1 _ (b_inlt (iv_in hp1 (by decide) (by decide)))
  refine lv_istore_n (lv' := [(3, .int (z0.2.1 6 (p1 : Int32).toNatClampNeg)), (0, .ref (q 0)), (1, .ref (q 6)), (2, .int p1)]) hx hb dX6_causeIn_3 rfl hl (by decide) rfl (fun ls hl => ?_)
  refine lv_iload_n hx hb dX6_causeIn_4 rfl (lv_at hl 0 rfl) ?_
  refine lv_if_ne (tgt := 10) hx hb dX6_causeIn_5 (by decide) (fun c426 => ?_) (fun c426 => ?_)
  · skip
    have k427a : iv 1 10 (z0.2.1 6 (p1 : Int32).toNatClampNeg) := iv_neLo (iv_nEq c426) i425 (by decide) (by decide)
    refine lv_aload_n hx hb dX6_causeIn_10 rfl (lv_at hl 1 rfl) ?_
    refine lv_aload_n hx hb dX6_causeIn_11 rfl (lv_at hl 1 rfl) ?_
    refine lv_aload_n hx hb dX6_causeIn_12 rfl (lv_at hl 2 rfl) ?_
    refine lv_iload_n hx hb dX6_causeIn_13 rfl (lv_at hl 0 rfl) ?_
    refine b_calli (As := [.ref (q 6), .int (z0.2.1 6 (p1 : Int32).toNatClampNeg)]) (rest := [.ref (q 0)]) ⟨hx, hb, hml, hown, hts⟩ 0 6 (g_X6_setAt_0_6 l D cy q hH.2.1 z0 hJ.1 (z0.2.1 6 (p1 : Int32).toNatClampNeg)) (cwV 2 hts gX6_causeIn_X6_setAt rfl rfl rfl (by decide +kernel) ⟨Nat.le_of_ble_eq_true rfl, Nat.le_of_ble_eq_true rfl⟩) hK hZ hH (by decide) rfl rfl rfl hl.1 rfl (Nat.le_of_ble_eq_true rfl) ⟨Nat.zero_le _, Nat.zero_le _⟩ dX6_causeIn_14 (fun w428 z428 H locs hp hH => ?_)
    rw [Ag_0 hp.1.2] at hH
    have i428 := hp.2.1
    have f428_0 := hp.2.2
    refine b_calli (As := [.int w428]) (rest := []) ⟨hx, hb, hml, hown, hts⟩ 0 6 (g_X6_loadOf_0 l D cy q hH.2.1 z0 hJ.1 w428) (cwV 1 hts gX6_causeIn_X6_loadOf rfl rfl rfl (by decide +kernel) ⟨Nat.le_of_ble_eq_true rfl, Nat.le_of_ble_eq_true rfl⟩) hK hZ hH (by decide) rfl rfl rfl hl.1 rfl (Nat.le_of_ble_eq_true rfl) ⟨Nat.zero_le _, Nat.zero_le _⟩ dX6_causeIn_17 (fun w429 z429 H locs hp hH => ?_)
    rw [Ag_0 hp.1.2] at hH
    have i429 := hp.2.1
    have f429_0 := hp.2.2
    refine lv_aload_n hx hb dX6_causeIn_20 rfl (lv_at hl 1 rfl) ?_
    refine b_calli (As := []) (rest := [.int w429]) ⟨hx, hb, hml, hown, hts⟩ 0 6 (g_X6_room_0 l D cy q hH.2.1 z0 hJ.1 ) (cwV 0 hts gX6_causeIn_X6_room rfl rfl rfl (by decide +kernel) ⟨Nat.le_of_ble_eq_true rfl, Nat.le_of_ble_eq_true rfl⟩) hK hZ hH (by decide) rfl rfl rfl hl.1 rfl (Nat.le_of_ble_eq_true rfl) ⟨Nat.zero_le _, Nat.zero_le _⟩ dX6_causeIn_21 (fun w430 z430 H locs hp hH => ?_)
    rw [Ag_0 hp.1.2] at hH
    have i430 := hp.2
    refine lv_icmp_le (tgt := 29) hx hb dX6_causeIn_24 (by decide) (fun c431 => ?_) (fun c431 => ?_)
    · skip
      refine lv_iconst (v := 0) hx hb dX6_causeIn_29 (by decide) ?_
      refine lv_istore (lv' := [(4, .int 0), (3, .int (z0.2.1 6 (p1 : Int32).toNatClampNeg)), (0, .ref (q 0)), (1, .ref (q 6)), (2, .int p1)]) hx hb dX6_causeIn_30 hl (by decide) rfl (fun ls hl => ?_)
      refine lv_iconst (v := 0) hx hb dX6_causeIn_32 (by decide) ?_
      refine lv_istore (lv' := [(5, .int 0), (4, .int 0), (3, .int (z0.2.1 6 (p1 : Int32).toNatClampNeg)), (0, .ref (q 0)), (1, .ref (q 6)), (2, .int p1)]) hx hb dX6_causeIn_33 hl (by decide) rfl (fun ls hl => ?_)
      refine lv_iconst (v := 0) hx hb dX6_causeIn_35 (by decide) ?_
      refine lv_istore (lv' := [(6, .int 0), (5, .int 0), (4, .int 0), (3, .int (z0.2.1 6 (p1 : Int32).toNatClampNeg)), (0, .ref (q 0)), (1, .ref (q 6)), (2, .int p1)]) hx hb dX6_causeIn_36 hl (by decide) rfl (fun ls hl => ?_)
      exact HL38 _ (z0.2.1 6 (p1 : Int32).toNatClampNeg) 0 0 0  H locs ls k427a (iv_w (iv_lit (n := 0) 0 (by decide)) (by decide) (by decide)) (iv_w (iv_lit (n := 0) 0 (by decide)) (by decide) (by decide)) (iv_w (iv_lit (n := 0) 0 (by decide)) (by decide) (by decide))  hH (lv_sub hl [4, 5, 6, 3, 2, 1, 0] rfl) rfl
    · skip
      have k433a : iv 1 26999 w430 := iv_ltl (iv_nLe c431) i430 i429 (by decide)
      have k433b : iv 2 27000 w429 := iv_ltr (iv_nLe c431) i430 i429 (by decide)
      refine lv_iconst (v := 2) hx hb dX6_causeIn_27 (by decide) ?_
      exact hret _ z0 H locs _ _ ⟨hJ, (iv_w (iv_lit (n := 2) 2 (by decide)) (by decide) (by decide))⟩ hH dX6_causeIn_28
  · skip
    have k434a : iv 0 0 (z0.2.1 6 (p1 : Int32).toNatClampNeg) := iv_eql (iv_Eq c426) i425 (iv_lit (n := 0) 0 (by decide)) (by decide) (by decide)
    refine lv_iconst (v := 1) hx hb dX6_causeIn_8 (by decide) ?_
    exact hret _ z0 H locs _ _ ⟨hJ, (iv_w (iv_lit (n := 1) 1 (by decide)) (by decide) (by decide))⟩ hH dX6_causeIn_9
set_option maxHeartbeats 4000000 in
set_option maxRecDepth 100000 in
theorem g_X6_clashIn_0_6 (l : Launch) (D : va_G) (cy : Nat → ClassId) (q : Nat → Nat) (hq : bJ 23 q) (z0 : zS) (hI : IvM z0)  : bCi l yX6_clashIn wsX6_clashIn ({ frames := 4, cells := 0, slots := 0, locals := 95 }) D cy 23 (enM cy) q z0 [.ref (q 0), .ref (q 6)] (fun v z => jJ IvM 0 0 0 z0 z ∧ iv (-1) 9 v) := by
  refine hM_i cX6_clashIn (by decide) rfl (own := RX6) rfl hq (Nat.le_of_ble_eq_true rfl) ?_
  intro p e s m args below meth c Q ls H locs hx hb hml hown hts hK hZ hH hl hret
  have hl : lv_has ls 3 [(0, .ref (q 0)), (1, .ref (q 6))] := hl
  have hJ : jJ IvM 0 0 0 z0 z0 := jJ_rf _ _ _ hI
  have HL2 : ∀ (n : Nat) (x2_2 : Int32) (H : Heap) (locs : List Loc) (ls : Array Slot), iv 0 10 x2_2 → bH D 23 (enM cy) q z0 s.heap H locs → lv_has ls 3 [(0, .ref (q 0)), (1, .ref (q 6)), (2, .int x2_2)] → (10 - x2_2.toInt).toNat = n → W p l e ({ frames := 4, cells := 0, slots := 0, locals := 95 }) s m args below meth c H locs 0 0 Q (F0 m 2 ls []) := by
    intro n2
    induction n2 using Nat.strongRecOn with
    | ind n2 ih2 =>
      intro x2_2 H locs ls h2_2 hH hl hn2
      refine lv_iload_n hx hb dX6_clashIn_2 rfl (lv_at hl 2 rfl) ?_
      refine lv_aload_n hx hb dX6_clashIn_3 rfl (lv_at hl 0 rfl) ?_
      refine b_get (ci := 6) (C := RX6) (T := TX6) (Nf := 29) (v := .int (z0.1 0)) hx hb hts in_X6_clashIn_X6 hown hK hH 0 (by decide) rfl rfl 0 (by decide) (hts (.fieldLink RX6 85 "StationLineModel" "tasks" "I") (List.mem_of_getElem? (i := 1) rfl)) rfl dX6_clashIn_4 ?_
      have i64 := IvM_s0 hJ.1
      refine lv_icmp_ge (tgt := 27) hx hb dX6_clashIn_7 (by decide) (fun c65 => ?_) (fun c65 => ?_)
      · skip
        refine lv_iconst (v := (-1)) hx hb dX6_clashIn_27 (by decide) ?_
        exact hret _ z0 H locs _ _ ⟨hJ, (iv_w (iv_lit (n := (-1)) (-1) (by decide)) (by decide) (by decide))⟩ hH dX6_clashIn_28
      · skip
        have k67a : iv 0 9 x2_2 := iv_ltl (iv_nLe c65) h2_2 i64 (by decide)
        have k67b : iv 1 10 (z0.1 0) := iv_ltr (iv_nLe c65) h2_2 i64 (by decide)
        refine lv_aload_n hx hb dX6_clashIn_10 rfl (lv_at hl 0 rfl) ?_
        refine lv_aload_n hx hb dX6_clashIn_11 rfl (lv_at hl 1 rfl) ?_
        refine lv_iload_n hx hb dX6_clashIn_12 rfl (lv_at hl 2 rfl) ?_
        refine b_calli (As := [.ref (q 6), .int x2_2]) (rest := []) ⟨hx, hb, hml, hown, hts⟩ 0 6 (g_X6_causeIn_0_6 l D cy q hH.2.1 z0 hJ.1 x2_2 k67a) (cwV 2 hts gX6_clashIn_X6_causeIn rfl rfl rfl (by decide +kernel) ⟨Nat.le_of_ble_eq_true rfl, Nat.le_of_ble_eq_true rfl⟩) hK hZ hH (by decide) rfl rfl rfl hl.1 rfl (Nat.le_of_ble_eq_true rfl) ⟨Nat.zero_le _, Nat.zero_le _⟩ dX6_clashIn_13 (fun w68 z68 H locs hp hH => ?_)
        rw [Ag_0 hp.1.2] at hH
        have i68 := hp.2
        refine lv_if_eq (tgt := 21) hx hb dX6_clashIn_16 (by decide) (fun c69 => ?_) (fun c69 => ?_)
        · skip
          have k70a : iv 0 0 w68 := iv_eql (iv_Eq c69) i68 (iv_lit (n := 0) 0 (by decide)) (by decide) (by decide)
          have j71 : iv 1 10 (x2_2 + 1) := iv_add k67a (iv_lit (n := 1) 1 (by decide)) (by decide) (by decide) (by decide) (by decide)
          have e71 : (x2_2 + 1).toInt = x2_2.toInt + 1 := (iv_addE k67a (iv_lit (n := 1) 1 (by decide)) (by decide) (by decide)).trans rfl
          refine lv_iinc (v := (x2_2 + 1)) (lv' := [(2, .int (x2_2 + 1)), (0, .ref (q 0)), (1, .ref (q 6))]) hx hb dX6_clashIn_21 hl (k := 2) rfl rfl (by decide) rfl (fun ls hl => ?_)
          refine lv_goto (tgt := 2) hx hb dX6_clashIn_24 (by decide) ?_
          exact ih2 _ (ms_up e71 j71.2 hn2) (x2_2 + 1)  H locs ls (iv_w j71 (by decide) (by decide))  hH (lv_sub hl [1, 2, 0] rfl) rfl
        · skip
          have k72a : iv 1 6 w68 := iv_neLo (iv_nEq c69) i68 (by decide) (by decide)
          refine lv_iload_n hx hb dX6_clashIn_19 rfl (lv_at hl 2 rfl) ?_
          exact hret _ z0 H locs _ _ ⟨hJ, (iv_w k67a (by decide) (by decide))⟩ hH dX6_clashIn_20
  refine lv_iconst (v := 0) hx hb dX6_clashIn_0 (by decide) ?_
  refine lv_istore_n (lv' := [(2, .int 0), (0, .ref (q 0)), (1, .ref (q 6))]) hx hb dX6_clashIn_1 rfl hl (by decide) rfl (fun ls hl => ?_)
  exact HL2 _ 0  H locs ls (iv_w (iv_lit (n := 0) 0 (by decide)) (by decide) (by decide))  hH (lv_sub hl [1, 2, 0] rfl) rfl
set_option maxHeartbeats 4000000 in
set_option maxRecDepth 100000 in
theorem g_X6_causeIn_0_21 (l : Launch) (D : va_G) (cy : Nat → ClassId) (q : Nat → Nat) (hq : bJ 23 q) (z0 : zS) (hI : IvM z0) (p1 : Int32) (hp1 : iv 0 9 p1) : bCi l yX6_causeIn wsX6_causeIn ({ frames := 3, cells := 0, slots := 0, locals := 69 }) D cy 23 (enM cy) q z0 [.ref (q 0), .ref (q 21), .int p1] (fun v z => jJ IvM 0 0 0 z0 z ∧ iv 0 6 v) := by
  refine hM_i cX6_causeIn (by decide) rfl (own := RX6) rfl hq (Nat.le_of_ble_eq_true rfl) ?_
  intro p e s m args below meth c Q ls H locs hx hb hml hown hts hK hZ hH hl hret
  have hl : lv_has ls 7 [(0, .ref (q 0)), (1, .ref (q 21)), (2, .int p1)] := hl
  have hJ : jJ IvM 0 0 0 z0 z0 := jJ_rf _ _ _ hI
  have HL38 : ∀ (n : Nat) (x3_38 : Int32) (x4_38 : Int32) (x5_38 : Int32) (x6_38 : Int32) (H : Heap) (locs : List Loc) (ls : Array Slot), iv 1 10 x3_38 → iv 0 1 x4_38 → iv 0 1 x5_38 → iv 0 10 x6_38 → bH D 23 (enM cy) q z0 s.heap H locs → lv_has ls 7 [(0, .ref (q 0)), (1, .ref (q 21)), (2, .int p1), (3, .int x3_38), (4, .int x4_38), (5, .int x5_38), (6, .int x6_38)] → (10 - x6_38.toInt).toNat = n → W p l e ({ frames := 3, cells := 0, slots := 0, locals := 69 }) s m args below meth c H locs 0 0 Q (F0 m 38 ls []) := by
    intro n38
    induction n38 using Nat.strongRecOn with
    | ind n38 ih38 =>
      intro x3_38 x4_38 x5_38 x6_38 H locs ls h3_38 h4_38 h5_38 h6_38 hH hl hn38
      have HJ143 : ∀ (H : Heap) (locs : List Loc) (ls : Array Slot), bH D 23 (enM cy) q z0 s.heap H locs → lv_has ls 7 [(4, .int x4_38)] → W p l e ({ frames := 3, cells := 0, slots := 0, locals := 69 }) s m args below meth c H locs 0 0 Q (F0 m 143 ls []) := by
        intro H locs ls hH hl
        refine lv_iload hx hb dX6_causeIn_143 (lv_at hl 0 rfl) ?_
        refine lv_if_eq (tgt := 152) hx hb dX6_causeIn_145 (by decide) (fun c363 => ?_) (fun c363 => ?_)
        · skip
          have k364a : iv 0 0 x4_38 := iv_eql (iv_Eq c363) h4_38 (iv_lit (n := 0) 0 (by decide)) (by decide) (by decide)
          refine lv_iconst (v := 4) hx hb dX6_causeIn_152 (by decide) ?_
          exact hret _ z0 H locs _ _ ⟨hJ, (iv_w (iv_lit (n := 4) 4 (by decide)) (by decide) (by decide))⟩ hH dX6_causeIn_153
        · skip
          have k365a : iv 1 1 x4_38 := iv_neLo (iv_nEq c363) h4_38 (by decide) (by decide)
          refine lv_iconst (v := 3) hx hb dX6_causeIn_148 (by decide) ?_
          refine lv_goto (tgt := 153) hx hb dX6_causeIn_149 (by decide) ?_
          exact hret _ z0 H locs _ _ ⟨hJ, (iv_w (iv_lit (n := 3) 3 (by decide)) (by decide) (by decide))⟩ hH dX6_causeIn_153
      have HJ175 : ∀ (H : Heap) (locs : List Loc) (ls : Array Slot), bH D 23 (enM cy) q z0 s.heap H locs → lv_has ls 7 [(0, .ref (q 0)), (1, .ref (q 21)), (2, .int p1), (3, .int x3_38)] → W p l e ({ frames := 3, cells := 0, slots := 0, locals := 69 }) s m args below meth c H locs 0 0 Q (F0 m 175 ls []) := by
        intro H locs ls hH hl
        have HJ216 : ∀ (t0_216 : Int32) (H : Heap) (locs : List Loc) (ls : Array Slot), iv 0 1 t0_216 → bH D 23 (enM cy) q z0 s.heap H locs → lv_has ls 7 [] → W p l e ({ frames := 3, cells := 0, slots := 0, locals := 69 }) s m args below meth c H locs 0 0 Q (F0 m 216 ls [.int t0_216]) := by
          intro t0_216 H locs ls g0_216 hH hl
          refine lv_istore (lv' := [(6, .int t0_216)]) hx hb dX6_causeIn_216 hl (by decide) rfl (fun ls hl => ?_)
          refine lv_iload hx hb dX6_causeIn_218 (lv_at hl 0 rfl) ?_
          refine lv_if_eq (tgt := 227) hx hb dX6_causeIn_220 (by decide) (fun c366 => ?_) (fun c366 => ?_)
          · skip
            have k367a : iv 0 0 t0_216 := iv_eql (iv_Eq c366) g0_216 (iv_lit (n := 0) 0 (by decide)) (by decide) (by decide)
            refine lv_bipush (v := 6) hx hb dX6_causeIn_227 (by decide) ?_
            exact hret _ z0 H locs _ _ ⟨hJ, (iv_w (iv_lit (n := 6) 6 (by decide)) (by decide) (by decide))⟩ hH dX6_causeIn_229
          · skip
            have k368a : iv 1 1 t0_216 := iv_neLo (iv_nEq c366) g0_216 (by decide) (by decide)
            refine lv_iconst (v := 0) hx hb dX6_causeIn_223 (by decide) ?_
            refine lv_goto (tgt := 229) hx hb dX6_causeIn_224 (by decide) ?_
            exact hret _ z0 H locs _ _ ⟨hJ, (iv_w (iv_lit (n := 0) 0 (by decide)) (by decide) (by decide))⟩ hH dX6_causeIn_229
        have HJ211 : ∀ (H : Heap) (locs : List Loc) (ls : Array Slot), bH D 23 (enM cy) q z0 s.heap H locs → lv_has ls 7 [] → W p l e ({ frames := 3, cells := 0, slots := 0, locals := 69 }) s m args below meth c H locs 0 0 Q (F0 m 211 ls []) := by
          intro H locs ls hH hl
          refine lv_iconst (v := 1) hx hb dX6_causeIn_211 (by decide) ?_
          refine lv_goto (tgt := 216) hx hb dX6_causeIn_212 (by decide) ?_
          exact HJ216 1  H locs ls (iv_w (iv_lit (n := 1) 1 (by decide)) (by decide) (by decide))  hH (lv_sub hl [] rfl)
        have HJ215 : ∀ (H : Heap) (locs : List Loc) (ls : Array Slot), bH D 23 (enM cy) q z0 s.heap H locs → lv_has ls 7 [] → W p l e ({ frames := 3, cells := 0, slots := 0, locals := 69 }) s m args below meth c H locs 0 0 Q (F0 m 215 ls []) := by
          intro H locs ls hH hl
          refine lv_iconst (v := 0) hx hb dX6_causeIn_215 (by decide) ?_
          exact HJ216 0  H locs ls (iv_w (iv_lit (n := 0) 0 (by decide)) (by decide) (by decide))  hH (lv_sub hl [] rfl)
        refine lv_aload_n hx hb dX6_causeIn_175 rfl (lv_at hl 0 rfl) ?_
        refine lv_aload_n hx hb dX6_causeIn_176 rfl (lv_at hl 1 rfl) ?_
        refine lv_aload_n hx hb dX6_causeIn_177 rfl (lv_at hl 0 rfl) ?_
        refine lv_iload_n hx hb dX6_causeIn_178 rfl (lv_at hl 2 rfl) ?_
        refine b_calli (As := [.int p1]) (rest := [.ref (q 21), .ref (q 0)]) ⟨hx, hb, hml, hown, hts⟩ 0 6 (g_X6_leading_0 l D cy q hH.2.1 z0 hJ.1 p1 hp1) (cwV 1 hts gX6_causeIn_X6_leading rfl rfl rfl (by decide +kernel) ⟨Nat.le_of_ble_eq_true rfl, Nat.le_of_ble_eq_true rfl⟩) hK hZ hH (by decide) rfl rfl rfl hl.1 rfl (Nat.le_of_ble_eq_true rfl) ⟨Nat.zero_le _, Nat.zero_le _⟩ dX6_causeIn_179 (fun w369 z369 H locs hp hH => ?_)
        rw [Ag_0 hp.1.2] at hH
        have f369_0 := hp.2.2.1
        have f369_1 := hp.2.2.2
        refine lv_iload_n hx hb dX6_causeIn_182 rfl (lv_at hl 3 rfl) ?_
        refine b_calli (As := [.ref (q 21), .int w369, .int x3_38]) (rest := []) ⟨hx, hb, hml, hown, hts⟩ 0 6 (g_X6_areUpTo_0_21 l D cy q hH.2.1 z0 hJ.1 w369 x3_38) (cwV 3 hts gX6_causeIn_X6_areUpTo rfl rfl rfl (by decide +kernel) ⟨Nat.le_of_ble_eq_true rfl, Nat.le_of_ble_eq_true rfl⟩) hK hZ hH (by decide) rfl rfl rfl hl.1 rfl (Nat.le_of_ble_eq_true rfl) ⟨Nat.zero_le _, Nat.zero_le _⟩ dX6_causeIn_183 (fun w370 z370 H locs hp hH => ?_)
        rw [Ag_0 hp.1.2] at hH
        have i370 := hp.2
        refine lv_if_ne (tgt := 211) hx hb dX6_causeIn_186 (by decide) (fun c371 => ?_) (fun c371 => ?_)
        · skip
          have k372a : iv 1 1 w370 := iv_neLo (iv_nEq c371) i370 (by decide) (by decide)
          exact HJ211   H locs ls   hH (lv_sub hl [] rfl)
        · skip
          have k373a : iv 0 0 w370 := iv_eql (iv_Eq c371) i370 (iv_lit (n := 0) 0 (by decide)) (by decide) (by decide)
          refine lv_aload_n hx hb dX6_causeIn_189 rfl (lv_at hl 0 rfl) ?_
          refine b_get (ci := 6) (C := RX6) (T := TX6) (Nf := 29) (v := .int (z0.1 1)) hx hb hts in_X6_causeIn_X6 hown hK hH 0 (by decide) rfl rfl 7 (by decide) (hts (.fieldLink RX6 113 "StationLineModel" "kind" "I") (List.mem_of_getElem? (i := 4) rfl)) rfl dX6_causeIn_190 ?_
          refine lv_iconst (v := 1) hx hb dX6_causeIn_193 (by decide) ?_
          refine lv_icmp_ne (tgt := 215) hx hb dX6_causeIn_194 (by decide) (fun c374 => ?_) (fun c374 => ?_)
          · skip
            exact HJ215   H locs ls   hH (lv_sub hl [] rfl)
          · skip
            have k376a : iv 1 1 (z0.1 1) := iv_eql (iv_Eq c374) (iv_all (z0.1 1)) (iv_lit (n := 1) 1 (by decide)) (by decide) (by decide)
            refine lv_aload_n hx hb dX6_causeIn_197 rfl (lv_at hl 0 rfl) ?_
            refine lv_aload_n hx hb dX6_causeIn_198 rfl (lv_at hl 1 rfl) ?_
            refine lv_aload_n hx hb dX6_causeIn_199 rfl (lv_at hl 0 rfl) ?_
            refine lv_iload_n hx hb dX6_causeIn_200 rfl (lv_at hl 2 rfl) ?_
            refine b_calli (As := [.int p1]) (rest := [.ref (q 21), .ref (q 0)]) ⟨hx, hb, hml, hown, hts⟩ 0 6 (g_X6_following_0 l D cy q hH.2.1 z0 hJ.1 p1 hp1) (cwV 1 hts gX6_causeIn_X6_following rfl rfl rfl (by decide +kernel) ⟨Nat.le_of_ble_eq_true rfl, Nat.le_of_ble_eq_true rfl⟩) hK hZ hH (by decide) rfl rfl rfl hl.1 rfl (Nat.le_of_ble_eq_true rfl) ⟨Nat.zero_le _, Nat.zero_le _⟩ dX6_causeIn_201 (fun w377 z377 H locs hp hH => ?_)
            rw [Ag_0 hp.1.2] at hH
            have i377 := hp.2
            refine lv_iload_n hx hb dX6_causeIn_204 rfl (lv_at hl 3 rfl) ?_
            refine b_calli (As := [.ref (q 21), .int w377, .int x3_38]) (rest := []) ⟨hx, hb, hml, hown, hts⟩ 0 6 (g_X6_areUpTo_0_21 l D cy q hH.2.1 z0 hJ.1 w377 x3_38) (cwV 3 hts gX6_causeIn_X6_areUpTo rfl rfl rfl (by decide +kernel) ⟨Nat.le_of_ble_eq_true rfl, Nat.le_of_ble_eq_true rfl⟩) hK hZ hH (by decide) rfl rfl rfl hl.1 rfl (Nat.le_of_ble_eq_true rfl) ⟨Nat.zero_le _, Nat.zero_le _⟩ dX6_causeIn_205 (fun w378 z378 H locs hp hH => ?_)
            rw [Ag_0 hp.1.2] at hH
            have i378 := hp.2
            refine lv_if_eq (tgt := 215) hx hb dX6_causeIn_208 (by decide) (fun c379 => ?_) (fun c379 => ?_)
            · skip
              have k380a : iv 0 0 w378 := iv_eql (iv_Eq c379) i378 (iv_lit (n := 0) 0 (by decide)) (by decide) (by decide)
              exact HJ215   H locs ls   hH (lv_sub hl [] rfl)
            · skip
              have k381a : iv 1 1 w378 := iv_neLo (iv_nEq c379) i378 (by decide) (by decide)
              exact HJ211   H locs ls   hH (lv_sub hl [] rfl)
      have HJ84 : ∀ (t0_84 : Int32) (t1_84 : Int32) (H : Heap) (locs : List Loc) (ls : Array Slot), iv 0 9 x6_38 → iv 0 1 t0_84 → iv 0 1 t1_84 → iv 1 10 (z0.1 0) → bH D 23 (enM cy) q z0 s.heap H locs → lv_has ls 7 [(0, .ref (q 0)), (1, .ref (q 21)), (2, .int p1), (3, .int x3_38), (5, .int x5_38), (6, .int x6_38)] → W p l e ({ frames := 3, cells := 0, slots := 0, locals := 69 }) s m args below meth c H locs 0 0 Q (F0 m 84 ls [.int t0_84, .int t1_84]) := by
        intro t0_84 t1_84 H locs ls h6_84 g0_84 g1_84 gh0_84 hH hl
        have HJ124 : ∀ (x4_124 : Int32) (t0_124 : Int32) (t1_124 : Int32) (H : Heap) (locs : List Loc) (ls : Array Slot), iv 0 1 x4_124 → iv 0 1 t0_124 → iv 0 1 t1_124 → iv 1 10 (z0.1 0) → bH D 23 (enM cy) q z0 s.heap H locs → lv_has ls 7 [(0, .ref (q 0)), (1, .ref (q 21)), (2, .int p1), (3, .int x3_38), (4, .int x4_124), (6, .int x6_38)] → W p l e ({ frames := 3, cells := 0, slots := 0, locals := 69 }) s m args below meth c H locs 0 0 Q (F0 m 124 ls [.int t0_124, .int t1_124]) := by
          intro x4_124 t0_124 t1_124 H locs ls h4_124 g0_124 g1_124 gh0_124 hH hl
          refine lv_ior hx hb dX6_causeIn_124 ?_
          refine h_i (a := 0) (b := 1) (iv_or 1 (b := 1) (d := 1) (iv_w g1_124 (by decide) (by decide)) (iv_w g0_124 (by decide) (by decide)) (by decide) (by decide) (by decide) (by decide)) (fun w382 i382 => ?_)
          refine lv_istore (lv' := [(5, .int w382), (0, .ref (q 0)), (1, .ref (q 21)), (2, .int p1), (3, .int x3_38), (4, .int x4_124), (6, .int x6_38)]) hx hb dX6_causeIn_125 hl (by decide) rfl (fun ls hl => ?_)
          have j383 : iv 1 10 (x6_38 + 1) := iv_add h6_84 (iv_lit (n := 1) 1 (by decide)) (by decide) (by decide) (by decide) (by decide)
          have e383 : (x6_38 + 1).toInt = x6_38.toInt + 1 := (iv_addE h6_84 (iv_lit (n := 1) 1 (by decide)) (by decide) (by decide)).trans rfl
          refine lv_iinc (v := (x6_38 + 1)) (lv' := [(6, .int (x6_38 + 1)), (5, .int w382), (0, .ref (q 0)), (1, .ref (q 21)), (2, .int p1), (3, .int x3_38), (4, .int x4_124)]) hx hb dX6_causeIn_127 hl (k := 6) rfl rfl (by decide) rfl (fun ls hl => ?_)
          refine lv_goto (tgt := 38) hx hb dX6_causeIn_130 (by decide) ?_
          exact ih38 _ (ms_up e383 j383.2 hn38) x3_38 x4_124 w382 (x6_38 + 1)  H locs ls h3_38 h4_124 i382 (iv_w j383 (by decide) (by decide))  hH (lv_sub hl [2, 3, 4, 5, 6, 1, 0] rfl) rfl
        have HJ123 : ∀ (x4_123 : Int32) (t0_123 : Int32) (H : Heap) (locs : List Loc) (ls : Array Slot), iv 0 1 x4_123 → iv 0 1 t0_123 → iv 1 10 (z0.1 0) → bH D 23 (enM cy) q z0 s.heap H locs → lv_has ls 7 [(0, .ref (q 0)), (1, .ref (q 21)), (2, .int p1), (3, .int x3_38), (4, .int x4_123), (6, .int x6_38)] → W p l e ({ frames := 3, cells := 0, slots := 0, locals := 69 }) s m args below meth c H locs 0 0 Q (F0 m 123 ls [.int t0_123]) := by
          intro x4_123 t0_123 H locs ls h4_123 g0_123 gh0_123 hH hl
          refine lv_iconst (v := 0) hx hb dX6_causeIn_123 (by decide) ?_
          exact HJ124 x4_123 0 t0_123  H locs ls h4_123 (iv_w (iv_lit (n := 0) 0 (by decide)) (by decide) (by decide)) g0_123 gh0_123  hH (lv_sub hl [0, 1, 2, 3, 4, 5] rfl)
        refine lv_ior hx hb dX6_causeIn_84 ?_
        refine h_i (a := 0) (b := 1) (iv_or 1 (b := 1) (d := 1) (iv_w g1_84 (by decide) (by decide)) (iv_w g0_84 (by decide) (by decide)) (by decide) (by decide) (by decide) (by decide)) (fun w384 i384 => ?_)
        refine lv_istore (lv' := [(4, .int w384), (0, .ref (q 0)), (1, .ref (q 21)), (2, .int p1), (3, .int x3_38), (5, .int x5_38), (6, .int x6_38)]) hx hb dX6_causeIn_85 hl (by decide) rfl (fun ls hl => ?_)
        refine lv_iload hx hb dX6_causeIn_87 (lv_at hl 5 rfl) ?_
        refine lv_iload hx hb dX6_causeIn_89 (lv_at hl 6 rfl) ?_
        refine lv_iload_n hx hb dX6_causeIn_91 rfl (lv_at hl 3 rfl) ?_
        refine lv_icmp_eq (tgt := 123) hx hb dX6_causeIn_92 (by decide) (fun c385 => ?_) (fun c385 => ?_)
        · skip
          exact HJ123 w384 x5_38  H locs ls i384 h5_38 gh0_84  hH (lv_sub hl [1, 2, 3, 4, 0, 6] rfl)
        · skip
          refine lv_aload_n hx hb dX6_causeIn_95 rfl (lv_at hl 1 rfl) ?_
          refine b_get (ci := 6) (C := RX6) (T := TX6) (Nf := 29) (v := .ref (q 4)) hx hb hts in_X6_causeIn_X6 hown hK hH 0 (by decide) rfl rfl 4 (by decide) (hts (.fieldLink RX6 19 "StationLineModel" "pairs" "[I") (List.mem_of_getElem? (i := 2) rfl)) rfl dX6_causeIn_96 ?_
          refine lv_bipush (v := 10) hx hb dX6_causeIn_99 (by decide) ?_
          refine lv_iload_n hx hb dX6_causeIn_101 rfl (lv_at hl 3 rfl) ?_
          refine lv_imul hx hb dX6_causeIn_102 ?_
          refine h_i (a := 0) (b := 90) (iv_mul (iv_lit (n := 10) 10 (by decide)) hp1 (by decide) (by decide) (by decide) (by decide) (by decide)) (fun w388 i388 => ?_)
          refine lv_iload hx hb dX6_causeIn_103 (lv_at hl 6 rfl) ?_
          refine lv_iadd hx hb dX6_causeIn_105 ?_
          refine h_i (a := 0) (b := 99) (iv_add i388 h6_84 (by decide) (by decide) (by decide) (by decide)) (fun w389 i389 => ?_)
          refine b_iald (v := z0.2.1 4 (w389 : Int32).toNatClampNeg) hx hb hK hH 4 (by decide) rfl (iv_in i389 (by decide) (by decide)) rfl dX6_causeIn_106 ?_
          refine lv_iconst (v := 2) hx hb dX6_causeIn_107 (by decide) ?_
          refine lv_icmp_ne (tgt := 123) hx hb dX6_causeIn_108 (by decide) (fun c390 => ?_) (fun c390 => ?_)
          · skip
            exact HJ123 w384 x5_38  H locs ls i384 h5_38 gh0_84  hH (lv_sub hl [1, 2, 3, 4, 0, 6] rfl)
          · skip
            have k392a : iv 2 2 (z0.2.1 4 (w389 : Int32).toNatClampNeg) := iv_eql (iv_Eq c390) (iv_all (z0.2.1 4 (w389 : Int32).toNatClampNeg)) (iv_lit (n := 2) 2 (by decide)) (by decide) (by decide)
            refine lv_aload_n hx hb dX6_causeIn_111 rfl (lv_at hl 2 rfl) ?_
            refine lv_iload hx hb dX6_causeIn_112 (lv_at hl 6 rfl) ?_
            refine b_iald (v := z0.2.1 21 (x6_38 : Int32).toNatClampNeg) hx hb hK hH 21 (by decide) rfl (iv_in h6_84 (by decide) (by decide)) rfl dX6_causeIn_114 ?_
            have i393 : iv 0 10 (z0.2.1 21 (x6_38 : Int32).toNatClampNeg) := IvM_a21 hJ.1 _ (b_inlt (iv_in h6_84 (by decide) (by decide)))
            refine lv_iload_n hx hb dX6_causeIn_115 rfl (lv_at hl 4 rfl) ?_
            refine lv_icmp_ne (tgt := 123) hx hb dX6_causeIn_116 (by decide) (fun c394 => ?_) (fun c394 => ?_)
            · skip
              exact HJ123 w384 x5_38  H locs ls i384 h5_38 gh0_84  hH (lv_sub hl [1, 2, 3, 4, 0, 6] rfl)
            · skip
              have k396a : iv 1 10 (z0.2.1 21 (x6_38 : Int32).toNatClampNeg) := iv_eql (iv_Eq c394) i393 h3_38 (by decide) (by decide)
              refine lv_iconst (v := 1) hx hb dX6_causeIn_119 (by decide) ?_
              refine lv_goto (tgt := 124) hx hb dX6_causeIn_120 (by decide) ?_
              exact HJ124 w384 1 x5_38  H locs ls i384 (iv_w (iv_lit (n := 1) 1 (by decide)) (by decide) (by decide)) h5_38 gh0_84  hH (lv_sub hl [1, 2, 3, 4, 0, 6] rfl)
      have HJ83 : ∀ (t0_83 : Int32) (H : Heap) (locs : List Loc) (ls : Array Slot), iv 0 9 x6_38 → iv 0 1 t0_83 → iv 1 10 (z0.1 0) → bH D 23 (enM cy) q z0 s.heap H locs → lv_has ls 7 [(0, .ref (q 0)), (1, .ref (q 21)), (2, .int p1), (3, .int x3_38), (5, .int x5_38), (6, .int x6_38)] → W p l e ({ frames := 3, cells := 0, slots := 0, locals := 69 }) s m args below meth c H locs 0 0 Q (F0 m 83 ls [.int t0_83]) := by
        intro t0_83 H locs ls h6_83 g0_83 gh0_83 hH hl
        refine lv_iconst (v := 0) hx hb dX6_causeIn_83 (by decide) ?_
        exact HJ84 0 t0_83  H locs ls h6_83 (iv_w (iv_lit (n := 0) 0 (by decide)) (by decide) (by decide)) g0_83 gh0_83  hH (lv_sub hl [0, 1, 2, 3, 4, 5] rfl)
      refine lv_iload hx hb dX6_causeIn_38 (lv_at hl 6 rfl) ?_
      refine lv_aload_n hx hb dX6_causeIn_40 rfl (lv_at hl 0 rfl) ?_
      refine b_get (ci := 6) (C := RX6) (T := TX6) (Nf := 29) (v := .int (z0.1 0)) hx hb hts in_X6_causeIn_X6 hown hK hH 0 (by decide) rfl rfl 0 (by decide) (hts (.fieldLink RX6 85 "StationLineModel" "tasks" "I") (List.mem_of_getElem? (i := 1) rfl)) rfl dX6_causeIn_41 ?_
      have i397 := IvM_s0 hJ.1
      refine lv_icmp_ge (tgt := 133) hx hb dX6_causeIn_44 (by decide) (fun c398 => ?_) (fun c398 => ?_)
      · skip
        refine lv_iload hx hb dX6_causeIn_133 (lv_at hl 4 rfl) ?_
        refine lv_if_ne (tgt := 143) hx hb dX6_causeIn_135 (by decide) (fun c400 => ?_) (fun c400 => ?_)
        · skip
          have k401a : iv 1 1 x4_38 := iv_neLo (iv_nEq c400) h4_38 (by decide) (by decide)
          exact HJ143   H locs ls   hH (lv_sub hl [4] rfl)
        · skip
          have k402a : iv 0 0 x4_38 := iv_eql (iv_Eq c400) h4_38 (iv_lit (n := 0) 0 (by decide)) (by decide) (by decide)
          refine lv_iload hx hb dX6_causeIn_138 (lv_at hl 5 rfl) ?_
          refine lv_if_eq (tgt := 154) hx hb dX6_causeIn_140 (by decide) (fun c403 => ?_) (fun c403 => ?_)
          · skip
            have k404a : iv 0 0 x5_38 := iv_eql (iv_Eq c403) h5_38 (iv_lit (n := 0) 0 (by decide)) (by decide) (by decide)
            refine lv_aload_n hx hb dX6_causeIn_154 rfl (lv_at hl 0 rfl) ?_
            refine b_get (ci := 6) (C := RX6) (T := TX6) (Nf := 29) (v := .ref (q 5)) hx hb hts in_X6_causeIn_X6 hown hK hH 0 (by decide) rfl rfl 5 (by decide) (hts (.fieldLink RX6 22 "StationLineModel" "held" "[I") (List.mem_of_getElem? (i := 3) rfl)) rfl dX6_causeIn_155 ?_
            refine lv_iload_n hx hb dX6_causeIn_158 rfl (lv_at hl 2 rfl) ?_
            refine b_iald (v := z0.2.1 5 (p1 : Int32).toNatClampNeg) hx hb hK hH 5 (by decide) rfl (iv_in hp1 (by decide) (by decide)) rfl dX6_causeIn_159 ?_
            refine lv_if_le (tgt := 175) hx hb dX6_causeIn_160 (by decide) (fun c405 => ?_) (fun c405 => ?_)
            · skip
              have k406a : iv (-2147483648) 0 (z0.2.1 5 (p1 : Int32).toNatClampNeg) := iv_lel (iv_Le c405) (iv_all (z0.2.1 5 (p1 : Int32).toNatClampNeg)) (iv_lit (n := 0) 0 (by decide))
              exact HJ175   H locs ls   hH (lv_sub hl [0, 1, 2, 3] rfl)
            · skip
              have k407b : iv 1 2147483647 (z0.2.1 5 (p1 : Int32).toNatClampNeg) := iv_ltr (iv_nLe c405) (iv_lit (n := 0) 0 (by decide)) (iv_all (z0.2.1 5 (p1 : Int32).toNatClampNeg)) (by decide)
              refine lv_aload_n hx hb dX6_causeIn_163 rfl (lv_at hl 0 rfl) ?_
              refine b_get (ci := 6) (C := RX6) (T := TX6) (Nf := 29) (v := .ref (q 5)) hx hb hts in_X6_causeIn_X6 hown hK hH 0 (by decide) rfl rfl 5 (by decide) (hts (.fieldLink RX6 22 "StationLineModel" "held" "[I") (List.mem_of_getElem? (i := 3) rfl)) rfl dX6_causeIn_164 ?_
              refine lv_iload_n hx hb dX6_causeIn_167 rfl (lv_at hl 2 rfl) ?_
              refine b_iald (v := z0.2.1 5 (p1 : Int32).toNatClampNeg) hx hb hK hH 5 (by decide) rfl (iv_in hp1 (by decide) (by decide)) rfl dX6_causeIn_168 ?_
              refine lv_iload_n hx hb dX6_causeIn_169 rfl (lv_at hl 3 rfl) ?_
              refine lv_icmp_eq (tgt := 175) hx hb dX6_causeIn_170 (by decide) (fun c408 => ?_) (fun c408 => ?_)
              · skip
                have k409a : iv 1 10 (z0.2.1 5 (p1 : Int32).toNatClampNeg) := iv_eql (iv_Eq c408) (iv_all (z0.2.1 5 (p1 : Int32).toNatClampNeg)) h3_38 (by decide) (by decide)
                exact HJ175   H locs ls   hH (lv_sub hl [0, 1, 2, 3] rfl)
              · skip
                refine lv_iconst (v := 5) hx hb dX6_causeIn_173 (by decide) ?_
                exact hret _ z0 H locs _ _ ⟨hJ, (iv_w (iv_lit (n := 5) 5 (by decide)) (by decide) (by decide))⟩ hH dX6_causeIn_174
          · skip
            have k411a : iv 1 1 x5_38 := iv_neLo (iv_nEq c403) h5_38 (by decide) (by decide)
            exact HJ143   H locs ls   hH (lv_sub hl [4] rfl)
      · skip
        have k412a : iv 0 9 x6_38 := iv_ltl (iv_nLe c398) h6_38 i397 (by decide)
        have k412b : iv 1 10 (z0.1 0) := iv_ltr (iv_nLe c398) h6_38 i397 (by decide)
        refine lv_iload hx hb dX6_causeIn_47 (lv_at hl 4 rfl) ?_
        refine lv_iload hx hb dX6_causeIn_49 (lv_at hl 6 rfl) ?_
        refine lv_iload_n hx hb dX6_causeIn_51 rfl (lv_at hl 2 rfl) ?_
        refine lv_icmp_eq (tgt := 83) hx hb dX6_causeIn_52 (by decide) (fun c413 => ?_) (fun c413 => ?_)
        · skip
          exact HJ83 x4_38  H locs ls k412a h4_38 k412b  hH (lv_sub hl [0, 1, 2, 3, 5, 6] rfl)
        · skip
          refine lv_aload_n hx hb dX6_causeIn_55 rfl (lv_at hl 0 rfl) ?_
          refine b_get (ci := 6) (C := RX6) (T := TX6) (Nf := 29) (v := .ref (q 4)) hx hb hts in_X6_causeIn_X6 hown hK hH 0 (by decide) rfl rfl 4 (by decide) (hts (.fieldLink RX6 19 "StationLineModel" "pairs" "[I") (List.mem_of_getElem? (i := 2) rfl)) rfl dX6_causeIn_56 ?_
          refine lv_bipush (v := 10) hx hb dX6_causeIn_59 (by decide) ?_
          refine lv_iload_n hx hb dX6_causeIn_61 rfl (lv_at hl 2 rfl) ?_
          refine lv_imul hx hb dX6_causeIn_62 ?_
          refine h_i (a := 0) (b := 90) (iv_mul (iv_lit (n := 10) 10 (by decide)) hp1 (by decide) (by decide) (by decide) (by decide) (by decide)) (fun w416 i416 => ?_)
          refine lv_iload hx hb dX6_causeIn_63 (lv_at hl 6 rfl) ?_
          refine lv_iadd hx hb dX6_causeIn_65 ?_
          refine h_i (a := 0) (b := 99) (iv_add i416 k412a (by decide) (by decide) (by decide) (by decide)) (fun w417 i417 => ?_)
          refine b_iald (v := z0.2.1 4 (w417 : Int32).toNatClampNeg) hx hb hK hH 4 (by decide) rfl (iv_in i417 (by decide) (by decide)) rfl dX6_causeIn_66 ?_
          refine lv_iconst (v := 1) hx hb dX6_causeIn_67 (by decide) ?_
          refine lv_icmp_ne (tgt := 83) hx hb dX6_causeIn_68 (by decide) (fun c418 => ?_) (fun c418 => ?_)
          · skip
            exact HJ83 x4_38  H locs ls k412a h4_38 k412b  hH (lv_sub hl [0, 1, 2, 3, 5, 6] rfl)
          · skip
            have k420a : iv 1 1 (z0.2.1 4 (w417 : Int32).toNatClampNeg) := iv_eql (iv_Eq c418) (iv_all (z0.2.1 4 (w417 : Int32).toNatClampNeg)) (iv_lit (n := 1) 1 (by decide)) (by decide) (by decide)
            refine lv_aload_n hx hb dX6_causeIn_71 rfl (lv_at hl 1 rfl) ?_
            refine lv_iload hx hb dX6_causeIn_72 (lv_at hl 6 rfl) ?_
            refine b_iald (v := z0.2.1 21 (x6_38 : Int32).toNatClampNeg) hx hb hK hH 21 (by decide) rfl (iv_in k412a (by decide) (by decide)) rfl dX6_causeIn_74 ?_
            have i421 : iv 0 10 (z0.2.1 21 (x6_38 : Int32).toNatClampNeg) := IvM_a21 hJ.1 _ (b_inlt (iv_in k412a (by decide) (by decide)))
            refine lv_iload_n hx hb dX6_causeIn_75 rfl (lv_at hl 3 rfl) ?_
            refine lv_icmp_eq (tgt := 83) hx hb dX6_causeIn_76 (by decide) (fun c422 => ?_) (fun c422 => ?_)
            · skip
              have k423a : iv 1 10 (z0.2.1 21 (x6_38 : Int32).toNatClampNeg) := iv_eql (iv_Eq c422) i421 h3_38 (by decide) (by decide)
              exact HJ83 x4_38  H locs ls k412a h4_38 k412b  hH (lv_sub hl [0, 1, 2, 3, 5, 6] rfl)
            · skip
              refine lv_iconst (v := 1) hx hb dX6_causeIn_79 (by decide) ?_
              refine lv_goto (tgt := 84) hx hb dX6_causeIn_80 (by decide) ?_
              exact HJ84 1 x4_38  H locs ls k412a (iv_w (iv_lit (n := 1) 1 (by decide)) (by decide) (by decide)) h4_38 k412b  hH (lv_sub hl [0, 1, 2, 3, 5, 6] rfl)
  refine lv_aload_n hx hb dX6_causeIn_0 rfl (lv_at hl 1 rfl) ?_
  refine lv_iload_n hx hb dX6_causeIn_1 rfl (lv_at hl 2 rfl) ?_
  refine b_iald (v := z0.2.1 21 (p1 : Int32).toNatClampNeg) hx hb hK hH 21 (by decide) rfl (iv_in hp1 (by decide) (by decide)) rfl dX6_causeIn_2 ?_
  have i425 : iv 0 10 (z0.2.1 21 (p1 : Int32).toNatClampNeg) := IvM_a21 hJ.1 _ (b_inlt (iv_in hp1 (by decide) (by decide)))
  refine lv_istore_n (lv' := [(3, .int (z0.2.1 21 (p1 : Int32).toNatClampNeg)), (0, .ref (q 0)), (1, .ref (q 21)), (2, .int p1)]) hx hb dX6_causeIn_3 rfl hl (by decide) rfl (fun ls hl => ?_)
  refine lv_iload_n hx hb dX6_causeIn_4 rfl (lv_at hl 0 rfl) ?_
  refine lv_if_ne (tgt := 10) hx hb dX6_causeIn_5 (by decide) (fun c426 => ?_) (fun c426 => ?_)
  · skip
    have k427a : iv 1 10 (z0.2.1 21 (p1 : Int32).toNatClampNeg) := iv_neLo (iv_nEq c426) i425 (by decide) (by decide)
    refine lv_aload_n hx hb dX6_causeIn_10 rfl (lv_at hl 1 rfl) ?_
    refine lv_aload_n hx hb dX6_causeIn_11 rfl (lv_at hl 1 rfl) ?_
    refine lv_aload_n hx hb dX6_causeIn_12 rfl (lv_at hl 2 rfl) ?_
    refine lv_iload_n hx hb dX6_causeIn_13 rfl (lv_at hl 0 rfl) ?_
    refine b_calli (As := [.ref (q 21), .int (z0.2.1 21 (p1 : Int32).toNatClampNeg)]) (rest := [.ref (q 0)]) ⟨hx, hb, hml, hown, hts⟩ 0 6 (g_X6_setAt_0_21 l D cy q hH.2.1 z0 hJ.1 (z0.2.1 21 (p1 : Int32).toNatClampNeg)) (cwV 2 hts gX6_causeIn_X6_setAt rfl rfl rfl (by decide +kernel) ⟨Nat.le_of_ble_eq_true rfl, Nat.le_of_ble_eq_true rfl⟩) hK hZ hH (by decide) rfl rfl rfl hl.1 rfl (Nat.le_of_ble_eq_true rfl) ⟨Nat.zero_le _, Nat.zero_le _⟩ dX6_causeIn_14 (fun w428 z428 H locs hp hH => ?_)
    rw [Ag_0 hp.1.2] at hH
    have i428 := hp.2.1
    have f428_0 := hp.2.2
    refine b_calli (As := [.int w428]) (rest := []) ⟨hx, hb, hml, hown, hts⟩ 0 6 (g_X6_loadOf_0 l D cy q hH.2.1 z0 hJ.1 w428) (cwV 1 hts gX6_causeIn_X6_loadOf rfl rfl rfl (by decide +kernel) ⟨Nat.le_of_ble_eq_true rfl, Nat.le_of_ble_eq_true rfl⟩) hK hZ hH (by decide) rfl rfl rfl hl.1 rfl (Nat.le_of_ble_eq_true rfl) ⟨Nat.zero_le _, Nat.zero_le _⟩ dX6_causeIn_17 (fun w429 z429 H locs hp hH => ?_)
    rw [Ag_0 hp.1.2] at hH
    have i429 := hp.2.1
    have f429_0 := hp.2.2
    refine lv_aload_n hx hb dX6_causeIn_20 rfl (lv_at hl 1 rfl) ?_
    refine b_calli (As := []) (rest := [.int w429]) ⟨hx, hb, hml, hown, hts⟩ 0 6 (g_X6_room_0 l D cy q hH.2.1 z0 hJ.1 ) (cwV 0 hts gX6_causeIn_X6_room rfl rfl rfl (by decide +kernel) ⟨Nat.le_of_ble_eq_true rfl, Nat.le_of_ble_eq_true rfl⟩) hK hZ hH (by decide) rfl rfl rfl hl.1 rfl (Nat.le_of_ble_eq_true rfl) ⟨Nat.zero_le _, Nat.zero_le _⟩ dX6_causeIn_21 (fun w430 z430 H locs hp hH => ?_)
    rw [Ag_0 hp.1.2] at hH
    have i430 := hp.2
    refine lv_icmp_le (tgt := 29) hx hb dX6_causeIn_24 (by decide) (fun c431 => ?_) (fun c431 => ?_)
    · skip
      refine lv_iconst (v := 0) hx hb dX6_causeIn_29 (by decide) ?_
      refine lv_istore (lv' := [(4, .int 0), (3, .int (z0.2.1 21 (p1 : Int32).toNatClampNeg)), (0, .ref (q 0)), (1, .ref (q 21)), (2, .int p1)]) hx hb dX6_causeIn_30 hl (by decide) rfl (fun ls hl => ?_)
      refine lv_iconst (v := 0) hx hb dX6_causeIn_32 (by decide) ?_
      refine lv_istore (lv' := [(5, .int 0), (4, .int 0), (3, .int (z0.2.1 21 (p1 : Int32).toNatClampNeg)), (0, .ref (q 0)), (1, .ref (q 21)), (2, .int p1)]) hx hb dX6_causeIn_33 hl (by decide) rfl (fun ls hl => ?_)
      refine lv_iconst (v := 0) hx hb dX6_causeIn_35 (by decide) ?_
      refine lv_istore (lv' := [(6, .int 0), (5, .int 0), (4, .int 0), (3, .int (z0.2.1 21 (p1 : Int32).toNatClampNeg)), (0, .ref (q 0)), (1, .ref (q 21)), (2, .int p1)]) hx hb dX6_causeIn_36 hl (by decide) rfl (fun ls hl => ?_)
      exact HL38 _ (z0.2.1 21 (p1 : Int32).toNatClampNeg) 0 0 0  H locs ls k427a (iv_w (iv_lit (n := 0) 0 (by decide)) (by decide) (by decide)) (iv_w (iv_lit (n := 0) 0 (by decide)) (by decide) (by decide)) (iv_w (iv_lit (n := 0) 0 (by decide)) (by decide) (by decide))  hH (lv_sub hl [4, 5, 6, 3, 2, 1, 0] rfl) rfl
    · skip
      have k433a : iv 1 26999 w430 := iv_ltl (iv_nLe c431) i430 i429 (by decide)
      have k433b : iv 2 27000 w429 := iv_ltr (iv_nLe c431) i430 i429 (by decide)
      refine lv_iconst (v := 2) hx hb dX6_causeIn_27 (by decide) ?_
      exact hret _ z0 H locs _ _ ⟨hJ, (iv_w (iv_lit (n := 2) 2 (by decide)) (by decide) (by decide))⟩ hH dX6_causeIn_28
  · skip
    have k434a : iv 0 0 (z0.2.1 21 (p1 : Int32).toNatClampNeg) := iv_eql (iv_Eq c426) i425 (iv_lit (n := 0) 0 (by decide)) (by decide) (by decide)
    refine lv_iconst (v := 1) hx hb dX6_causeIn_8 (by decide) ?_
    exact hret _ z0 H locs _ _ ⟨hJ, (iv_w (iv_lit (n := 1) 1 (by decide)) (by decide) (by decide))⟩ hH dX6_causeIn_9
set_option maxHeartbeats 4000000 in
set_option maxRecDepth 100000 in
theorem g_X6_clashIn_0_21 (l : Launch) (D : va_G) (cy : Nat → ClassId) (q : Nat → Nat) (hq : bJ 23 q) (z0 : zS) (hI : IvM z0)  : bCi l yX6_clashIn wsX6_clashIn ({ frames := 4, cells := 0, slots := 0, locals := 95 }) D cy 23 (enM cy) q z0 [.ref (q 0), .ref (q 21)] (fun v z => jJ IvM 0 0 0 z0 z ∧ iv (-1) 9 v) := by
  refine hM_i cX6_clashIn (by decide) rfl (own := RX6) rfl hq (Nat.le_of_ble_eq_true rfl) ?_
  intro p e s m args below meth c Q ls H locs hx hb hml hown hts hK hZ hH hl hret
  have hl : lv_has ls 3 [(0, .ref (q 0)), (1, .ref (q 21))] := hl
  have hJ : jJ IvM 0 0 0 z0 z0 := jJ_rf _ _ _ hI
  have HL2 : ∀ (n : Nat) (x2_2 : Int32) (H : Heap) (locs : List Loc) (ls : Array Slot), iv 0 10 x2_2 → bH D 23 (enM cy) q z0 s.heap H locs → lv_has ls 3 [(0, .ref (q 0)), (1, .ref (q 21)), (2, .int x2_2)] → (10 - x2_2.toInt).toNat = n → W p l e ({ frames := 4, cells := 0, slots := 0, locals := 95 }) s m args below meth c H locs 0 0 Q (F0 m 2 ls []) := by
    intro n2
    induction n2 using Nat.strongRecOn with
    | ind n2 ih2 =>
      intro x2_2 H locs ls h2_2 hH hl hn2
      refine lv_iload_n hx hb dX6_clashIn_2 rfl (lv_at hl 2 rfl) ?_
      refine lv_aload_n hx hb dX6_clashIn_3 rfl (lv_at hl 0 rfl) ?_
      refine b_get (ci := 6) (C := RX6) (T := TX6) (Nf := 29) (v := .int (z0.1 0)) hx hb hts in_X6_clashIn_X6 hown hK hH 0 (by decide) rfl rfl 0 (by decide) (hts (.fieldLink RX6 85 "StationLineModel" "tasks" "I") (List.mem_of_getElem? (i := 1) rfl)) rfl dX6_clashIn_4 ?_
      have i64 := IvM_s0 hJ.1
      refine lv_icmp_ge (tgt := 27) hx hb dX6_clashIn_7 (by decide) (fun c65 => ?_) (fun c65 => ?_)
      · skip
        refine lv_iconst (v := (-1)) hx hb dX6_clashIn_27 (by decide) ?_
        exact hret _ z0 H locs _ _ ⟨hJ, (iv_w (iv_lit (n := (-1)) (-1) (by decide)) (by decide) (by decide))⟩ hH dX6_clashIn_28
      · skip
        have k67a : iv 0 9 x2_2 := iv_ltl (iv_nLe c65) h2_2 i64 (by decide)
        have k67b : iv 1 10 (z0.1 0) := iv_ltr (iv_nLe c65) h2_2 i64 (by decide)
        refine lv_aload_n hx hb dX6_clashIn_10 rfl (lv_at hl 0 rfl) ?_
        refine lv_aload_n hx hb dX6_clashIn_11 rfl (lv_at hl 1 rfl) ?_
        refine lv_iload_n hx hb dX6_clashIn_12 rfl (lv_at hl 2 rfl) ?_
        refine b_calli (As := [.ref (q 21), .int x2_2]) (rest := []) ⟨hx, hb, hml, hown, hts⟩ 0 6 (g_X6_causeIn_0_21 l D cy q hH.2.1 z0 hJ.1 x2_2 k67a) (cwV 2 hts gX6_clashIn_X6_causeIn rfl rfl rfl (by decide +kernel) ⟨Nat.le_of_ble_eq_true rfl, Nat.le_of_ble_eq_true rfl⟩) hK hZ hH (by decide) rfl rfl rfl hl.1 rfl (Nat.le_of_ble_eq_true rfl) ⟨Nat.zero_le _, Nat.zero_le _⟩ dX6_clashIn_13 (fun w68 z68 H locs hp hH => ?_)
        rw [Ag_0 hp.1.2] at hH
        have i68 := hp.2
        refine lv_if_eq (tgt := 21) hx hb dX6_clashIn_16 (by decide) (fun c69 => ?_) (fun c69 => ?_)
        · skip
          have k70a : iv 0 0 w68 := iv_eql (iv_Eq c69) i68 (iv_lit (n := 0) 0 (by decide)) (by decide) (by decide)
          have j71 : iv 1 10 (x2_2 + 1) := iv_add k67a (iv_lit (n := 1) 1 (by decide)) (by decide) (by decide) (by decide) (by decide)
          have e71 : (x2_2 + 1).toInt = x2_2.toInt + 1 := (iv_addE k67a (iv_lit (n := 1) 1 (by decide)) (by decide) (by decide)).trans rfl
          refine lv_iinc (v := (x2_2 + 1)) (lv' := [(2, .int (x2_2 + 1)), (0, .ref (q 0)), (1, .ref (q 21))]) hx hb dX6_clashIn_21 hl (k := 2) rfl rfl (by decide) rfl (fun ls hl => ?_)
          refine lv_goto (tgt := 2) hx hb dX6_clashIn_24 (by decide) ?_
          exact ih2 _ (ms_up e71 j71.2 hn2) (x2_2 + 1)  H locs ls (iv_w j71 (by decide) (by decide))  hH (lv_sub hl [1, 2, 0] rfl) rfl
        · skip
          have k72a : iv 1 6 w68 := iv_neLo (iv_nEq c69) i68 (by decide) (by decide)
          refine lv_iload_n hx hb dX6_clashIn_19 rfl (lv_at hl 2 rfl) ?_
          exact hret _ z0 H locs _ _ ⟨hJ, (iv_w k67a (by decide) (by decide))⟩ hH dX6_clashIn_20
  refine lv_iconst (v := 0) hx hb dX6_clashIn_0 (by decide) ?_
  refine lv_istore_n (lv' := [(2, .int 0), (0, .ref (q 0)), (1, .ref (q 21))]) hx hb dX6_clashIn_1 rfl hl (by decide) rfl (fun ls hl => ?_)
  exact HL2 _ 0  H locs ls (iv_w (iv_lit (n := 0) 0 (by decide)) (by decide) (by decide))  hH (lv_sub hl [1, 2, 0] rfl) rfl
set_option maxHeartbeats 4000000 in
set_option maxRecDepth 100000 in
theorem g_X6_cause_0 (l : Launch) (D : va_G) (cy : Nat → ClassId) (q : Nat → Nat) (hq : bJ 23 q) (z0 : zS) (hI : IvM z0) (p0 : Int32) : bCi l yX6_cause wsX6_cause ({ frames := 4, cells := 0, slots := 0, locals := 95 }) D cy 23 (enM cy) q z0 [.ref (q 0), .int p0] (fun v z => jJ IvM 0 0 0 z0 z ∧ iv (-2) 6 v) := by
  refine hM_i cX6_cause (by decide) rfl (own := RX6) rfl hq (Nat.le_of_ble_eq_true rfl) ?_
  intro p e s m args below meth c Q ls H locs hx hb hml hown hts hK hZ hH hl hret
  have hl : lv_has ls 2 [(0, .ref (q 0)), (1, .int p0)] := hl
  have hJ : jJ IvM 0 0 0 z0 z0 := jJ_rf _ _ _ hI
  refine lv_aload_n hx hb dX6_cause_0 rfl (lv_at hl 0 rfl) ?_
  refine lv_iload_n hx hb dX6_cause_1 rfl (lv_at hl 1 rfl) ?_
  refine b_calli (As := [.int p0]) (rest := []) ⟨hx, hb, hml, hown, hts⟩ 0 6 (g_X6_isTask_0 l D cy q hH.2.1 z0 hJ.1 p0) (cwV 1 hts gX6_cause_X6_isTask rfl rfl rfl (by decide +kernel) ⟨Nat.le_of_ble_eq_true rfl, Nat.le_of_ble_eq_true rfl⟩) hK hZ hH (by decide) rfl rfl rfl hl.1 rfl (Nat.le_of_ble_eq_true rfl) ⟨Nat.zero_le _, Nat.zero_le _⟩ dX6_cause_2 (fun w7 z7 H locs hp hH => ?_)
  rw [Ag_0 hp.1.2] at hH
  have i7 := hp.2.1
  have tr7_0 := hp.2.2.1
  have f7_0 := hp.2.2.2.1
  have f7_1 := hp.2.2.2.2
  refine lv_if_eq (tgt := 20) hx hb dX6_cause_5 (by decide) (fun c8 => ?_) (fun c8 => ?_)
  · skip
    have k9a : iv 0 0 w7 := iv_eql (iv_Eq c8) i7 (iv_lit (n := 0) 0 (by decide)) (by decide) (by decide)
    refine lv_bipush (v := (-2)) hx hb dX6_cause_20 (by decide) ?_
    exact hret _ z0 H locs _ _ ⟨hJ, (iv_w (iv_lit (n := (-2)) (-2) (by decide)) (by decide) (by decide))⟩ hH dX6_cause_22
  · skip
    have k10 : iv 0 9 p0 := (tr7_0).resolve_left c8
    have k11a : iv 1 1 w7 := iv_neLo (iv_nEq c8) i7 (by decide) (by decide)
    refine lv_aload_n hx hb dX6_cause_8 rfl (lv_at hl 0 rfl) ?_
    refine lv_aload_n hx hb dX6_cause_9 rfl (lv_at hl 0 rfl) ?_
    refine b_get (ci := 6) (C := RX6) (T := TX6) (Nf := 29) (v := .ref (q 6)) hx hb hts in_X6_cause_X6 hown hK hH 0 (by decide) rfl rfl 6 (by decide) (hts (.fieldLink RX6 25 "StationLineModel" "hand" "[I") (List.mem_of_getElem? (i := 1) rfl)) rfl dX6_cause_10 ?_
    refine lv_iload_n hx hb dX6_cause_13 rfl (lv_at hl 1 rfl) ?_
    refine b_calli (As := [.ref (q 6), .int p0]) (rest := []) ⟨hx, hb, hml, hown, hts⟩ 0 6 (g_X6_causeIn_0_6 l D cy q hH.2.1 z0 hJ.1 p0 k10) (cwV 2 hts gX6_cause_X6_causeIn rfl rfl rfl (by decide +kernel) ⟨Nat.le_of_ble_eq_true rfl, Nat.le_of_ble_eq_true rfl⟩) hK hZ hH (by decide) rfl rfl rfl hl.1 rfl (Nat.le_of_ble_eq_true rfl) ⟨Nat.zero_le _, Nat.zero_le _⟩ dX6_cause_14 (fun w12 z12 H locs hp hH => ?_)
    rw [Ag_0 hp.1.2] at hH
    have i12 := hp.2
    refine lv_goto (tgt := 22) hx hb dX6_cause_17 (by decide) ?_
    exact hret _ z0 H locs _ _ ⟨hJ, (iv_w i12 (by decide) (by decide))⟩ hH dX6_cause_22
set_option maxHeartbeats 4000000 in
set_option maxRecDepth 100000 in
theorem g_X6_clash_0 (l : Launch) (D : va_G) (cy : Nat → ClassId) (q : Nat → Nat) (hq : bJ 23 q) (z0 : zS) (hI : IvM z0)  : bCi l yX6_clash wsX6_clash ({ frames := 5, cells := 0, slots := 0, locals := 117 }) D cy 23 (enM cy) q z0 [.ref (q 0)] (fun v z => jJ IvM 0 0 0 z0 z ∧ iv (-1) 9 v) := by
  refine hM_i cX6_clash (by decide) rfl (own := RX6) rfl hq (Nat.le_of_ble_eq_true rfl) ?_
  intro p e s m args below meth c Q ls H locs hx hb hml hown hts hK hZ hH hl hret
  have hl : lv_has ls 1 [(0, .ref (q 0))] := hl
  have hJ : jJ IvM 0 0 0 z0 z0 := jJ_rf _ _ _ hI
  refine lv_aload_n hx hb dX6_clash_0 rfl (lv_at hl 0 rfl) ?_
  refine lv_aload_n hx hb dX6_clash_1 rfl (lv_at hl 0 rfl) ?_
  refine b_get (ci := 6) (C := RX6) (T := TX6) (Nf := 29) (v := .ref (q 6)) hx hb hts in_X6_clash_X6 hown hK hH 0 (by decide) rfl rfl 6 (by decide) (hts (.fieldLink RX6 25 "StationLineModel" "hand" "[I") (List.mem_of_getElem? (i := 1) rfl)) rfl dX6_clash_2 ?_
  refine b_calli (As := [.ref (q 6)]) (rest := []) ⟨hx, hb, hml, hown, hts⟩ 0 6 (g_X6_clashIn_0_6 l D cy q hH.2.1 z0 hJ.1 ) (cwV 1 hts gX6_clash_X6_clashIn rfl rfl rfl (by decide +kernel) ⟨Nat.le_of_ble_eq_true rfl, Nat.le_of_ble_eq_true rfl⟩) hK hZ hH (by decide) rfl rfl rfl hl.1 rfl (Nat.le_of_ble_eq_true rfl) ⟨Nat.zero_le _, Nat.zero_le _⟩ dX6_clash_5 (fun w2 z2 H locs hp hH => ?_)
  rw [Ag_0 hp.1.2] at hH
  have i2 := hp.2
  exact hret _ z0 H locs _ _ ⟨hJ, i2⟩ hH dX6_clash_8
set_option maxHeartbeats 4000000 in
set_option maxRecDepth 100000 in
theorem g_X6_of_0 (l : Launch) (D : va_G) (cy : Nat → ClassId) (q : Nat → Nat) (hq : bJ 23 q) (z0 : zS) (hI : IvM z0) (p0 : Int32) (p1 : Int32) : bCi l yX6_of wsX6_of ({ frames := 3, cells := 0, slots := 0, locals := 69 }) D cy 23 (enM cy) q z0 [.ref (q 0), .int p0, .int p1] (fun v z => jJ IvM 0 0 0 z0 z ∧ iv (-2147483648) 2147483647 v) := by
  refine hM_i cX6_of (by decide) rfl (own := RX6) rfl hq (Nat.le_of_ble_eq_true rfl) ?_
  intro p e s m args below meth c Q ls H locs hx hb hml hown hts hK hZ hH hl hret
  have hl : lv_has ls 3 [(0, .ref (q 0)), (1, .int p0), (2, .int p1)] := hl
  have hJ : jJ IvM 0 0 0 z0 z0 := jJ_rf _ _ _ hI
  have HJ18 : ∀ (H : Heap) (locs : List Loc) (ls : Array Slot), bH D 23 (enM cy) q z0 s.heap H locs → lv_has ls 3 [] → W p l e ({ frames := 3, cells := 0, slots := 0, locals := 69 }) s m args below meth c H locs 0 0 Q (F0 m 18 ls []) := by
    intro H locs ls hH hl
    refine lv_bipush (v := (-2)) hx hb dX6_of_18 (by decide) ?_
    exact hret _ z0 H locs _ _ ⟨hJ, (iv_w (iv_lit (n := (-2)) (-2) (by decide)) (by decide) (by decide))⟩ hH dX6_of_20
  refine lv_aload_n hx hb dX6_of_0 rfl (lv_at hl 0 rfl) ?_
  refine lv_iload_n hx hb dX6_of_1 rfl (lv_at hl 1 rfl) ?_
  refine b_calli (As := [.int p0]) (rest := []) ⟨hx, hb, hml, hown, hts⟩ 0 6 (g_X6_isTask_0 l D cy q hH.2.1 z0 hJ.1 p0) (cwV 1 hts gX6_of_X6_isTask rfl rfl rfl (by decide +kernel) ⟨Nat.le_of_ble_eq_true rfl, Nat.le_of_ble_eq_true rfl⟩) hK hZ hH (by decide) rfl rfl rfl hl.1 rfl (Nat.le_of_ble_eq_true rfl) ⟨Nat.zero_le _, Nat.zero_le _⟩ dX6_of_2 (fun w21 z21 H locs hp hH => ?_)
  rw [Ag_0 hp.1.2] at hH
  have i21 := hp.2.1
  have tr21_0 := hp.2.2.1
  have f21_0 := hp.2.2.2.1
  have f21_1 := hp.2.2.2.2
  refine lv_if_eq (tgt := 18) hx hb dX6_of_5 (by decide) (fun c22 => ?_) (fun c22 => ?_)
  · skip
    have k23a : iv 0 0 w21 := iv_eql (iv_Eq c22) i21 (iv_lit (n := 0) 0 (by decide)) (by decide) (by decide)
    exact HJ18   H locs ls   hH (lv_sub hl [] rfl)
  · skip
    have k24 : iv 0 9 p0 := (tr21_0).resolve_left c22
    have k25a : iv 1 1 w21 := iv_neLo (iv_nEq c22) i21 (by decide) (by decide)
    refine lv_iload_n hx hb dX6_of_8 rfl (lv_at hl 2 rfl) ?_
    refine lv_if_lt (tgt := 18) hx hb dX6_of_9 (by decide) (fun c26 => ?_) (fun c26 => ?_)
    · skip
      have k27a : iv (-2147483648) (-1) p1 := iv_ltl (iv_Lt c26) (iv_all p1) (iv_lit (n := 0) 0 (by decide)) (by decide)
      exact HJ18   H locs ls   hH (lv_sub hl [] rfl)
    · skip
      have k28b : iv 0 2147483647 p1 := iv_ler (iv_nLt c26) (iv_lit (n := 0) 0 (by decide)) (iv_all p1)
      refine lv_iload_n hx hb dX6_of_12 rfl (lv_at hl 2 rfl) ?_
      refine lv_bipush (v := 8) hx hb dX6_of_13 (by decide) ?_
      refine lv_icmp_le (tgt := 21) hx hb dX6_of_15 (by decide) (fun c29 => ?_) (fun c29 => ?_)
      · skip
        have k30a : iv 0 8 p1 := iv_lel (iv_Le c29) k28b (iv_lit (n := 8) 8 (by decide))
        refine lv_iload_n hx hb dX6_of_21 rfl (lv_at hl 2 rfl) ?_
        rcases (show (p1.toInt < 3 ∨ 8 < p1.toInt) ∨ (¬ p1.toInt < 3 ∧ ¬ 8 < p1.toInt) by omega) with h31 | h31
        · refine lv_tableOut (tgt := 101) hx hb dX6_of_22 h31 (by decide) ?_
          have k31 : iv 0 2 p1 := ⟨k30a.1, by have := k30a.2; omega⟩
          refine lv_aload_n hx hb dX6_of_101 rfl (lv_at hl 0 rfl) ?_
          refine b_get (ci := 6) (C := RX6) (T := TX6) (Nf := 29) (v := .ref (q 1)) hx hb hts in_X6_of_X6 hown hK hH 0 (by decide) rfl rfl 1 (by decide) (hts (.fieldLink RX6 7 "StationLineModel" "times" "[I") (List.mem_of_getElem? (i := 4) rfl)) rfl dX6_of_102 ?_
          refine lv_iconst (v := 3) hx hb dX6_of_105 (by decide) ?_
          refine lv_iload_n hx hb dX6_of_106 rfl (lv_at hl 1 rfl) ?_
          refine lv_imul hx hb dX6_of_107 ?_
          refine h_i (a := 0) (b := 27) (iv_mul (iv_lit (n := 3) 3 (by decide)) k24 (by decide) (by decide) (by decide) (by decide) (by decide)) (fun w32 i32 => ?_)
          refine lv_iload_n hx hb dX6_of_108 rfl (lv_at hl 2 rfl) ?_
          refine lv_iadd hx hb dX6_of_109 ?_
          refine h_i (a := 0) (b := 29) (iv_add i32 k31 (by decide) (by decide) (by decide) (by decide)) (fun w33 i33 => ?_)
          refine b_iald (v := z0.2.1 1 (w33 : Int32).toNatClampNeg) hx hb hK hH 1 (by decide) rfl (iv_in i33 (by decide) (by decide)) rfl dX6_of_110 ?_
          have i34 : iv 0 100 (z0.2.1 1 (w33 : Int32).toNatClampNeg) := IvM_a1 hJ.1 _ (b_inlt (iv_in i33 (by decide) (by decide)))
          exact hret _ z0 H locs _ _ ⟨hJ, (iv_w i34 (by decide) (by decide))⟩ hH dX6_of_111
        · rcases (show p1.toInt = 3 ∨ p1.toInt = 4 ∨ p1.toInt = 5 ∨ p1.toInt = 6 ∨ p1.toInt = 7 ∨ p1.toInt = 8 by omega) with e31 | e31 | e31 | e31 | e31 | e31
          · refine lv_tableIn (off := 38) (tgt := 60) hx hb dX6_of_22 h31.1 h31.2 (by rw [e31]; rfl) (by decide) ?_
            have k31 : iv 3 3 p1 := iv_lit p1 e31
            refine lv_aload_n hx hb dX6_of_60 rfl (lv_at hl 0 rfl) ?_
            refine b_get (ci := 6) (C := RX6) (T := TX6) (Nf := 29) (v := .ref (q 3)) hx hb hts in_X6_of_X6 hown hK hH 0 (by decide) rfl rfl 3 (by decide) (hts (.fieldLink RX6 16 "StationLineModel" "straight" "[I") (List.mem_of_getElem? (i := 1) rfl)) rfl dX6_of_61 ?_
            refine lv_iload_n hx hb dX6_of_64 rfl (lv_at hl 1 rfl) ?_
            refine b_iald (v := z0.2.1 3 (p0 : Int32).toNatClampNeg) hx hb hK hH 3 (by decide) rfl (iv_in k24 (by decide) (by decide)) rfl dX6_of_65 ?_
            exact hret _ z0 H locs _ _ ⟨hJ, (iv_all (z0.2.1 3 (p0 : Int32).toNatClampNeg))⟩ hH dX6_of_66
          · refine lv_tableIn (off := 45) (tgt := 67) hx hb dX6_of_22 h31.1 h31.2 (by rw [e31]; rfl) (by decide) ?_
            have k31 : iv 4 4 p1 := iv_lit p1 e31
            refine lv_aload_n hx hb dX6_of_67 rfl (lv_at hl 0 rfl) ?_
            refine lv_iload_n hx hb dX6_of_68 rfl (lv_at hl 1 rfl) ?_
            refine b_calli (As := [.int p0]) (rest := []) ⟨hx, hb, hml, hown, hts⟩ 0 6 (g_X6_leading_0 l D cy q hH.2.1 z0 hJ.1 p0 k24) (cwV 1 hts gX6_of_X6_leading rfl rfl rfl (by decide +kernel) ⟨Nat.le_of_ble_eq_true rfl, Nat.le_of_ble_eq_true rfl⟩) hK hZ hH (by decide) rfl rfl rfl hl.1 rfl (Nat.le_of_ble_eq_true rfl) ⟨Nat.zero_le _, Nat.zero_le _⟩ dX6_of_69 (fun w35 z35 H locs hp hH => ?_)
            rw [Ag_0 hp.1.2] at hH
            have f35_0 := hp.2.2.1
            have f35_1 := hp.2.2.2
            exact hret _ z0 H locs _ _ ⟨hJ, (iv_all w35)⟩ hH dX6_of_72
          · refine lv_tableIn (off := 51) (tgt := 73) hx hb dX6_of_22 h31.1 h31.2 (by rw [e31]; rfl) (by decide) ?_
            have k31 : iv 5 5 p1 := iv_lit p1 e31
            refine lv_aload_n hx hb dX6_of_73 rfl (lv_at hl 0 rfl) ?_
            refine lv_iload_n hx hb dX6_of_74 rfl (lv_at hl 1 rfl) ?_
            refine b_calli (As := [.int p0]) (rest := []) ⟨hx, hb, hml, hown, hts⟩ 0 6 (g_X6_following_0 l D cy q hH.2.1 z0 hJ.1 p0 k24) (cwV 1 hts gX6_of_X6_following rfl rfl rfl (by decide +kernel) ⟨Nat.le_of_ble_eq_true rfl, Nat.le_of_ble_eq_true rfl⟩) hK hZ hH (by decide) rfl rfl rfl hl.1 rfl (Nat.le_of_ble_eq_true rfl) ⟨Nat.zero_le _, Nat.zero_le _⟩ dX6_of_75 (fun w36 z36 H locs hp hH => ?_)
            rw [Ag_0 hp.1.2] at hH
            have i36 := hp.2
            exact hret _ z0 H locs _ _ ⟨hJ, (iv_w i36 (by decide) (by decide))⟩ hH dX6_of_78
          · refine lv_tableIn (off := 57) (tgt := 79) hx hb dX6_of_22 h31.1 h31.2 (by rw [e31]; rfl) (by decide) ?_
            have k31 : iv 6 6 p1 := iv_lit p1 e31
            refine lv_aload_n hx hb dX6_of_79 rfl (lv_at hl 0 rfl) ?_
            refine b_get (ci := 6) (C := RX6) (T := TX6) (Nf := 29) (v := .ref (q 5)) hx hb hts in_X6_of_X6 hown hK hH 0 (by decide) rfl rfl 5 (by decide) (hts (.fieldLink RX6 22 "StationLineModel" "held" "[I") (List.mem_of_getElem? (i := 2) rfl)) rfl dX6_of_80 ?_
            refine lv_iload_n hx hb dX6_of_83 rfl (lv_at hl 1 rfl) ?_
            refine b_iald (v := z0.2.1 5 (p0 : Int32).toNatClampNeg) hx hb hK hH 5 (by decide) rfl (iv_in k24 (by decide) (by decide)) rfl dX6_of_84 ?_
            exact hret _ z0 H locs _ _ ⟨hJ, (iv_all (z0.2.1 5 (p0 : Int32).toNatClampNeg))⟩ hH dX6_of_85
          · refine lv_tableIn (off := 64) (tgt := 86) hx hb dX6_of_22 h31.1 h31.2 (by rw [e31]; rfl) (by decide) ?_
            have k31 : iv 7 7 p1 := iv_lit p1 e31
            refine lv_aload_n hx hb dX6_of_86 rfl (lv_at hl 0 rfl) ?_
            refine b_get (ci := 6) (C := RX6) (T := TX6) (Nf := 29) (v := .ref (q 6)) hx hb hts in_X6_of_X6 hown hK hH 0 (by decide) rfl rfl 6 (by decide) (hts (.fieldLink RX6 25 "StationLineModel" "hand" "[I") (List.mem_of_getElem? (i := 3) rfl)) rfl dX6_of_87 ?_
            refine lv_iload_n hx hb dX6_of_90 rfl (lv_at hl 1 rfl) ?_
            refine b_iald (v := z0.2.1 6 (p0 : Int32).toNatClampNeg) hx hb hK hH 6 (by decide) rfl (iv_in k24 (by decide) (by decide)) rfl dX6_of_91 ?_
            have i37 : iv 0 10 (z0.2.1 6 (p0 : Int32).toNatClampNeg) := IvM_a6 hJ.1 _ (b_inlt (iv_in k24 (by decide) (by decide)))
            exact hret _ z0 H locs _ _ ⟨hJ, (iv_w i37 (by decide) (by decide))⟩ hH dX6_of_92
          · refine lv_tableIn (off := 71) (tgt := 93) hx hb dX6_of_22 h31.1 h31.2 (by rw [e31]; rfl) (by decide) ?_
            have k31 : iv 8 8 p1 := iv_lit p1 e31
            refine lv_aload_n hx hb dX6_of_93 rfl (lv_at hl 0 rfl) ?_
            refine lv_iconst (v := 1) hx hb dX6_of_94 (by decide) ?_
            refine lv_iload_n hx hb dX6_of_95 rfl (lv_at hl 1 rfl) ?_
            refine lv_ishl hx hb dX6_of_96 ?_
            refine h_i (a := 1) (b := 512) (iv_bit k24 (by decide) (by decide)) (fun w38 i38 => ?_)
            refine b_calli (As := [.int w38]) (rest := []) ⟨hx, hb, hml, hown, hts⟩ 0 6 (g_X6_loadOf_0 l D cy q hH.2.1 z0 hJ.1 w38) (cwV 1 hts gX6_of_X6_loadOf rfl rfl rfl (by decide +kernel) ⟨Nat.le_of_ble_eq_true rfl, Nat.le_of_ble_eq_true rfl⟩) hK hZ hH (by decide) rfl rfl rfl hl.1 rfl (Nat.le_of_ble_eq_true rfl) ⟨Nat.zero_le _, Nat.zero_le _⟩ dX6_of_97 (fun w39 z39 H locs hp hH => ?_)
            rw [Ag_0 hp.1.2] at hH
            have i39 := hp.2.1
            have f39_0 := hp.2.2
            exact hret _ z0 H locs _ _ ⟨hJ, (iv_w i39 (by decide) (by decide))⟩ hH dX6_of_100
      · skip
        have k40b : iv 9 2147483647 p1 := iv_ltr (iv_nLe c29) (iv_lit (n := 8) 8 (by decide)) k28b (by decide)
        exact HJ18   H locs ls   hH (lv_sub hl [] rfl)
set_option maxHeartbeats 4000000 in
set_option maxRecDepth 100000 in
theorem g_X6_station_0 (l : Launch) (D : va_G) (cy : Nat → ClassId) (q : Nat → Nat) (hq : bJ 23 q) (z0 : zS) (hI : IvM z0) (p0 : Int32) (p1 : Int32) : bCi l yX6_station wsX6_station ({ frames := 3, cells := 0, slots := 0, locals := 69 }) D cy 23 (enM cy) q z0 [.ref (q 0), .int p0, .int p1] (fun v z => jJ IvM 0 0 0 z0 z ∧ iv (-26999) 27000 v) := by
  refine hM_i cX6_station (by decide) rfl (own := RX6) rfl hq (Nat.le_of_ble_eq_true rfl) ?_
  intro p e s m args below meth c Q ls H locs hx hb hml hown hts hK hZ hH hl hret
  have hl : lv_has ls 4 [(0, .ref (q 0)), (1, .int p0), (2, .int p1)] := hl
  have hJ : jJ IvM 0 0 0 z0 z0 := jJ_rf _ _ _ hI
  have HJ20 : ∀ (H : Heap) (locs : List Loc) (ls : Array Slot), bH D 23 (enM cy) q z0 s.heap H locs → lv_has ls 4 [] → W p l e ({ frames := 3, cells := 0, slots := 0, locals := 69 }) s m args below meth c H locs 0 0 Q (F0 m 20 ls []) := by
    intro H locs ls hH hl
    refine lv_bipush (v := (-2)) hx hb dX6_station_20 (by decide) ?_
    exact hret _ z0 H locs _ _ ⟨hJ, (iv_w (iv_lit (n := (-2)) (-2) (by decide)) (by decide) (by decide))⟩ hH dX6_station_22
  refine lv_iload_n hx hb dX6_station_0 rfl (lv_at hl 1 rfl) ?_
  refine lv_iconst (v := 1) hx hb dX6_station_1 (by decide) ?_
  refine lv_icmp_lt (tgt := 20) hx hb dX6_station_2 (by decide) (fun c24 => ?_) (fun c24 => ?_)
  · skip
    have k25a : iv (-2147483648) 0 p0 := iv_ltl (iv_Lt c24) (iv_all p0) (iv_lit (n := 1) 1 (by decide)) (by decide)
    exact HJ20   H locs ls   hH (lv_sub hl [] rfl)
  · skip
    have k26b : iv 1 2147483647 p0 := iv_ler (iv_nLt c24) (iv_lit (n := 1) 1 (by decide)) (iv_all p0)
    refine lv_iload_n hx hb dX6_station_5 rfl (lv_at hl 1 rfl) ?_
    refine lv_bipush (v := 10) hx hb dX6_station_6 (by decide) ?_
    refine lv_icmp_gt (tgt := 20) hx hb dX6_station_8 (by decide) (fun c27 => ?_) (fun c27 => ?_)
    · skip
      have k28b : iv 11 2147483647 p0 := iv_ltr (iv_Lt c27) (iv_lit (n := 10) 10 (by decide)) k26b (by decide)
      exact HJ20   H locs ls   hH (lv_sub hl [] rfl)
    · skip
      have k29a : iv 1 10 p0 := iv_lel (iv_nLt c27) k26b (iv_lit (n := 10) 10 (by decide))
      refine lv_iload_n hx hb dX6_station_11 rfl (lv_at hl 2 rfl) ?_
      refine lv_if_lt (tgt := 20) hx hb dX6_station_12 (by decide) (fun c30 => ?_) (fun c30 => ?_)
      · skip
        have k31a : iv (-2147483648) (-1) p1 := iv_ltl (iv_Lt c30) (iv_all p1) (iv_lit (n := 0) 0 (by decide)) (by decide)
        exact HJ20   H locs ls   hH (lv_sub hl [] rfl)
      · skip
        have k32b : iv 0 2147483647 p1 := iv_ler (iv_nLt c30) (iv_lit (n := 0) 0 (by decide)) (iv_all p1)
        refine lv_iload_n hx hb dX6_station_15 rfl (lv_at hl 2 rfl) ?_
        refine lv_iconst (v := 2) hx hb dX6_station_16 (by decide) ?_
        refine lv_icmp_le (tgt := 23) hx hb dX6_station_17 (by decide) (fun c33 => ?_) (fun c33 => ?_)
        · skip
          have k34a : iv 0 2 p1 := iv_lel (iv_Le c33) k32b (iv_lit (n := 2) 2 (by decide))
          refine lv_aload_n hx hb dX6_station_23 rfl (lv_at hl 0 rfl) ?_
          refine lv_aload_n hx hb dX6_station_24 rfl (lv_at hl 0 rfl) ?_
          refine b_get (ci := 6) (C := RX6) (T := TX6) (Nf := 29) (v := .ref (q 6)) hx hb hts in_X6_station_X6 hown hK hH 0 (by decide) rfl rfl 6 (by decide) (hts (.fieldLink RX6 25 "StationLineModel" "hand" "[I") (List.mem_of_getElem? (i := 1) rfl)) rfl dX6_station_25 ?_
          refine lv_iload_n hx hb dX6_station_28 rfl (lv_at hl 1 rfl) ?_
          refine b_calli (As := [.ref (q 6), .int p0]) (rest := []) ⟨hx, hb, hml, hown, hts⟩ 0 6 (g_X6_setAt_0_6 l D cy q hH.2.1 z0 hJ.1 p0) (cwV 2 hts gX6_station_X6_setAt rfl rfl rfl (by decide +kernel) ⟨Nat.le_of_ble_eq_true rfl, Nat.le_of_ble_eq_true rfl⟩) hK hZ hH (by decide) rfl rfl rfl hl.1 rfl (Nat.le_of_ble_eq_true rfl) ⟨Nat.zero_le _, Nat.zero_le _⟩ dX6_station_29 (fun w35 z35 H locs hp hH => ?_)
          rw [Ag_0 hp.1.2] at hH
          have i35 := hp.2.1
          have f35_0 := hp.2.2
          refine lv_istore_n (lv' := [(3, .int w35), (0, .ref (q 0)), (1, .int p0), (2, .int p1)]) hx hb dX6_station_32 rfl hl (by decide) rfl (fun ls hl => ?_)
          refine lv_iload_n hx hb dX6_station_33 rfl (lv_at hl 3 rfl) ?_
          refine lv_if_ne (tgt := 41) hx hb dX6_station_34 (by decide) (fun c36 => ?_) (fun c36 => ?_)
          · skip
            have k37a : iv 1 2 p1 := iv_neLo (iv_nEq c36) k34a (by decide) (by decide)
            refine lv_iload_n hx hb dX6_station_41 rfl (lv_at hl 3 rfl) ?_
            refine lv_iconst (v := 1) hx hb dX6_station_42 (by decide) ?_
            refine lv_icmp_ne (tgt := 54) hx hb dX6_station_43 (by decide) (fun c38 => ?_) (fun c38 => ?_)
            · skip
              have k39a : iv 2 2 p1 := iv_neLo (iv_nEq c38) k37a (by decide) (by decide)
              refine lv_aload_n hx hb dX6_station_54 rfl (lv_at hl 1 rfl) ?_
              refine b_calli (As := []) (rest := []) ⟨hx, hb, hml, hown, hts⟩ 0 6 (g_X6_room_0 l D cy q hH.2.1 z0 hJ.1 ) (cwV 0 hts gX6_station_X6_room rfl rfl rfl (by decide +kernel) ⟨Nat.le_of_ble_eq_true rfl, Nat.le_of_ble_eq_true rfl⟩) hK hZ hH (by decide) rfl rfl rfl hl.1 rfl (Nat.le_of_ble_eq_true rfl) ⟨Nat.zero_le _, Nat.zero_le _⟩ dX6_station_55 (fun w40 z40 H locs hp hH => ?_)
              rw [Ag_0 hp.1.2] at hH
              have i40 := hp.2
              refine lv_aload_n hx hb dX6_station_58 rfl (lv_at hl 1 rfl) ?_
              refine lv_iload_n hx hb dX6_station_59 rfl (lv_at hl 0 rfl) ?_
              refine b_calli (As := [.int w35]) (rest := [.int w40]) ⟨hx, hb, hml, hown, hts⟩ 0 6 (g_X6_loadOf_0 l D cy q hH.2.1 z0 hJ.1 w35) (cwV 1 hts gX6_station_X6_loadOf rfl rfl rfl (by decide +kernel) ⟨Nat.le_of_ble_eq_true rfl, Nat.le_of_ble_eq_true rfl⟩) hK hZ hH (by decide) rfl rfl rfl hl.1 rfl (Nat.le_of_ble_eq_true rfl) ⟨Nat.zero_le _, Nat.zero_le _⟩ dX6_station_60 (fun w41 z41 H locs hp hH => ?_)
              rw [Ag_0 hp.1.2] at hH
              have i41 := hp.2.1
              have f41_0 := hp.2.2
              refine lv_isub hx hb dX6_station_63 ?_
              refine h_iE (a := (-26999)) (b := 27000) (iv_sub i40 i41 (by decide) (by decide) (by decide) (by decide)) (iv_subE i40 i41 (by decide) (by decide)) (fun w42 i42 e42 => ?_)
              exact hret _ z0 H locs _ _ ⟨hJ, i42⟩ hH dX6_station_64
            · skip
              have k43a : iv 1 1 p1 := iv_eql (iv_Eq c38) k37a (iv_lit (n := 1) 1 (by decide)) (by decide) (by decide)
              refine lv_aload_n hx hb dX6_station_46 rfl (lv_at hl 1 rfl) ?_
              refine lv_iload_n hx hb dX6_station_47 rfl (lv_at hl 0 rfl) ?_
              refine b_calli (As := [.int w35]) (rest := []) ⟨hx, hb, hml, hown, hts⟩ 0 6 (g_X6_loadOf_0 l D cy q hH.2.1 z0 hJ.1 w35) (cwV 1 hts gX6_station_X6_loadOf rfl rfl rfl (by decide +kernel) ⟨Nat.le_of_ble_eq_true rfl, Nat.le_of_ble_eq_true rfl⟩) hK hZ hH (by decide) rfl rfl rfl hl.1 rfl (Nat.le_of_ble_eq_true rfl) ⟨Nat.zero_le _, Nat.zero_le _⟩ dX6_station_48 (fun w44 z44 H locs hp hH => ?_)
              rw [Ag_0 hp.1.2] at hH
              have i44 := hp.2.1
              have f44_0 := hp.2.2
              refine lv_goto (tgt := 64) hx hb dX6_station_51 (by decide) ?_
              exact hret _ z0 H locs _ _ ⟨hJ, (iv_w i44 (by decide) (by decide))⟩ hH dX6_station_64
          · skip
            have k45a : iv 0 0 p1 := iv_eql (iv_Eq c36) k34a (iv_lit (n := 0) 0 (by decide)) (by decide) (by decide)
            refine lv_iload_n hx hb dX6_station_37 rfl (lv_at hl 0 rfl) ?_
            refine lv_goto (tgt := 64) hx hb dX6_station_38 (by decide) ?_
            exact hret _ z0 H locs _ _ ⟨hJ, (iv_w i35 (by decide) (by decide))⟩ hH dX6_station_64
        · skip
          have k46b : iv 3 2147483647 p1 := iv_ltr (iv_nLe c33) (iv_lit (n := 2) 2 (by decide)) k32b (by decide)
          exact HJ20   H locs ls   hH (lv_sub hl [] rfl)
set_option maxHeartbeats 4000000 in
set_option maxRecDepth 100000 in
theorem g_X6_squaresOf_0 (l : Launch) (D : va_G) (cy : Nat → ClassId) (q : Nat → Nat) (hq : bJ 23 q) (z0 : zS) (hI : IvM z0)  : bCl l yX6_squaresOf wsX6_squaresOf ({ frames := 3, cells := 0, slots := 0, locals := 69 }) D cy 23 (enM cy) q z0 [.ref (q 0), .ref (q 6)] (fun v z => jJ IvM 0 0 0 z0 z ∧ (v = SQ z0)) := by
  refine hM_l cX6_squaresOf (by decide) rfl (own := RX6) rfl hq (Nat.le_of_ble_eq_true rfl) ?_
  intro p e s m args below meth c Q ls H locs hx hb hml hown hts hK hZ hH hl hret
  have hl : lv_has ls 7 [(0, .ref (q 0)), (1, .ref (q 6))] := hl
  have hJ : jJ IvM 0 0 0 z0 z0 := jJ_rf _ _ _ hI
  have e00 : (0 : Int32).toInt = 0 := (by decide); have e01 : (1 : Int32).toInt = 1 := (by decide); have e02 : (2 : Int32).toInt = 2 := (by decide); have e03 : (3 : Int32).toInt = 3 := (by decide); have e010 : (10 : Int32).toInt = 10 := (by decide)
  have HL5 : ∀ (n : Nat) (x2_5 : Int64) (x4_5 : Int32) (H : Heap) (locs : List Loc) (ls : Array Slot), iv 1 11 x4_5 → (x2_5 = sqF z0 (z0.2.1 6) ((x4_5 : Int32).toNatClampNeg - 1) ∧ 1 ≤ (x4_5 : Int32).toInt) → bH D 23 (enM cy) q z0 s.heap H locs → lv_has ls 7 [(0, .ref (q 0)), (1, .ref (q 6)), (2, .long x2_5), (4, .int x4_5)] → (11 - x4_5.toInt).toNat = n → W p l e ({ frames := 3, cells := 0, slots := 0, locals := 69 }) s m args below meth c H locs 0 0 Q (F0 m 5 ls []) := by
    intro n5
    induction n5 using Nat.strongRecOn with
    | ind n5 ih5 =>
      intro x2_5 x4_5 H locs ls h4_5 ex_5 hH hl hn5
      have := h4_5.1; have := h4_5.2
      refine lv_iload hx hb dX6_squaresOf_5 (lv_at hl 3 rfl) ?_
      refine lv_bipush (v := 10) hx hb dX6_squaresOf_7 (by decide) ?_
      refine lv_icmp_gt (tgt := 40) hx hb dX6_squaresOf_9 (by decide) (fun c37 => ?_) (fun c37 => ?_)
      · skip
        have r37 := (iv_Lt c37)
        have k38b : iv 11 11 x4_5 := iv_ltr (iv_Lt c37) (iv_lit (n := 10) 10 (by decide)) h4_5 (by decide)
        refine lv_lload_n hx hb dX6_squaresOf_40 rfl (lv_at hl 2 rfl) ?_
        exact hret _ z0 H locs _ _ ⟨hJ, (by unfold SQ; rw [show (10 : Nat) = (x4_5 : Int32).toNatClampNeg - 1 from (by have := iv_nat k38b (by decide); omega)]; exact ex_5.1)⟩ hH dX6_squaresOf_41
      · skip
        have r37 := (iv_nLt c37)
        have k39a : iv 1 10 x4_5 := iv_lel (iv_nLt c37) h4_5 (iv_lit (n := 10) 10 (by decide))
        refine lv_aload_n hx hb dX6_squaresOf_12 rfl (lv_at hl 0 rfl) ?_
        refine lv_aload_n hx hb dX6_squaresOf_13 rfl (lv_at hl 0 rfl) ?_
        refine lv_aload_n hx hb dX6_squaresOf_14 rfl (lv_at hl 1 rfl) ?_
        refine lv_iload hx hb dX6_squaresOf_15 (lv_at hl 3 rfl) ?_
        refine b_calli (As := [.ref (q 6), .int x4_5]) (rest := [.ref (q 0)]) ⟨hx, hb, hml, hown, hts⟩ 0 6 (g_X6_setAt_0_6 l D cy q hH.2.1 z0 hJ.1 x4_5) (cwV 2 hts gX6_squaresOf_X6_setAt rfl rfl rfl (by decide +kernel) ⟨Nat.le_of_ble_eq_true rfl, Nat.le_of_ble_eq_true rfl⟩) hK hZ hH (by decide) rfl rfl rfl hl.1 rfl (Nat.le_of_ble_eq_true rfl) ⟨Nat.zero_le _, Nat.zero_le _⟩ dX6_squaresOf_17 (fun w40 z40 H locs hp hH => ?_)
        rw [Ag_0 hp.1.2] at hH
        have i40 := hp.2.1
        have := i40.1; have := i40.2
        have f40_0 := hp.2.2
        refine b_calli (As := [.int w40]) (rest := []) ⟨hx, hb, hml, hown, hts⟩ 0 6 (g_X6_loadOf_0 l D cy q hH.2.1 z0 hJ.1 w40) (cwV 1 hts gX6_squaresOf_X6_loadOf rfl rfl rfl (by decide +kernel) ⟨Nat.le_of_ble_eq_true rfl, Nat.le_of_ble_eq_true rfl⟩) hK hZ hH (by decide) rfl rfl rfl hl.1 rfl (Nat.le_of_ble_eq_true rfl) ⟨Nat.zero_le _, Nat.zero_le _⟩ dX6_squaresOf_20 (fun w41 z41 H locs hp hH => ?_)
        rw [Ag_0 hp.1.2] at hH
        have i41 := hp.2.1
        have := i41.1; have := i41.2
        have f41_0 := hp.2.2
        refine lv_i2l hx hb dX6_squaresOf_23 rfl ?_
        refine lv_lstore (lv' := [(5, .long w41.toInt64), (0, .ref (q 0)), (1, .ref (q 6)), (2, .long x2_5), (4, .int x4_5)]) hx hb dX6_squaresOf_24 hl (by decide) rfl (fun ls hl => ?_)
        refine lv_lload_n hx hb dX6_squaresOf_26 rfl (lv_at hl 3 rfl) ?_
        refine lv_lload hx hb dX6_squaresOf_27 (lv_at hl 0 rfl) ?_
        refine lv_lload hx hb dX6_squaresOf_29 (lv_at hl 0 rfl) ?_
        refine lv_lmul hx hb dX6_squaresOf_31 ?_
        refine lv_ladd hx hb dX6_squaresOf_32 ?_
        refine lv_lstore_n (lv' := [(2, .long (x2_5 + (w41.toInt64 * w41.toInt64))), (5, .long w41.toInt64), (0, .ref (q 0)), (1, .ref (q 6)), (4, .int x4_5)]) hx hb dX6_squaresOf_33 rfl hl (by decide) rfl (fun ls hl => ?_)
        have j42 : iv 2 11 (x4_5 + 1) := iv_add k39a (iv_lit (n := 1) 1 (by decide)) (by decide) (by decide) (by decide) (by decide)
        have e42 : (x4_5 + 1).toInt = x4_5.toInt + 1 := (iv_addE k39a (iv_lit (n := 1) 1 (by decide)) (by decide) (by decide)).trans rfl
        refine lv_iinc (v := (x4_5 + 1)) (lv' := [(4, .int (x4_5 + 1)), (2, .long (x2_5 + (w41.toInt64 * w41.toInt64))), (5, .long w41.toInt64), (0, .ref (q 0)), (1, .ref (q 6))]) hx hb dX6_squaresOf_34 hl (k := 4) rfl rfl (by decide) rfl (fun ls hl => ?_)
        refine lv_goto (tgt := 5) hx hb dX6_squaresOf_37 (by decide) ?_
        exact ih5 _ (ms_up e42 j42.2 hn5) (x2_5 + (w41.toInt64 * w41.toInt64)) (x4_5 + 1)  H locs ls (iv_w j42 (by decide) (by decide)) ⟨sq_s (b := 10) ex_5.1 (iv_w k39a (by decide) (by decide)) (by have := iv_nat k39a (by decide); omega) (by have := iv_nat k39a (by decide); have := iv_nat j42 (by decide); omega) f40_0 f41_0, by omega⟩  hH (lv_sub hl [3, 4, 1, 0] rfl) rfl
  refine lv_lconst (v := 0) hx hb dX6_squaresOf_0 (by decide) ?_
  refine lv_lstore_n (lv' := [(2, .long 0), (0, .ref (q 0)), (1, .ref (q 6))]) hx hb dX6_squaresOf_1 rfl hl (by decide) rfl (fun ls hl => ?_)
  refine lv_iconst (v := 1) hx hb dX6_squaresOf_2 (by decide) ?_
  refine lv_istore (lv' := [(4, .int 1), (2, .long 0), (0, .ref (q 0)), (1, .ref (q 6))]) hx hb dX6_squaresOf_3 hl (by decide) rfl (fun ls hl => ?_)
  exact HL5 _ 0 1  H locs ls (iv_w (iv_lit (n := 1) 1 (by decide)) (by decide) (by decide)) ⟨rfl, by omega⟩  hH (lv_sub hl [2, 3, 1, 0] rfl) rfl
set_option maxHeartbeats 4000000 in
set_option maxRecDepth 100000 in
theorem g_X6_squares_0 (l : Launch) (D : va_G) (cy : Nat → ClassId) (q : Nat → Nat) (hq : bJ 23 q) (z0 : zS) (hI : IvM z0)  : bCl l yX6_squares wsX6_squares ({ frames := 4, cells := 0, slots := 0, locals := 95 }) D cy 23 (enM cy) q z0 [.ref (q 0)] (fun v z => jJ IvM 0 0 0 z0 z) := by
  refine hM_l cX6_squares (by decide) rfl (own := RX6) rfl hq (Nat.le_of_ble_eq_true rfl) ?_
  intro p e s m args below meth c Q ls H locs hx hb hml hown hts hK hZ hH hl hret
  have hl : lv_has ls 1 [(0, .ref (q 0))] := hl
  have hJ : jJ IvM 0 0 0 z0 z0 := jJ_rf _ _ _ hI
  refine lv_aload_n hx hb dX6_squares_0 rfl (lv_at hl 0 rfl) ?_
  refine lv_aload_n hx hb dX6_squares_1 rfl (lv_at hl 0 rfl) ?_
  refine b_get (ci := 6) (C := RX6) (T := TX6) (Nf := 29) (v := .ref (q 6)) hx hb hts in_X6_squares_X6 hown hK hH 0 (by decide) rfl rfl 6 (by decide) (hts (.fieldLink RX6 25 "StationLineModel" "hand" "[I") (List.mem_of_getElem? (i := 1) rfl)) rfl dX6_squares_2 ?_
  refine b_calll (As := [.ref (q 6)]) (rest := []) ⟨hx, hb, hml, hown, hts⟩ 0 6 (g_X6_squaresOf_0 l D cy q hH.2.1 z0 hJ.1 ) (cwV 1 hts gX6_squares_X6_squaresOf rfl rfl rfl (by decide +kernel) ⟨Nat.le_of_ble_eq_true rfl, Nat.le_of_ble_eq_true rfl⟩) hK hZ hH (by decide) rfl rfl rfl hl.1 rfl (Nat.le_of_ble_eq_true rfl) ⟨Nat.zero_le _, Nat.zero_le _⟩ dX6_squares_5 (fun w2 z2 H locs hp hH => ?_)
  rw [Ag_0 hp.1.2] at hH
  have f2_0 := hp.2
  exact hret _ z0 H locs _ _ hJ hH dX6_squares_8
set_option maxHeartbeats 4000000 in
set_option maxRecDepth 100000 in
theorem g_X6_early_0 (l : Launch) (D : va_G) (cy : Nat → ClassId) (q : Nat → Nat) (hq : bJ 23 q) (z0 : zS) (hI : IvM z0) (p0 : Int32) : bCi l yX6_early wsX6_early ({ frames := 3, cells := 0, slots := 0, locals := 69 }) D cy 23 (enM cy) q z0 [.ref (q 0), .int p0] (fun v z => jJ IvM 0 0 0 z0 z ∧ iv (-2147483648) 2147483647 v) := by
  refine hM_i cX6_early (by decide) rfl (own := RX6) rfl hq (Nat.le_of_ble_eq_true rfl) ?_
  intro p e s m args below meth c Q ls H locs hx hb hml hown hts hK hZ hH hl hret
  have hl : lv_has ls 2 [(0, .ref (q 0)), (1, .int p0)] := hl
  have hJ : jJ IvM 0 0 0 z0 z0 := jJ_rf _ _ _ hI
  refine lv_aload_n hx hb dX6_early_0 rfl (lv_at hl 0 rfl) ?_
  refine lv_iload_n hx hb dX6_early_1 rfl (lv_at hl 1 rfl) ?_
  refine b_calli (As := [.int p0]) (rest := []) ⟨hx, hb, hml, hown, hts⟩ 0 6 (g_X6_isTask_0 l D cy q hH.2.1 z0 hJ.1 p0) (cwV 1 hts gX6_early_X6_isTask rfl rfl rfl (by decide +kernel) ⟨Nat.le_of_ble_eq_true rfl, Nat.le_of_ble_eq_true rfl⟩) hK hZ hH (by decide) rfl rfl rfl hl.1 rfl (Nat.le_of_ble_eq_true rfl) ⟨Nat.zero_le _, Nat.zero_le _⟩ dX6_early_2 (fun w11 z11 H locs hp hH => ?_)
  rw [Ag_0 hp.1.2] at hH
  have i11 := hp.2.1
  have tr11_0 := hp.2.2.1
  have f11_0 := hp.2.2.2.1
  have f11_1 := hp.2.2.2.2
  refine lv_if_eq (tgt := 28) hx hb dX6_early_5 (by decide) (fun c12 => ?_) (fun c12 => ?_)
  · skip
    have k13a : iv 0 0 w11 := iv_eql (iv_Eq c12) i11 (iv_lit (n := 0) 0 (by decide)) (by decide) (by decide)
    refine lv_bipush (v := (-2)) hx hb dX6_early_28 (by decide) ?_
    exact hret _ z0 H locs _ _ ⟨hJ, (iv_w (iv_lit (n := (-2)) (-2) (by decide)) (by decide) (by decide))⟩ hH dX6_early_30
  · skip
    have k14 : iv 0 9 p0 := (tr11_0).resolve_left c12
    have k15a : iv 1 1 w11 := iv_neLo (iv_nEq c12) i11 (by decide) (by decide)
    refine lv_aload_n hx hb dX6_early_8 rfl (lv_at hl 0 rfl) ?_
    refine lv_aload_n hx hb dX6_early_9 rfl (lv_at hl 0 rfl) ?_
    refine lv_iconst (v := 1) hx hb dX6_early_10 (by decide) ?_
    refine lv_iload_n hx hb dX6_early_11 rfl (lv_at hl 1 rfl) ?_
    refine lv_ishl hx hb dX6_early_12 ?_
    refine h_i (a := 1) (b := 512) (iv_bit k14 (by decide) (by decide)) (fun w16 i16 => ?_)
    refine lv_aload_n hx hb dX6_early_13 rfl (lv_at hl 0 rfl) ?_
    refine lv_iload_n hx hb dX6_early_14 rfl (lv_at hl 1 rfl) ?_
    refine b_calli (As := [.int p0]) (rest := [.int w16, .ref (q 0), .ref (q 0)]) ⟨hx, hb, hml, hown, hts⟩ 0 6 (g_X6_leading_0 l D cy q hH.2.1 z0 hJ.1 p0 k14) (cwV 1 hts gX6_early_X6_leading rfl rfl rfl (by decide +kernel) ⟨Nat.le_of_ble_eq_true rfl, Nat.le_of_ble_eq_true rfl⟩) hK hZ hH (by decide) rfl rfl rfl hl.1 rfl (Nat.le_of_ble_eq_true rfl) ⟨Nat.zero_le _, Nat.zero_le _⟩ dX6_early_15 (fun w17 z17 H locs hp hH => ?_)
    rw [Ag_0 hp.1.2] at hH
    have f17_0 := hp.2.2.1
    have f17_1 := hp.2.2.2
    refine lv_ior hx hb dX6_early_18 ?_
    refine lv_topi (fun w18 _ => ?_)
    refine b_calli (As := [.int w18]) (rest := [.ref (q 0)]) ⟨hx, hb, hml, hown, hts⟩ 0 6 (g_X6_loadOf_0 l D cy q hH.2.1 z0 hJ.1 w18) (cwV 1 hts gX6_early_X6_loadOf rfl rfl rfl (by decide +kernel) ⟨Nat.le_of_ble_eq_true rfl, Nat.le_of_ble_eq_true rfl⟩) hK hZ hH (by decide) rfl rfl rfl hl.1 rfl (Nat.le_of_ble_eq_true rfl) ⟨Nat.zero_le _, Nat.zero_le _⟩ dX6_early_19 (fun w19 z19 H locs hp hH => ?_)
    rw [Ag_0 hp.1.2] at hH
    have i19 := hp.2.1
    have f19_0 := hp.2.2
    refine b_calli (As := [.int w19]) (rest := []) ⟨hx, hb, hml, hown, hts⟩ 0 6 (g_X6_byRoom_0 l D cy q hH.2.1 z0 hJ.1 w19) (cwV 1 hts gX6_early_X6_byRoom rfl rfl rfl (by decide +kernel) ⟨Nat.le_of_ble_eq_true rfl, Nat.le_of_ble_eq_true rfl⟩) hK hZ hH (by decide) rfl rfl rfl hl.1 rfl (Nat.le_of_ble_eq_true rfl) ⟨Nat.zero_le _, Nat.zero_le _⟩ dX6_early_22 (fun w20 z20 H locs hp hH => ?_)
    rw [Ag_0 hp.1.2] at hH
    refine lv_goto (tgt := 30) hx hb dX6_early_25 (by decide) ?_
    exact hret _ z0 H locs _ _ ⟨hJ, (iv_all w20)⟩ hH dX6_early_30
set_option maxHeartbeats 4000000 in
set_option maxRecDepth 100000 in
theorem g_X6_late_0 (l : Launch) (D : va_G) (cy : Nat → ClassId) (q : Nat → Nat) (hq : bJ 23 q) (z0 : zS) (hI : IvM z0) (p0 : Int32) (p1 : Int32) : bCi l yX6_late wsX6_late ({ frames := 3, cells := 0, slots := 0, locals := 69 }) D cy 23 (enM cy) q z0 [.ref (q 0), .int p0, .int p1] (fun v z => jJ IvM 0 0 0 z0 z ∧ iv (-2147483648) 2147483647 v) := by
  refine hM_i cX6_late (by decide) rfl (own := RX6) rfl hq (Nat.le_of_ble_eq_true rfl) ?_
  intro p e s m args below meth c Q ls H locs hx hb hml hown hts hK hZ hH hl hret
  have hl : lv_has ls 3 [(0, .ref (q 0)), (1, .int p0), (2, .int p1)] := hl
  have hJ : jJ IvM 0 0 0 z0 z0 := jJ_rf _ _ _ hI
  have HJ19 : ∀ (H : Heap) (locs : List Loc) (ls : Array Slot), bH D 23 (enM cy) q z0 s.heap H locs → lv_has ls 3 [] → W p l e ({ frames := 3, cells := 0, slots := 0, locals := 69 }) s m args below meth c H locs 0 0 Q (F0 m 19 ls []) := by
    intro H locs ls hH hl
    refine lv_bipush (v := (-2)) hx hb dX6_late_19 (by decide) ?_
    refine lv_goto (tgt := 45) hx hb dX6_late_21 (by decide) ?_
    exact hret _ z0 H locs _ _ ⟨hJ, (iv_w (iv_lit (n := (-2)) (-2) (by decide)) (by decide) (by decide))⟩ hH dX6_late_45
  refine lv_aload_n hx hb dX6_late_0 rfl (lv_at hl 0 rfl) ?_
  refine lv_iload_n hx hb dX6_late_1 rfl (lv_at hl 1 rfl) ?_
  refine b_calli (As := [.int p0]) (rest := []) ⟨hx, hb, hml, hown, hts⟩ 0 6 (g_X6_isTask_0 l D cy q hH.2.1 z0 hJ.1 p0) (cwV 1 hts gX6_late_X6_isTask rfl rfl rfl (by decide +kernel) ⟨Nat.le_of_ble_eq_true rfl, Nat.le_of_ble_eq_true rfl⟩) hK hZ hH (by decide) rfl rfl rfl hl.1 rfl (Nat.le_of_ble_eq_true rfl) ⟨Nat.zero_le _, Nat.zero_le _⟩ dX6_late_2 (fun w19 z19 H locs hp hH => ?_)
  rw [Ag_0 hp.1.2] at hH
  have i19 := hp.2.1
  have tr19_0 := hp.2.2.1
  have f19_0 := hp.2.2.2.1
  have f19_1 := hp.2.2.2.2
  refine lv_if_eq (tgt := 19) hx hb dX6_late_5 (by decide) (fun c20 => ?_) (fun c20 => ?_)
  · skip
    have k21a : iv 0 0 w19 := iv_eql (iv_Eq c20) i19 (iv_lit (n := 0) 0 (by decide)) (by decide) (by decide)
    exact HJ19   H locs ls   hH (lv_sub hl [] rfl)
  · skip
    have k22 : iv 0 9 p0 := (tr19_0).resolve_left c20
    have k23a : iv 1 1 w19 := iv_neLo (iv_nEq c20) i19 (by decide) (by decide)
    refine lv_iload_n hx hb dX6_late_8 rfl (lv_at hl 2 rfl) ?_
    refine lv_iconst (v := 1) hx hb dX6_late_9 (by decide) ?_
    refine lv_icmp_lt (tgt := 19) hx hb dX6_late_10 (by decide) (fun c24 => ?_) (fun c24 => ?_)
    · skip
      have k25a : iv (-2147483648) 0 p1 := iv_ltl (iv_Lt c24) (iv_all p1) (iv_lit (n := 1) 1 (by decide)) (by decide)
      exact HJ19   H locs ls   hH (lv_sub hl [] rfl)
    · skip
      have k26b : iv 1 2147483647 p1 := iv_ler (iv_nLt c24) (iv_lit (n := 1) 1 (by decide)) (iv_all p1)
      refine lv_iload_n hx hb dX6_late_13 rfl (lv_at hl 2 rfl) ?_
      refine lv_bipush (v := 10) hx hb dX6_late_14 (by decide) ?_
      refine lv_icmp_le (tgt := 24) hx hb dX6_late_16 (by decide) (fun c27 => ?_) (fun c27 => ?_)
      · skip
        have k28a : iv 1 10 p1 := iv_lel (iv_Le c27) k26b (iv_lit (n := 10) 10 (by decide))
        refine lv_iload_n hx hb dX6_late_24 rfl (lv_at hl 2 rfl) ?_
        refine lv_iconst (v := 1) hx hb dX6_late_25 (by decide) ?_
        refine lv_iadd hx hb dX6_late_26 ?_
        refine h_iE (a := 2) (b := 11) (t := p1.toInt + 1) (iv_add k28a (iv_lit (n := 1) 1 (by decide)) (by decide) (by decide) (by decide) (by decide)) ((iv_addE k28a (iv_lit (n := 1) 1 (by decide)) (by decide) (by decide)).trans rfl) (fun w29 i29 e29 => ?_)
        refine lv_aload_n hx hb dX6_late_27 rfl (lv_at hl 0 rfl) ?_
        refine lv_aload_n hx hb dX6_late_28 rfl (lv_at hl 0 rfl) ?_
        refine lv_iconst (v := 1) hx hb dX6_late_29 (by decide) ?_
        refine lv_iload_n hx hb dX6_late_30 rfl (lv_at hl 1 rfl) ?_
        refine lv_ishl hx hb dX6_late_31 ?_
        refine h_i (a := 1) (b := 512) (iv_bit k22 (by decide) (by decide)) (fun w30 i30 => ?_)
        refine lv_aload_n hx hb dX6_late_32 rfl (lv_at hl 0 rfl) ?_
        refine lv_iload_n hx hb dX6_late_33 rfl (lv_at hl 1 rfl) ?_
        refine b_calli (As := [.int p0]) (rest := [.int w30, .ref (q 0), .ref (q 0), .int w29]) ⟨hx, hb, hml, hown, hts⟩ 0 6 (g_X6_following_0 l D cy q hH.2.1 z0 hJ.1 p0 k22) (cwV 1 hts gX6_late_X6_following rfl rfl rfl (by decide +kernel) ⟨Nat.le_of_ble_eq_true rfl, Nat.le_of_ble_eq_true rfl⟩) hK hZ hH (by decide) rfl rfl rfl hl.1 rfl (Nat.le_of_ble_eq_true rfl) ⟨Nat.zero_le _, Nat.zero_le _⟩ dX6_late_34 (fun w31 z31 H locs hp hH => ?_)
        rw [Ag_0 hp.1.2] at hH
        have i31 := hp.2
        refine lv_ior hx hb dX6_late_37 ?_
        refine h_i (a := 0) (b := 1023) (iv_or 10 (b := 512) (d := 1023) (iv_w i30 (by decide) (by decide)) (iv_w i31 (by decide) (by decide)) (by decide) (by decide) (by decide) (by decide)) (fun w32 i32 => ?_)
        refine b_calli (As := [.int w32]) (rest := [.ref (q 0), .int w29]) ⟨hx, hb, hml, hown, hts⟩ 0 6 (g_X6_loadOf_0 l D cy q hH.2.1 z0 hJ.1 w32) (cwV 1 hts gX6_late_X6_loadOf rfl rfl rfl (by decide +kernel) ⟨Nat.le_of_ble_eq_true rfl, Nat.le_of_ble_eq_true rfl⟩) hK hZ hH (by decide) rfl rfl rfl hl.1 rfl (Nat.le_of_ble_eq_true rfl) ⟨Nat.zero_le _, Nat.zero_le _⟩ dX6_late_38 (fun w33 z33 H locs hp hH => ?_)
        rw [Ag_0 hp.1.2] at hH
        have i33 := hp.2.1
        have f33_0 := hp.2.2
        refine b_calli (As := [.int w33]) (rest := [.int w29]) ⟨hx, hb, hml, hown, hts⟩ 0 6 (g_X6_byRoom_0 l D cy q hH.2.1 z0 hJ.1 w33) (cwV 1 hts gX6_late_X6_byRoom rfl rfl rfl (by decide +kernel) ⟨Nat.le_of_ble_eq_true rfl, Nat.le_of_ble_eq_true rfl⟩) hK hZ hH (by decide) rfl rfl rfl hl.1 rfl (Nat.le_of_ble_eq_true rfl) ⟨Nat.zero_le _, Nat.zero_le _⟩ dX6_late_41 (fun w34 z34 H locs hp hH => ?_)
        rw [Ag_0 hp.1.2] at hH
        refine lv_isub hx hb dX6_late_44 ?_
        refine lv_topi (fun w35 _ => ?_)
        exact hret _ z0 H locs _ _ ⟨hJ, (iv_all w35)⟩ hH dX6_late_45
      · skip
        have k36b : iv 11 2147483647 p1 := iv_ltr (iv_nLe c27) (iv_lit (n := 10) 10 (by decide)) k26b (by decide)
        exact HJ19   H locs ls   hH (lv_sub hl [] rfl)
set_option maxHeartbeats 4000000 in
set_option maxRecDepth 100000 in
theorem g_X6_tellSets_0 (l : Launch) (D : va_G) (cy : Nat → ClassId) (q : Nat → Nat) (hq : bJ 23 q) (z0 : zS) (hI : IvM z0)  : bCv l yX6_tellSets wsX6_tellSets ({ frames := 3, cells := 0, slots := 0, locals := 69 }) D cy 23 (enM cy) q z0 [.ref (q 0)] (fun z => jJ IvM 0 507904 0 z0 z) := by
  refine hM_v cX6_tellSets (by decide) rfl (own := RX6) rfl hq (Nat.le_of_ble_eq_true rfl) ?_
  intro p e s m args below meth c Q ls H locs hx hb hml hown hts hK hZ hH hl hret
  have hl : lv_has ls 7 [(0, .ref (q 0))] := hl
  have hJ : jJ IvM 0 507904 0 z0 z0 := jJ_rf _ _ _ hI
  have HL2 : ∀ (n : Nat) (x1_2 : Int32) (z_2 : zS) (H : Heap) (locs : List Loc) (ls : Array Slot), iv 0 10 x1_2 → jJ IvM 0 507904 0 z0 z_2 → bH D 23 (enM cy) q z_2 s.heap H locs → lv_has ls 7 [(0, .ref (q 0)), (1, .int x1_2)] → (10 - x1_2.toInt).toNat = n → W p l e ({ frames := 3, cells := 0, slots := 0, locals := 69 }) s m args below meth c H locs 0 0 Q (F0 m 2 ls []) := by
    intro n2
    induction n2 using Nat.strongRecOn with
    | ind n2 ih2 =>
      intro x1_2 z_2 H locs ls h1_2 hJ hH hl hn2
      have HL45 : ∀ (n : Nat) (x1_45 : Int32) (x2_45 : Int32) (z_45 : zS) (H : Heap) (locs : List Loc) (ls : Array Slot), iv 1 27000 x1_45 → iv 0 1024 x2_45 → jJ IvM 0 507904 0 z0 z_45 → bH D 23 (enM cy) q z_45 s.heap H locs → lv_has ls 7 [(0, .ref (q 0)), (1, .int x1_45), (2, .int x2_45)] → (1024 - x2_45.toInt).toNat = n → W p l e ({ frames := 3, cells := 0, slots := 0, locals := 69 }) s m args below meth c H locs 0 0 Q (F0 m 45 ls []) := by
        intro n45
        induction n45 using Nat.strongRecOn with
        | ind n45 ih45 =>
          intro x1_45 x2_45 z_45 H locs ls h1_45 h2_45 hJ hH hl hn45
          have HJ86 : ∀ (t0_86 : Int32) (z_86 : zS) (H : Heap) (locs : List Loc) (ls : Array Slot), iv 0 1023 x2_45 → iv 0 1 t0_86 → jJ IvM 0 507904 0 z0 z_86 → bH D 23 (enM cy) q z_86 s.heap H locs → lv_has ls 7 [(0, .ref (q 0)), (1, .int x1_45), (2, .int x2_45)] → W p l e ({ frames := 3, cells := 0, slots := 0, locals := 69 }) s m args below meth c H locs 0 0 Q (F0 m 86 ls [.int t0_86]) := by
            intro t0_86 z_86 H locs ls h2_86 g0_86 hJ hH hl
            have HL90 : ∀ (n : Nat) (x3_90 : Int32) (x4_90 : Int32) (z_90 : zS) (H : Heap) (locs : List Loc) (ls : Array Slot), iv 0 1 x3_90 → iv 0 10 x4_90 → jJ IvM 0 507904 0 z0 z_90 → bH D 23 (enM cy) q z_90 s.heap H locs → lv_has ls 7 [(0, .ref (q 0)), (1, .int x1_45), (2, .int x2_45), (3, .int x3_90), (4, .int x4_90)] → (10 - x4_90.toInt).toNat = n → W p l e ({ frames := 3, cells := 0, slots := 0, locals := 69 }) s m args below meth c H locs 0 0 Q (F0 m 90 ls []) := by
              intro n90
              induction n90 using Nat.strongRecOn with
              | ind n90 ih90 =>
                intro x3_90 x4_90 z_90 H locs ls h3_90 h4_90 hJ hH hl hn90
                have HJ126 : ∀ (t0_126 : Int32) (t1_126 : Int32) (t2_126 : Int32) (z_126 : zS) (H : Heap) (locs : List Loc) (ls : Array Slot), iv 0 9 x4_90 → iv 0 1023 t2_126 → iv 1 10 (z_126.1 0) → jJ IvM 0 507904 0 z0 z_126 → bH D 23 (enM cy) q z_126 s.heap H locs → lv_has ls 7 [(0, .ref (q 0)), (1, .int x1_45), (2, .int x2_45), (3, .int x3_90), (4, .int x4_90)] → W p l e ({ frames := 3, cells := 0, slots := 0, locals := 69 }) s m args below meth c H locs 0 0 Q (F0 m 126 ls [.int t0_126, .int t1_126, .int t2_126, .ref (q 15)]) := by
                  intro t0_126 t1_126 t2_126 z_126 H locs ls h4_126 g2_126 gh0_126 hJ hH hl
                  have HL131 : ∀ (n : Nat) (x3_131 : Int32) (x5_131 : Int32) (z_131 : zS) (H : Heap) (locs : List Loc) (ls : Array Slot), iv 0 1 x3_131 → iv 0 9 x5_131 → iv 1 10 (z_131.1 0) → jJ IvM 0 507904 0 z0 z_131 → bH D 23 (enM cy) q z_131 s.heap H locs → lv_has ls 7 [(0, .ref (q 0)), (1, .int x1_45), (2, .int x2_45), (3, .int x3_131), (4, .int x4_90), (5, .int x5_131)] → (9 - x5_131.toInt).toNat = n → W p l e ({ frames := 3, cells := 0, slots := 0, locals := 69 }) s m args below meth c H locs 0 0 Q (F0 m 131 ls []) := by
                    intro n131
                    induction n131 using Nat.strongRecOn with
                    | ind n131 ih131 =>
                      intro x3_131 x5_131 z_131 H locs ls h3_131 h5_131 gh0_131 hJ hH hl hn131
                      have HJ222 : ∀ (t0_222 : Int32) (t1_222 : Int32) (z_222 : zS) (H : Heap) (locs : List Loc) (ls : Array Slot), iv 1 9 x4_90 → iv 0 8 x5_131 → iv 0 1 t0_222 → iv 0 1 t1_222 → iv 1 10 (z_222.1 0) → jJ IvM 0 507904 0 z0 z_222 → bH D 23 (enM cy) q z_222 s.heap H locs → lv_has ls 7 [(0, .ref (q 0)), (1, .int x1_45), (2, .int x2_45), (4, .int x4_90), (5, .int x5_131)] → W p l e ({ frames := 3, cells := 0, slots := 0, locals := 69 }) s m args below meth c H locs 0 0 Q (F0 m 222 ls [.int t0_222, .int t1_222]) := by
                        intro t0_222 t1_222 z_222 H locs ls h4_222 h5_222 g0_222 g1_222 gh0_222 hJ hH hl
                        refine lv_iand hx hb dX6_tellSets_222 ?_
                        refine h_iL (a := 0) (b := 1) (iv_and g1_222 g0_222 (by decide) (by decide)) (iv_andlt g1_222 (by decide)) (fun w1817 i1817 e1817 => ?_)
                        refine lv_istore_n (lv' := [(3, .int w1817), (0, .ref (q 0)), (1, .int x1_45), (2, .int x2_45), (4, .int x4_90), (5, .int x5_131)]) hx hb dX6_tellSets_223 rfl hl (by decide) rfl (fun ls hl => ?_)
                        have j1818 : iv 1 9 (x5_131 + 1) := iv_add h5_222 (iv_lit (n := 1) 1 (by decide)) (by decide) (by decide) (by decide) (by decide)
                        have e1818 : (x5_131 + 1).toInt = x5_131.toInt + 1 := (iv_addE h5_222 (iv_lit (n := 1) 1 (by decide)) (by decide) (by decide)).trans rfl
                        refine lv_iinc (v := (x5_131 + 1)) (lv' := [(5, .int (x5_131 + 1)), (3, .int w1817), (0, .ref (q 0)), (1, .int x1_45), (2, .int x2_45), (4, .int x4_90)]) hx hb dX6_tellSets_224 hl (k := 5) rfl rfl (by decide) rfl (fun ls hl => ?_)
                        refine lv_goto (tgt := 131) hx hb dX6_tellSets_227 (by decide) ?_
                        exact ih131 _ (ms_up e1818 j1818.2 hn131) w1817 (x5_131 + 1) z_222 H locs ls i1817 (iv_w j1818 (by decide) (by decide)) gh0_222 hJ hH (lv_sub hl [2, 3, 4, 1, 5, 0] rfl) rfl
                      have HJ217 : ∀ (t0_217 : Int32) (z_217 : zS) (H : Heap) (locs : List Loc) (ls : Array Slot), iv 1 9 x4_90 → iv 0 8 x5_131 → iv 0 1 t0_217 → iv 1 10 (z_217.1 0) → jJ IvM 0 507904 0 z0 z_217 → bH D 23 (enM cy) q z_217 s.heap H locs → lv_has ls 7 [(0, .ref (q 0)), (1, .int x1_45), (2, .int x2_45), (4, .int x4_90), (5, .int x5_131)] → W p l e ({ frames := 3, cells := 0, slots := 0, locals := 69 }) s m args below meth c H locs 0 0 Q (F0 m 217 ls [.int t0_217]) := by
                        intro t0_217 z_217 H locs ls h4_217 h5_217 g0_217 gh0_217 hJ hH hl
                        refine lv_iconst (v := 1) hx hb dX6_tellSets_217 (by decide) ?_
                        refine lv_goto (tgt := 222) hx hb dX6_tellSets_218 (by decide) ?_
                        exact HJ222 1 t0_217 z_217 H locs ls h4_217 h5_217 (iv_w (iv_lit (n := 1) 1 (by decide)) (by decide) (by decide)) g0_217 gh0_217 hJ hH (lv_sub hl [0, 1, 2, 3, 4] rfl)
                      have HJ170 : ∀ (x6_170 : Int32) (t0_170 : Int32) (t1_170 : Int32) (z_170 : zS) (H : Heap) (locs : List Loc) (ls : Array Slot), iv 1 9 x4_90 → iv 0 8 x5_131 → iv 0 1 t0_170 → iv 0 1 t1_170 → iv 1 10 (z_170.1 0) → jJ IvM 0 507904 0 z0 z_170 → bH D 23 (enM cy) q z_170 s.heap H locs → lv_has ls 7 [(0, .ref (q 0)), (1, .int x1_45), (2, .int x2_45), (4, .int x4_90), (5, .int x5_131), (6, .int x6_170)] → W p l e ({ frames := 3, cells := 0, slots := 0, locals := 69 }) s m args below meth c H locs 0 0 Q (F0 m 170 ls [.int t0_170, .int t1_170]) := by
                        intro x6_170 t0_170 t1_170 z_170 H locs ls h4_170 h5_170 g0_170 g1_170 gh0_170 hJ hH hl
                        have HJ190 : ∀ (t0_190 : Int32) (t1_190 : Int32) (t2_190 : Int32) (z_190 : zS) (H : Heap) (locs : List Loc) (ls : Array Slot), iv 0 1 t0_190 → iv 0 1 t1_190 → iv 0 1 t2_190 → iv 1 10 (z_190.1 0) → jJ IvM 0 507904 0 z0 z_190 → bH D 23 (enM cy) q z_190 s.heap H locs → lv_has ls 7 [(0, .ref (q 0)), (1, .int x1_45), (2, .int x2_45), (4, .int x4_90), (5, .int x5_131), (6, .int x6_170)] → W p l e ({ frames := 3, cells := 0, slots := 0, locals := 69 }) s m args below meth c H locs 0 0 Q (F0 m 190 ls [.int t0_190, .int t1_190, .int t2_190]) := by
                          intro t0_190 t1_190 t2_190 z_190 H locs ls g0_190 g1_190 g2_190 gh0_190 hJ hH hl
                          have HJ221 : ∀ (t0_221 : Int32) (z_221 : zS) (H : Heap) (locs : List Loc) (ls : Array Slot), iv 0 1 t0_221 → iv 1 10 (z_221.1 0) → jJ IvM 0 507904 0 z0 z_221 → bH D 23 (enM cy) q z_221 s.heap H locs → lv_has ls 7 [(0, .ref (q 0)), (1, .int x1_45), (2, .int x2_45), (4, .int x4_90), (5, .int x5_131)] → W p l e ({ frames := 3, cells := 0, slots := 0, locals := 69 }) s m args below meth c H locs 0 0 Q (F0 m 221 ls [.int t0_221]) := by
                            intro t0_221 z_221 H locs ls g0_221 gh0_221 hJ hH hl
                            refine lv_iconst (v := 0) hx hb dX6_tellSets_221 (by decide) ?_
                            exact HJ222 0 t0_221 z_221 H locs ls h4_170 h5_170 (iv_w (iv_lit (n := 0) 0 (by decide)) (by decide) (by decide)) g0_221 gh0_221 hJ hH (lv_sub hl [0, 1, 2, 3, 4] rfl)
                          refine lv_icmp_eq (tgt := 217) hx hb dX6_tellSets_190 (by decide) (fun c1819 => ?_) (fun c1819 => ?_)
                          · skip
                            exact HJ217 t2_190 z_190 H locs ls h4_170 h5_170 g2_190 gh0_190 hJ hH (lv_sub hl [0, 1, 2, 3, 4] rfl)
                          · skip
                            refine lv_iload hx hb dX6_tellSets_193 (lv_at hl 5 rfl) ?_
                            refine lv_iconst (v := 2) hx hb dX6_tellSets_195 (by decide) ?_
                            refine lv_icmp_ne (tgt := 221) hx hb dX6_tellSets_196 (by decide) (fun c1822 => ?_) (fun c1822 => ?_)
                            · skip
                              exact HJ221 t2_190 z_190 H locs ls g2_190 gh0_190 hJ hH (lv_sub hl [0, 1, 2, 3, 4] rfl)
                            · skip
                              have k1824a : iv 2 2 x6_170 := iv_eql (iv_Eq c1822) (iv_all x6_170) (iv_lit (n := 2) 2 (by decide)) (by decide) (by decide)
                              refine lv_iload_n hx hb dX6_tellSets_199 rfl (lv_at hl 2 rfl) ?_
                              refine lv_iload hx hb dX6_tellSets_200 (lv_at hl 3 rfl) ?_
                              refine b_stati (As := [.int x2_45, .int x4_90]) (rest := [.int t2_190]) ⟨hx, hb, hml, hown, hts⟩ (g_X6_in l D cy q hH.2.1 z_190 hJ.1 x2_45 x4_90) (va_cwS 2 hts gX6_tellSets_X6_in rfl rfl rfl (by decide +kernel) ⟨Nat.le_of_ble_eq_true rfl, Nat.le_of_ble_eq_true rfl⟩) hK hZ hH rfl hl.1 rfl (Nat.le_of_ble_eq_true rfl) ⟨Nat.zero_le _, Nat.zero_le _⟩ dX6_tellSets_202 (fun w1825 z1825 H locs hp hH => ?_)
                              rw [Ag_0 hp.1.2] at hH
                              have i1825 := hp.2.1
                              have f1825_0 := hp.2.2
                              refine lv_if_eq (tgt := 217) hx hb dX6_tellSets_205 (by decide) (fun c1826 => ?_) (fun c1826 => ?_)
                              · skip
                                have k1827a : iv 0 0 w1825 := iv_eql (iv_Eq c1826) i1825 (iv_lit (n := 0) 0 (by decide)) (by decide) (by decide)
                                exact HJ217 t2_190 z_190 H locs ls h4_170 h5_170 g2_190 gh0_190 hJ hH (lv_sub hl [0, 1, 2, 3, 4] rfl)
                              · skip
                                have k1828a : iv 1 1 w1825 := iv_neLo (iv_nEq c1826) i1825 (by decide) (by decide)
                                refine lv_iload_n hx hb dX6_tellSets_208 rfl (lv_at hl 2 rfl) ?_
                                refine lv_iload hx hb dX6_tellSets_209 (lv_at hl 4 rfl) ?_
                                refine b_stati (As := [.int x2_45, .int x5_131]) (rest := [.int t2_190]) ⟨hx, hb, hml, hown, hts⟩ (g_X6_in l D cy q hH.2.1 z_190 hJ.1 x2_45 x5_131) (va_cwS 2 hts gX6_tellSets_X6_in rfl rfl rfl (by decide +kernel) ⟨Nat.le_of_ble_eq_true rfl, Nat.le_of_ble_eq_true rfl⟩) hK hZ hH rfl hl.1 rfl (Nat.le_of_ble_eq_true rfl) ⟨Nat.zero_le _, Nat.zero_le _⟩ dX6_tellSets_211 (fun w1829 z1829 H locs hp hH => ?_)
                                rw [Ag_0 hp.1.2] at hH
                                have i1829 := hp.2.1
                                have f1829_0 := hp.2.2
                                refine lv_if_ne (tgt := 221) hx hb dX6_tellSets_214 (by decide) (fun c1830 => ?_) (fun c1830 => ?_)
                                · skip
                                  have k1831a : iv 1 1 w1829 := iv_neLo (iv_nEq c1830) i1829 (by decide) (by decide)
                                  exact HJ221 t2_190 z_190 H locs ls g2_190 gh0_190 hJ hH (lv_sub hl [0, 1, 2, 3, 4] rfl)
                                · skip
                                  have k1832a : iv 0 0 w1829 := iv_eql (iv_Eq c1830) i1829 (iv_lit (n := 0) 0 (by decide)) (by decide) (by decide)
                                  exact HJ217 t2_190 z_190 H locs ls h4_170 h5_170 g2_190 gh0_190 hJ hH (lv_sub hl [0, 1, 2, 3, 4] rfl)
                        refine lv_iload_n hx hb dX6_tellSets_170 rfl (lv_at hl 2 rfl) ?_
                        refine lv_iload hx hb dX6_tellSets_171 (lv_at hl 3 rfl) ?_
                        refine b_stati (As := [.int x2_45, .int x4_90]) (rest := [.int t0_170, .int t1_170]) ⟨hx, hb, hml, hown, hts⟩ (g_X6_in l D cy q hH.2.1 z_170 hJ.1 x2_45 x4_90) (va_cwS 2 hts gX6_tellSets_X6_in rfl rfl rfl (by decide +kernel) ⟨Nat.le_of_ble_eq_true rfl, Nat.le_of_ble_eq_true rfl⟩) hK hZ hH rfl hl.1 rfl (Nat.le_of_ble_eq_true rfl) ⟨Nat.zero_le _, Nat.zero_le _⟩ dX6_tellSets_173 (fun w1833 z1833 H locs hp hH => ?_)
                        rw [Ag_0 hp.1.2] at hH
                        have i1833 := hp.2.1
                        have f1833_0 := hp.2.2
                        refine lv_iload_n hx hb dX6_tellSets_176 rfl (lv_at hl 2 rfl) ?_
                        refine lv_iload hx hb dX6_tellSets_177 (lv_at hl 4 rfl) ?_
                        refine b_stati (As := [.int x2_45, .int x5_131]) (rest := [.int w1833, .int t0_170, .int t1_170]) ⟨hx, hb, hml, hown, hts⟩ (g_X6_in l D cy q hH.2.1 z_170 hJ.1 x2_45 x5_131) (va_cwS 2 hts gX6_tellSets_X6_in rfl rfl rfl (by decide +kernel) ⟨Nat.le_of_ble_eq_true rfl, Nat.le_of_ble_eq_true rfl⟩) hK hZ hH rfl hl.1 rfl (Nat.le_of_ble_eq_true rfl) ⟨Nat.zero_le _, Nat.zero_le _⟩ dX6_tellSets_179 (fun w1834 z1834 H locs hp hH => ?_)
                        rw [Ag_0 hp.1.2] at hH
                        have i1834 := hp.2.1
                        have f1834_0 := hp.2.2
                        refine lv_icmp_ne (tgt := 189) hx hb dX6_tellSets_182 (by decide) (fun c1835 => ?_) (fun c1835 => ?_)
                        · skip
                          refine lv_iconst (v := 0) hx hb dX6_tellSets_189 (by decide) ?_
                          exact HJ190 0 t0_170 t1_170 z_170 H locs ls (iv_w (iv_lit (n := 0) 0 (by decide)) (by decide) (by decide)) g0_170 g1_170 gh0_170 hJ hH (lv_sub hl [0, 1, 2, 3, 4, 5] rfl)
                        · skip
                          refine lv_iconst (v := 1) hx hb dX6_tellSets_185 (by decide) ?_
                          refine lv_goto (tgt := 190) hx hb dX6_tellSets_186 (by decide) ?_
                          exact HJ190 1 t0_170 t1_170 z_170 H locs ls (iv_w (iv_lit (n := 1) 1 (by decide)) (by decide) (by decide)) g0_170 g1_170 gh0_170 hJ hH (lv_sub hl [0, 1, 2, 3, 4, 5] rfl)
                      refine lv_iload hx hb dX6_tellSets_131 (lv_at hl 5 rfl) ?_
                      refine lv_iload hx hb dX6_tellSets_133 (lv_at hl 4 rfl) ?_
                      refine lv_icmp_ge (tgt := 230) hx hb dX6_tellSets_135 (by decide) (fun c1838 => ?_) (fun c1838 => ?_)
                      · skip
                        have j1840 : iv 1 10 (x4_90 + 1) := iv_add h4_126 (iv_lit (n := 1) 1 (by decide)) (by decide) (by decide) (by decide) (by decide)
                        have e1840 : (x4_90 + 1).toInt = x4_90.toInt + 1 := (iv_addE h4_126 (iv_lit (n := 1) 1 (by decide)) (by decide) (by decide)).trans rfl
                        refine lv_iinc (v := (x4_90 + 1)) (lv' := [(4, .int (x4_90 + 1)), (0, .ref (q 0)), (1, .int x1_45), (2, .int x2_45), (3, .int x3_131), (5, .int x5_131)]) hx hb dX6_tellSets_230 hl (k := 4) rfl rfl (by decide) rfl (fun ls hl => ?_)
                        refine lv_goto (tgt := 90) hx hb dX6_tellSets_233 (by decide) ?_
                        exact ih90 _ (ms_up e1840 j1840.2 hn90) x3_131 (x4_90 + 1) z_131 H locs ls h3_131 (iv_w j1840 (by decide) (by decide)) hJ hH (lv_sub hl [1, 2, 3, 4, 0] rfl) rfl
                      · skip
                        have k1841a : iv 0 8 x5_131 := iv_ltl (iv_nLe c1838) h5_131 h4_126 (by decide)
                        have k1841b : iv 1 9 x4_90 := iv_ltr (iv_nLe c1838) h5_131 h4_126 (by decide)
                        refine lv_aload_n hx hb dX6_tellSets_138 rfl (lv_at hl 0 rfl) ?_
                        refine b_get (ci := 6) (C := RX6) (T := TX6) (Nf := 29) (v := .ref (q 4)) hx hb hts in_X6_tellSets_X6 hown hK hH 0 (by decide) rfl rfl 4 (by decide) (hts (.fieldLink RX6 19 "StationLineModel" "pairs" "[I") (List.mem_of_getElem? (i := 6) rfl)) rfl dX6_tellSets_139 ?_
                        refine lv_bipush (v := 10) hx hb dX6_tellSets_142 (by decide) ?_
                        refine lv_iload hx hb dX6_tellSets_144 (lv_at hl 4 rfl) ?_
                        refine lv_imul hx hb dX6_tellSets_146 ?_
                        refine h_i (a := 10) (b := 90) (iv_mul (iv_lit (n := 10) 10 (by decide)) k1841b (by decide) (by decide) (by decide) (by decide) (by decide)) (fun w1842 i1842 => ?_)
                        refine lv_iload hx hb dX6_tellSets_147 (lv_at hl 5 rfl) ?_
                        refine lv_iadd hx hb dX6_tellSets_149 ?_
                        refine h_i (a := 10) (b := 98) (iv_add i1842 k1841a (by decide) (by decide) (by decide) (by decide)) (fun w1843 i1843 => ?_)
                        refine b_iald (v := z_131.2.1 4 (w1843 : Int32).toNatClampNeg) hx hb hK hH 4 (by decide) rfl (iv_in i1843 (by decide) (by decide)) rfl dX6_tellSets_150 ?_
                        refine lv_istore (lv' := [(6, .int (z_131.2.1 4 (w1843 : Int32).toNatClampNeg)), (0, .ref (q 0)), (1, .int x1_45), (2, .int x2_45), (3, .int x3_131), (4, .int x4_90), (5, .int x5_131)]) hx hb dX6_tellSets_151 hl (by decide) rfl (fun ls hl => ?_)
                        refine lv_iload_n hx hb dX6_tellSets_153 rfl (lv_at hl 4 rfl) ?_
                        refine lv_iload hx hb dX6_tellSets_154 (lv_at hl 0 rfl) ?_
                        refine lv_if_eq (tgt := 217) hx hb dX6_tellSets_156 (by decide) (fun c1844 => ?_) (fun c1844 => ?_)
                        · skip
                          have k1845a : iv 0 0 (z_131.2.1 4 (w1843 : Int32).toNatClampNeg) := iv_eql (iv_Eq c1844) (iv_all (z_131.2.1 4 (w1843 : Int32).toNatClampNeg)) (iv_lit (n := 0) 0 (by decide)) (by decide) (by decide)
                          exact HJ217 x3_131 z_131 H locs ls k1841b k1841a h3_131 gh0_131 hJ hH (lv_sub hl [1, 2, 3, 5, 6] rfl)
                        · skip
                          refine lv_iload hx hb dX6_tellSets_159 (lv_at hl 0 rfl) ?_
                          refine lv_iconst (v := 1) hx hb dX6_tellSets_161 (by decide) ?_
                          refine lv_icmp_ne (tgt := 169) hx hb dX6_tellSets_162 (by decide) (fun c1847 => ?_) (fun c1847 => ?_)
                          · skip
                            refine lv_iconst (v := 0) hx hb dX6_tellSets_169 (by decide) ?_
                            exact HJ170 (z_131.2.1 4 (w1843 : Int32).toNatClampNeg) 0 x3_131 z_131 H locs ls k1841b k1841a (iv_w (iv_lit (n := 0) 0 (by decide)) (by decide) (by decide)) h3_131 gh0_131 hJ hH (lv_sub hl [1, 2, 3, 5, 6, 0] rfl)
                          · skip
                            have k1849a : iv 1 1 (z_131.2.1 4 (w1843 : Int32).toNatClampNeg) := iv_eql (iv_Eq c1847) (iv_all (z_131.2.1 4 (w1843 : Int32).toNatClampNeg)) (iv_lit (n := 1) 1 (by decide)) (by decide) (by decide)
                            refine lv_iconst (v := 1) hx hb dX6_tellSets_165 (by decide) ?_
                            refine lv_goto (tgt := 170) hx hb dX6_tellSets_166 (by decide) ?_
                            exact HJ170 (z_131.2.1 4 (w1843 : Int32).toNatClampNeg) 1 x3_131 z_131 H locs ls k1841b k1841a (iv_w (iv_lit (n := 1) 1 (by decide)) (by decide) (by decide)) h3_131 gh0_131 hJ hH (lv_sub hl [1, 2, 3, 5, 6, 0] rfl)
                  refine lv_ior hx hb dX6_tellSets_126 ?_
                  refine lv_topi (fun w1850 _ => ?_)
                  refine b_iast hx hb hK hH 15 (by decide) rfl (iv_in g2_126 (by decide) (by decide)) (upA z_126 15 (upd (z_126.2.1 15) (t2_126 : Int32).toNatClampNeg w1850)) rfl (enM_A _ _ _ _ _) dX6_tellSets_127 (fun H locs hH => ?_)
                  obtain ⟨z1851, hz1851⟩ : ∃ w : zS, w = upA z_126 15 (upd (z_126.2.1 15) (t2_126 : Int32).toNatClampNeg w1850) := ⟨_, rfl⟩
                  rw [← hz1851] at hH
                  have hJ : jJ IvM 0 507904 0 z0 z1851 := by rw [hz1851]; exact jJ_A hJ (by decide) (IvM_A hJ.1 (by decide))
                  have g1852 : iv 1 10 (z1851.1 0) := by rw [hz1851]; exact gh0_126
                  refine lv_iconst (v := 0) hx hb dX6_tellSets_128 (by decide) ?_
                  refine lv_istore (lv' := [(5, .int 0), (0, .ref (q 0)), (1, .int x1_45), (2, .int x2_45), (3, .int x3_90), (4, .int x4_90)]) hx hb dX6_tellSets_129 hl (by decide) rfl (fun ls hl => ?_)
                  exact HL131 _ x3_90 0 z1851 H locs ls h3_90 (iv_w (iv_lit (n := 0) 0 (by decide)) (by decide) (by decide)) g1852 hJ hH (lv_sub hl [1, 2, 3, 4, 5, 0] rfl) rfl
                refine lv_iload hx hb dX6_tellSets_90 (lv_at hl 4 rfl) ?_
                refine lv_aload_n hx hb dX6_tellSets_92 rfl (lv_at hl 0 rfl) ?_
                refine b_get (ci := 6) (C := RX6) (T := TX6) (Nf := 29) (v := .int (z_90.1 0)) hx hb hts in_X6_tellSets_X6 hown hK hH 0 (by decide) rfl rfl 0 (by decide) (hts (.fieldLink RX6 85 "StationLineModel" "tasks" "I") (List.mem_of_getElem? (i := 1) rfl)) rfl dX6_tellSets_93 ?_
                have i1853 := IvM_s0 hJ.1
                refine lv_icmp_ge (tgt := 236) hx hb dX6_tellSets_96 (by decide) (fun c1854 => ?_) (fun c1854 => ?_)
                · skip
                  refine lv_aload_n hx hb dX6_tellSets_236 rfl (lv_at hl 0 rfl) ?_
                  refine b_get (ci := 6) (C := RX6) (T := TX6) (Nf := 29) (v := .ref (q 14)) hx hb hts in_X6_tellSets_X6 hown hK hH 0 (by decide) rfl rfl 20 (by decide) (hts (.fieldLink RX6 53 "StationLineModel" "isOne" "[Z") (List.mem_of_getElem? (i := 7) rfl)) rfl dX6_tellSets_237 ?_
                  refine lv_iload_n hx hb dX6_tellSets_240 rfl (lv_at hl 2 rfl) ?_
                  refine lv_iload_n hx hb dX6_tellSets_241 rfl (lv_at hl 3 rfl) ?_
                  refine b_zast hx hb hK hH 14 (by decide) rfl (iv_in h2_86 (by decide) (by decide)) (upA z_90 14 (upd (z_90.2.1 14) (x2_45 : Int32).toNatClampNeg (vp_nar .boolean x3_90))) rfl (enM_A _ _ _ _ _) dX6_tellSets_242 (fun H locs hH => ?_)
                  obtain ⟨z1856, hz1856⟩ : ∃ w : zS, w = upA z_90 14 (upd (z_90.2.1 14) (x2_45 : Int32).toNatClampNeg (vp_nar .boolean x3_90)) := ⟨_, rfl⟩
                  rw [← hz1856] at hH
                  have hJ : jJ IvM 0 507904 0 z0 z1856 := by rw [hz1856]; exact jJ_A hJ (by decide) (IvM_A hJ.1 (by decide))
                  have j1857 : iv 1 1024 (x2_45 + 1) := iv_add h2_86 (iv_lit (n := 1) 1 (by decide)) (by decide) (by decide) (by decide) (by decide)
                  have e1857 : (x2_45 + 1).toInt = x2_45.toInt + 1 := (iv_addE h2_86 (iv_lit (n := 1) 1 (by decide)) (by decide) (by decide)).trans rfl
                  refine lv_iinc (v := (x2_45 + 1)) (lv' := [(2, .int (x2_45 + 1)), (0, .ref (q 0)), (1, .int x1_45), (3, .int x3_90), (4, .int x4_90)]) hx hb dX6_tellSets_243 hl (k := 2) rfl rfl (by decide) rfl (fun ls hl => ?_)
                  refine lv_goto (tgt := 45) hx hb dX6_tellSets_246 (by decide) ?_
                  exact ih45 _ (ms_up e1857 j1857.2 hn45) x1_45 (x2_45 + 1) z1856 H locs ls h1_45 (iv_w j1857 (by decide) (by decide)) hJ hH (lv_sub hl [1, 2, 0] rfl) rfl
                · skip
                  have k1858a : iv 0 9 x4_90 := iv_ltl (iv_nLe c1854) h4_90 i1853 (by decide)
                  have k1858b : iv 1 10 (z_90.1 0) := iv_ltr (iv_nLe c1854) h4_90 i1853 (by decide)
                  refine lv_aload_n hx hb dX6_tellSets_99 rfl (lv_at hl 0 rfl) ?_
                  refine b_get (ci := 6) (C := RX6) (T := TX6) (Nf := 29) (v := .ref (q 15)) hx hb hts in_X6_tellSets_X6 hown hK hH 0 (by decide) rfl rfl 21 (by decide) (hts (.fieldLink RX6 57 "StationLineModel" "needs" "[I") (List.mem_of_getElem? (i := 5) rfl)) rfl dX6_tellSets_100 ?_
                  refine lv_iload_n hx hb dX6_tellSets_103 rfl (lv_at hl 2 rfl) ?_
                  refine lv_dup2_11 hx hb dX6_tellSets_104 rfl rfl ?_
                  refine b_iald (v := z_90.2.1 15 (x2_45 : Int32).toNatClampNeg) hx hb hK hH 15 (by decide) rfl (iv_in h2_86 (by decide) (by decide)) rfl dX6_tellSets_105 ?_
                  refine lv_iload_n hx hb dX6_tellSets_106 rfl (lv_at hl 2 rfl) ?_
                  refine lv_iload hx hb dX6_tellSets_107 (lv_at hl 4 rfl) ?_
                  refine b_stati (As := [.int x2_45, .int x4_90]) (rest := [.int (z_90.2.1 15 (x2_45 : Int32).toNatClampNeg), .int x2_45, .ref (q 15)]) ⟨hx, hb, hml, hown, hts⟩ (g_X6_in l D cy q hH.2.1 z_90 hJ.1 x2_45 x4_90) (va_cwS 2 hts gX6_tellSets_X6_in rfl rfl rfl (by decide +kernel) ⟨Nat.le_of_ble_eq_true rfl, Nat.le_of_ble_eq_true rfl⟩) hK hZ hH rfl hl.1 rfl (Nat.le_of_ble_eq_true rfl) ⟨Nat.zero_le _, Nat.zero_le _⟩ dX6_tellSets_109 (fun w1859 z1859 H locs hp hH => ?_)
                  rw [Ag_0 hp.1.2] at hH
                  have i1859 := hp.2.1
                  have f1859_0 := hp.2.2
                  refine lv_if_eq (tgt := 125) hx hb dX6_tellSets_112 (by decide) (fun c1860 => ?_) (fun c1860 => ?_)
                  · skip
                    have k1861a : iv 0 0 w1859 := iv_eql (iv_Eq c1860) i1859 (iv_lit (n := 0) 0 (by decide)) (by decide) (by decide)
                    refine lv_iconst (v := 0) hx hb dX6_tellSets_125 (by decide) ?_
                    exact HJ126 0 (z_90.2.1 15 (x2_45 : Int32).toNatClampNeg) x2_45 z_90 H locs ls k1858a h2_86 k1858b hJ hH (lv_sub hl [0, 1, 2, 3, 4] rfl)
                  · skip
                    have k1862a : iv 1 1 w1859 := iv_neLo (iv_nEq c1860) i1859 (by decide) (by decide)
                    refine lv_aload_n hx hb dX6_tellSets_115 rfl (lv_at hl 0 rfl) ?_
                    refine b_get (ci := 6) (C := RX6) (T := TX6) (Nf := 29) (v := .ref (q 18)) hx hb hts in_X6_tellSets_X6 hown hK hH 0 (by decide) rfl rfl 24 (by decide) (hts (.fieldLink RX6 66 "StationLineModel" "leaders" "[I") (List.mem_of_getElem? (i := 2) rfl)) rfl dX6_tellSets_116 ?_
                    refine lv_iload hx hb dX6_tellSets_119 (lv_at hl 4 rfl) ?_
                    refine b_iald (v := z_90.2.1 18 (x4_90 : Int32).toNatClampNeg) hx hb hK hH 18 (by decide) rfl (iv_in k1858a (by decide) (by decide)) rfl dX6_tellSets_121 ?_
                    refine lv_goto (tgt := 126) hx hb dX6_tellSets_122 (by decide) ?_
                    exact HJ126 (z_90.2.1 18 (x4_90 : Int32).toNatClampNeg) (z_90.2.1 15 (x2_45 : Int32).toNatClampNeg) x2_45 z_90 H locs ls k1858a h2_86 k1858b hJ hH (lv_sub hl [0, 1, 2, 3, 4] rfl)
            refine lv_istore_n (lv' := [(3, .int t0_86), (0, .ref (q 0)), (1, .int x1_45), (2, .int x2_45)]) hx hb dX6_tellSets_86 rfl hl (by decide) rfl (fun ls hl => ?_)
            refine lv_iconst (v := 0) hx hb dX6_tellSets_87 (by decide) ?_
            refine lv_istore (lv' := [(4, .int 0), (3, .int t0_86), (0, .ref (q 0)), (1, .int x1_45), (2, .int x2_45)]) hx hb dX6_tellSets_88 hl (by decide) rfl (fun ls hl => ?_)
            exact HL90 _ t0_86 0 z_86 H locs ls g0_86 (iv_w (iv_lit (n := 0) 0 (by decide)) (by decide) (by decide)) hJ hH (lv_sub hl [2, 3, 4, 1, 0] rfl) rfl
          refine lv_iload_n hx hb dX6_tellSets_45 rfl (lv_at hl 2 rfl) ?_
          refine lv_aload_n hx hb dX6_tellSets_46 rfl (lv_at hl 0 rfl) ?_
          refine b_calli (As := []) (rest := [.int x2_45]) ⟨hx, hb, hml, hown, hts⟩ 0 6 (g_X6_all_0 l D cy q hH.2.1 z_45 hJ.1 ) (cwV 0 hts gX6_tellSets_X6_all rfl rfl rfl (by decide +kernel) ⟨Nat.le_of_ble_eq_true rfl, Nat.le_of_ble_eq_true rfl⟩) hK hZ hH (by decide) rfl rfl rfl hl.1 rfl (Nat.le_of_ble_eq_true rfl) ⟨Nat.zero_le _, Nat.zero_le _⟩ dX6_tellSets_47 (fun w1863 z1863 H locs hp hH => ?_)
          rw [Ag_0 hp.1.2] at hH
          have i1863 := hp.2.1
          have f1863_0 := hp.2.2
          refine lv_icmp_gt (tgt := 249) hx hb dX6_tellSets_50 (by decide) (fun c1864 => ?_) (fun c1864 => ?_)
          · skip
            have k1865b : iv 1 1024 x2_45 := iv_ltr (iv_Lt c1864) i1863 h2_45 (by decide)
            exact hret z_45 H locs _ _ hJ hH dX6_tellSets_249
          · skip
            have k1866a : iv 0 1023 x2_45 := iv_lel (iv_nLt c1864) h2_45 i1863
            refine lv_aload_n hx hb dX6_tellSets_53 rfl (lv_at hl 0 rfl) ?_
            refine b_get (ci := 6) (C := RX6) (T := TX6) (Nf := 29) (v := .ref (q 16)) hx hb hts in_X6_tellSets_X6 hown hK hH 0 (by decide) rfl rfl 22 (by decide) (hts (.fieldLink RX6 60 "StationLineModel" "loads" "[I") (List.mem_of_getElem? (i := 4) rfl)) rfl dX6_tellSets_54 ?_
            refine lv_iload_n hx hb dX6_tellSets_57 rfl (lv_at hl 2 rfl) ?_
            refine lv_aload_n hx hb dX6_tellSets_58 rfl (lv_at hl 0 rfl) ?_
            refine lv_iload_n hx hb dX6_tellSets_59 rfl (lv_at hl 2 rfl) ?_
            refine b_calli (As := [.int x2_45]) (rest := [.int x2_45, .ref (q 16)]) ⟨hx, hb, hml, hown, hts⟩ 0 6 (g_X6_loadOf_0 l D cy q hH.2.1 z_45 hJ.1 x2_45) (cwV 1 hts gX6_tellSets_X6_loadOf rfl rfl rfl (by decide +kernel) ⟨Nat.le_of_ble_eq_true rfl, Nat.le_of_ble_eq_true rfl⟩) hK hZ hH (by decide) rfl rfl rfl hl.1 rfl (Nat.le_of_ble_eq_true rfl) ⟨Nat.zero_le _, Nat.zero_le _⟩ dX6_tellSets_60 (fun w1867 z1867 H locs hp hH => ?_)
            rw [Ag_0 hp.1.2] at hH
            have i1867 := hp.2.1
            have f1867_0 := hp.2.2
            refine b_iast hx hb hK hH 16 (by decide) rfl (iv_in k1866a (by decide) (by decide)) (upA z_45 16 (upd (z_45.2.1 16) (x2_45 : Int32).toNatClampNeg w1867)) rfl (enM_A _ _ _ _ _) dX6_tellSets_63 (fun H locs hH => ?_)
            obtain ⟨z1868, hz1868⟩ : ∃ w : zS, w = upA z_45 16 (upd (z_45.2.1 16) (x2_45 : Int32).toNatClampNeg w1867) := ⟨_, rfl⟩
            rw [← hz1868] at hH
            have hJ : jJ IvM 0 507904 0 z0 z1868 := by rw [hz1868]; exact jJ_A hJ (by decide) (IvM_A16 hJ.1 _ (iv_w i1867 (by decide) (by decide)))
            refine lv_aload_n hx hb dX6_tellSets_64 rfl (lv_at hl 0 rfl) ?_
            refine b_get (ci := 6) (C := RX6) (T := TX6) (Nf := 29) (v := .ref (q 15)) hx hb hts in_X6_tellSets_X6 hown hK hH 0 (by decide) rfl rfl 21 (by decide) (hts (.fieldLink RX6 57 "StationLineModel" "needs" "[I") (List.mem_of_getElem? (i := 5) rfl)) rfl dX6_tellSets_65 ?_
            refine lv_iload_n hx hb dX6_tellSets_68 rfl (lv_at hl 2 rfl) ?_
            refine lv_iconst (v := 0) hx hb dX6_tellSets_69 (by decide) ?_
            refine b_iast hx hb hK hH 15 (by decide) rfl (iv_in k1866a (by decide) (by decide)) (upA z1868 15 (upd (z1868.2.1 15) (x2_45 : Int32).toNatClampNeg 0)) rfl (enM_A _ _ _ _ _) dX6_tellSets_70 (fun H locs hH => ?_)
            obtain ⟨z1869, hz1869⟩ : ∃ w : zS, w = upA z1868 15 (upd (z1868.2.1 15) (x2_45 : Int32).toNatClampNeg 0) := ⟨_, rfl⟩
            rw [← hz1869] at hH
            have hJ : jJ IvM 0 507904 0 z0 z1869 := by rw [hz1869]; exact jJ_A hJ (by decide) (IvM_A hJ.1 (by decide))
            refine lv_aload_n hx hb dX6_tellSets_71 rfl (lv_at hl 0 rfl) ?_
            refine b_get (ci := 6) (C := RX6) (T := TX6) (Nf := 29) (v := .ref (q 16)) hx hb hts in_X6_tellSets_X6 hown hK hH 0 (by decide) rfl rfl 22 (by decide) (hts (.fieldLink RX6 60 "StationLineModel" "loads" "[I") (List.mem_of_getElem? (i := 4) rfl)) rfl dX6_tellSets_72 ?_
            refine lv_iload_n hx hb dX6_tellSets_75 rfl (lv_at hl 2 rfl) ?_
            refine b_iald (v := z1869.2.1 16 (x2_45 : Int32).toNatClampNeg) hx hb hK hH 16 (by decide) rfl (iv_in k1866a (by decide) (by decide)) rfl dX6_tellSets_76 ?_
            have i1870 : iv 0 27000 (z1869.2.1 16 (x2_45 : Int32).toNatClampNeg) := IvM_a16 hJ.1 _ (b_inlt (iv_in k1866a (by decide) (by decide)))
            refine lv_iload_n hx hb dX6_tellSets_77 rfl (lv_at hl 1 rfl) ?_
            refine lv_icmp_gt (tgt := 85) hx hb dX6_tellSets_78 (by decide) (fun c1871 => ?_) (fun c1871 => ?_)
            · skip
              have k1872a : iv 1 26999 x1_45 := iv_ltl (iv_Lt c1871) h1_45 i1870 (by decide)
              have k1872b : iv 2 27000 (z1869.2.1 16 (x2_45 : Int32).toNatClampNeg) := iv_ltr (iv_Lt c1871) h1_45 i1870 (by decide)
              refine lv_iconst (v := 0) hx hb dX6_tellSets_85 (by decide) ?_
              exact HJ86 0 z1869 H locs ls k1866a (iv_w (iv_lit (n := 0) 0 (by decide)) (by decide) (by decide)) hJ hH (lv_sub hl [0, 1, 2] rfl)
            · skip
              refine lv_iconst (v := 1) hx hb dX6_tellSets_81 (by decide) ?_
              refine lv_goto (tgt := 86) hx hb dX6_tellSets_82 (by decide) ?_
              exact HJ86 1 z1869 H locs ls k1866a (iv_w (iv_lit (n := 1) 1 (by decide)) (by decide) (by decide)) hJ hH (lv_sub hl [0, 1, 2] rfl)
      refine lv_iload_n hx hb dX6_tellSets_2 rfl (lv_at hl 1 rfl) ?_
      refine lv_aload_n hx hb dX6_tellSets_3 rfl (lv_at hl 0 rfl) ?_
      refine b_get (ci := 6) (C := RX6) (T := TX6) (Nf := 29) (v := .int (z_2.1 0)) hx hb hts in_X6_tellSets_X6 hown hK hH 0 (by decide) rfl rfl 0 (by decide) (hts (.fieldLink RX6 85 "StationLineModel" "tasks" "I") (List.mem_of_getElem? (i := 1) rfl)) rfl dX6_tellSets_4 ?_
      have i1874 := IvM_s0 hJ.1
      refine lv_icmp_ge (tgt := 38) hx hb dX6_tellSets_7 (by decide) (fun c1875 => ?_) (fun c1875 => ?_)
      · skip
        refine lv_aload_n hx hb dX6_tellSets_38 rfl (lv_at hl 0 rfl) ?_
        refine b_calli (As := []) (rest := []) ⟨hx, hb, hml, hown, hts⟩ 0 6 (g_X6_room_0 l D cy q hH.2.1 z_2 hJ.1 ) (cwV 0 hts gX6_tellSets_X6_room rfl rfl rfl (by decide +kernel) ⟨Nat.le_of_ble_eq_true rfl, Nat.le_of_ble_eq_true rfl⟩) hK hZ hH (by decide) rfl rfl rfl hl.1 rfl (Nat.le_of_ble_eq_true rfl) ⟨Nat.zero_le _, Nat.zero_le _⟩ dX6_tellSets_39 (fun w1877 z1877 H locs hp hH => ?_)
        rw [Ag_0 hp.1.2] at hH
        have i1877 := hp.2
        refine lv_istore_n (lv' := [(1, .int w1877), (0, .ref (q 0))]) hx hb dX6_tellSets_42 rfl hl (by decide) rfl (fun ls hl => ?_)
        refine lv_iconst (v := 0) hx hb dX6_tellSets_43 (by decide) ?_
        refine lv_istore_n (lv' := [(2, .int 0), (1, .int w1877), (0, .ref (q 0))]) hx hb dX6_tellSets_44 rfl hl (by decide) rfl (fun ls hl => ?_)
        exact HL45 _ w1877 0 z_2 H locs ls i1877 (iv_w (iv_lit (n := 0) 0 (by decide)) (by decide) (by decide)) hJ hH (lv_sub hl [2, 1, 0] rfl) rfl
      · skip
        have k1878a : iv 0 9 x1_2 := iv_ltl (iv_nLe c1875) h1_2 i1874 (by decide)
        have k1878b : iv 1 10 (z_2.1 0) := iv_ltr (iv_nLe c1875) h1_2 i1874 (by decide)
        refine lv_aload_n hx hb dX6_tellSets_10 rfl (lv_at hl 0 rfl) ?_
        refine b_get (ci := 6) (C := RX6) (T := TX6) (Nf := 29) (v := .ref (q 18)) hx hb hts in_X6_tellSets_X6 hown hK hH 0 (by decide) rfl rfl 24 (by decide) (hts (.fieldLink RX6 66 "StationLineModel" "leaders" "[I") (List.mem_of_getElem? (i := 2) rfl)) rfl dX6_tellSets_11 ?_
        refine lv_iload_n hx hb dX6_tellSets_14 rfl (lv_at hl 1 rfl) ?_
        refine lv_aload_n hx hb dX6_tellSets_15 rfl (lv_at hl 0 rfl) ?_
        refine lv_iload_n hx hb dX6_tellSets_16 rfl (lv_at hl 1 rfl) ?_
        refine b_calli (As := [.int x1_2]) (rest := [.int x1_2, .ref (q 18)]) ⟨hx, hb, hml, hown, hts⟩ 0 6 (g_X6_leading_0 l D cy q hH.2.1 z_2 hJ.1 x1_2 k1878a) (cwV 1 hts gX6_tellSets_X6_leading rfl rfl rfl (by decide +kernel) ⟨Nat.le_of_ble_eq_true rfl, Nat.le_of_ble_eq_true rfl⟩) hK hZ hH (by decide) rfl rfl rfl hl.1 rfl (Nat.le_of_ble_eq_true rfl) ⟨Nat.zero_le _, Nat.zero_le _⟩ dX6_tellSets_17 (fun w1879 z1879 H locs hp hH => ?_)
        rw [Ag_0 hp.1.2] at hH
        have f1879_0 := hp.2.2.1
        have f1879_1 := hp.2.2.2
        refine b_iast hx hb hK hH 18 (by decide) rfl (iv_in k1878a (by decide) (by decide)) (upA z_2 18 (upd (z_2.2.1 18) (x1_2 : Int32).toNatClampNeg w1879)) rfl (enM_A _ _ _ _ _) dX6_tellSets_20 (fun H locs hH => ?_)
        obtain ⟨z1880, hz1880⟩ : ∃ w : zS, w = upA z_2 18 (upd (z_2.2.1 18) (x1_2 : Int32).toNatClampNeg w1879) := ⟨_, rfl⟩
        rw [← hz1880] at hH
        have hJ : jJ IvM 0 507904 0 z0 z1880 := by rw [hz1880]; exact jJ_A hJ (by decide) (IvM_A hJ.1 (by decide))
        have g1881 : iv 1 10 (z1880.1 0) := by rw [hz1880]; exact k1878b
        refine lv_aload_n hx hb dX6_tellSets_21 rfl (lv_at hl 0 rfl) ?_
        refine b_get (ci := 6) (C := RX6) (T := TX6) (Nf := 29) (v := .ref (q 17)) hx hb hts in_X6_tellSets_X6 hown hK hH 0 (by decide) rfl rfl 23 (by decide) (hts (.fieldLink RX6 63 "StationLineModel" "followers" "[I") (List.mem_of_getElem? (i := 3) rfl)) rfl dX6_tellSets_22 ?_
        refine lv_iload_n hx hb dX6_tellSets_25 rfl (lv_at hl 1 rfl) ?_
        refine lv_aload_n hx hb dX6_tellSets_26 rfl (lv_at hl 0 rfl) ?_
        refine lv_iload_n hx hb dX6_tellSets_27 rfl (lv_at hl 1 rfl) ?_
        refine b_calli (As := [.int x1_2]) (rest := [.int x1_2, .ref (q 17)]) ⟨hx, hb, hml, hown, hts⟩ 0 6 (g_X6_following_0 l D cy q hH.2.1 z1880 hJ.1 x1_2 k1878a) (cwV 1 hts gX6_tellSets_X6_following rfl rfl rfl (by decide +kernel) ⟨Nat.le_of_ble_eq_true rfl, Nat.le_of_ble_eq_true rfl⟩) hK hZ hH (by decide) rfl rfl rfl hl.1 rfl (Nat.le_of_ble_eq_true rfl) ⟨Nat.zero_le _, Nat.zero_le _⟩ dX6_tellSets_28 (fun w1882 z1882 H locs hp hH => ?_)
        rw [Ag_0 hp.1.2] at hH
        have i1882 := hp.2
        refine b_iast hx hb hK hH 17 (by decide) rfl (iv_in k1878a (by decide) (by decide)) (upA z1880 17 (upd (z1880.2.1 17) (x1_2 : Int32).toNatClampNeg w1882)) rfl (enM_A _ _ _ _ _) dX6_tellSets_31 (fun H locs hH => ?_)
        obtain ⟨z1883, hz1883⟩ : ∃ w : zS, w = upA z1880 17 (upd (z1880.2.1 17) (x1_2 : Int32).toNatClampNeg w1882) := ⟨_, rfl⟩
        rw [← hz1883] at hH
        have hJ : jJ IvM 0 507904 0 z0 z1883 := by rw [hz1883]; exact jJ_A hJ (by decide) (IvM_A hJ.1 (by decide))
        have g1884 : iv 1 10 (z1883.1 0) := by rw [hz1883]; exact g1881
        have j1885 : iv 1 10 (x1_2 + 1) := iv_add k1878a (iv_lit (n := 1) 1 (by decide)) (by decide) (by decide) (by decide) (by decide)
        have e1885 : (x1_2 + 1).toInt = x1_2.toInt + 1 := (iv_addE k1878a (iv_lit (n := 1) 1 (by decide)) (by decide) (by decide)).trans rfl
        refine lv_iinc (v := (x1_2 + 1)) (lv' := [(1, .int (x1_2 + 1)), (0, .ref (q 0))]) hx hb dX6_tellSets_32 hl (k := 1) rfl rfl (by decide) rfl (fun ls hl => ?_)
        refine lv_goto (tgt := 2) hx hb dX6_tellSets_35 (by decide) ?_
        exact ih2 _ (ms_up e1885 j1885.2 hn2) (x1_2 + 1) z1883 H locs ls (iv_w j1885 (by decide) (by decide)) hJ hH (lv_sub hl [1, 0] rfl) rfl
  refine lv_iconst (v := 0) hx hb dX6_tellSets_0 (by decide) ?_
  refine lv_istore_n (lv' := [(1, .int 0), (0, .ref (q 0))]) hx hb dX6_tellSets_1 rfl hl (by decide) rfl (fun ls hl => ?_)
  exact HL2 _ 0 z0 H locs ls (iv_w (iv_lit (n := 0) 0 (by decide)) (by decide) (by decide)) hJ hH (lv_sub hl [1, 0] rfl) rfl
set_option maxHeartbeats 4000000 in
set_option maxRecDepth 100000 in
theorem g_X6_canBe_0 (l : Launch) (D : va_G) (cy : Nat → ClassId) (q : Nat → Nat) (hq : bJ 23 q) (z0 : zS) (hI : IvM z0) (p0 : Int32) (hp0 : iv 0 1023 p0) (p1 : Int32) (p2 : Int32) : bCi l yX6_canBe wsX6_canBe ({ frames := 1, cells := 0, slots := 0, locals := 21 }) D cy 23 (enM cy) q z0 [.ref (q 0), .int p0, .int p1, .int p2] (fun v z => jJ IvM 0 0 0 z0 z ∧ iv 0 1 v ∧ (¬ v = 0 ↔ CB z0 p0 p1 p2)) := by
  refine hM_z cX6_canBe (by decide) rfl (own := RX6) rfl hq (Nat.le_of_ble_eq_true rfl) ?_
  intro p e s m args below meth c Q ls H locs hx hb hml hown hts hK hZ hH hl hret
  have hl : lv_has ls 6 [(0, .ref (q 0)), (1, .int p0), (2, .int p1), (3, .int p2)] := hl
  have hJ : jJ IvM 0 0 0 z0 z0 := jJ_rf _ _ _ hI
  have e00 : (0 : Int32).toInt = 0 := (by decide); have e01 : (1 : Int32).toInt = 1 := (by decide); have e02 : (2 : Int32).toInt = 2 := (by decide); have e03 : (3 : Int32).toInt = 3 := (by decide); have e010 : (10 : Int32).toInt = 10 := (by decide)
  have N1 := (IvM_s0 hI).1; have N2 := (IvM_s0 hI).2
  have HL14 : ∀ (n : Nat) (x4_14 : Int32) (H : Heap) (locs : List Loc) (ls : Array Slot), iv 0 10 x4_14 → ((¬ z0.2.1 14 p0.toNatClampNeg = 0 ∧ ∀ j, j < (x4_14 : Int32).toNatClampNeg → CBt z0 p0 p1 p2 j) ∧ (x4_14 : Int32).toInt ≤ (z0.1 0).toInt) → bH D 23 (enM cy) q z0 s.heap H locs → lv_has ls 6 [(0, .ref (q 0)), (1, .int p0), (2, .int p1), (3, .int p2), (4, .int x4_14)] → (10 - x4_14.toInt).toNat = n → W p l e ({ frames := 1, cells := 0, slots := 0, locals := 21 }) s m args below meth c H locs 0 0 Q (F0 m 14 ls []) := by
    intro n14
    induction n14 using Nat.strongRecOn with
    | ind n14 ih14 =>
      intro x4_14 H locs ls h4_14 ex_14 hH hl hn14
      have := h4_14.1; have := h4_14.2
      refine lv_iload hx hb dX6_canBe_14 (lv_at hl 4 rfl) ?_
      refine lv_aload_n hx hb dX6_canBe_16 rfl (lv_at hl 0 rfl) ?_
      refine b_get (ci := 6) (C := RX6) (T := TX6) (Nf := 29) (v := .int (z0.1 0)) hx hb hts in_X6_canBe_X6 hown hK hH 0 (by decide) rfl rfl 0 (by decide) (hts (.fieldLink RX6 85 "StationLineModel" "tasks" "I") (List.mem_of_getElem? (i := 2) rfl)) rfl dX6_canBe_17 ?_
      have i340 := IvM_s0 hJ.1
      have := i340.1; have := i340.2
      refine lv_icmp_ge (tgt := 113) hx hb dX6_canBe_20 (by decide) (fun c341 => ?_) (fun c341 => ?_)
      · skip
        have r341 := (iv_Le c341)
        refine lv_iconst (v := 1) hx hb dX6_canBe_113 (by decide) ?_
        exact hret _ z0 H locs _ _ (iv_w (iv_lit (n := 1) 1 (by decide)) (by decide) (by decide)) ⟨hJ, (iv_w (iv_lit (n := 1) 1 (by decide)) (by decide) (by decide)), ⟨fun _ => ⟨ex_14.1.1, fun t ht => ex_14.1.2 t (by have := iv_nat h4_14 (by decide); have := iv_nat (IvM_s0 hI) (by decide); omega)⟩, fun _ => by decide⟩⟩ hH dX6_canBe_114
      · skip
        have r341 := (iv_nLe c341)
        have k343a : iv 0 9 x4_14 := iv_ltl (iv_nLe c341) h4_14 i340 (by decide)
        have k343b : iv 1 10 (z0.1 0) := iv_ltr (iv_nLe c341) h4_14 i340 (by decide)
        refine lv_iload_n hx hb dX6_canBe_23 rfl (lv_at hl 1 rfl) ?_
        refine lv_iload hx hb dX6_canBe_24 (lv_at hl 4 rfl) ?_
        refine b_stati (As := [.int p0, .int x4_14]) (rest := []) ⟨hx, hb, hml, hown, hts⟩ (g_X6_in l D cy q hH.2.1 z0 hJ.1 p0 x4_14) (va_cwS 2 hts gX6_canBe_X6_in rfl rfl rfl (by decide +kernel) ⟨Nat.le_of_ble_eq_true rfl, Nat.le_of_ble_eq_true rfl⟩) hK hZ hH rfl hl.1 rfl (Nat.le_of_ble_eq_true rfl) ⟨Nat.zero_le _, Nat.zero_le _⟩ dX6_canBe_26 (fun w344 z344 H locs hp hH => ?_)
        rw [Ag_0 hp.1.2] at hH
        have i344 := hp.2.1
        have := i344.1; have := i344.2
        have f344_0 := hp.2.2
        refine lv_if_eq (tgt := 107) hx hb dX6_canBe_29 (by decide) (fun c345 => ?_) (fun c345 => ?_)
        · skip
          have r345 := (iv_Eq c345)
          have k346a : iv 0 0 w344 := iv_eql (iv_Eq c345) i344 (iv_lit (n := 0) 0 (by decide)) (by decide) (by decide)
          have j347 : iv 1 10 (x4_14 + 1) := iv_add k343a (iv_lit (n := 1) 1 (by decide)) (by decide) (by decide) (by decide) (by decide)
          have e347 : (x4_14 + 1).toInt = x4_14.toInt + 1 := (iv_addE k343a (iv_lit (n := 1) 1 (by decide)) (by decide) (by decide)).trans rfl
          refine lv_iinc (v := (x4_14 + 1)) (lv' := [(4, .int (x4_14 + 1)), (0, .ref (q 0)), (1, .int p0), (2, .int p1), (3, .int p2)]) hx hb dX6_canBe_107 hl (k := 4) rfl rfl (by decide) rfl (fun ls hl => ?_)
          refine lv_goto (tgt := 14) hx hb dX6_canBe_110 (by decide) ?_
          exact ih14 _ (ms_up e347 j347.2 hn14) (x4_14 + 1)  H locs ls (iv_w j347 (by decide) (by decide)) ⟨⟨ex_14.1.1, cb_s ex_14.1.2 (by have := iv_nat k343a (by decide); have := iv_nat j347 (by decide); omega) (Or.inl (cb_in k343a f344_0 c345))⟩, by omega⟩  hH (lv_sub hl [1, 2, 3, 4, 0] rfl) rfl
        · skip
          have r345 := (iv_nEq c345)
          have k348a : iv 1 1 w344 := iv_neLo (iv_nEq c345) i344 (by decide) (by decide)
          refine lv_aload_n hx hb dX6_canBe_32 rfl (lv_at hl 0 rfl) ?_
          refine b_get (ci := 6) (C := RX6) (T := TX6) (Nf := 29) (v := .ref (q 18)) hx hb hts in_X6_canBe_X6 hown hK hH 0 (by decide) rfl rfl 24 (by decide) (hts (.fieldLink RX6 66 "StationLineModel" "leaders" "[I") (List.mem_of_getElem? (i := 3) rfl)) rfl dX6_canBe_33 ?_
          refine lv_iload hx hb dX6_canBe_36 (lv_at hl 4 rfl) ?_
          refine b_iald (v := z0.2.1 18 (x4_14 : Int32).toNatClampNeg) hx hb hK hH 18 (by decide) rfl (iv_in k343a (by decide) (by decide)) rfl dX6_canBe_38 ?_
          refine lv_iload_n hx hb dX6_canBe_39 rfl (lv_at hl 3 rfl) ?_
          refine lv_iload_n hx hb dX6_canBe_40 rfl (lv_at hl 1 rfl) ?_
          refine lv_ior hx hb dX6_canBe_41 ?_
          refine lv_iconst (v := (-1)) hx hb dX6_canBe_42 (by decide) ?_
          refine lv_ixor hx hb dX6_canBe_43 ?_
          refine lv_iand hx hb dX6_canBe_44 ?_
          refine lv_if_eq (tgt := 72) hx hb dX6_canBe_45 (by decide) (fun c352 => ?_) (fun c352 => ?_)
          · skip
            have r352 := (iv_Eq c352)
            have k353a : iv 0 0 ((z0.2.1 18 (x4_14 : Int32).toNatClampNeg) &&& ((p2 ||| p0) ^^^ (-1))) := iv_eql (iv_Eq c352) (iv_all ((z0.2.1 18 (x4_14 : Int32).toNatClampNeg) &&& ((p2 ||| p0) ^^^ (-1)))) (iv_lit (n := 0) 0 (by decide)) (by decide) (by decide)
            refine lv_iconst (v := 1) hx hb dX6_canBe_72 (by decide) ?_
            refine lv_goto (tgt := 77) hx hb dX6_canBe_73 (by decide) ?_
            refine lv_istore (lv' := [(5, .int 1), (0, .ref (q 0)), (1, .int p0), (2, .int p1), (3, .int p2), (4, .int x4_14)]) hx hb dX6_canBe_77 hl (by decide) rfl (fun ls hl => ?_)
            refine lv_iload hx hb dX6_canBe_79 (lv_at hl 0 rfl) ?_
            refine lv_if_eq (tgt := 105) hx hb dX6_canBe_81 (by decide) (fun c354 => ?_) (fun c354 => ?_)
            · skip
              exact absurd (iv_Eq c354) (by have := (iv_lit (n := 1) 1 (by decide)).1; have := (iv_lit (n := 1) 1 (by decide)).2; have := (iv_lit (n := 0) 0 (by decide)).1; have := (iv_lit (n := 0) 0 (by decide)).2; omega)
            · skip
              have r354 := (iv_nEq c354)
              refine lv_aload_n hx hb dX6_canBe_84 rfl (lv_at hl 1 rfl) ?_
              refine b_get (ci := 6) (C := RX6) (T := TX6) (Nf := 29) (v := .ref (q 5)) hx hb hts in_X6_canBe_X6 hown hK hH 0 (by decide) rfl rfl 5 (by decide) (hts (.fieldLink RX6 22 "StationLineModel" "held" "[I") (List.mem_of_getElem? (i := 6) rfl)) rfl dX6_canBe_85 ?_
              refine lv_iload hx hb dX6_canBe_88 (lv_at hl 5 rfl) ?_
              refine b_iald (v := z0.2.1 5 (x4_14 : Int32).toNatClampNeg) hx hb hK hH 5 (by decide) rfl (iv_in k343a (by decide) (by decide)) rfl dX6_canBe_90 ?_
              refine lv_if_le (tgt := 107) hx hb dX6_canBe_91 (by decide) (fun c356 => ?_) (fun c356 => ?_)
              · skip
                have r356 := (iv_Le c356)
                have k357a : iv (-2147483648) 0 (z0.2.1 5 (x4_14 : Int32).toNatClampNeg) := iv_lel (iv_Le c356) (iv_all (z0.2.1 5 (x4_14 : Int32).toNatClampNeg)) (iv_lit (n := 0) 0 (by decide))
                have j358 : iv 1 10 (x4_14 + 1) := iv_add k343a (iv_lit (n := 1) 1 (by decide)) (by decide) (by decide) (by decide) (by decide)
                have e358 : (x4_14 + 1).toInt = x4_14.toInt + 1 := (iv_addE k343a (iv_lit (n := 1) 1 (by decide)) (by decide) (by decide)).trans rfl
                refine lv_iinc (v := (x4_14 + 1)) (lv' := [(4, .int (x4_14 + 1)), (5, .int 1), (0, .ref (q 0)), (1, .int p0), (2, .int p1), (3, .int p2)]) hx hb dX6_canBe_107 hl (k := 5) rfl rfl (by decide) rfl (fun ls hl => ?_)
                refine lv_goto (tgt := 14) hx hb dX6_canBe_110 (by decide) ?_
                exact ih14 _ (ms_up e358 j358.2 hn14) (x4_14 + 1)  H locs ls (iv_w j358 (by decide) (by decide)) ⟨⟨ex_14.1.1, cb_s ex_14.1.2 (by have := iv_nat k343a (by decide); have := iv_nat j358 (by decide); omega) (Or.inr ⟨Or.inl c352, Or.inl c356⟩)⟩, by omega⟩  hH (lv_sub hl [2, 3, 4, 5, 0] rfl) rfl
              · skip
                have r356 := (iv_nLe c356)
                have k359b : iv 1 2147483647 (z0.2.1 5 (x4_14 : Int32).toNatClampNeg) := iv_ltr (iv_nLe c356) (iv_lit (n := 0) 0 (by decide)) (iv_all (z0.2.1 5 (x4_14 : Int32).toNatClampNeg)) (by decide)
                refine lv_aload_n hx hb dX6_canBe_94 rfl (lv_at hl 1 rfl) ?_
                refine b_get (ci := 6) (C := RX6) (T := TX6) (Nf := 29) (v := .ref (q 5)) hx hb hts in_X6_canBe_X6 hown hK hH 0 (by decide) rfl rfl 5 (by decide) (hts (.fieldLink RX6 22 "StationLineModel" "held" "[I") (List.mem_of_getElem? (i := 6) rfl)) rfl dX6_canBe_95 ?_
                refine lv_iload hx hb dX6_canBe_98 (lv_at hl 5 rfl) ?_
                refine b_iald (v := z0.2.1 5 (x4_14 : Int32).toNatClampNeg) hx hb hK hH 5 (by decide) rfl (iv_in k343a (by decide) (by decide)) rfl dX6_canBe_100 ?_
                refine lv_iload_n hx hb dX6_canBe_101 rfl (lv_at hl 3 rfl) ?_
                refine lv_icmp_eq (tgt := 107) hx hb dX6_canBe_102 (by decide) (fun c360 => ?_) (fun c360 => ?_)
                · skip
                  have r360 := (iv_Eq c360)
                  have j362 : iv 1 10 (x4_14 + 1) := iv_add k343a (iv_lit (n := 1) 1 (by decide)) (by decide) (by decide) (by decide) (by decide)
                  have e362 : (x4_14 + 1).toInt = x4_14.toInt + 1 := (iv_addE k343a (iv_lit (n := 1) 1 (by decide)) (by decide) (by decide)).trans rfl
                  refine lv_iinc (v := (x4_14 + 1)) (lv' := [(4, .int (x4_14 + 1)), (5, .int 1), (0, .ref (q 0)), (1, .int p0), (2, .int p1), (3, .int p2)]) hx hb dX6_canBe_107 hl (k := 5) rfl rfl (by decide) rfl (fun ls hl => ?_)
                  refine lv_goto (tgt := 14) hx hb dX6_canBe_110 (by decide) ?_
                  exact ih14 _ (ms_up e362 j362.2 hn14) (x4_14 + 1)  H locs ls (iv_w j362 (by decide) (by decide)) ⟨⟨ex_14.1.1, cb_s ex_14.1.2 (by have := iv_nat k343a (by decide); have := iv_nat j362 (by decide); omega) (Or.inr ⟨Or.inl c352, Or.inr c360⟩)⟩, by omega⟩  hH (lv_sub hl [2, 3, 4, 5, 0] rfl) rfl
                · skip
                  have r360 := (iv_nEq c360)
                  refine lv_iconst (v := 0) hx hb dX6_canBe_105 (by decide) ?_
                  exact hret _ z0 H locs _ _ (iv_w (iv_lit (n := 0) 0 (by decide)) (by decide) (by decide)) ⟨hJ, (iv_w (iv_lit (n := 0) 0 (by decide)) (by decide) (by decide)), ⟨fun q => absurd rfl q, fun q => absurd (q.2 _ (by have := iv_nat k343a (by decide); have := iv_nat (IvM_s0 hI) (by decide); omega)) (cb_no k343a f344_0 c345 (fun q => q.2.elim (fun r => absurd r c356) c360))⟩⟩ hH dX6_canBe_106
          · skip
            have r352 := (iv_nEq c352)
            refine lv_aload_n hx hb dX6_canBe_48 rfl (lv_at hl 0 rfl) ?_
            refine b_get (ci := 6) (C := RX6) (T := TX6) (Nf := 29) (v := .int (z0.1 1)) hx hb hts in_X6_canBe_X6 hown hK hH 0 (by decide) rfl rfl 7 (by decide) (hts (.fieldLink RX6 113 "StationLineModel" "kind" "I") (List.mem_of_getElem? (i := 4) rfl)) rfl dX6_canBe_49 ?_
            refine lv_iconst (v := 1) hx hb dX6_canBe_52 (by decide) ?_
            refine lv_icmp_ne (tgt := 76) hx hb dX6_canBe_53 (by decide) (fun c365 => ?_) (fun c365 => ?_)
            · skip
              have r365 := (iv_nEq c365)
              refine lv_iconst (v := 0) hx hb dX6_canBe_76 (by decide) ?_
              refine lv_istore (lv' := [(5, .int 0), (0, .ref (q 0)), (1, .int p0), (2, .int p1), (3, .int p2), (4, .int x4_14)]) hx hb dX6_canBe_77 hl (by decide) rfl (fun ls hl => ?_)
              refine lv_iload hx hb dX6_canBe_79 (lv_at hl 0 rfl) ?_
              refine lv_if_eq (tgt := 105) hx hb dX6_canBe_81 (by decide) (fun c367 => ?_) (fun c367 => ?_)
              · skip
                have r367 := (iv_Eq c367)
                refine lv_iconst (v := 0) hx hb dX6_canBe_105 (by decide) ?_
                exact hret _ z0 H locs _ _ (iv_w (iv_lit (n := 0) 0 (by decide)) (by decide) (by decide)) ⟨hJ, (iv_w (iv_lit (n := 0) 0 (by decide)) (by decide) (by decide)), ⟨fun q => absurd rfl q, fun q => absurd (q.2 _ (by have := iv_nat k343a (by decide); have := iv_nat (IvM_s0 hI) (by decide); omega)) (cb_no k343a f344_0 c345 (fun q => q.1.elim c352 (fun r => c365 r.1)))⟩⟩ hH dX6_canBe_106
              · skip
                exact absurd (iv_nEq c367) (by have := (iv_lit (n := 0) 0 (by decide)).1; have := (iv_lit (n := 0) 0 (by decide)).2; have := (iv_lit (n := 0) 0 (by decide)).1; have := (iv_lit (n := 0) 0 (by decide)).2; omega)
            · skip
              have r365 := (iv_Eq c365)
              have k369a : iv 1 1 (z0.1 1) := iv_eql (iv_Eq c365) (iv_all (z0.1 1)) (iv_lit (n := 1) 1 (by decide)) (by decide) (by decide)
              refine lv_aload_n hx hb dX6_canBe_56 rfl (lv_at hl 0 rfl) ?_
              refine b_get (ci := 6) (C := RX6) (T := TX6) (Nf := 29) (v := .ref (q 17)) hx hb hts in_X6_canBe_X6 hown hK hH 0 (by decide) rfl rfl 23 (by decide) (hts (.fieldLink RX6 63 "StationLineModel" "followers" "[I") (List.mem_of_getElem? (i := 5) rfl)) rfl dX6_canBe_57 ?_
              refine lv_iload hx hb dX6_canBe_60 (lv_at hl 4 rfl) ?_
              refine b_iald (v := z0.2.1 17 (x4_14 : Int32).toNatClampNeg) hx hb hK hH 17 (by decide) rfl (iv_in k343a (by decide) (by decide)) rfl dX6_canBe_62 ?_
              refine lv_iload_n hx hb dX6_canBe_63 rfl (lv_at hl 3 rfl) ?_
              refine lv_iload_n hx hb dX6_canBe_64 rfl (lv_at hl 1 rfl) ?_
              refine lv_ior hx hb dX6_canBe_65 ?_
              refine lv_iconst (v := (-1)) hx hb dX6_canBe_66 (by decide) ?_
              refine lv_ixor hx hb dX6_canBe_67 ?_
              refine lv_iand hx hb dX6_canBe_68 ?_
              refine lv_if_ne (tgt := 76) hx hb dX6_canBe_69 (by decide) (fun c373 => ?_) (fun c373 => ?_)
              · skip
                have r373 := (iv_nEq c373)
                refine lv_iconst (v := 0) hx hb dX6_canBe_76 (by decide) ?_
                refine lv_istore (lv' := [(5, .int 0), (0, .ref (q 0)), (1, .int p0), (2, .int p1), (3, .int p2), (4, .int x4_14)]) hx hb dX6_canBe_77 hl (by decide) rfl (fun ls hl => ?_)
                refine lv_iload hx hb dX6_canBe_79 (lv_at hl 0 rfl) ?_
                refine lv_if_eq (tgt := 105) hx hb dX6_canBe_81 (by decide) (fun c375 => ?_) (fun c375 => ?_)
                · skip
                  have r375 := (iv_Eq c375)
                  refine lv_iconst (v := 0) hx hb dX6_canBe_105 (by decide) ?_
                  exact hret _ z0 H locs _ _ (iv_w (iv_lit (n := 0) 0 (by decide)) (by decide) (by decide)) ⟨hJ, (iv_w (iv_lit (n := 0) 0 (by decide)) (by decide) (by decide)), ⟨fun q => absurd rfl q, fun q => absurd (q.2 _ (by have := iv_nat k343a (by decide); have := iv_nat (IvM_s0 hI) (by decide); omega)) (cb_no k343a f344_0 c345 (fun q => q.1.elim c352 (fun r => c373 r.2)))⟩⟩ hH dX6_canBe_106
                · skip
                  exact absurd (iv_nEq c375) (by have := (iv_lit (n := 0) 0 (by decide)).1; have := (iv_lit (n := 0) 0 (by decide)).2; have := (iv_lit (n := 0) 0 (by decide)).1; have := (iv_lit (n := 0) 0 (by decide)).2; omega)
              · skip
                have r373 := (iv_Eq c373)
                have k377a : iv 0 0 ((z0.2.1 17 (x4_14 : Int32).toNatClampNeg) &&& ((p2 ||| p0) ^^^ (-1))) := iv_eql (iv_Eq c373) (iv_all ((z0.2.1 17 (x4_14 : Int32).toNatClampNeg) &&& ((p2 ||| p0) ^^^ (-1)))) (iv_lit (n := 0) 0 (by decide)) (by decide) (by decide)
                refine lv_iconst (v := 1) hx hb dX6_canBe_72 (by decide) ?_
                refine lv_goto (tgt := 77) hx hb dX6_canBe_73 (by decide) ?_
                refine lv_istore (lv' := [(5, .int 1), (0, .ref (q 0)), (1, .int p0), (2, .int p1), (3, .int p2), (4, .int x4_14)]) hx hb dX6_canBe_77 hl (by decide) rfl (fun ls hl => ?_)
                refine lv_iload hx hb dX6_canBe_79 (lv_at hl 0 rfl) ?_
                refine lv_if_eq (tgt := 105) hx hb dX6_canBe_81 (by decide) (fun c378 => ?_) (fun c378 => ?_)
                · skip
                  exact absurd (iv_Eq c378) (by have := (iv_lit (n := 1) 1 (by decide)).1; have := (iv_lit (n := 1) 1 (by decide)).2; have := (iv_lit (n := 0) 0 (by decide)).1; have := (iv_lit (n := 0) 0 (by decide)).2; omega)
                · skip
                  have r378 := (iv_nEq c378)
                  refine lv_aload_n hx hb dX6_canBe_84 rfl (lv_at hl 1 rfl) ?_
                  refine b_get (ci := 6) (C := RX6) (T := TX6) (Nf := 29) (v := .ref (q 5)) hx hb hts in_X6_canBe_X6 hown hK hH 0 (by decide) rfl rfl 5 (by decide) (hts (.fieldLink RX6 22 "StationLineModel" "held" "[I") (List.mem_of_getElem? (i := 6) rfl)) rfl dX6_canBe_85 ?_
                  refine lv_iload hx hb dX6_canBe_88 (lv_at hl 5 rfl) ?_
                  refine b_iald (v := z0.2.1 5 (x4_14 : Int32).toNatClampNeg) hx hb hK hH 5 (by decide) rfl (iv_in k343a (by decide) (by decide)) rfl dX6_canBe_90 ?_
                  refine lv_if_le (tgt := 107) hx hb dX6_canBe_91 (by decide) (fun c380 => ?_) (fun c380 => ?_)
                  · skip
                    have r380 := (iv_Le c380)
                    have k381a : iv (-2147483648) 0 (z0.2.1 5 (x4_14 : Int32).toNatClampNeg) := iv_lel (iv_Le c380) (iv_all (z0.2.1 5 (x4_14 : Int32).toNatClampNeg)) (iv_lit (n := 0) 0 (by decide))
                    have j382 : iv 1 10 (x4_14 + 1) := iv_add k343a (iv_lit (n := 1) 1 (by decide)) (by decide) (by decide) (by decide) (by decide)
                    have e382 : (x4_14 + 1).toInt = x4_14.toInt + 1 := (iv_addE k343a (iv_lit (n := 1) 1 (by decide)) (by decide) (by decide)).trans rfl
                    refine lv_iinc (v := (x4_14 + 1)) (lv' := [(4, .int (x4_14 + 1)), (5, .int 1), (0, .ref (q 0)), (1, .int p0), (2, .int p1), (3, .int p2)]) hx hb dX6_canBe_107 hl (k := 5) rfl rfl (by decide) rfl (fun ls hl => ?_)
                    refine lv_goto (tgt := 14) hx hb dX6_canBe_110 (by decide) ?_
                    exact ih14 _ (ms_up e382 j382.2 hn14) (x4_14 + 1)  H locs ls (iv_w j382 (by decide) (by decide)) ⟨⟨ex_14.1.1, cb_s ex_14.1.2 (by have := iv_nat k343a (by decide); have := iv_nat j382 (by decide); omega) (Or.inr ⟨Or.inr ⟨c365, c373⟩, Or.inl c380⟩)⟩, by omega⟩  hH (lv_sub hl [2, 3, 4, 5, 0] rfl) rfl
                  · skip
                    have r380 := (iv_nLe c380)
                    have k383b : iv 1 2147483647 (z0.2.1 5 (x4_14 : Int32).toNatClampNeg) := iv_ltr (iv_nLe c380) (iv_lit (n := 0) 0 (by decide)) (iv_all (z0.2.1 5 (x4_14 : Int32).toNatClampNeg)) (by decide)
                    refine lv_aload_n hx hb dX6_canBe_94 rfl (lv_at hl 1 rfl) ?_
                    refine b_get (ci := 6) (C := RX6) (T := TX6) (Nf := 29) (v := .ref (q 5)) hx hb hts in_X6_canBe_X6 hown hK hH 0 (by decide) rfl rfl 5 (by decide) (hts (.fieldLink RX6 22 "StationLineModel" "held" "[I") (List.mem_of_getElem? (i := 6) rfl)) rfl dX6_canBe_95 ?_
                    refine lv_iload hx hb dX6_canBe_98 (lv_at hl 5 rfl) ?_
                    refine b_iald (v := z0.2.1 5 (x4_14 : Int32).toNatClampNeg) hx hb hK hH 5 (by decide) rfl (iv_in k343a (by decide) (by decide)) rfl dX6_canBe_100 ?_
                    refine lv_iload_n hx hb dX6_canBe_101 rfl (lv_at hl 3 rfl) ?_
                    refine lv_icmp_eq (tgt := 107) hx hb dX6_canBe_102 (by decide) (fun c384 => ?_) (fun c384 => ?_)
                    · skip
                      have r384 := (iv_Eq c384)
                      have j386 : iv 1 10 (x4_14 + 1) := iv_add k343a (iv_lit (n := 1) 1 (by decide)) (by decide) (by decide) (by decide) (by decide)
                      have e386 : (x4_14 + 1).toInt = x4_14.toInt + 1 := (iv_addE k343a (iv_lit (n := 1) 1 (by decide)) (by decide) (by decide)).trans rfl
                      refine lv_iinc (v := (x4_14 + 1)) (lv' := [(4, .int (x4_14 + 1)), (5, .int 1), (0, .ref (q 0)), (1, .int p0), (2, .int p1), (3, .int p2)]) hx hb dX6_canBe_107 hl (k := 5) rfl rfl (by decide) rfl (fun ls hl => ?_)
                      refine lv_goto (tgt := 14) hx hb dX6_canBe_110 (by decide) ?_
                      exact ih14 _ (ms_up e386 j386.2 hn14) (x4_14 + 1)  H locs ls (iv_w j386 (by decide) (by decide)) ⟨⟨ex_14.1.1, cb_s ex_14.1.2 (by have := iv_nat k343a (by decide); have := iv_nat j386 (by decide); omega) (Or.inr ⟨Or.inr ⟨c365, c373⟩, Or.inr c384⟩)⟩, by omega⟩  hH (lv_sub hl [2, 3, 4, 5, 0] rfl) rfl
                    · skip
                      have r384 := (iv_nEq c384)
                      refine lv_iconst (v := 0) hx hb dX6_canBe_105 (by decide) ?_
                      exact hret _ z0 H locs _ _ (iv_w (iv_lit (n := 0) 0 (by decide)) (by decide) (by decide)) ⟨hJ, (iv_w (iv_lit (n := 0) 0 (by decide)) (by decide) (by decide)), ⟨fun q => absurd rfl q, fun q => absurd (q.2 _ (by have := iv_nat k343a (by decide); have := iv_nat (IvM_s0 hI) (by decide); omega)) (cb_no k343a f344_0 c345 (fun q => q.2.elim (fun r => absurd r c380) c384))⟩⟩ hH dX6_canBe_106
  refine lv_aload_n hx hb dX6_canBe_0 rfl (lv_at hl 0 rfl) ?_
  refine b_get (ci := 6) (C := RX6) (T := TX6) (Nf := 29) (v := .ref (q 14)) hx hb hts in_X6_canBe_X6 hown hK hH 0 (by decide) rfl rfl 20 (by decide) (hts (.fieldLink RX6 53 "StationLineModel" "isOne" "[Z") (List.mem_of_getElem? (i := 1) rfl)) rfl dX6_canBe_1 ?_
  refine lv_iload_n hx hb dX6_canBe_4 rfl (lv_at hl 1 rfl) ?_
  refine b_zald (v := z0.2.1 14 (p0 : Int32).toNatClampNeg) hx hb hK hH 14 (by decide) rfl (iv_in hp0 (by decide) (by decide)) rfl dX6_canBe_5 ?_
  refine lv_if_ne (tgt := 11) hx hb dX6_canBe_6 (by decide) (fun c388 => ?_) (fun c388 => ?_)
  · skip
    have r388 := (iv_nEq c388)
    refine lv_iconst (v := 0) hx hb dX6_canBe_11 (by decide) ?_
    refine lv_istore (lv' := [(4, .int 0), (0, .ref (q 0)), (1, .int p0), (2, .int p1), (3, .int p2)]) hx hb dX6_canBe_12 hl (by decide) rfl (fun ls hl => ?_)
    exact HL14 _ 0  H locs ls (iv_w (iv_lit (n := 0) 0 (by decide)) (by decide) (by decide)) ⟨⟨c388, fun j hj => absurd hj (Nat.not_lt_zero j)⟩, by omega⟩  hH (lv_sub hl [1, 2, 3, 4, 0] rfl) rfl
  · skip
    have r388 := (iv_Eq c388)
    have k390a : iv 0 0 (z0.2.1 14 (p0 : Int32).toNatClampNeg) := iv_eql (iv_Eq c388) (iv_all (z0.2.1 14 (p0 : Int32).toNatClampNeg)) (iv_lit (n := 0) 0 (by decide)) (by decide) (by decide)
    refine lv_iconst (v := 0) hx hb dX6_canBe_9 (by decide) ?_
    exact hret _ z0 H locs _ _ (iv_w (iv_lit (n := 0) 0 (by decide)) (by decide) (by decide)) ⟨hJ, (iv_w (iv_lit (n := 0) 0 (by decide)) (by decide) (by decide)), ⟨fun q => absurd rfl q, fun q => absurd c388 q.1⟩⟩ hH dX6_canBe_10
set_option maxHeartbeats 4000000 in
set_option maxRecDepth 100000 in
theorem g_X6_square_0 (l : Launch) (D : va_G) (cy : Nat → ClassId) (q : Nat → Nat) (hq : bJ 23 q) (z0 : zS) (hI : IvM z0) (p0 : Int32) (hp0 : iv 0 1023 p0) : bCl l yX6_square wsX6_square ({ frames := 0, cells := 0, slots := 0, locals := 0 }) D cy 23 (enM cy) q z0 [.ref (q 0), .int p0] (fun v z => jJ IvM 0 0 0 z0 z ∧ (v = sqS z0 p0)) := by
  refine hM_l cX6_square (by decide) rfl (own := RX6) rfl hq (Nat.le_of_ble_eq_true rfl) ?_
  intro p e s m args below meth c Q ls H locs hx hb hml hown hts hK hZ hH hl hret
  have hl : lv_has ls 2 [(0, .ref (q 0)), (1, .int p0)] := hl
  have hJ : jJ IvM 0 0 0 z0 z0 := jJ_rf _ _ _ hI
  refine lv_aload_n hx hb dX6_square_0 rfl (lv_at hl 0 rfl) ?_
  refine b_get (ci := 6) (C := RX6) (T := TX6) (Nf := 29) (v := .ref (q 16)) hx hb hts in_X6_square_X6 hown hK hH 0 (by decide) rfl rfl 22 (by decide) (hts (.fieldLink RX6 60 "StationLineModel" "loads" "[I") (List.mem_of_getElem? (i := 1) rfl)) rfl dX6_square_1 ?_
  refine lv_iload_n hx hb dX6_square_4 rfl (lv_at hl 1 rfl) ?_
  refine b_iald (v := z0.2.1 16 (p0 : Int32).toNatClampNeg) hx hb hK hH 16 (by decide) rfl (iv_in hp0 (by decide) (by decide)) rfl dX6_square_5 ?_
  have i3 : iv 0 27000 (z0.2.1 16 (p0 : Int32).toNatClampNeg) := IvM_a16 hJ.1 _ (b_inlt (iv_in hp0 (by decide) (by decide)))
  refine lv_i2l hx hb dX6_square_6 rfl ?_
  refine lv_aload_n hx hb dX6_square_7 rfl (lv_at hl 0 rfl) ?_
  refine b_get (ci := 6) (C := RX6) (T := TX6) (Nf := 29) (v := .ref (q 16)) hx hb hts in_X6_square_X6 hown hK hH 0 (by decide) rfl rfl 22 (by decide) (hts (.fieldLink RX6 60 "StationLineModel" "loads" "[I") (List.mem_of_getElem? (i := 1) rfl)) rfl dX6_square_8 ?_
  refine lv_iload_n hx hb dX6_square_11 rfl (lv_at hl 1 rfl) ?_
  refine b_iald (v := z0.2.1 16 (p0 : Int32).toNatClampNeg) hx hb hK hH 16 (by decide) rfl (iv_in hp0 (by decide) (by decide)) rfl dX6_square_12 ?_
  have i4 : iv 0 27000 (z0.2.1 16 (p0 : Int32).toNatClampNeg) := IvM_a16 hJ.1 _ (b_inlt (iv_in hp0 (by decide) (by decide)))
  refine lv_i2l hx hb dX6_square_13 rfl ?_
  refine lv_lmul hx hb dX6_square_14 ?_
  exact hret _ z0 H locs _ _ ⟨hJ, rfl⟩ hH dX6_square_15
set_option maxHeartbeats 4000000 in
set_option maxRecDepth 100000 in
theorem g_X6_isNext_0 (l : Launch) (D : va_G) (cy : Nat → ClassId) (q : Nat → Nat) (hq : bJ 23 q) (z0 : zS) (hI : IvM z0) (p0 : Int32) (hp0 : iv 0 1023 p0) (p1 : Int32) (hp1 : iv 1 10 p1) (p2 : Int32) (hp2 : iv 0 1023 p2) (p3 : Int32) : bCi l yX6_isNext wsX6_isNext ({ frames := 2, cells := 0, slots := 0, locals := 46 }) D cy 23 (enM cy) q z0 [.ref (q 0), .int p0, .int p1, .int p2, .int p3] (fun v z => jJ IvM 0 0 0 z0 z ∧ iv 0 1 v ∧ (¬ v = 0 ↔ NX z0 p0 p1 p2 p3)) := by
  refine hM_z cX6_isNext (by decide) rfl (own := RX6) rfl hq (Nat.le_of_ble_eq_true rfl) ?_
  intro p e s m args below meth c Q ls H locs hx hb hml hown hts hK hZ hH hl hret
  have hl : lv_has ls 5 [(0, .ref (q 0)), (1, .int p0), (2, .int p1), (3, .int p2), (4, .int p3)] := hl
  have hJ : jJ IvM 0 0 0 z0 z0 := jJ_rf _ _ _ hI
  refine lv_iload_n hx hb dX6_isNext_0 rfl (lv_at hl 1 rfl) ?_
  refine lv_iload_n hx hb dX6_isNext_1 rfl (lv_at hl 3 rfl) ?_
  refine lv_iand hx hb dX6_isNext_2 ?_
  have i30 : iv 0 1023 (p0 &&& p2) := (iv_and hp0 hp2 (by decide) (by decide))
  have e30 : (p0 &&& p2).toInt ≤ p0.toInt := (iv_andlt hp0 (by decide))
  refine lv_if_ne (tgt := 35) hx hb dX6_isNext_3 (by decide) (fun c31 => ?_) (fun c31 => ?_)
  · skip
    have k32a : iv 1 1023 (p0 &&& p2) := iv_neLo (iv_nEq c31) i30 (by decide) (by decide)
    refine lv_iconst (v := 0) hx hb dX6_isNext_35 (by decide) ?_
    exact hret _ z0 H locs _ _ (iv_w (iv_lit (n := 0) 0 (by decide)) (by decide) (by decide)) ⟨hJ, (iv_w (iv_lit (n := 0) 0 (by decide)) (by decide) (by decide)), ⟨fun q => absurd rfl q, fun q => absurd q.1 c31⟩⟩ hH dX6_isNext_36
  · skip
    have k33a : iv 0 0 (p0 &&& p2) := iv_eql (iv_Eq c31) i30 (iv_lit (n := 0) 0 (by decide)) (by decide) (by decide)
    refine lv_aload_n hx hb dX6_isNext_6 rfl (lv_at hl 0 rfl) ?_
    refine lv_iload_n hx hb dX6_isNext_7 rfl (lv_at hl 1 rfl) ?_
    refine lv_iload_n hx hb dX6_isNext_8 rfl (lv_at hl 2 rfl) ?_
    refine lv_iload_n hx hb dX6_isNext_9 rfl (lv_at hl 3 rfl) ?_
    refine b_calli (As := [.int p0, .int p1, .int p2]) (rest := []) ⟨hx, hb, hml, hown, hts⟩ 0 6 (g_X6_canBe_0 l D cy q hH.2.1 z0 hJ.1 p0 hp0 p1 p2) (cwV 3 hts gX6_isNext_X6_canBe rfl rfl rfl (by decide +kernel) ⟨Nat.le_of_ble_eq_true rfl, Nat.le_of_ble_eq_true rfl⟩) hK hZ hH (by decide) rfl rfl rfl hl.1 rfl (Nat.le_of_ble_eq_true rfl) ⟨Nat.zero_le _, Nat.zero_le _⟩ dX6_isNext_10 (fun w34 z34 H locs hp hH => ?_)
    rw [Ag_0 hp.1.2] at hH
    have i34 := hp.2.1
    have f34_0 := hp.2.2
    refine lv_if_eq (tgt := 35) hx hb dX6_isNext_13 (by decide) (fun c35 => ?_) (fun c35 => ?_)
    · skip
      have k36a : iv 0 0 w34 := iv_eql (iv_Eq c35) i34 (iv_lit (n := 0) 0 (by decide)) (by decide) (by decide)
      refine lv_iconst (v := 0) hx hb dX6_isNext_35 (by decide) ?_
      exact hret _ z0 H locs _ _ (iv_w (iv_lit (n := 0) 0 (by decide)) (by decide) (by decide)) ⟨hJ, (iv_w (iv_lit (n := 0) 0 (by decide)) (by decide) (by decide)), ⟨fun q => absurd rfl q, fun q => absurd (f34_0.mpr q.2.1) (fun r => r c35)⟩⟩ hH dX6_isNext_36
    · skip
      have k37a : iv 1 1 w34 := iv_neLo (iv_nEq c35) i34 (by decide) (by decide)
      refine lv_aload_n hx hb dX6_isNext_16 rfl (lv_at hl 0 rfl) ?_
      refine b_get (ci := 6) (C := RX6) (T := TX6) (Nf := 29) (v := .ref (q 20)) hx hb hts in_X6_isNext_X6 hown hK hH 0 (by decide) rfl rfl 26 (by decide) (hts (.fieldLink RX6 73 "StationLineModel" "least" "[J") (List.mem_of_getElem? (i := 1) rfl)) rfl dX6_isNext_17 ?_
      refine lv_sipush (v := 1024) hx hb dX6_isNext_20 (by decide) ?_
      refine lv_iload_n hx hb dX6_isNext_23 rfl (lv_at hl 2 rfl) ?_
      refine lv_imul hx hb dX6_isNext_24 ?_
      have i38 : iv 1024 10240 ((1024 : Int32) * p1) := (iv_mul (iv_lit (n := 1024) 1024 (by decide)) hp1 (by decide) (by decide) (by decide) (by decide) (by decide))
      refine lv_iload_n hx hb dX6_isNext_25 rfl (lv_at hl 3 rfl) ?_
      refine lv_iload_n hx hb dX6_isNext_26 rfl (lv_at hl 1 rfl) ?_
      refine lv_ior hx hb dX6_isNext_27 ?_
      have i39 : iv 0 1023 (p2 ||| p0) := (iv_or 10 (b := 1023) (d := 1023) (iv_w hp2 (by decide) (by decide)) (iv_w hp0 (by decide) (by decide)) (by decide) (by decide) (by decide) (by decide))
      refine lv_iadd hx hb dX6_isNext_28 ?_
      have i40 : iv 1024 11263 (((1024 : Int32) * p1) + (p2 ||| p0)) := (iv_add i38 i39 (by decide) (by decide) (by decide) (by decide))
      refine b_lald hx hb hK hH 20 (by decide) rfl (iv_in i40 (by decide) (by decide)) rfl dX6_isNext_29 ?_
      refine lv_lconst (v := 0) hx hb dX6_isNext_30 (by decide) ?_
      refine W.lcmp hx hb dX6_isNext_31 ?_
      refine lv_if_ge (tgt := 37) hx hb dX6_isNext_32 (by decide) (fun c42 => ?_) (fun c42 => ?_)
      · skip
        have k43b : iv 0 2147483647 (lg_cmp (z0.2.2 20 (((1024 : Int32) * p1) + (p2 ||| p0) : Int32).toNatClampNeg) 0) := iv_ler (iv_Le c42) (iv_lit (n := 0) 0 (by decide)) (iv_all (lg_cmp (z0.2.2 20 (((1024 : Int32) * p1) + (p2 ||| p0) : Int32).toNatClampNeg) 0))
        refine lv_iload hx hb dX6_isNext_37 (lv_at hl 4 rfl) ?_
        refine lv_if_eq (tgt := 80) hx hb dX6_isNext_39 (by decide) (fun c44 => ?_) (fun c44 => ?_)
        · skip
          have k45a : iv 0 0 p3 := iv_eql (iv_Eq c44) (iv_all p3) (iv_lit (n := 0) 0 (by decide)) (by decide) (by decide)
          refine lv_iconst (v := 1) hx hb dX6_isNext_80 (by decide) ?_
          refine lv_goto (tgt := 85) hx hb dX6_isNext_81 (by decide) ?_
          exact hret _ z0 H locs _ _ (iv_w (iv_lit (n := 1) 1 (by decide)) (by decide) (by decide)) ⟨hJ, (iv_w (iv_lit (n := 1) 1 (by decide)) (by decide) (by decide)), ⟨fun _ => ⟨c31, f34_0.mp c35, c42, Or.inl c44⟩, fun _ => by decide⟩⟩ hH dX6_isNext_85
        · skip
          refine lv_aload_n hx hb dX6_isNext_42 rfl (lv_at hl 0 rfl) ?_
          refine lv_iload_n hx hb dX6_isNext_43 rfl (lv_at hl 1 rfl) ?_
          refine b_calll (As := [.int p0]) (rest := []) ⟨hx, hb, hml, hown, hts⟩ 0 6 (g_X6_square_0 l D cy q hH.2.1 z0 hJ.1 p0 hp0) (cwV 1 hts gX6_isNext_X6_square rfl rfl rfl (by decide +kernel) ⟨Nat.le_of_ble_eq_true rfl, Nat.le_of_ble_eq_true rfl⟩) hK hZ hH (by decide) rfl rfl rfl hl.1 rfl (Nat.le_of_ble_eq_true rfl) ⟨Nat.zero_le _, Nat.zero_le _⟩ dX6_isNext_44 (fun w47 z47 H locs hp hH => ?_)
          rw [Ag_0 hp.1.2] at hH
          have f47_0 := hp.2
          refine lv_aload_n hx hb dX6_isNext_47 rfl (lv_at hl 0 rfl) ?_
          refine b_get (ci := 6) (C := RX6) (T := TX6) (Nf := 29) (v := .ref (q 20)) hx hb hts in_X6_isNext_X6 hown hK hH 0 (by decide) rfl rfl 26 (by decide) (hts (.fieldLink RX6 73 "StationLineModel" "least" "[J") (List.mem_of_getElem? (i := 1) rfl)) rfl dX6_isNext_48 ?_
          refine lv_sipush (v := 1024) hx hb dX6_isNext_51 (by decide) ?_
          refine lv_iload_n hx hb dX6_isNext_54 rfl (lv_at hl 2 rfl) ?_
          refine lv_imul hx hb dX6_isNext_55 ?_
          have i48 : iv 1024 10240 ((1024 : Int32) * p1) := (iv_mul (iv_lit (n := 1024) 1024 (by decide)) hp1 (by decide) (by decide) (by decide) (by decide) (by decide))
          refine lv_iload_n hx hb dX6_isNext_56 rfl (lv_at hl 3 rfl) ?_
          refine lv_iload_n hx hb dX6_isNext_57 rfl (lv_at hl 1 rfl) ?_
          refine lv_ior hx hb dX6_isNext_58 ?_
          have i49 : iv 0 1023 (p2 ||| p0) := (iv_or 10 (b := 1023) (d := 1023) (iv_w hp2 (by decide) (by decide)) (iv_w hp0 (by decide) (by decide)) (by decide) (by decide) (by decide) (by decide))
          refine lv_iadd hx hb dX6_isNext_59 ?_
          have i50 : iv 1024 11263 (((1024 : Int32) * p1) + (p2 ||| p0)) := (iv_add i48 i49 (by decide) (by decide) (by decide) (by decide))
          refine b_lald hx hb hK hH 20 (by decide) rfl (iv_in i50 (by decide) (by decide)) rfl dX6_isNext_60 ?_
          refine lv_ladd hx hb dX6_isNext_61 ?_
          refine lv_aload_n hx hb dX6_isNext_62 rfl (lv_at hl 0 rfl) ?_
          refine b_get (ci := 6) (C := RX6) (T := TX6) (Nf := 29) (v := .ref (q 20)) hx hb hts in_X6_isNext_X6 hown hK hH 0 (by decide) rfl rfl 26 (by decide) (hts (.fieldLink RX6 73 "StationLineModel" "least" "[J") (List.mem_of_getElem? (i := 1) rfl)) rfl dX6_isNext_63 ?_
          refine lv_sipush (v := 1024) hx hb dX6_isNext_66 (by decide) ?_
          refine lv_iload_n hx hb dX6_isNext_69 rfl (lv_at hl 2 rfl) ?_
          refine lv_iconst (v := 1) hx hb dX6_isNext_70 (by decide) ?_
          refine lv_isub hx hb dX6_isNext_71 ?_
          have i51 : iv 0 9 (p1 - 1) := (iv_sub hp1 (iv_lit (n := 1) 1 (by decide)) (by decide) (by decide) (by decide) (by decide))
          have e51 : (p1 - 1).toInt = p1.toInt - 1 := ((iv_subE hp1 (iv_lit (n := 1) 1 (by decide)) (by decide) (by decide)).trans rfl)
          refine lv_imul hx hb dX6_isNext_72 ?_
          have i52 : iv 0 9216 ((1024 : Int32) * (p1 - 1)) := (iv_mul (iv_lit (n := 1024) 1024 (by decide)) i51 (by decide) (by decide) (by decide) (by decide) (by decide))
          refine lv_iload_n hx hb dX6_isNext_73 rfl (lv_at hl 3 rfl) ?_
          refine lv_iadd hx hb dX6_isNext_74 ?_
          have i53 : iv 0 10239 (((1024 : Int32) * (p1 - 1)) + p2) := (iv_add i52 hp2 (by decide) (by decide) (by decide) (by decide))
          refine b_lald hx hb hK hH 20 (by decide) rfl (iv_in i53 (by decide) (by decide)) rfl dX6_isNext_75 ?_
          refine W.lcmp hx hb dX6_isNext_76 ?_
          refine lv_if_ne (tgt := 84) hx hb dX6_isNext_77 (by decide) (fun c55 => ?_) (fun c55 => ?_)
          · skip
            refine lv_iconst (v := 0) hx hb dX6_isNext_84 (by decide) ?_
            exact hret _ z0 H locs _ _ (iv_w (iv_lit (n := 0) 0 (by decide)) (by decide) (by decide)) ⟨hJ, (iv_w (iv_lit (n := 0) 0 (by decide)) (by decide) (by decide)), ⟨fun q => absurd rfl q, fun q => absurd q.2.2.2 (fun r => r.elim c44 (fun r => c55 (by rw [f47_0]; exact r)))⟩⟩ hH dX6_isNext_85
          · skip
            have k57a : iv 0 0 (lg_cmp (w47 + (z0.2.2 20 (((1024 : Int32) * p1) + (p2 ||| p0) : Int32).toNatClampNeg)) (z0.2.2 20 (((1024 : Int32) * (p1 - 1)) + p2 : Int32).toNatClampNeg)) := iv_eql (iv_Eq c55) (iv_all (lg_cmp (w47 + (z0.2.2 20 (((1024 : Int32) * p1) + (p2 ||| p0) : Int32).toNatClampNeg)) (z0.2.2 20 (((1024 : Int32) * (p1 - 1)) + p2 : Int32).toNatClampNeg))) (iv_lit (n := 0) 0 (by decide)) (by decide) (by decide)
            refine lv_iconst (v := 1) hx hb dX6_isNext_80 (by decide) ?_
            refine lv_goto (tgt := 85) hx hb dX6_isNext_81 (by decide) ?_
            exact hret _ z0 H locs _ _ (iv_w (iv_lit (n := 1) 1 (by decide)) (by decide) (by decide)) ⟨hJ, (iv_w (iv_lit (n := 1) 1 (by decide)) (by decide) (by decide)), ⟨fun _ => ⟨c31, f34_0.mp c35, c42, Or.inr (by rw [← f47_0]; exact c55)⟩, fun _ => by decide⟩⟩ hH dX6_isNext_85
      · skip
        have k58a : iv (-2147483648) (-1) (lg_cmp (z0.2.2 20 (((1024 : Int32) * p1) + (p2 ||| p0) : Int32).toNatClampNeg) 0) := iv_ltl (iv_nLe c42) (iv_all (lg_cmp (z0.2.2 20 (((1024 : Int32) * p1) + (p2 ||| p0) : Int32).toNatClampNeg) 0)) (iv_lit (n := 0) 0 (by decide)) (by decide)
        refine lv_iconst (v := 0) hx hb dX6_isNext_35 (by decide) ?_
        exact hret _ z0 H locs _ _ (iv_w (iv_lit (n := 0) 0 (by decide)) (by decide) (by decide)) ⟨hJ, (iv_w (iv_lit (n := 0) 0 (by decide)) (by decide) (by decide)), ⟨fun q => absurd rfl q, fun q => absurd q.2.2.1 c42⟩⟩ hH dX6_isNext_36
