set_option maxHeartbeats 4000000 in
set_option maxRecDepth 100000 in
theorem c_X3_isFine_32 (l : Launch) (D : va_G) (cy : Nat → ClassId) (q : Nat → Nat) (hq : bJ 66 q) (z : zS) (hF : Fr z) (a : Int32) : bCi l yX3_isFine wsX3_isFine ({ frames := 1, cells := 0, slots := 0, locals := 22 }) D cy 66 (enC cy) q z [.ref (q 32), .int a] (fun r z' => z = z' ∧ (1 : Int32) = r) := by
  intro sz
  refine Met.ofW (cc := cX3_isFine) (maxL := 3) (ret := (some .boolean)) (by decide) rfl ?_
  intro p e s m args below meth c s₁ B hml hv
  obtain ⟨rfl, hsz, hP, hK, hZ⟩ := hv
  have hx := B.exec
  have hb := B.bytes
  have hr := B.returns
  have hts := atoms_spec (ws := wsX3_isFine) B.pre
  have hown : s.vm.findClass RX3 = some m.cls := findClass_of_methodNamed B.named
  have hlocks := B.notSynchronized
  subst hsz
  have hH : bH D 66 (enC cy) q z s.heap s.heap [] := bH_in hq hP
  have hl := lv_entry ([.ref (q 32), .int a]) (n := 3) (Nat.le_of_ble_eq_true rfl)
  rw [lg_entry_eq]
  generalize (lg_sl ([.ref (q 32), .int a]) ++ List.replicate (3 - (lg_sl ([.ref (q 32), .int a])).length) Slot.unset).toArray = ls at hl ⊢
  have hl : lv_has ls 3 [(0, .ref (q 32)), (1, .int a)] := hl
  refine lv_iconst (v := 0) hx hb dX3_isFine_0 (by decide) ?_
  refine lv_istore_n (lv' := [(2, .int 0), (0, .ref (q 32)), (1, .int a)]) hx hb dX3_isFine_1 rfl hl (by decide) rfl (fun ls hl => ?_)
  refine lv_iload_n hx hb dX3_isFine_2 rfl (lv_at hl 0 rfl) ?_
  refine lv_aload_n hx hb dX3_isFine_3 rfl (lv_at hl 1 rfl) ?_
  refine b_get (ci := 3) (C := RX3) (T := TX3) (Nf := 11) (v := .ref (q 1)) hx hb hts in_X3_isFine_X3 hown hK hH 32 (by decide) rfl rfl 0 (by decide) (hts (.fieldLink RX3 46 "StationLine$Search" "bench" "LStationLine$Bench;") (List.mem_of_getElem? (i := 1) rfl)) rfl dX3_isFine_4 ?_
  refine b_get (ci := 0) (C := RX0) (T := TX0) (Nf := 11) (v := .int 0) hx hb hts in_X3_isFine_X0 hown hK hH 1 (by decide) rfl rfl 0 (by decide) (hts (.fieldLink RX3 86 "StationLine$Bench" "size" "I") (List.mem_of_getElem? (i := 2) rfl)) (congrArg (fun x => some (Value.int x)) (Fr_0 hF)) dX3_isFine_7 ?_
  refine lv_icmp_ge (tgt := 41) hx hb dX3_isFine_10 (by decide) (fun _ => ?_) (fun c0 => absurd c0 (by decide))
  refine lv_iconst (v := 1) hx hb dX3_isFine_41 (by decide) ?_
  exact b_zret hx hb hr hlocks (by decide) hH (⟨rfl, (by first | rfl | (exfalso; omega))⟩) dX3_isFine_42
set_option maxHeartbeats 4000000 in
set_option maxRecDepth 100000 in
theorem c_X3_joinLoads_32 (l : Launch) (D : va_G) (cy : Nat → ClassId) (q : Nat → Nat) (hq : bJ 66 q) (z : zS) (hF : Fr z) (a : Int32) (b : Int32) (p0 : z.1 8 = 0) (p1 : z.2.1 33 0 = 0)  : bCv l yX3_joinLoads wsX3_joinLoads ({ frames := 2, cells := 0, slots := 0, locals := 50 }) D cy 66 (enC cy) q z [.ref (q 32), .int a, .int b] (fun z' => Fr z' ∧ z'.1 8 = 0 ∧ z'.2.1 33 0 = 0) := by
  intro sz
  refine Met.ofW (cc := cX3_joinLoads) (maxL := 7) (ret := none) (by decide) rfl ?_
  intro p e s m args below meth c s₁ B hml hv
  obtain ⟨rfl, hsz, hP, hK, hZ⟩ := hv
  have hx := B.exec
  have hb := B.bytes
  have hr := B.returns
  have hts := atoms_spec (ws := wsX3_joinLoads) B.pre
  have hown : s.vm.findClass RX3 = some m.cls := findClass_of_methodNamed B.named
  have hlocks := B.notSynchronized
  subst hsz
  have hH : bH D 66 (enC cy) q z s.heap s.heap [] := bH_in hq hP
  have hl := lv_entry ([.ref (q 32), .int a, .int b]) (n := 7) (Nat.le_of_ble_eq_true rfl)
  rw [lg_entry_eq]
  generalize (lg_sl ([.ref (q 32), .int a, .int b]) ++ List.replicate (7 - (lg_sl ([.ref (q 32), .int a, .int b])).length) Slot.unset).toArray = ls at hl ⊢
  have hl : lv_has ls 7 [(0, .ref (q 32)), (1, .int a), (2, .int b)] := hl
  refine lv_aload_n hx hb dX3_joinLoads_0 rfl (lv_at hl 0 rfl) ?_
  refine b_get (ci := 3) (C := RX3) (T := TX3) (Nf := 11) (v := .ref (q 39)) hx hb hts in_X3_joinLoads_X3 hown hK hH 32 (by decide) rfl rfl 8 (by decide) (hts (.fieldLink RX3 35 "StationLine$Search" "scratch" "[I") (List.mem_of_getElem? (i := 1) rfl)) rfl dX3_joinLoads_1 ?_
  refine lv_iconst (v := 0) hx hb dX3_joinLoads_4 (by decide) ?_
  refine lv_iconst (v := 0) hx hb dX3_joinLoads_5 (by decide) ?_
  refine b_iast hx hb hK hH 39 (by decide) rfl (by unfold vp_in; decide) (upA z 39 (upd (z.2.1 39) (0 : Int32).toNatClampNeg 0)) rfl (enC_A _ _ _ _ _) dX3_joinLoads_6 (fun H locs hH => ?_)
  obtain ⟨z1, hz1⟩ : ∃ w : zS, w = upA z 39 (upd (z.2.1 39) (0 : Int32).toNatClampNeg 0) := ⟨_, rfl⟩
  rw [← hz1] at hH
  have hFz1 : Fr z1 := by rw [hz1]; exact hF
  refine lv_iconst (v := 0) hx hb dX3_joinLoads_7 (by decide) ?_
  refine lv_istore_n (lv' := [(3, .int 0), (0, .ref (q 32)), (1, .int a), (2, .int b)]) hx hb dX3_joinLoads_8 rfl hl (by decide) rfl (fun ls hl => ?_)
  refine lv_iload_n hx hb dX3_joinLoads_9 rfl (lv_at hl 0 rfl) ?_
  refine lv_aload_n hx hb dX3_joinLoads_10 rfl (lv_at hl 1 rfl) ?_
  refine b_get (ci := 3) (C := RX3) (T := TX3) (Nf := 11) (v := .ref (q 1)) hx hb hts in_X3_joinLoads_X3 hown hK hH 32 (by decide) rfl rfl 0 (by decide) (hts (.fieldLink RX3 46 "StationLine$Search" "bench" "LStationLine$Bench;") (List.mem_of_getElem? (i := 2) rfl)) rfl dX3_joinLoads_11 ?_
  refine b_get (ci := 0) (C := RX0) (T := TX0) (Nf := 11) (v := .int 0) hx hb hts in_X3_joinLoads_X0 hown hK hH 1 (by decide) rfl rfl 0 (by decide) (hts (.fieldLink RX3 86 "StationLine$Bench" "size" "I") (List.mem_of_getElem? (i := 3) rfl)) (congrArg (fun x => some (Value.int x)) (Fr_0 hFz1)) dX3_joinLoads_14 ?_
  refine lv_icmp_ge (tgt := 82) hx hb dX3_joinLoads_17 (by decide) (fun _ => ?_) (fun c0 => absurd c0 (by decide))
  refine lv_iconst (v := 1) hx hb dX3_joinLoads_82 (by decide) ?_
  refine lv_istore_n (lv' := [(3, .int 1), (0, .ref (q 32)), (1, .int a), (2, .int b)]) hx hb dX3_joinLoads_83 rfl hl (by decide) rfl (fun ls hl => ?_)
  refine lv_iload_n hx hb dX3_joinLoads_84 rfl (lv_at hl 0 rfl) ?_
  refine lv_aload_n hx hb dX3_joinLoads_85 rfl (lv_at hl 1 rfl) ?_
  refine b_get (ci := 3) (C := RX3) (T := TX3) (Nf := 11) (v := .int 0) hx hb hts in_X3_joinLoads_X3 hown hK hH 32 (by decide) rfl rfl 1 (by decide) (hts (.fieldLink RX3 9 "StationLine$Search" "all" "I") (List.mem_of_getElem? (i := 5) rfl)) (congrArg (fun x => some (Value.int x)) (by rw [hz1]; exact p0)) dX3_joinLoads_86 ?_
  refine lv_icmp_gt (tgt := 123) hx hb dX3_joinLoads_89 (by decide) (fun _ => ?_) (fun c0 => absurd c0 (by decide))
  exact b_vret hx hb hr hlocks hH (⟨hFz1, (by rw [hz1]; exact p0), (by rw [hz1]; exact p1)⟩) dX3_joinLoads_123
set_option maxHeartbeats 4000000 in
set_option maxRecDepth 100000 in
theorem c_X3_fillLoads_32 (l : Launch) (D : va_G) (cy : Nat → ClassId) (q : Nat → Nat) (hq : bJ 66 q) (z : zS) (hF : Fr z)  (p0 : z.1 8 = 0)  : bCv l yX3_fillLoads wsX3_fillLoads ({ frames := 3, cells := 0, slots := 0, locals := 76 }) D cy 66 (enC cy) q z [.ref (q 32)] (fun z' => Fr z' ∧ z'.1 8 = 0 ∧ z'.2.1 33 0 = 0) := by
  intro sz
  refine Met.ofW (cc := cX3_fillLoads) (maxL := 3) (ret := none) (by decide) rfl ?_
  intro p e s m args below meth c s₁ B hml hv
  obtain ⟨rfl, hsz, hP, hK, hZ⟩ := hv
  have hx := B.exec
  have hb := B.bytes
  have hr := B.returns
  have hts := atoms_spec (ws := wsX3_fillLoads) B.pre
  have hown : s.vm.findClass RX3 = some m.cls := findClass_of_methodNamed B.named
  have hlocks := B.notSynchronized
  subst hsz
  have hH : bH D 66 (enC cy) q z s.heap s.heap [] := bH_in hq hP
  have hl := lv_entry ([.ref (q 32)]) (n := 3) (Nat.le_of_ble_eq_true rfl)
  rw [lg_entry_eq]
  generalize (lg_sl ([.ref (q 32)]) ++ List.replicate (3 - (lg_sl ([.ref (q 32)])).length) Slot.unset).toArray = ls at hl ⊢
  have hl : lv_has ls 3 [(0, .ref (q 32))] := hl
  refine lv_aload_n hx hb dX3_fillLoads_0 rfl (lv_at hl 0 rfl) ?_
  refine b_get (ci := 3) (C := RX3) (T := TX3) (Nf := 11) (v := .ref (q 33)) hx hb hts in_X3_fillLoads_X3 hown hK hH 32 (by decide) rfl rfl 2 (by decide) (hts (.fieldLink RX3 15 "StationLine$Search" "loads" "[I") (List.mem_of_getElem? (i := 1) rfl)) rfl dX3_fillLoads_1 ?_
  refine lv_iconst (v := 0) hx hb dX3_fillLoads_4 (by decide) ?_
  refine b_statv (As := [.ref (q 33), .int 0]) (rest := []) ⟨hx, hb, hml, hown, hts⟩ (c_fill l D cy 66 (enC cy) q hH.2.1 z 33 1024 0 (by decide) (by decide) (fun _ => rfl) (fun w f => enC_A _ _ _ _ _)) (va_cwS 2 hts gX3_fillLoads_J7_fill_53178 rfl rfl rfl (by decide +kernel) ⟨Nat.le_of_ble_eq_true rfl, Nat.le_of_ble_eq_true rfl⟩) hK hZ hH rfl hl.1 rfl (Nat.le_of_ble_eq_true rfl) ⟨Nat.zero_le _, Nat.zero_le _⟩ dX3_fillLoads_5 (fun z1 H locs hp1 hH => ?_)
  obtain ⟨f1, hz1, hf1⟩ := hp1
  have hz1 := hz1.symm
  have hFz1 : Fr z1 := by rw [hz1]; exact hF
  refine lv_iconst (v := 0) hx hb dX3_fillLoads_8 (by decide) ?_
  refine lv_istore_n (lv' := [(1, .int 0), (0, .ref (q 32))]) hx hb dX3_fillLoads_9 rfl hl (by decide) rfl (fun ls hl => ?_)
  refine lv_iload_n hx hb dX3_fillLoads_10 rfl (lv_at hl 0 rfl) ?_
  refine lv_iconst (v := 3) hx hb dX3_fillLoads_11 (by decide) ?_
  refine lv_icmp_ge (tgt := 40) hx hb dX3_fillLoads_12 (by decide) (fun c0 => absurd c0 (by decide)) (fun _ => ?_)
  refine lv_aload_n hx hb dX3_fillLoads_15 rfl (lv_at hl 1 rfl) ?_
  refine b_get (ci := 3) (C := RX3) (T := TX3) (Nf := 11) (v := .ref (q 1)) hx hb hts in_X3_fillLoads_X3 hown hK hH 32 (by decide) rfl rfl 0 (by decide) (hts (.fieldLink RX3 46 "StationLine$Search" "bench" "LStationLine$Bench;") (List.mem_of_getElem? (i := 2) rfl)) rfl dX3_fillLoads_16 ?_
  refine lv_iload_n hx hb dX3_fillLoads_19 rfl (lv_at hl 0 rfl) ?_
  refine b_calli (As := [.int 0]) (rest := []) ⟨hx, hb, hml, hown, hts⟩ 1 0 (c_X0_weight_1 l D cy q hH.2.1 z1 hFz1 0 ) (cwV 1 hts gX3_fillLoads_X0_weight rfl rfl rfl (by decide +kernel) ⟨Nat.le_of_ble_eq_true rfl, Nat.le_of_ble_eq_true rfl⟩) hK hZ hH (by decide) rfl rfl rfl hl.1 rfl (Nat.le_of_ble_eq_true rfl) ⟨Nat.zero_le _, Nat.zero_le _⟩ dX3_fillLoads_20 (fun r2 z2 H locs hp2 hH => ?_)
  obtain ⟨rfl, rfl⟩ := hp2
  refine b_vi (v := 1) (by decide) ?_
  refine lv_istore_n (lv' := [(2, .int 1), (1, .int 0), (0, .ref (q 32))]) hx hb dX3_fillLoads_23 rfl hl (by decide) rfl (fun ls hl => ?_)
  refine lv_iload_n hx hb dX3_fillLoads_24 rfl (lv_at hl 0 rfl) ?_
  refine lv_if_le (tgt := 34) hx hb dX3_fillLoads_25 (by decide) (fun c0 => absurd c0 (by decide)) (fun _ => ?_)
  refine lv_aload_n hx hb dX3_fillLoads_28 rfl (lv_at hl 2 rfl) ?_
  refine lv_iload_n hx hb dX3_fillLoads_29 rfl (lv_at hl 1 rfl) ?_
  refine lv_iload_n hx hb dX3_fillLoads_30 rfl (lv_at hl 0 rfl) ?_
  refine b_callv (As := [.int 0, .int 1]) (rest := []) ⟨hx, hb, hml, hown, hts⟩ 32 3 (c_X3_joinLoads_32 l D cy q hH.2.1 z1 hFz1 0 1 (by rw [hz1]; exact p0) (by rw [hz1]; exact hf1 0 (by decide)) ) (cwV 2 hts gX3_fillLoads_X3_joinLoads rfl rfl rfl (by decide +kernel) ⟨Nat.le_of_ble_eq_true rfl, Nat.le_of_ble_eq_true rfl⟩) hK hZ hH (by decide) rfl rfl rfl hl.1 rfl (Nat.le_of_ble_eq_true rfl) ⟨Nat.zero_le _, Nat.zero_le _⟩ dX3_fillLoads_31 (fun z3 H locs hp3 hH => ?_)
  obtain ⟨hFz3, g3_0, g3_1⟩ := hp3
  refine lv_iinc (v := 1) (lv' := [(1, .int 1), (2, .int 1), (0, .ref (q 32))]) hx hb dX3_fillLoads_34 hl (k := 1) rfl (by decide) (by decide) rfl (fun ls hl => ?_)
  refine lv_goto (tgt := 10) hx hb dX3_fillLoads_37 (by decide) ?_
  refine lv_iload_n hx hb dX3_fillLoads_10 rfl (lv_at hl 0 rfl) ?_
  refine lv_iconst (v := 3) hx hb dX3_fillLoads_11 (by decide) ?_
  refine lv_icmp_ge (tgt := 40) hx hb dX3_fillLoads_12 (by decide) (fun c0 => absurd c0 (by decide)) (fun _ => ?_)
  refine lv_aload_n hx hb dX3_fillLoads_15 rfl (lv_at hl 2 rfl) ?_
  refine b_get (ci := 3) (C := RX3) (T := TX3) (Nf := 11) (v := .ref (q 1)) hx hb hts in_X3_fillLoads_X3 hown hK hH 32 (by decide) rfl rfl 0 (by decide) (hts (.fieldLink RX3 46 "StationLine$Search" "bench" "LStationLine$Bench;") (List.mem_of_getElem? (i := 2) rfl)) rfl dX3_fillLoads_16 ?_
  refine lv_iload_n hx hb dX3_fillLoads_19 rfl (lv_at hl 0 rfl) ?_
  refine b_calli (As := [.int 1]) (rest := []) ⟨hx, hb, hml, hown, hts⟩ 1 0 (c_X0_weight_1 l D cy q hH.2.1 z3 hFz3 1 ) (cwV 1 hts gX3_fillLoads_X0_weight rfl rfl rfl (by decide +kernel) ⟨Nat.le_of_ble_eq_true rfl, Nat.le_of_ble_eq_true rfl⟩) hK hZ hH (by decide) rfl rfl rfl hl.1 rfl (Nat.le_of_ble_eq_true rfl) ⟨Nat.zero_le _, Nat.zero_le _⟩ dX3_fillLoads_20 (fun r4 z4 H locs hp4 hH => ?_)
  obtain ⟨rfl, rfl⟩ := hp4
  refine b_vi (v := 0) (by decide) ?_
  refine lv_istore_n (lv' := [(2, .int 0), (1, .int 1), (0, .ref (q 32))]) hx hb dX3_fillLoads_23 rfl hl (by decide) rfl (fun ls hl => ?_)
  refine lv_iload_n hx hb dX3_fillLoads_24 rfl (lv_at hl 0 rfl) ?_
  refine lv_if_le (tgt := 34) hx hb dX3_fillLoads_25 (by decide) (fun _ => ?_) (fun c0 => absurd c0 (by decide))
  refine lv_iinc (v := 2) (lv' := [(1, .int 2), (2, .int 0), (0, .ref (q 32))]) hx hb dX3_fillLoads_34 hl (k := 1) rfl (by decide) (by decide) rfl (fun ls hl => ?_)
  refine lv_goto (tgt := 10) hx hb dX3_fillLoads_37 (by decide) ?_
  refine lv_iload_n hx hb dX3_fillLoads_10 rfl (lv_at hl 0 rfl) ?_
  refine lv_iconst (v := 3) hx hb dX3_fillLoads_11 (by decide) ?_
  refine lv_icmp_ge (tgt := 40) hx hb dX3_fillLoads_12 (by decide) (fun c0 => absurd c0 (by decide)) (fun _ => ?_)
  refine lv_aload_n hx hb dX3_fillLoads_15 rfl (lv_at hl 2 rfl) ?_
  refine b_get (ci := 3) (C := RX3) (T := TX3) (Nf := 11) (v := .ref (q 1)) hx hb hts in_X3_fillLoads_X3 hown hK hH 32 (by decide) rfl rfl 0 (by decide) (hts (.fieldLink RX3 46 "StationLine$Search" "bench" "LStationLine$Bench;") (List.mem_of_getElem? (i := 2) rfl)) rfl dX3_fillLoads_16 ?_
  refine lv_iload_n hx hb dX3_fillLoads_19 rfl (lv_at hl 0 rfl) ?_
  refine b_calli (As := [.int 2]) (rest := []) ⟨hx, hb, hml, hown, hts⟩ 1 0 (c_X0_weight_1 l D cy q hH.2.1 z3 hFz3 2 ) (cwV 1 hts gX3_fillLoads_X0_weight rfl rfl rfl (by decide +kernel) ⟨Nat.le_of_ble_eq_true rfl, Nat.le_of_ble_eq_true rfl⟩) hK hZ hH (by decide) rfl rfl rfl hl.1 rfl (Nat.le_of_ble_eq_true rfl) ⟨Nat.zero_le _, Nat.zero_le _⟩ dX3_fillLoads_20 (fun r5 z5 H locs hp5 hH => ?_)
  obtain ⟨rfl, rfl⟩ := hp5
  refine b_vi (v := 0) (by decide) ?_
  refine lv_istore_n (lv' := [(2, .int 0), (1, .int 2), (0, .ref (q 32))]) hx hb dX3_fillLoads_23 rfl hl (by decide) rfl (fun ls hl => ?_)
  refine lv_iload_n hx hb dX3_fillLoads_24 rfl (lv_at hl 0 rfl) ?_
  refine lv_if_le (tgt := 34) hx hb dX3_fillLoads_25 (by decide) (fun _ => ?_) (fun c0 => absurd c0 (by decide))
  refine lv_iinc (v := 3) (lv' := [(1, .int 3), (2, .int 0), (0, .ref (q 32))]) hx hb dX3_fillLoads_34 hl (k := 1) rfl (by decide) (by decide) rfl (fun ls hl => ?_)
  refine lv_goto (tgt := 10) hx hb dX3_fillLoads_37 (by decide) ?_
  refine lv_iload_n hx hb dX3_fillLoads_10 rfl (lv_at hl 0 rfl) ?_
  refine lv_iconst (v := 3) hx hb dX3_fillLoads_11 (by decide) ?_
  refine lv_icmp_ge (tgt := 40) hx hb dX3_fillLoads_12 (by decide) (fun _ => ?_) (fun c0 => absurd c0 (by decide))
  exact b_vret hx hb hr hlocks hH (⟨hFz3, g3_0, g3_1⟩) dX3_fillLoads_40
set_option maxHeartbeats 4000000 in
set_option maxRecDepth 100000 in
theorem c_X3_fillAllowed_32 (l : Launch) (D : va_G) (cy : Nat → ClassId) (q : Nat → Nat) (hq : bJ 66 q) (z : zS) (hF : Fr z)  (p0 : z.1 8 = 0) (p1 : z.2.1 33 0 = 0)  : bCv l yX3_fillAllowed wsX3_fillAllowed ({ frames := 1, cells := 0, slots := 0, locals := 21 }) D cy 66 (enC cy) q z [.ref (q 32)] (fun z' => Fr z' ∧ z'.1 8 = 0 ∧ z'.2.1 33 0 = 0 ∧ z'.2.1 35 0 = 0) := by
  intro sz
  refine Met.ofW (cc := cX3_fillAllowed) (maxL := 6) (ret := none) (by decide) rfl ?_
  intro p e s m args below meth c s₁ B hml hv
  obtain ⟨rfl, hsz, hP, hK, hZ⟩ := hv
  have hx := B.exec
  have hb := B.bytes
  have hr := B.returns
  have hts := atoms_spec (ws := wsX3_fillAllowed) B.pre
  have hown : s.vm.findClass RX3 = some m.cls := findClass_of_methodNamed B.named
  have hlocks := B.notSynchronized
  subst hsz
  have hH : bH D 66 (enC cy) q z s.heap s.heap [] := bH_in hq hP
  have hl := lv_entry ([.ref (q 32)]) (n := 6) (Nat.le_of_ble_eq_true rfl)
  rw [lg_entry_eq]
  generalize (lg_sl ([.ref (q 32)]) ++ List.replicate (6 - (lg_sl ([.ref (q 32)])).length) Slot.unset).toArray = ls at hl ⊢
  have hl : lv_has ls 6 [(0, .ref (q 32))] := hl
  refine lv_aload_n hx hb dX3_fillAllowed_0 rfl (lv_at hl 0 rfl) ?_
  refine b_get (ci := 3) (C := RX3) (T := TX3) (Nf := 11) (v := .ref (q 39)) hx hb hts in_X3_fillAllowed_X3 hown hK hH 32 (by decide) rfl rfl 8 (by decide) (hts (.fieldLink RX3 35 "StationLine$Search" "scratch" "[I") (List.mem_of_getElem? (i := 1) rfl)) rfl dX3_fillAllowed_1 ?_
  refine lv_astore_n (lv' := [(1, .ref (q 39)), (0, .ref (q 32))]) hx hb dX3_fillAllowed_4 rfl hl (by decide) rfl (fun ls hl => ?_)
  refine lv_aload_n hx hb dX3_fillAllowed_5 rfl (lv_at hl 0 rfl) ?_
  refine lv_iconst (v := 0) hx hb dX3_fillAllowed_6 (by decide) ?_
  refine lv_iconst (v := 0) hx hb dX3_fillAllowed_7 (by decide) ?_
  refine b_iast hx hb hK hH 39 (by decide) rfl (by unfold vp_in; decide) (upA z 39 (upd (z.2.1 39) (0 : Int32).toNatClampNeg 0)) rfl (enC_A _ _ _ _ _) dX3_fillAllowed_8 (fun H locs hH => ?_)
  obtain ⟨z1, hz1⟩ : ∃ w : zS, w = upA z 39 (upd (z.2.1 39) (0 : Int32).toNatClampNeg 0) := ⟨_, rfl⟩
  rw [← hz1] at hH
  have hFz1 : Fr z1 := by rw [hz1]; exact hF
  refine lv_aload_n hx hb dX3_fillAllowed_9 rfl (lv_at hl 1 rfl) ?_
  refine b_get (ci := 3) (C := RX3) (T := TX3) (Nf := 11) (v := .ref (q 35)) hx hb hts in_X3_fillAllowed_X3 hown hK hH 32 (by decide) rfl rfl 4 (by decide) (hts (.fieldLink RX3 23 "StationLine$Search" "allowed" "[I") (List.mem_of_getElem? (i := 2) rfl)) rfl dX3_fillAllowed_10 ?_
  refine lv_iconst (v := 0) hx hb dX3_fillAllowed_13 (by decide) ?_
  refine lv_iconst (v := 0) hx hb dX3_fillAllowed_14 (by decide) ?_
  refine b_iast hx hb hK hH 35 (by decide) rfl (by unfold vp_in; decide) (upA z1 35 (upd (z1.2.1 35) (0 : Int32).toNatClampNeg 0)) rfl (enC_A _ _ _ _ _) dX3_fillAllowed_15 (fun H locs hH => ?_)
  obtain ⟨z2, hz2⟩ : ∃ w : zS, w = upA z1 35 (upd (z1.2.1 35) (0 : Int32).toNatClampNeg 0) := ⟨_, rfl⟩
  rw [← hz2] at hH
  have hFz2 : Fr z2 := by rw [hz2]; exact hFz1
  refine lv_iconst (v := 0) hx hb dX3_fillAllowed_16 (by decide) ?_
  refine lv_istore_n (lv' := [(2, .int 0), (1, .ref (q 39)), (0, .ref (q 32))]) hx hb dX3_fillAllowed_17 rfl hl (by decide) rfl (fun ls hl => ?_)
  refine lv_iload_n hx hb dX3_fillAllowed_18 rfl (lv_at hl 0 rfl) ?_
  refine lv_aload_n hx hb dX3_fillAllowed_19 rfl (lv_at hl 2 rfl) ?_
  refine b_get (ci := 3) (C := RX3) (T := TX3) (Nf := 11) (v := .ref (q 1)) hx hb hts in_X3_fillAllowed_X3 hown hK hH 32 (by decide) rfl rfl 0 (by decide) (hts (.fieldLink RX3 46 "StationLine$Search" "bench" "LStationLine$Bench;") (List.mem_of_getElem? (i := 3) rfl)) rfl dX3_fillAllowed_20 ?_
  refine b_get (ci := 0) (C := RX0) (T := TX0) (Nf := 11) (v := .int 0) hx hb hts in_X3_fillAllowed_X0 hown hK hH 1 (by decide) rfl rfl 0 (by decide) (hts (.fieldLink RX3 86 "StationLine$Bench" "size" "I") (List.mem_of_getElem? (i := 4) rfl)) (congrArg (fun x => some (Value.int x)) (Fr_0 hFz2)) dX3_fillAllowed_23 ?_
  refine lv_icmp_ge (tgt := 133) hx hb dX3_fillAllowed_26 (by decide) (fun _ => ?_) (fun c0 => absurd c0 (by decide))
  refine lv_iconst (v := 1) hx hb dX3_fillAllowed_133 (by decide) ?_
  refine lv_istore_n (lv' := [(2, .int 1), (1, .ref (q 39)), (0, .ref (q 32))]) hx hb dX3_fillAllowed_134 rfl hl (by decide) rfl (fun ls hl => ?_)
  refine lv_iload_n hx hb dX3_fillAllowed_135 rfl (lv_at hl 0 rfl) ?_
  refine lv_aload_n hx hb dX3_fillAllowed_136 rfl (lv_at hl 2 rfl) ?_
  refine b_get (ci := 3) (C := RX3) (T := TX3) (Nf := 11) (v := .int 0) hx hb hts in_X3_fillAllowed_X3 hown hK hH 32 (by decide) rfl rfl 1 (by decide) (hts (.fieldLink RX3 9 "StationLine$Search" "all" "I") (List.mem_of_getElem? (i := 8) rfl)) (congrArg (fun x => some (Value.int x)) (by rw [hz2]; exact (by rw [hz1]; exact p0))) dX3_fillAllowed_137 ?_
  refine lv_icmp_gt (tgt := 166) hx hb dX3_fillAllowed_140 (by decide) (fun _ => ?_) (fun c0 => absurd c0 (by decide))
  exact b_vret hx hb hr hlocks hH (⟨hFz2, (by rw [hz2]; exact (by rw [hz1]; exact p0)), (by rw [hz2]; exact (by rw [hz1]; exact p1)), (by rw [hz2]; rfl)⟩) dX3_fillAllowed_166
set_option maxHeartbeats 4000000 in
set_option maxRecDepth 100000 in
theorem c_X3_prepare_32 (l : Launch) (D : va_G) (cy : Nat → ClassId) (q : Nat → Nat) (hq : bJ 66 q) (z : zS) (hF : Fr z)    : bCv l yX3_prepare wsX3_prepare ({ frames := 4, cells := 0, slots := 0, locals := 98 }) D cy 66 (enC cy) q z [.ref (q 32)] (fun z' => Fr z' ∧ z'.1 8 = 0 ∧ z'.2.1 33 0 = 0 ∧ z'.2.1 35 0 = 0) := by
  intro sz
  refine Met.ofW (cc := cX3_prepare) (maxL := 2) (ret := none) (by decide) rfl ?_
  intro p e s m args below meth c s₁ B hml hv
  obtain ⟨rfl, hsz, hP, hK, hZ⟩ := hv
  have hx := B.exec
  have hb := B.bytes
  have hr := B.returns
  have hts := atoms_spec (ws := wsX3_prepare) B.pre
  have hown : s.vm.findClass RX3 = some m.cls := findClass_of_methodNamed B.named
  have hlocks := B.notSynchronized
  subst hsz
  have hH : bH D 66 (enC cy) q z s.heap s.heap [] := bH_in hq hP
  have hl := lv_entry ([.ref (q 32)]) (n := 2) (Nat.le_of_ble_eq_true rfl)
  rw [lg_entry_eq]
  generalize (lg_sl ([.ref (q 32)]) ++ List.replicate (2 - (lg_sl ([.ref (q 32)])).length) Slot.unset).toArray = ls at hl ⊢
  have hl : lv_has ls 2 [(0, .ref (q 32))] := hl
  refine lv_aload_n hx hb dX3_prepare_0 rfl (lv_at hl 0 rfl) ?_
  refine lv_aload_n hx hb dX3_prepare_1 rfl (lv_at hl 0 rfl) ?_
  refine b_get (ci := 3) (C := RX3) (T := TX3) (Nf := 11) (v := .ref (q 1)) hx hb hts in_X3_prepare_X3 hown hK hH 32 (by decide) rfl rfl 0 (by decide) (hts (.fieldLink RX3 46 "StationLine$Search" "bench" "LStationLine$Bench;") (List.mem_of_getElem? (i := 1) rfl)) rfl dX3_prepare_2 ?_
  refine b_calli (As := []) (rest := [.ref (q 32)]) ⟨hx, hb, hml, hown, hts⟩ 1 0 (c_X0_all_1 l D cy q hH.2.1 z hF  ) (cwV 0 hts gX3_prepare_X0_all rfl rfl rfl (by decide +kernel) ⟨Nat.le_of_ble_eq_true rfl, Nat.le_of_ble_eq_true rfl⟩) hK hZ hH (by decide) rfl rfl rfl hl.1 rfl (Nat.le_of_ble_eq_true rfl) ⟨Nat.zero_le _, Nat.zero_le _⟩ dX3_prepare_5 (fun r1 z1 H locs hp1 hH => ?_)
  obtain ⟨rfl, rfl⟩ := hp1
  refine b_put (ci := 3) (C := RX3) (T := TX3) (Nf := 11) (v := .int 0) (ty := .int) hx hb hts in_X3_prepare_X3 tyX3 tyX3_ok nmX3 hown hK hH 32 (by decide) rfl rfl 1 (by decide) (hts (.fieldLink RX3 9 "StationLine$Search" "all" "I") (List.mem_of_getElem? (i := 2) rfl)) rfl (by decide +kernel) rfl rfl (Nat.le_of_ble_eq_true rfl) (upS z 8 0) rfl (enC_S8 _ _ _ _) dX3_prepare_8 (fun H locs hH => ?_)
  obtain ⟨z2, hz2⟩ : ∃ w : zS, w = upS z 8 0 := ⟨_, rfl⟩
  rw [← hz2] at hH
  have hFz2 : Fr z2 := by rw [hz2]; exact hF
  refine lv_aload_n hx hb dX3_prepare_11 rfl (lv_at hl 0 rfl) ?_
  refine b_callv (As := []) (rest := []) ⟨hx, hb, hml, hown, hts⟩ 32 3 (c_X3_fillLoads_32 l D cy q hH.2.1 z2 hFz2  (by rw [hz2]; rfl) ) (cwV 0 hts gX3_prepare_X3_fillLoads rfl rfl rfl (by decide +kernel) ⟨Nat.le_of_ble_eq_true rfl, Nat.le_of_ble_eq_true rfl⟩) hK hZ hH (by decide) rfl rfl rfl hl.1 rfl (Nat.le_of_ble_eq_true rfl) ⟨Nat.zero_le _, Nat.zero_le _⟩ dX3_prepare_12 (fun z3 H locs hp3 hH => ?_)
  obtain ⟨hFz3, g3_0, g3_1⟩ := hp3
  refine lv_aload_n hx hb dX3_prepare_15 rfl (lv_at hl 0 rfl) ?_
  refine b_callv (As := []) (rest := []) ⟨hx, hb, hml, hown, hts⟩ 32 3 (c_X3_fillAllowed_32 l D cy q hH.2.1 z3 hFz3  g3_0 g3_1 ) (cwV 0 hts gX3_prepare_X3_fillAllowed rfl rfl rfl (by decide +kernel) ⟨Nat.le_of_ble_eq_true rfl, Nat.le_of_ble_eq_true rfl⟩) hK hZ hH (by decide) rfl rfl rfl hl.1 rfl (Nat.le_of_ble_eq_true rfl) ⟨Nat.zero_le _, Nat.zero_le _⟩ dX3_prepare_16 (fun z4 H locs hp4 hH => ?_)
  obtain ⟨hFz4, g4_0, g4_1, g4_2⟩ := hp4
  refine lv_iconst (v := 0) hx hb dX3_prepare_19 (by decide) ?_
  refine lv_istore_n (lv' := [(1, .int 0), (0, .ref (q 32))]) hx hb dX3_prepare_20 rfl hl (by decide) rfl (fun ls hl => ?_)
  refine lv_iload_n hx hb dX3_prepare_21 rfl (lv_at hl 0 rfl) ?_
  refine lv_aload_n hx hb dX3_prepare_22 rfl (lv_at hl 1 rfl) ?_
  refine b_get (ci := 3) (C := RX3) (T := TX3) (Nf := 11) (v := .int 0) hx hb hts in_X3_prepare_X3 hown hK hH 32 (by decide) rfl rfl 1 (by decide) (hts (.fieldLink RX3 9 "StationLine$Search" "all" "I") (List.mem_of_getElem? (i := 2) rfl)) (congrArg (fun x => some (Value.int x)) g4_0) dX3_prepare_23 ?_
  refine lv_icmp_gt (tgt := 46) hx hb dX3_prepare_26 (by decide) (fun c0 => absurd c0 (by decide)) (fun _ => ?_)
  refine lv_aload_n hx hb dX3_prepare_29 rfl (lv_at hl 1 rfl) ?_
  refine b_get (ci := 3) (C := RX3) (T := TX3) (Nf := 11) (v := .ref (q 34)) hx hb hts in_X3_prepare_X3 hown hK hH 32 (by decide) rfl rfl 3 (by decide) (hts (.fieldLink RX3 19 "StationLine$Search" "fine" "[Z") (List.mem_of_getElem? (i := 3) rfl)) rfl dX3_prepare_30 ?_
  refine lv_iload_n hx hb dX3_prepare_33 rfl (lv_at hl 0 rfl) ?_
  refine lv_aload_n hx hb dX3_prepare_34 rfl (lv_at hl 1 rfl) ?_
  refine lv_iload_n hx hb dX3_prepare_35 rfl (lv_at hl 0 rfl) ?_
  refine b_calli (As := [.int 0]) (rest := [.int 0, .ref (q 34)]) ⟨hx, hb, hml, hown, hts⟩ 32 3 (c_X3_isFine_32 l D cy q hH.2.1 z4 hFz4 0 ) (cwV 1 hts gX3_prepare_X3_isFine rfl rfl rfl (by decide +kernel) ⟨Nat.le_of_ble_eq_true rfl, Nat.le_of_ble_eq_true rfl⟩) hK hZ hH (by decide) rfl rfl rfl hl.1 rfl (Nat.le_of_ble_eq_true rfl) ⟨Nat.zero_le _, Nat.zero_le _⟩ dX3_prepare_36 (fun r5 z5 H locs hp5 hH => ?_)
  obtain ⟨rfl, rfl⟩ := hp5
  refine b_zast hx hb hK hH 34 (by decide) rfl (by unfold vp_in; decide) (upA z4 34 (upd (z4.2.1 34) (0 : Int32).toNatClampNeg (vp_nar .boolean 1))) rfl (enC_A _ _ _ _ _) dX3_prepare_39 (fun H locs hH => ?_)
  obtain ⟨z6, hz6⟩ : ∃ w : zS, w = upA z4 34 (upd (z4.2.1 34) (0 : Int32).toNatClampNeg (vp_nar .boolean 1)) := ⟨_, rfl⟩
  rw [← hz6] at hH
  have hFz6 : Fr z6 := by rw [hz6]; exact hFz4
  refine lv_iinc (v := 1) (lv' := [(1, .int 1), (0, .ref (q 32))]) hx hb dX3_prepare_40 hl (k := 0) rfl (by decide) (by decide) rfl (fun ls hl => ?_)
  refine lv_goto (tgt := 21) hx hb dX3_prepare_43 (by decide) ?_
  refine lv_iload_n hx hb dX3_prepare_21 rfl (lv_at hl 0 rfl) ?_
  refine lv_aload_n hx hb dX3_prepare_22 rfl (lv_at hl 1 rfl) ?_
  refine b_get (ci := 3) (C := RX3) (T := TX3) (Nf := 11) (v := .int 0) hx hb hts in_X3_prepare_X3 hown hK hH 32 (by decide) rfl rfl 1 (by decide) (hts (.fieldLink RX3 9 "StationLine$Search" "all" "I") (List.mem_of_getElem? (i := 2) rfl)) (congrArg (fun x => some (Value.int x)) (by rw [hz6]; exact g4_0)) dX3_prepare_23 ?_
  refine lv_icmp_gt (tgt := 46) hx hb dX3_prepare_26 (by decide) (fun _ => ?_) (fun c0 => absurd c0 (by decide))
  exact b_vret hx hb hr hlocks hH (⟨hFz6, (by rw [hz6]; exact g4_0), (by rw [hz6]; exact g4_1), (by rw [hz6]; exact g4_2)⟩) dX3_prepare_46
set_option maxHeartbeats 4000000 in
set_option maxRecDepth 100000 in
theorem c_X3_lengthWithin_32 (l : Launch) (D : va_G) (cy : Nat → ClassId) (q : Nat → Nat) (hq : bJ 66 q) (z : zS) (hF : Fr z) (a : Int32) (p0 : z.1 8 = 0) (p1 : z.2.1 33 0 = 0) (p2 : z.2.1 35 0 = 0)  : bCi l yX3_lengthWithin wsX3_lengthWithin ({ frames := 1, cells := 0, slots := 0, locals := 26 }) D cy 66 (enC cy) q z [.ref (q 32), .int a] (fun r z' => Fr z' ∧ z'.1 8 = 0 ∧ (0 : Int32) = r) := by
  intro sz
  refine Met.ofW (cc := cX3_lengthWithin) (maxL := 3) (ret := (some .int)) (by decide) rfl ?_
  intro p e s m args below meth c s₁ B hml hv
  obtain ⟨rfl, hsz, hP, hK, hZ⟩ := hv
  have hx := B.exec
  have hb := B.bytes
  have hr := B.returns
  have hts := atoms_spec (ws := wsX3_lengthWithin) B.pre
  have hown : s.vm.findClass RX3 = some m.cls := findClass_of_methodNamed B.named
  have hlocks := B.notSynchronized
  subst hsz
  have hH : bH D 66 (enC cy) q z s.heap s.heap [] := bH_in hq hP
  have hl := lv_entry ([.ref (q 32), .int a]) (n := 3) (Nat.le_of_ble_eq_true rfl)
  rw [lg_entry_eq]
  generalize (lg_sl ([.ref (q 32), .int a]) ++ List.replicate (3 - (lg_sl ([.ref (q 32), .int a])).length) Slot.unset).toArray = ls at hl ⊢
  have hl : lv_has ls 3 [(0, .ref (q 32)), (1, .int a)] := hl
  refine lv_iconst (v := 0) hx hb dX3_lengthWithin_0 (by decide) ?_
  refine lv_istore_n (lv' := [(2, .int 0), (0, .ref (q 32)), (1, .int a)]) hx hb dX3_lengthWithin_1 rfl hl (by decide) rfl (fun ls hl => ?_)
  refine lv_iload_n hx hb dX3_lengthWithin_2 rfl (lv_at hl 0 rfl) ?_
  refine lv_aload_n hx hb dX3_lengthWithin_3 rfl (lv_at hl 1 rfl) ?_
  refine b_get (ci := 3) (C := RX3) (T := TX3) (Nf := 11) (v := .int 0) hx hb hts in_X3_lengthWithin_X3 hown hK hH 32 (by decide) rfl rfl 1 (by decide) (hts (.fieldLink RX3 9 "StationLine$Search" "all" "I") (List.mem_of_getElem? (i := 1) rfl)) (congrArg (fun x => some (Value.int x)) p0) dX3_lengthWithin_4 ?_
  refine lv_icmp_gt (tgt := 50) hx hb dX3_lengthWithin_7 (by decide) (fun c0 => absurd c0 (by decide)) (fun _ => ?_)
  refine lv_aload_n hx hb dX3_lengthWithin_10 rfl (lv_at hl 1 rfl) ?_
  refine b_get (ci := 3) (C := RX3) (T := TX3) (Nf := 11) (v := .ref (q 36)) hx hb hts in_X3_lengthWithin_X3 hown hK hH 32 (by decide) rfl rfl 5 (by decide) (hts (.fieldLink RX3 26 "StationLine$Search" "places" "[I") (List.mem_of_getElem? (i := 2) rfl)) rfl dX3_lengthWithin_11 ?_
  refine lv_iload_n hx hb dX3_lengthWithin_14 rfl (lv_at hl 0 rfl) ?_
  refine lv_aload_n hx hb dX3_lengthWithin_15 rfl (lv_at hl 1 rfl) ?_
  refine b_get (ci := 3) (C := RX3) (T := TX3) (Nf := 11) (v := .ref (q 33)) hx hb hts in_X3_lengthWithin_X3 hown hK hH 32 (by decide) rfl rfl 2 (by decide) (hts (.fieldLink RX3 15 "StationLine$Search" "loads" "[I") (List.mem_of_getElem? (i := 3) rfl)) rfl dX3_lengthWithin_16 ?_
  refine lv_iload_n hx hb dX3_lengthWithin_19 rfl (lv_at hl 0 rfl) ?_
  refine b_iald (v := 0) hx hb hK hH 33 (by decide) rfl (by unfold vp_in; decide) p1 dX3_lengthWithin_20 ?_
  refine lv_iload_n hx hb dX3_lengthWithin_21 rfl (lv_at hl 2 rfl) ?_
  refine lv_icmp_le (tgt := 29) hx hb dX3_lengthWithin_22 (by decide) (fun c1 => ?_) (fun c1 => ?_)
  · skip
    refine lv_aload_n hx hb dX3_lengthWithin_29 rfl (lv_at hl 1 rfl) ?_
    refine b_get (ci := 3) (C := RX3) (T := TX3) (Nf := 11) (v := .ref (q 35)) hx hb hts in_X3_lengthWithin_X3 hown hK hH 32 (by decide) rfl rfl 4 (by decide) (hts (.fieldLink RX3 23 "StationLine$Search" "allowed" "[I") (List.mem_of_getElem? (i := 4) rfl)) rfl dX3_lengthWithin_30 ?_
    refine lv_iload_n hx hb dX3_lengthWithin_33 rfl (lv_at hl 0 rfl) ?_
    refine b_iald (v := 0) hx hb hK hH 35 (by decide) rfl (by unfold vp_in; decide) p2 dX3_lengthWithin_34 ?_
    refine b_iast hx hb hK hH 36 (by decide) rfl (by unfold vp_in; decide) (upA z 36 (upd (z.2.1 36) (0 : Int32).toNatClampNeg 0)) rfl (enC_A _ _ _ _ _) dX3_lengthWithin_35 (fun H locs hH => ?_)
    obtain ⟨z2, hz2⟩ : ∃ w : zS, w = upA z 36 (upd (z.2.1 36) (0 : Int32).toNatClampNeg 0) := ⟨_, rfl⟩
    rw [← hz2] at hH
    have hFz2 : Fr z2 := by rw [hz2]; exact hF
    refine lv_aload_n hx hb dX3_lengthWithin_36 rfl (lv_at hl 1 rfl) ?_
    refine b_get (ci := 3) (C := RX3) (T := TX3) (Nf := 11) (v := .ref (q 37)) hx hb hts in_X3_lengthWithin_X3 hown hK hH 32 (by decide) rfl rfl 6 (by decide) (hts (.fieldLink RX3 29 "StationLine$Search" "soonest" "[I") (List.mem_of_getElem? (i := 5) rfl)) rfl dX3_lengthWithin_37 ?_
    refine lv_iload_n hx hb dX3_lengthWithin_40 rfl (lv_at hl 0 rfl) ?_
    refine lv_bipush (v := 11) hx hb dX3_lengthWithin_41 (by decide) ?_
    refine b_iast hx hb hK hH 37 (by decide) rfl (by unfold vp_in; decide) (upA z2 37 (upd (z2.2.1 37) (0 : Int32).toNatClampNeg 11)) rfl (enC_A _ _ _ _ _) dX3_lengthWithin_43 (fun H locs hH => ?_)
    obtain ⟨z3, hz3⟩ : ∃ w : zS, w = upA z2 37 (upd (z2.2.1 37) (0 : Int32).toNatClampNeg 11) := ⟨_, rfl⟩
    rw [← hz3] at hH
    have hFz3 : Fr z3 := by rw [hz3]; exact hFz2
    refine lv_iinc (v := 1) (lv' := [(2, .int 1), (0, .ref (q 32)), (1, .int a)]) hx hb dX3_lengthWithin_44 hl (k := 0) rfl (by decide) (by decide) rfl (fun ls hl => ?_)
    refine lv_goto (tgt := 2) hx hb dX3_lengthWithin_47 (by decide) ?_
    refine lv_iload_n hx hb dX3_lengthWithin_2 rfl (lv_at hl 0 rfl) ?_
    refine lv_aload_n hx hb dX3_lengthWithin_3 rfl (lv_at hl 1 rfl) ?_
    refine b_get (ci := 3) (C := RX3) (T := TX3) (Nf := 11) (v := .int 0) hx hb hts in_X3_lengthWithin_X3 hown hK hH 32 (by decide) rfl rfl 1 (by decide) (hts (.fieldLink RX3 9 "StationLine$Search" "all" "I") (List.mem_of_getElem? (i := 1) rfl)) (congrArg (fun x => some (Value.int x)) (by rw [hz3]; exact (by rw [hz2]; exact p0))) dX3_lengthWithin_4 ?_
    refine lv_icmp_gt (tgt := 50) hx hb dX3_lengthWithin_7 (by decide) (fun _ => ?_) (fun c0 => absurd c0 (by decide))
    refine lv_aload_n hx hb dX3_lengthWithin_50 rfl (lv_at hl 1 rfl) ?_
    refine b_get (ci := 3) (C := RX3) (T := TX3) (Nf := 11) (v := .ref (q 37)) hx hb hts in_X3_lengthWithin_X3 hown hK hH 32 (by decide) rfl rfl 6 (by decide) (hts (.fieldLink RX3 29 "StationLine$Search" "soonest" "[I") (List.mem_of_getElem? (i := 5) rfl)) rfl dX3_lengthWithin_51 ?_
    refine lv_iconst (v := 0) hx hb dX3_lengthWithin_54 (by decide) ?_
    refine lv_iconst (v := 0) hx hb dX3_lengthWithin_55 (by decide) ?_
    refine b_iast hx hb hK hH 37 (by decide) rfl (by unfold vp_in; decide) (upA z3 37 (upd (z3.2.1 37) (0 : Int32).toNatClampNeg 0)) rfl (enC_A _ _ _ _ _) dX3_lengthWithin_56 (fun H locs hH => ?_)
    obtain ⟨z4, hz4⟩ : ∃ w : zS, w = upA z3 37 (upd (z3.2.1 37) (0 : Int32).toNatClampNeg 0) := ⟨_, rfl⟩
    rw [← hz4] at hH
    have hFz4 : Fr z4 := by rw [hz4]; exact hFz3
    refine lv_iconst (v := 0) hx hb dX3_lengthWithin_57 (by decide) ?_
    refine lv_istore_n (lv' := [(2, .int 0), (0, .ref (q 32)), (1, .int a)]) hx hb dX3_lengthWithin_58 rfl hl (by decide) rfl (fun ls hl => ?_)
    refine lv_iload_n hx hb dX3_lengthWithin_59 rfl (lv_at hl 0 rfl) ?_
    refine lv_aload_n hx hb dX3_lengthWithin_60 rfl (lv_at hl 1 rfl) ?_
    refine b_get (ci := 3) (C := RX3) (T := TX3) (Nf := 11) (v := .int 0) hx hb hts in_X3_lengthWithin_X3 hown hK hH 32 (by decide) rfl rfl 1 (by decide) (hts (.fieldLink RX3 9 "StationLine$Search" "all" "I") (List.mem_of_getElem? (i := 1) rfl)) (congrArg (fun x => some (Value.int x)) (by rw [hz4]; exact (by rw [hz3]; exact (by rw [hz2]; exact p0)))) dX3_lengthWithin_61 ?_
    refine lv_icmp_ge (tgt := 97) hx hb dX3_lengthWithin_64 (by decide) (fun _ => ?_) (fun c0 => absurd c0 (by decide))
    refine lv_aload_n hx hb dX3_lengthWithin_97 rfl (lv_at hl 1 rfl) ?_
    refine b_get (ci := 3) (C := RX3) (T := TX3) (Nf := 11) (v := .ref (q 37)) hx hb hts in_X3_lengthWithin_X3 hown hK hH 32 (by decide) rfl rfl 6 (by decide) (hts (.fieldLink RX3 29 "StationLine$Search" "soonest" "[I") (List.mem_of_getElem? (i := 5) rfl)) rfl dX3_lengthWithin_98 ?_
    refine lv_aload_n hx hb dX3_lengthWithin_101 rfl (lv_at hl 1 rfl) ?_
    refine b_get (ci := 3) (C := RX3) (T := TX3) (Nf := 11) (v := .int 0) hx hb hts in_X3_lengthWithin_X3 hown hK hH 32 (by decide) rfl rfl 1 (by decide) (hts (.fieldLink RX3 9 "StationLine$Search" "all" "I") (List.mem_of_getElem? (i := 1) rfl)) (congrArg (fun x => some (Value.int x)) (by rw [hz4]; exact (by rw [hz3]; exact (by rw [hz2]; exact p0)))) dX3_lengthWithin_102 ?_
    refine b_iald (v := 0) hx hb hK hH 37 (by decide) rfl (by unfold vp_in; decide) (by rw [hz4]; rfl) dX3_lengthWithin_105 ?_
    exact b_iret hx hb hr hlocks hH (⟨hFz4, (by rw [hz4]; exact (by rw [hz3]; exact (by rw [hz2]; exact p0))), (by have e0 : (0 : Int32).toInt = 0 := (by decide); try simp only [b_lt, b_le, b_eq] at c1; first | rfl | omega | (exfalso; omega))⟩) dX3_lengthWithin_106
  · skip
    refine lv_iconst (v := (-1)) hx hb dX3_lengthWithin_25 (by decide) ?_
    refine lv_goto (tgt := 35) hx hb dX3_lengthWithin_26 (by decide) ?_
    refine b_iast hx hb hK hH 36 (by decide) rfl (by unfold vp_in; decide) (upA z 36 (upd (z.2.1 36) (0 : Int32).toNatClampNeg (-1))) rfl (enC_A _ _ _ _ _) dX3_lengthWithin_35 (fun H locs hH => ?_)
    obtain ⟨z5, hz5⟩ : ∃ w : zS, w = upA z 36 (upd (z.2.1 36) (0 : Int32).toNatClampNeg (-1)) := ⟨_, rfl⟩
    rw [← hz5] at hH
    have hFz5 : Fr z5 := by rw [hz5]; exact hF
    refine lv_aload_n hx hb dX3_lengthWithin_36 rfl (lv_at hl 1 rfl) ?_
    refine b_get (ci := 3) (C := RX3) (T := TX3) (Nf := 11) (v := .ref (q 37)) hx hb hts in_X3_lengthWithin_X3 hown hK hH 32 (by decide) rfl rfl 6 (by decide) (hts (.fieldLink RX3 29 "StationLine$Search" "soonest" "[I") (List.mem_of_getElem? (i := 5) rfl)) rfl dX3_lengthWithin_37 ?_
    refine lv_iload_n hx hb dX3_lengthWithin_40 rfl (lv_at hl 0 rfl) ?_
    refine lv_bipush (v := 11) hx hb dX3_lengthWithin_41 (by decide) ?_
    refine b_iast hx hb hK hH 37 (by decide) rfl (by unfold vp_in; decide) (upA z5 37 (upd (z5.2.1 37) (0 : Int32).toNatClampNeg 11)) rfl (enC_A _ _ _ _ _) dX3_lengthWithin_43 (fun H locs hH => ?_)
    obtain ⟨z6, hz6⟩ : ∃ w : zS, w = upA z5 37 (upd (z5.2.1 37) (0 : Int32).toNatClampNeg 11) := ⟨_, rfl⟩
    rw [← hz6] at hH
    have hFz6 : Fr z6 := by rw [hz6]; exact hFz5
    refine lv_iinc (v := 1) (lv' := [(2, .int 1), (0, .ref (q 32)), (1, .int a)]) hx hb dX3_lengthWithin_44 hl (k := 0) rfl (by decide) (by decide) rfl (fun ls hl => ?_)
    refine lv_goto (tgt := 2) hx hb dX3_lengthWithin_47 (by decide) ?_
    refine lv_iload_n hx hb dX3_lengthWithin_2 rfl (lv_at hl 0 rfl) ?_
    refine lv_aload_n hx hb dX3_lengthWithin_3 rfl (lv_at hl 1 rfl) ?_
    refine b_get (ci := 3) (C := RX3) (T := TX3) (Nf := 11) (v := .int 0) hx hb hts in_X3_lengthWithin_X3 hown hK hH 32 (by decide) rfl rfl 1 (by decide) (hts (.fieldLink RX3 9 "StationLine$Search" "all" "I") (List.mem_of_getElem? (i := 1) rfl)) (congrArg (fun x => some (Value.int x)) (by rw [hz6]; exact (by rw [hz5]; exact p0))) dX3_lengthWithin_4 ?_
    refine lv_icmp_gt (tgt := 50) hx hb dX3_lengthWithin_7 (by decide) (fun _ => ?_) (fun c0 => absurd c0 (by decide))
    refine lv_aload_n hx hb dX3_lengthWithin_50 rfl (lv_at hl 1 rfl) ?_
    refine b_get (ci := 3) (C := RX3) (T := TX3) (Nf := 11) (v := .ref (q 37)) hx hb hts in_X3_lengthWithin_X3 hown hK hH 32 (by decide) rfl rfl 6 (by decide) (hts (.fieldLink RX3 29 "StationLine$Search" "soonest" "[I") (List.mem_of_getElem? (i := 5) rfl)) rfl dX3_lengthWithin_51 ?_
    refine lv_iconst (v := 0) hx hb dX3_lengthWithin_54 (by decide) ?_
    refine lv_iconst (v := 0) hx hb dX3_lengthWithin_55 (by decide) ?_
    refine b_iast hx hb hK hH 37 (by decide) rfl (by unfold vp_in; decide) (upA z6 37 (upd (z6.2.1 37) (0 : Int32).toNatClampNeg 0)) rfl (enC_A _ _ _ _ _) dX3_lengthWithin_56 (fun H locs hH => ?_)
    obtain ⟨z7, hz7⟩ : ∃ w : zS, w = upA z6 37 (upd (z6.2.1 37) (0 : Int32).toNatClampNeg 0) := ⟨_, rfl⟩
    rw [← hz7] at hH
    have hFz7 : Fr z7 := by rw [hz7]; exact hFz6
    refine lv_iconst (v := 0) hx hb dX3_lengthWithin_57 (by decide) ?_
    refine lv_istore_n (lv' := [(2, .int 0), (0, .ref (q 32)), (1, .int a)]) hx hb dX3_lengthWithin_58 rfl hl (by decide) rfl (fun ls hl => ?_)
    refine lv_iload_n hx hb dX3_lengthWithin_59 rfl (lv_at hl 0 rfl) ?_
    refine lv_aload_n hx hb dX3_lengthWithin_60 rfl (lv_at hl 1 rfl) ?_
    refine b_get (ci := 3) (C := RX3) (T := TX3) (Nf := 11) (v := .int 0) hx hb hts in_X3_lengthWithin_X3 hown hK hH 32 (by decide) rfl rfl 1 (by decide) (hts (.fieldLink RX3 9 "StationLine$Search" "all" "I") (List.mem_of_getElem? (i := 1) rfl)) (congrArg (fun x => some (Value.int x)) (by rw [hz7]; exact (by rw [hz6]; exact (by rw [hz5]; exact p0)))) dX3_lengthWithin_61 ?_
    refine lv_icmp_ge (tgt := 97) hx hb dX3_lengthWithin_64 (by decide) (fun _ => ?_) (fun c0 => absurd c0 (by decide))
    refine lv_aload_n hx hb dX3_lengthWithin_97 rfl (lv_at hl 1 rfl) ?_
    refine b_get (ci := 3) (C := RX3) (T := TX3) (Nf := 11) (v := .ref (q 37)) hx hb hts in_X3_lengthWithin_X3 hown hK hH 32 (by decide) rfl rfl 6 (by decide) (hts (.fieldLink RX3 29 "StationLine$Search" "soonest" "[I") (List.mem_of_getElem? (i := 5) rfl)) rfl dX3_lengthWithin_98 ?_
    refine lv_aload_n hx hb dX3_lengthWithin_101 rfl (lv_at hl 1 rfl) ?_
    refine b_get (ci := 3) (C := RX3) (T := TX3) (Nf := 11) (v := .int 0) hx hb hts in_X3_lengthWithin_X3 hown hK hH 32 (by decide) rfl rfl 1 (by decide) (hts (.fieldLink RX3 9 "StationLine$Search" "all" "I") (List.mem_of_getElem? (i := 1) rfl)) (congrArg (fun x => some (Value.int x)) (by rw [hz7]; exact (by rw [hz6]; exact (by rw [hz5]; exact p0)))) dX3_lengthWithin_102 ?_
    refine b_iald (v := 0) hx hb hK hH 37 (by decide) rfl (by unfold vp_in; decide) (by rw [hz7]; rfl) dX3_lengthWithin_105 ?_
    exact b_iret hx hb hr hlocks hH (⟨hFz7, (by rw [hz7]; exact (by rw [hz6]; exact (by rw [hz5]; exact p0))), (by have e0 : (0 : Int32).toInt = 0 := (by decide); try simp only [b_lt, b_le, b_eq] at c1; first | rfl | omega | (exfalso; omega))⟩) dX3_lengthWithin_106
set_option maxHeartbeats 4000000 in
set_option maxRecDepth 100000 in
theorem c_X3_leastLength_32 (l : Launch) (D : va_G) (cy : Nat → ClassId) (q : Nat → Nat) (hq : bJ 66 q) (z : zS) (hF : Fr z)    : bCi l yX3_leastLength wsX3_leastLength ({ frames := 5, cells := 0, slots := 0, locals := 119 }) D cy 66 (enC cy) q z [.ref (q 32)] (fun r z' => Fr z' ∧ z'.1 8 = 0 ∧ (0 : Int32) = r) := by
  intro sz
  refine Met.ofW (cc := cX3_leastLength) (maxL := 2) (ret := (some .int)) (by decide) rfl ?_
  intro p e s m args below meth c s₁ B hml hv
  obtain ⟨rfl, hsz, hP, hK, hZ⟩ := hv
  have hx := B.exec
  have hb := B.bytes
  have hr := B.returns
  have hts := atoms_spec (ws := wsX3_leastLength) B.pre
  have hown : s.vm.findClass RX3 = some m.cls := findClass_of_methodNamed B.named
  have hlocks := B.notSynchronized
  subst hsz
  have hH : bH D 66 (enC cy) q z s.heap s.heap [] := bH_in hq hP
  have hl := lv_entry ([.ref (q 32)]) (n := 2) (Nat.le_of_ble_eq_true rfl)
  rw [lg_entry_eq]
  generalize (lg_sl ([.ref (q 32)]) ++ List.replicate (2 - (lg_sl ([.ref (q 32)])).length) Slot.unset).toArray = ls at hl ⊢
  have hl : lv_has ls 2 [(0, .ref (q 32))] := hl
  refine lv_aload_n hx hb dX3_leastLength_0 rfl (lv_at hl 0 rfl) ?_
  refine b_callv (As := []) (rest := []) ⟨hx, hb, hml, hown, hts⟩ 32 3 (c_X3_prepare_32 l D cy q hH.2.1 z hF   ) (cwV 0 hts gX3_leastLength_X3_prepare rfl rfl rfl (by decide +kernel) ⟨Nat.le_of_ble_eq_true rfl, Nat.le_of_ble_eq_true rfl⟩) hK hZ hH (by decide) rfl rfl rfl hl.1 rfl (Nat.le_of_ble_eq_true rfl) ⟨Nat.zero_le _, Nat.zero_le _⟩ dX3_leastLength_1 (fun z1 H locs hp1 hH => ?_)
  obtain ⟨hFz1, g1_0, g1_1, g1_2⟩ := hp1
  refine lv_aload_n hx hb dX3_leastLength_4 rfl (lv_at hl 0 rfl) ?_
  refine lv_aload_n hx hb dX3_leastLength_5 rfl (lv_at hl 0 rfl) ?_
  refine b_get (ci := 3) (C := RX3) (T := TX3) (Nf := 11) (v := .ref (q 1)) hx hb hts in_X3_leastLength_X3 hown hK hH 32 (by decide) rfl rfl 0 (by decide) (hts (.fieldLink RX3 46 "StationLine$Search" "bench" "LStationLine$Bench;") (List.mem_of_getElem? (i := 1) rfl)) rfl dX3_leastLength_6 ?_
  refine b_calli (As := []) (rest := [.ref (q 32)]) ⟨hx, hb, hml, hown, hts⟩ 1 0 (c_X0_room_1 l D cy q hH.2.1 z1 hFz1  ) (cwV 0 hts gX3_leastLength_X0_room rfl rfl rfl (by decide +kernel) ⟨Nat.le_of_ble_eq_true rfl, Nat.le_of_ble_eq_true rfl⟩) hK hZ hH (by decide) rfl rfl rfl hl.1 rfl (Nat.le_of_ble_eq_true rfl) ⟨Nat.zero_le _, Nat.zero_le _⟩ dX3_leastLength_9 (fun r2 z2 H locs hp2 hH => ?_)
  obtain ⟨rfl, rfl⟩ := hp2
  refine b_calli (As := [.int 10]) (rest := []) ⟨hx, hb, hml, hown, hts⟩ 32 3 (c_X3_lengthWithin_32 l D cy q hH.2.1 z1 hFz1 10 g1_0 g1_1 g1_2 ) (cwV 1 hts gX3_leastLength_X3_lengthWithin rfl rfl rfl (by decide +kernel) ⟨Nat.le_of_ble_eq_true rfl, Nat.le_of_ble_eq_true rfl⟩) hK hZ hH (by decide) rfl rfl rfl hl.1 rfl (Nat.le_of_ble_eq_true rfl) ⟨Nat.zero_le _, Nat.zero_le _⟩ dX3_leastLength_12 (fun r3 z3 H locs hp3 hH => ?_)
  obtain ⟨hFz3, g3_0, rfl⟩ := hp3
  refine lv_istore_n (lv' := [(1, .int 0), (0, .ref (q 32))]) hx hb dX3_leastLength_15 rfl hl (by decide) rfl (fun ls hl => ?_)
  refine lv_iload_n hx hb dX3_leastLength_16 rfl (lv_at hl 0 rfl) ?_
  refine lv_bipush (v := 10) hx hb dX3_leastLength_17 (by decide) ?_
  refine lv_icmp_le (tgt := 27) hx hb dX3_leastLength_19 (by decide) (fun _ => ?_) (fun c0 => absurd c0 (by decide))
  refine lv_iload_n hx hb dX3_leastLength_27 rfl (lv_at hl 0 rfl) ?_
  exact b_iret hx hb hr hlocks hH (⟨hFz3, g3_0, (by first | rfl | omega | (exfalso; omega))⟩) dX3_leastLength_28
set_option maxHeartbeats 4000000 in
set_option maxRecDepth 100000 in
theorem c_X3_lookBack_32 (l : Launch) (D : va_G) (cy : Nat → ClassId) (q : Nat → Nat) (hq : bJ 66 q) (z : zS) (hF : Fr z)  (p0 : z.1 8 = 0)  : bCv l yX3_lookBack wsX3_lookBack ({ frames := 1, cells := 0, slots := 0, locals := 27 }) D cy 66 (enC cy) q z [.ref (q 32), .int 0] (fun z' => Fr z' ∧ z'.1 8 = 0) := by
  intro sz
  refine Met.ofW (cc := cX3_lookBack) (maxL := 4) (ret := none) (by decide) rfl ?_
  intro p e s m args below meth c s₁ B hml hv
  obtain ⟨rfl, hsz, hP, hK, hZ⟩ := hv
  have hx := B.exec
  have hb := B.bytes
  have hr := B.returns
  have hts := atoms_spec (ws := wsX3_lookBack) B.pre
  have hown : s.vm.findClass RX3 = some m.cls := findClass_of_methodNamed B.named
  have hlocks := B.notSynchronized
  subst hsz
  have hH : bH D 66 (enC cy) q z s.heap s.heap [] := bH_in hq hP
  have hl := lv_entry ([.ref (q 32), .int 0]) (n := 4) (Nat.le_of_ble_eq_true rfl)
  rw [lg_entry_eq]
  generalize (lg_sl ([.ref (q 32), .int 0]) ++ List.replicate (4 - (lg_sl ([.ref (q 32), .int 0])).length) Slot.unset).toArray = ls at hl ⊢
  have hl : lv_has ls 4 [(0, .ref (q 32)), (1, .int 0)] := hl
  refine lv_aload_n hx hb dX3_lookBack_0 rfl (lv_at hl 0 rfl) ?_
  refine b_get (ci := 3) (C := RX3) (T := TX3) (Nf := 11) (v := .ref (q 38)) hx hb hts in_X3_lookBack_X3 hown hK hH 32 (by decide) rfl rfl 7 (by decide) (hts (.fieldLink RX3 32 "StationLine$Search" "latest" "[I") (List.mem_of_getElem? (i := 1) rfl)) rfl dX3_lookBack_1 ?_
  refine lv_aload_n hx hb dX3_lookBack_4 rfl (lv_at hl 0 rfl) ?_
  refine b_get (ci := 3) (C := RX3) (T := TX3) (Nf := 11) (v := .int 0) hx hb hts in_X3_lookBack_X3 hown hK hH 32 (by decide) rfl rfl 1 (by decide) (hts (.fieldLink RX3 9 "StationLine$Search" "all" "I") (List.mem_of_getElem? (i := 2) rfl)) (congrArg (fun x => some (Value.int x)) p0) dX3_lookBack_5 ?_
  refine lv_iload_n hx hb dX3_lookBack_8 rfl (lv_at hl 1 rfl) ?_
  refine b_iast hx hb hK hH 38 (by decide) rfl (by unfold vp_in; decide) (upA z 38 (upd (z.2.1 38) (0 : Int32).toNatClampNeg 0)) rfl (enC_A _ _ _ _ _) dX3_lookBack_9 (fun H locs hH => ?_)
  obtain ⟨z1, hz1⟩ : ∃ w : zS, w = upA z 38 (upd (z.2.1 38) (0 : Int32).toNatClampNeg 0) := ⟨_, rfl⟩
  rw [← hz1] at hH
  have hFz1 : Fr z1 := by rw [hz1]; exact hF
  refine lv_aload_n hx hb dX3_lookBack_10 rfl (lv_at hl 0 rfl) ?_
  refine b_get (ci := 3) (C := RX3) (T := TX3) (Nf := 11) (v := .int 0) hx hb hts in_X3_lookBack_X3 hown hK hH 32 (by decide) rfl rfl 1 (by decide) (hts (.fieldLink RX3 9 "StationLine$Search" "all" "I") (List.mem_of_getElem? (i := 2) rfl)) (congrArg (fun x => some (Value.int x)) (by rw [hz1]; exact p0)) dX3_lookBack_11 ?_
  refine lv_iconst (v := 1) hx hb dX3_lookBack_14 (by decide) ?_
  refine lv_isub hx hb dX3_lookBack_15 ?_
  refine b_vi (v := (-1)) (by decide) ?_
  refine lv_istore_n (lv' := [(2, .int (-1)), (0, .ref (q 32)), (1, .int 0)]) hx hb dX3_lookBack_16 rfl hl (by decide) rfl (fun ls hl => ?_)
  refine lv_iload_n hx hb dX3_lookBack_17 rfl (lv_at hl 0 rfl) ?_
  refine lv_if_lt (tgt := 68) hx hb dX3_lookBack_18 (by decide) (fun _ => ?_) (fun c0 => absurd c0 (by decide))
  exact b_vret hx hb hr hlocks hH (⟨hFz1, (by rw [hz1]; exact p0)⟩) dX3_lookBack_68
set_option maxHeartbeats 4000000 in
set_option maxRecDepth 100000 in
theorem c_X3_weigh_32 (l : Launch) (D : va_G) (cy : Nat → ClassId) (q : Nat → Nat) (hq : bJ 66 q) (z : zS) (hF : Fr z)  (p0 : z.1 8 = 0)  : bCv l yX3_weigh wsX3_weigh ({ frames := 2, cells := 0, slots := 0, locals := 63 }) D cy 66 (enC cy) q z [.ref (q 32), .int 0] (fun z' => Fr z' ∧ z'.1 8 = 0 ∧ z'.2.2 41 0 = 0 ∧ z'.2.2 53 0 = 1) := by
  intro sz
  refine Met.ofW (cc := cX3_weigh) (maxL := 4) (ret := none) (by decide) rfl ?_
  intro p e s m args below meth c s₁ B hml hv
  obtain ⟨rfl, hsz, hP, hK, hZ⟩ := hv
  have hx := B.exec
  have hb := B.bytes
  have hr := B.returns
  have hts := atoms_spec (ws := wsX3_weigh) B.pre
  have hown : s.vm.findClass RX3 = some m.cls := findClass_of_methodNamed B.named
  have hlocks := B.notSynchronized
  subst hsz
  have hH : bH D 66 (enC cy) q z s.heap s.heap [] := bH_in hq hP
  have hl := lv_entry ([.ref (q 32), .int 0]) (n := 4) (Nat.le_of_ble_eq_true rfl)
  rw [lg_entry_eq]
  generalize (lg_sl ([.ref (q 32), .int 0]) ++ List.replicate (4 - (lg_sl ([.ref (q 32), .int 0])).length) Slot.unset).toArray = ls at hl ⊢
  have hl : lv_has ls 4 [(0, .ref (q 32)), (1, .int 0)] := hl
  refine lv_aload_n hx hb dX3_weigh_0 rfl (lv_at hl 0 rfl) ?_
  refine b_get (ci := 3) (C := RX3) (T := TX3) (Nf := 11) (v := .ref (q 40)) hx hb hts in_X3_weigh_X3 hown hK hH 32 (by decide) rfl rfl 9 (by decide) (hts (.fieldLink RX3 40 "StationLine$Search" "costs" "[[J") (List.mem_of_getElem? (i := 1) rfl)) rfl dX3_weigh_1 ?_
  refine lv_iload_n hx hb dX3_weigh_4 rfl (lv_at hl 1 rfl) ?_
  refine b_aald (a := q 41) hx hb hK hH 40 4 (by decide) rfl rfl (by unfold vp_in; decide) rfl dX3_weigh_5 ?_
  refine lv_aload_n hx hb dX3_weigh_6 rfl (lv_at hl 0 rfl) ?_
  refine b_get (ci := 3) (C := RX3) (T := TX3) (Nf := 11) (v := .int 0) hx hb hts in_X3_weigh_X3 hown hK hH 32 (by decide) rfl rfl 1 (by decide) (hts (.fieldLink RX3 9 "StationLine$Search" "all" "I") (List.mem_of_getElem? (i := 2) rfl)) (congrArg (fun x => some (Value.int x)) p0) dX3_weigh_7 ?_
  refine lv_lconst (v := 0) hx hb dX3_weigh_10 (by decide) ?_
  refine b_last hx hb hK hH 41 (by decide) rfl (by unfold vp_in; decide) (upL z 41 (vp_updL (z.2.2 41) (0 : Int32).toNatClampNeg 0)) rfl (enC_L _ _ _ _ _) dX3_weigh_11 (fun H locs hH => ?_)
  obtain ⟨z1, hz1⟩ : ∃ w : zS, w = upL z 41 (vp_updL (z.2.2 41) (0 : Int32).toNatClampNeg 0) := ⟨_, rfl⟩
  rw [← hz1] at hH
  have hFz1 : Fr z1 := by rw [hz1]; exact hF
  refine lv_aload_n hx hb dX3_weigh_12 rfl (lv_at hl 0 rfl) ?_
  refine b_get (ci := 3) (C := RX3) (T := TX3) (Nf := 11) (v := .ref (q 52)) hx hb hts in_X3_weigh_X3 hown hK hH 32 (by decide) rfl rfl 10 (by decide) (hts (.fieldLink RX3 43 "StationLine$Search" "ways" "[[J") (List.mem_of_getElem? (i := 3) rfl)) rfl dX3_weigh_13 ?_
  refine lv_iload_n hx hb dX3_weigh_16 rfl (lv_at hl 1 rfl) ?_
  refine lv_iconst (v := 1) hx hb dX3_weigh_17 (by decide) ?_
  refine lv_iand hx hb dX3_weigh_18 ?_
  refine b_vi (v := 0) (by decide) ?_
  refine b_aald (a := q 53) hx hb hK hH 52 4 (by decide) rfl rfl (by unfold vp_in; decide) rfl dX3_weigh_19 ?_
  refine lv_aload_n hx hb dX3_weigh_20 rfl (lv_at hl 0 rfl) ?_
  refine b_get (ci := 3) (C := RX3) (T := TX3) (Nf := 11) (v := .int 0) hx hb hts in_X3_weigh_X3 hown hK hH 32 (by decide) rfl rfl 1 (by decide) (hts (.fieldLink RX3 9 "StationLine$Search" "all" "I") (List.mem_of_getElem? (i := 2) rfl)) (congrArg (fun x => some (Value.int x)) (by rw [hz1]; exact p0)) dX3_weigh_21 ?_
  refine lv_lconst (v := 1) hx hb dX3_weigh_24 (by decide) ?_
  refine b_last hx hb hK hH 53 (by decide) rfl (by unfold vp_in; decide) (upL z1 53 (vp_updL (z1.2.2 53) (0 : Int32).toNatClampNeg 1)) rfl (enC_L _ _ _ _ _) dX3_weigh_25 (fun H locs hH => ?_)
  obtain ⟨z2, hz2⟩ : ∃ w : zS, w = upL z1 53 (vp_updL (z1.2.2 53) (0 : Int32).toNatClampNeg 1) := ⟨_, rfl⟩
  rw [← hz2] at hH
  have hFz2 : Fr z2 := by rw [hz2]; exact hFz1
  refine lv_iload_n hx hb dX3_weigh_26 rfl (lv_at hl 1 rfl) ?_
  refine lv_iconst (v := 1) hx hb dX3_weigh_27 (by decide) ?_
  refine lv_isub hx hb dX3_weigh_28 ?_
  refine b_vi (v := (-1)) (by decide) ?_
  refine lv_istore_n (lv' := [(2, .int (-1)), (0, .ref (q 32)), (1, .int 0)]) hx hb dX3_weigh_29 rfl hl (by decide) rfl (fun ls hl => ?_)
  refine lv_iload_n hx hb dX3_weigh_30 rfl (lv_at hl 0 rfl) ?_
  refine lv_if_lt (tgt := 82) hx hb dX3_weigh_31 (by decide) (fun _ => ?_) (fun c0 => absurd c0 (by decide))
  exact b_vret hx hb hr hlocks hH (⟨hFz2, (by rw [hz2]; exact (by rw [hz1]; exact p0)), (by rw [hz2]; exact (by rw [hz1]; rfl)), (by rw [hz2]; rfl)⟩) dX3_weigh_82
set_option maxHeartbeats 4000000 in
set_option maxRecDepth 100000 in
theorem c_X3_waysFor_32 (l : Launch) (D : va_G) (cy : Nat → ClassId) (q : Nat → Nat) (hq : bJ 66 q) (z : zS) (hF : Fr z)  (p0 : z.1 8 = 0)  : bCl l yX3_waysFor wsX3_waysFor ({ frames := 3, cells := 0, slots := 0, locals := 86 }) D cy 66 (enC cy) q z [.ref (q 32), .int 0] (fun r z' => Fr z' ∧ (1 : Int64) = r) := by
  intro sz
  refine Met.ofW (cc := cX3_waysFor) (maxL := 2) (ret := (some .long)) (by decide) rfl ?_
  intro p e s m args below meth c s₁ B hml hv
  obtain ⟨rfl, hsz, hP, hK, hZ⟩ := hv
  have hx := B.exec
  have hb := B.bytes
  have hr := B.returns
  have hts := atoms_spec (ws := wsX3_waysFor) B.pre
  have hown : s.vm.findClass RX3 = some m.cls := findClass_of_methodNamed B.named
  have hlocks := B.notSynchronized
  subst hsz
  have hH : bH D 66 (enC cy) q z s.heap s.heap [] := bH_in hq hP
  have hl := lv_entry ([.ref (q 32), .int 0]) (n := 2) (Nat.le_of_ble_eq_true rfl)
  rw [lg_entry_eq]
  generalize (lg_sl ([.ref (q 32), .int 0]) ++ List.replicate (2 - (lg_sl ([.ref (q 32), .int 0])).length) Slot.unset).toArray = ls at hl ⊢
  have hl : lv_has ls 2 [(0, .ref (q 32)), (1, .int 0)] := hl
  refine lv_aload_n hx hb dX3_waysFor_0 rfl (lv_at hl 0 rfl) ?_
  refine lv_iload_n hx hb dX3_waysFor_1 rfl (lv_at hl 1 rfl) ?_
  refine b_callv (As := [.int 0]) (rest := []) ⟨hx, hb, hml, hown, hts⟩ 32 3 (c_X3_lookBack_32 l D cy q hH.2.1 z hF  p0 ) (cwV 1 hts gX3_waysFor_X3_lookBack rfl rfl rfl (by decide +kernel) ⟨Nat.le_of_ble_eq_true rfl, Nat.le_of_ble_eq_true rfl⟩) hK hZ hH (by decide) rfl rfl rfl hl.1 rfl (Nat.le_of_ble_eq_true rfl) ⟨Nat.zero_le _, Nat.zero_le _⟩ dX3_waysFor_2 (fun z1 H locs hp1 hH => ?_)
  obtain ⟨hFz1, g1_0⟩ := hp1
  refine lv_aload_n hx hb dX3_waysFor_5 rfl (lv_at hl 0 rfl) ?_
  refine lv_iload_n hx hb dX3_waysFor_6 rfl (lv_at hl 1 rfl) ?_
  refine b_callv (As := [.int 0]) (rest := []) ⟨hx, hb, hml, hown, hts⟩ 32 3 (c_X3_weigh_32 l D cy q hH.2.1 z1 hFz1  g1_0 ) (cwV 1 hts gX3_waysFor_X3_weigh rfl rfl rfl (by decide +kernel) ⟨Nat.le_of_ble_eq_true rfl, Nat.le_of_ble_eq_true rfl⟩) hK hZ hH (by decide) rfl rfl rfl hl.1 rfl (Nat.le_of_ble_eq_true rfl) ⟨Nat.zero_le _, Nat.zero_le _⟩ dX3_waysFor_7 (fun z2 H locs hp2 hH => ?_)
  obtain ⟨hFz2, g2_0, g2_1, g2_2⟩ := hp2
  refine lv_aload_n hx hb dX3_waysFor_10 rfl (lv_at hl 0 rfl) ?_
  refine b_get (ci := 3) (C := RX3) (T := TX3) (Nf := 11) (v := .ref (q 52)) hx hb hts in_X3_waysFor_X3 hown hK hH 32 (by decide) rfl rfl 10 (by decide) (hts (.fieldLink RX3 43 "StationLine$Search" "ways" "[[J") (List.mem_of_getElem? (i := 1) rfl)) rfl dX3_waysFor_11 ?_
  refine lv_iconst (v := 0) hx hb dX3_waysFor_14 (by decide) ?_
  refine b_aald (a := q 53) hx hb hK hH 52 4 (by decide) rfl rfl (by unfold vp_in; decide) rfl dX3_waysFor_15 ?_
  refine lv_iconst (v := 0) hx hb dX3_waysFor_16 (by decide) ?_
  refine b_lald (v := 1) hx hb hK hH 53 (by decide) rfl (by unfold vp_in; decide) g2_2 dX3_waysFor_17 ?_
  exact b_lret hx hb hr hlocks hH (⟨hFz2, (by first | rfl | omega | (exfalso; omega))⟩) dX3_waysFor_18
set_option maxHeartbeats 4000000 in
set_option maxRecDepth 100000 in
theorem c_X3_costFor_32 (l : Launch) (D : va_G) (cy : Nat → ClassId) (q : Nat → Nat) (hq : bJ 66 q) (z : zS) (hF : Fr z)  (p0 : z.1 8 = 0)  : bCl l yX3_costFor wsX3_costFor ({ frames := 3, cells := 0, slots := 0, locals := 86 }) D cy 66 (enC cy) q z [.ref (q 32), .int 0] (fun r z' => Fr z' ∧ (0 : Int64) = r) := by
  intro sz
  refine Met.ofW (cc := cX3_costFor) (maxL := 2) (ret := (some .long)) (by decide) rfl ?_
  intro p e s m args below meth c s₁ B hml hv
  obtain ⟨rfl, hsz, hP, hK, hZ⟩ := hv
  have hx := B.exec
  have hb := B.bytes
  have hr := B.returns
  have hts := atoms_spec (ws := wsX3_costFor) B.pre
  have hown : s.vm.findClass RX3 = some m.cls := findClass_of_methodNamed B.named
  have hlocks := B.notSynchronized
  subst hsz
  have hH : bH D 66 (enC cy) q z s.heap s.heap [] := bH_in hq hP
  have hl := lv_entry ([.ref (q 32), .int 0]) (n := 2) (Nat.le_of_ble_eq_true rfl)
  rw [lg_entry_eq]
  generalize (lg_sl ([.ref (q 32), .int 0]) ++ List.replicate (2 - (lg_sl ([.ref (q 32), .int 0])).length) Slot.unset).toArray = ls at hl ⊢
  have hl : lv_has ls 2 [(0, .ref (q 32)), (1, .int 0)] := hl
  refine lv_aload_n hx hb dX3_costFor_0 rfl (lv_at hl 0 rfl) ?_
  refine lv_iload_n hx hb dX3_costFor_1 rfl (lv_at hl 1 rfl) ?_
  refine b_callv (As := [.int 0]) (rest := []) ⟨hx, hb, hml, hown, hts⟩ 32 3 (c_X3_lookBack_32 l D cy q hH.2.1 z hF  p0 ) (cwV 1 hts gX3_costFor_X3_lookBack rfl rfl rfl (by decide +kernel) ⟨Nat.le_of_ble_eq_true rfl, Nat.le_of_ble_eq_true rfl⟩) hK hZ hH (by decide) rfl rfl rfl hl.1 rfl (Nat.le_of_ble_eq_true rfl) ⟨Nat.zero_le _, Nat.zero_le _⟩ dX3_costFor_2 (fun z1 H locs hp1 hH => ?_)
  obtain ⟨hFz1, g1_0⟩ := hp1
  refine lv_aload_n hx hb dX3_costFor_5 rfl (lv_at hl 0 rfl) ?_
  refine lv_iload_n hx hb dX3_costFor_6 rfl (lv_at hl 1 rfl) ?_
  refine b_callv (As := [.int 0]) (rest := []) ⟨hx, hb, hml, hown, hts⟩ 32 3 (c_X3_weigh_32 l D cy q hH.2.1 z1 hFz1  g1_0 ) (cwV 1 hts gX3_costFor_X3_weigh rfl rfl rfl (by decide +kernel) ⟨Nat.le_of_ble_eq_true rfl, Nat.le_of_ble_eq_true rfl⟩) hK hZ hH (by decide) rfl rfl rfl hl.1 rfl (Nat.le_of_ble_eq_true rfl) ⟨Nat.zero_le _, Nat.zero_le _⟩ dX3_costFor_7 (fun z2 H locs hp2 hH => ?_)
  obtain ⟨hFz2, g2_0, g2_1, g2_2⟩ := hp2
  refine lv_aload_n hx hb dX3_costFor_10 rfl (lv_at hl 0 rfl) ?_
  refine b_get (ci := 3) (C := RX3) (T := TX3) (Nf := 11) (v := .ref (q 40)) hx hb hts in_X3_costFor_X3 hown hK hH 32 (by decide) rfl rfl 9 (by decide) (hts (.fieldLink RX3 40 "StationLine$Search" "costs" "[[J") (List.mem_of_getElem? (i := 1) rfl)) rfl dX3_costFor_11 ?_
  refine lv_iconst (v := 0) hx hb dX3_costFor_14 (by decide) ?_
  refine b_aald (a := q 41) hx hb hK hH 40 4 (by decide) rfl rfl (by unfold vp_in; decide) rfl dX3_costFor_15 ?_
  refine lv_iconst (v := 0) hx hb dX3_costFor_16 (by decide) ?_
  refine b_lald (v := 0) hx hb hK hH 41 (by decide) rfl (by unfold vp_in; decide) g2_1 dX3_costFor_17 ?_
  exact b_lret hx hb hr hlocks hH (⟨hFz2, (by first | rfl | omega | (exfalso; omega))⟩) dX3_costFor_18
set_option maxHeartbeats 4000000 in
set_option maxRecDepth 100000 in
theorem c_X3_putFirst_32 (l : Launch) (D : va_G) (cy : Nat → ClassId) (q : Nat → Nat) (hq : bJ 66 q) (z : zS) (hF : Fr z) (ev : Int32) (p0 : z.1 8 = 0)  : bCv l yX3_putFirst wsX3_putFirst ({ frames := 3, cells := 0, slots := 0, locals := 86 }) D cy 66 (enC cy) q z [.ref (q 32), .int 0, .int ev, .ref (q 14)] (fun z' => Fr z') := by
  intro sz
  refine Met.ofW (cc := cX3_putFirst) (maxL := 8) (ret := none) (by decide) rfl ?_
  intro p e s m args below meth c s₁ B hml hv
  obtain ⟨rfl, hsz, hP, hK, hZ⟩ := hv
  have hx := B.exec
  have hb := B.bytes
  have hr := B.returns
  have hts := atoms_spec (ws := wsX3_putFirst) B.pre
  have hown : s.vm.findClass RX3 = some m.cls := findClass_of_methodNamed B.named
  have hlocks := B.notSynchronized
  subst hsz
  have hH : bH D 66 (enC cy) q z s.heap s.heap [] := bH_in hq hP
  have hl := lv_entry ([.ref (q 32), .int 0, .int ev, .ref (q 14)]) (n := 8) (Nat.le_of_ble_eq_true rfl)
  rw [lg_entry_eq]
  generalize (lg_sl ([.ref (q 32), .int 0, .int ev, .ref (q 14)]) ++ List.replicate (8 - (lg_sl ([.ref (q 32), .int 0, .int ev, .ref (q 14)])).length) Slot.unset).toArray = ls at hl ⊢
  have hl : lv_has ls 8 [(0, .ref (q 32)), (1, .int 0), (2, .int ev), (3, .ref (q 14))] := hl
  refine lv_aload_n hx hb dX3_putFirst_0 rfl (lv_at hl 0 rfl) ?_
  refine lv_iload_n hx hb dX3_putFirst_1 rfl (lv_at hl 1 rfl) ?_
  refine b_callv (As := [.int 0]) (rest := []) ⟨hx, hb, hml, hown, hts⟩ 32 3 (c_X3_lookBack_32 l D cy q hH.2.1 z hF  p0 ) (cwV 1 hts gX3_putFirst_X3_lookBack rfl rfl rfl (by decide +kernel) ⟨Nat.le_of_ble_eq_true rfl, Nat.le_of_ble_eq_true rfl⟩) hK hZ hH (by decide) rfl rfl rfl hl.1 rfl (Nat.le_of_ble_eq_true rfl) ⟨Nat.zero_le _, Nat.zero_le _⟩ dX3_putFirst_2 (fun z1 H locs hp1 hH => ?_)
  obtain ⟨hFz1, g1_0⟩ := hp1
  refine lv_iload_n hx hb dX3_putFirst_5 rfl (lv_at hl 2 rfl) ?_
  refine lv_if_eq (tgt := 14) hx hb dX3_putFirst_6 (by decide) (fun c2 => ?_) (fun c2 => ?_)
  · skip
    refine lv_iconst (v := 0) hx hb dX3_putFirst_14 (by decide) ?_
    refine lv_istore (lv' := [(4, .int 0), (0, .ref (q 32)), (1, .int 0), (2, .int ev), (3, .ref (q 14))]) hx hb dX3_putFirst_15 hl (by decide) rfl (fun ls hl => ?_)
    refine lv_iconst (v := 1) hx hb dX3_putFirst_17 (by decide) ?_
    refine lv_istore (lv' := [(5, .int 1), (4, .int 0), (0, .ref (q 32)), (1, .int 0), (2, .int ev), (3, .ref (q 14))]) hx hb dX3_putFirst_18 hl (by decide) rfl (fun ls hl => ?_)
    refine lv_iload hx hb dX3_putFirst_20 (lv_at hl 0 rfl) ?_
    refine lv_iload_n hx hb dX3_putFirst_22 rfl (lv_at hl 3 rfl) ?_
    refine lv_icmp_gt (tgt := 87) hx hb dX3_putFirst_23 (by decide) (fun _ => ?_) (fun c0 => absurd c0 (by decide))
    exact b_vret hx hb hr hlocks hH (hFz1) dX3_putFirst_87
  · skip
    refine lv_aload_n hx hb dX3_putFirst_9 rfl (lv_at hl 0 rfl) ?_
    refine lv_iload_n hx hb dX3_putFirst_10 rfl (lv_at hl 1 rfl) ?_
    refine b_callv (As := [.int 0]) (rest := []) ⟨hx, hb, hml, hown, hts⟩ 32 3 (c_X3_weigh_32 l D cy q hH.2.1 z1 hFz1  g1_0 ) (cwV 1 hts gX3_putFirst_X3_weigh rfl rfl rfl (by decide +kernel) ⟨Nat.le_of_ble_eq_true rfl, Nat.le_of_ble_eq_true rfl⟩) hK hZ hH (by decide) rfl rfl rfl hl.1 rfl (Nat.le_of_ble_eq_true rfl) ⟨Nat.zero_le _, Nat.zero_le _⟩ dX3_putFirst_11 (fun z3 H locs hp3 hH => ?_)
    obtain ⟨hFz3, g3_0, g3_1, g3_2⟩ := hp3
    refine lv_iconst (v := 0) hx hb dX3_putFirst_14 (by decide) ?_
    refine lv_istore (lv' := [(4, .int 0), (0, .ref (q 32)), (1, .int 0), (2, .int ev), (3, .ref (q 14))]) hx hb dX3_putFirst_15 hl (by decide) rfl (fun ls hl => ?_)
    refine lv_iconst (v := 1) hx hb dX3_putFirst_17 (by decide) ?_
    refine lv_istore (lv' := [(5, .int 1), (4, .int 0), (0, .ref (q 32)), (1, .int 0), (2, .int ev), (3, .ref (q 14))]) hx hb dX3_putFirst_18 hl (by decide) rfl (fun ls hl => ?_)
    refine lv_iload hx hb dX3_putFirst_20 (lv_at hl 0 rfl) ?_
    refine lv_iload_n hx hb dX3_putFirst_22 rfl (lv_at hl 3 rfl) ?_
    refine lv_icmp_gt (tgt := 87) hx hb dX3_putFirst_23 (by decide) (fun _ => ?_) (fun c0 => absurd c0 (by decide))
    exact b_vret hx hb hr hlocks hH (hFz3) dX3_putFirst_87
