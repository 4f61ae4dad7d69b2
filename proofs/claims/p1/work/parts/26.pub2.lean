set_option maxHeartbeats 4000000 in
set_option maxRecDepth 100000 in
theorem c_X5_many (l : Launch) (D : va_G) (cy : Nat → ClassId) (q : Nat → Nat) (hq : bJ 66 q) (z : zS) (hF : Fr z)  : bCl l yX5_many wsX5_many ({ frames := 6, cells := 0, slots := 0, locals := 140 }) D cy 66 (enC cy) q z [.ref (q 0)] (fun r _ => (1 : Int64) = r) := by
  intro sz
  refine Met.ofW (cc := cX5_many) (maxL := 2) (ret := (some .long)) (by decide) rfl ?_
  intro p e s m args below meth c s₁ B hml hv
  obtain ⟨rfl, hsz, hP, hK, hZ⟩ := hv
  have hx := B.exec
  have hb := B.bytes
  have hr := B.returns
  have hts := atoms_spec (ws := wsX5_many) B.pre
  have hown : s.vm.findClass RX5 = some m.cls := findClass_of_methodNamed B.named
  have hlocks := B.notSynchronized
  subst hsz
  have hH : bH D 66 (enC cy) q z s.heap s.heap [] := bH_in hq hP
  have hl := lv_entry ([.ref (q 0)]) (n := 2) (Nat.le_of_ble_eq_true rfl)
  rw [lg_entry_eq]
  generalize (lg_sl ([.ref (q 0)]) ++ List.replicate (2 - (lg_sl ([.ref (q 0)])).length) Slot.unset).toArray = ls at hl ⊢
  have hl : lv_has ls 2 [(0, .ref (q 0))] := hl
  refine lv_aload_n hx hb dX5_many_0 rfl (lv_at hl 0 rfl) ?_
  refine b_get (ci := 5) (C := RX5) (T := TX5) (Nf := 12) (v := .ref (q 32)) hx hb hts in_X5_many_X5 hown hK hH 0 (by decide) rfl rfl 6 (by decide) (hts (.fieldLink RX5 45 "StationLine" "search" "LStationLine$Search;") (List.mem_of_getElem? (i := 1) rfl)) rfl dX5_many_1 ?_
  refine b_calli (As := []) (rest := []) ⟨hx, hb, hml, hown, hts⟩ 32 3 (c_X3_leastLength_32 l D cy q hH.2.1 z hF   ) (cwV 0 hts gX5_many_X3_leastLength rfl rfl rfl (by decide +kernel) ⟨Nat.le_of_ble_eq_true rfl, Nat.le_of_ble_eq_true rfl⟩) hK hZ hH (by decide) rfl rfl rfl hl.1 rfl (Nat.le_of_ble_eq_true rfl) ⟨Nat.zero_le _, Nat.zero_le _⟩ dX5_many_4 (fun r1 z1 H locs hp1 hH => ?_)
  obtain ⟨hFz1, g1_0, rfl⟩ := hp1
  refine lv_istore_n (lv' := [(1, .int 0), (0, .ref (q 0))]) hx hb dX5_many_7 rfl hl (by decide) rfl (fun ls hl => ?_)
  refine lv_iload_n hx hb dX5_many_8 rfl (lv_at hl 0 rfl) ?_
  refine lv_if_ge (tgt := 16) hx hb dX5_many_9 (by decide) (fun _ => ?_) (fun c0 => absurd c0 (by decide))
  refine lv_aload_n hx hb dX5_many_16 rfl (lv_at hl 1 rfl) ?_
  refine b_get (ci := 5) (C := RX5) (T := TX5) (Nf := 12) (v := .ref (q 32)) hx hb hts in_X5_many_X5 hown hK hH 0 (by decide) rfl rfl 6 (by decide) (hts (.fieldLink RX5 45 "StationLine" "search" "LStationLine$Search;") (List.mem_of_getElem? (i := 1) rfl)) rfl dX5_many_17 ?_
  refine lv_iload_n hx hb dX5_many_20 rfl (lv_at hl 0 rfl) ?_
  refine b_calll (As := [.int 0]) (rest := []) ⟨hx, hb, hml, hown, hts⟩ 32 3 (c_X3_waysFor_32 l D cy q hH.2.1 z1 hFz1  g1_0 ) (cwV 1 hts gX5_many_X3_waysFor rfl rfl rfl (by decide +kernel) ⟨Nat.le_of_ble_eq_true rfl, Nat.le_of_ble_eq_true rfl⟩) hK hZ hH (by decide) rfl rfl rfl hl.1 rfl (Nat.le_of_ble_eq_true rfl) ⟨Nat.zero_le _, Nat.zero_le _⟩ dX5_many_21 (fun r2 z2 H locs hp2 hH => ?_)
  obtain ⟨hFz2, rfl⟩ := hp2
  exact b_lret hx hb hr hlocks hH ((by first | rfl | ((repeat' split) <;> first | rfl | omega))) dX5_many_24
set_option maxHeartbeats 4000000 in
set_option maxRecDepth 100000 in
theorem c_X5_best (l : Launch) (D : va_G) (cy : Nat → ClassId) (q : Nat → Nat) (hq : bJ 66 q) (z : zS) (hF : Fr z) (x1 : Int32) : bCi l yX5_best wsX5_best ({ frames := 6, cells := 0, slots := 0, locals := 140 }) D cy 66 (enC cy) q z [.ref (q 0), .int x1] (fun r _ => (0 : Int32) = r) := by
  intro sz
  refine Met.ofW (cc := cX5_best) (maxL := 3) (ret := (some .int)) (by decide) rfl ?_
  intro p e s m args below meth c s₁ B hml hv
  obtain ⟨rfl, hsz, hP, hK, hZ⟩ := hv
  have hx := B.exec
  have hb := B.bytes
  have hr := B.returns
  have hts := atoms_spec (ws := wsX5_best) B.pre
  have hown : s.vm.findClass RX5 = some m.cls := findClass_of_methodNamed B.named
  have hlocks := B.notSynchronized
  subst hsz
  have hH : bH D 66 (enC cy) q z s.heap s.heap [] := bH_in hq hP
  have hl := lv_entry ([.ref (q 0), .int x1]) (n := 3) (Nat.le_of_ble_eq_true rfl)
  rw [lg_entry_eq]
  generalize (lg_sl ([.ref (q 0), .int x1]) ++ List.replicate (3 - (lg_sl ([.ref (q 0), .int x1])).length) Slot.unset).toArray = ls at hl ⊢
  have hl : lv_has ls 3 [(0, .ref (q 0)), (1, .int x1)] := hl
  refine lv_aload_n hx hb dX5_best_0 rfl (lv_at hl 0 rfl) ?_
  refine b_get (ci := 5) (C := RX5) (T := TX5) (Nf := 12) (v := .ref (q 32)) hx hb hts in_X5_best_X5 hown hK hH 0 (by decide) rfl rfl 6 (by decide) (hts (.fieldLink RX5 45 "StationLine" "search" "LStationLine$Search;") (List.mem_of_getElem? (i := 1) rfl)) rfl dX5_best_1 ?_
  refine b_calli (As := []) (rest := []) ⟨hx, hb, hml, hown, hts⟩ 32 3 (c_X3_leastLength_32 l D cy q hH.2.1 z hF   ) (cwV 0 hts gX5_best_X3_leastLength rfl rfl rfl (by decide +kernel) ⟨Nat.le_of_ble_eq_true rfl, Nat.le_of_ble_eq_true rfl⟩) hK hZ hH (by decide) rfl rfl rfl hl.1 rfl (Nat.le_of_ble_eq_true rfl) ⟨Nat.zero_le _, Nat.zero_le _⟩ dX5_best_4 (fun r1 z1 H locs hp1 hH => ?_)
  obtain ⟨hFz1, g1_0, rfl⟩ := hp1
  refine lv_istore_n (lv' := [(2, .int 0), (0, .ref (q 0)), (1, .int x1)]) hx hb dX5_best_7 rfl hl (by decide) rfl (fun ls hl => ?_)
  refine lv_iload_n hx hb dX5_best_8 rfl (lv_at hl 0 rfl) ?_
  refine lv_if_ge (tgt := 15) hx hb dX5_best_9 (by decide) (fun _ => ?_) (fun c0 => absurd c0 (by decide))
  refine lv_aload_n hx hb dX5_best_15 rfl (lv_at hl 1 rfl) ?_
  refine b_get (ci := 5) (C := RX5) (T := TX5) (Nf := 12) (v := .ref (q 32)) hx hb hts in_X5_best_X5 hown hK hH 0 (by decide) rfl rfl 6 (by decide) (hts (.fieldLink RX5 45 "StationLine" "search" "LStationLine$Search;") (List.mem_of_getElem? (i := 1) rfl)) rfl dX5_best_16 ?_
  refine lv_iload_n hx hb dX5_best_19 rfl (lv_at hl 0 rfl) ?_
  refine lv_iload_n hx hb dX5_best_20 rfl (lv_at hl 2 rfl) ?_
  refine lv_aload_n hx hb dX5_best_21 rfl (lv_at hl 1 rfl) ?_
  refine b_get (ci := 5) (C := RX5) (T := TX5) (Nf := 12) (v := .ref (q 13)) hx hb hts in_X5_best_X5 hown hK hH 0 (by decide) rfl rfl 1 (by decide) (hts (.fieldLink RX5 21 "StationLine" "hand" "LStationLine$Putting;") (List.mem_of_getElem? (i := 2) rfl)) rfl dX5_best_22 ?_
  refine b_get (ci := 1) (C := RX1) (T := TX1) (Nf := 2) (v := .ref (q 14)) hx hb hts in_X5_best_X1 hown hK hH 13 (by decide) rfl rfl 1 (by decide) (hts (.fieldLink RX5 77 "StationLine$Putting" "row" "[I") (List.mem_of_getElem? (i := 3) rfl)) rfl dX5_best_25 ?_
  refine b_callv (As := [.int 0, .int x1, .ref (q 14)]) (rest := []) ⟨hx, hb, hml, hown, hts⟩ 32 3 (c_X3_putFirst_32 l D cy q hH.2.1 z1 hFz1 x1 g1_0 ) (cwV 3 hts gX5_best_X3_putFirst rfl rfl rfl (by decide +kernel) ⟨Nat.le_of_ble_eq_true rfl, Nat.le_of_ble_eq_true rfl⟩) hK hZ hH (by decide) rfl rfl rfl hl.1 rfl (Nat.le_of_ble_eq_true rfl) ⟨Nat.zero_le _, Nat.zero_le _⟩ dX5_best_28 (fun z2 H locs hp2 hH => ?_)
  have hFz2 := hp2
  refine lv_iload_n hx hb dX5_best_31 rfl (lv_at hl 0 rfl) ?_
  exact b_iret hx hb hr hlocks hH ((by first | rfl | ((repeat' split) <;> first | rfl | omega))) dX5_best_32
set_option maxHeartbeats 4000000 in
set_option maxRecDepth 100000 in
theorem c_X5_evenest (l : Launch) (D : va_G) (cy : Nat → ClassId) (q : Nat → Nat) (hq : bJ 66 q) (z : zS) (hF : Fr z)  : bCl l yX5_evenest wsX5_evenest ({ frames := 6, cells := 0, slots := 0, locals := 140 }) D cy 66 (enC cy) q z [.ref (q 0)] (fun r _ => (0 : Int64) = r) := by
  intro sz
  refine Met.ofW (cc := cX5_evenest) (maxL := 2) (ret := (some .long)) (by decide) rfl ?_
  intro p e s m args below meth c s₁ B hml hv
  obtain ⟨rfl, hsz, hP, hK, hZ⟩ := hv
  have hx := B.exec
  have hb := B.bytes
  have hr := B.returns
  have hts := atoms_spec (ws := wsX5_evenest) B.pre
  have hown : s.vm.findClass RX5 = some m.cls := findClass_of_methodNamed B.named
  have hlocks := B.notSynchronized
  subst hsz
  have hH : bH D 66 (enC cy) q z s.heap s.heap [] := bH_in hq hP
  have hl := lv_entry ([.ref (q 0)]) (n := 2) (Nat.le_of_ble_eq_true rfl)
  rw [lg_entry_eq]
  generalize (lg_sl ([.ref (q 0)]) ++ List.replicate (2 - (lg_sl ([.ref (q 0)])).length) Slot.unset).toArray = ls at hl ⊢
  have hl : lv_has ls 2 [(0, .ref (q 0))] := hl
  refine lv_aload_n hx hb dX5_evenest_0 rfl (lv_at hl 0 rfl) ?_
  refine b_get (ci := 5) (C := RX5) (T := TX5) (Nf := 12) (v := .ref (q 32)) hx hb hts in_X5_evenest_X5 hown hK hH 0 (by decide) rfl rfl 6 (by decide) (hts (.fieldLink RX5 45 "StationLine" "search" "LStationLine$Search;") (List.mem_of_getElem? (i := 1) rfl)) rfl dX5_evenest_1 ?_
  refine b_calli (As := []) (rest := []) ⟨hx, hb, hml, hown, hts⟩ 32 3 (c_X3_leastLength_32 l D cy q hH.2.1 z hF   ) (cwV 0 hts gX5_evenest_X3_leastLength rfl rfl rfl (by decide +kernel) ⟨Nat.le_of_ble_eq_true rfl, Nat.le_of_ble_eq_true rfl⟩) hK hZ hH (by decide) rfl rfl rfl hl.1 rfl (Nat.le_of_ble_eq_true rfl) ⟨Nat.zero_le _, Nat.zero_le _⟩ dX5_evenest_4 (fun r1 z1 H locs hp1 hH => ?_)
  obtain ⟨hFz1, g1_0, rfl⟩ := hp1
  refine lv_istore_n (lv' := [(1, .int 0), (0, .ref (q 0))]) hx hb dX5_evenest_7 rfl hl (by decide) rfl (fun ls hl => ?_)
  refine lv_iload_n hx hb dX5_evenest_8 rfl (lv_at hl 0 rfl) ?_
  refine lv_if_ge (tgt := 18) hx hb dX5_evenest_9 (by decide) (fun _ => ?_) (fun c0 => absurd c0 (by decide))
  refine lv_aload_n hx hb dX5_evenest_18 rfl (lv_at hl 1 rfl) ?_
  refine b_get (ci := 5) (C := RX5) (T := TX5) (Nf := 12) (v := .ref (q 32)) hx hb hts in_X5_evenest_X5 hown hK hH 0 (by decide) rfl rfl 6 (by decide) (hts (.fieldLink RX5 45 "StationLine" "search" "LStationLine$Search;") (List.mem_of_getElem? (i := 1) rfl)) rfl dX5_evenest_19 ?_
  refine lv_iload_n hx hb dX5_evenest_22 rfl (lv_at hl 0 rfl) ?_
  refine b_calll (As := [.int 0]) (rest := []) ⟨hx, hb, hml, hown, hts⟩ 32 3 (c_X3_costFor_32 l D cy q hH.2.1 z1 hFz1  g1_0 ) (cwV 1 hts gX5_evenest_X3_costFor rfl rfl rfl (by decide +kernel) ⟨Nat.le_of_ble_eq_true rfl, Nat.le_of_ble_eq_true rfl⟩) hK hZ hH (by decide) rfl rfl rfl hl.1 rfl (Nat.le_of_ble_eq_true rfl) ⟨Nat.zero_le _, Nat.zero_le _⟩ dX5_evenest_23 (fun r2 z2 H locs hp2 hH => ?_)
  obtain ⟨hFz2, rfl⟩ := hp2
  exact b_lret hx hb hr hlocks hH ((by first | rfl | ((repeat' split) <;> first | rfl | omega))) dX5_evenest_26
set_option maxHeartbeats 4000000 in
set_option maxRecDepth 100000 in
theorem c_X5_leastBeat (l : Launch) (D : va_G) (cy : Nat → ClassId) (q : Nat → Nat) (hq : bJ 66 q) (z : zS) (hF : Fr z) (x1 : Int32) : bCi l yX5_leastBeat wsX5_leastBeat ({ frames := 6, cells := 0, slots := 0, locals := 145 }) D cy 66 (enC cy) q z [.ref (q 0), .int x1] (fun r _ => (o_leastBeat x1 : Int32) = r) := by
  intro sz
  refine Met.ofW (cc := cX5_leastBeat) (maxL := 2) (ret := (some .int)) (by decide) rfl ?_
  intro p e s m args below meth c s₁ B hml hv
  obtain ⟨rfl, hsz, hP, hK, hZ⟩ := hv
  have hx := B.exec
  have hb := B.bytes
  have hr := B.returns
  have hts := atoms_spec (ws := wsX5_leastBeat) B.pre
  have hown : s.vm.findClass RX5 = some m.cls := findClass_of_methodNamed B.named
  have hlocks := B.notSynchronized
  subst hsz
  have hH : bH D 66 (enC cy) q z s.heap s.heap [] := bH_in hq hP
  have hl := lv_entry ([.ref (q 0), .int x1]) (n := 2) (Nat.le_of_ble_eq_true rfl)
  rw [lg_entry_eq]
  generalize (lg_sl ([.ref (q 0), .int x1]) ++ List.replicate (2 - (lg_sl ([.ref (q 0), .int x1])).length) Slot.unset).toArray = ls at hl ⊢
  have hl : lv_has ls 2 [(0, .ref (q 0)), (1, .int x1)] := hl
  refine lv_iload_n hx hb dX5_leastBeat_0 rfl (lv_at hl 1 rfl) ?_
  refine b_stati (As := [.int x1]) (rest := []) ⟨hx, hb, hml, hown, hts⟩ (c_X5_isStation l D cy q hH.2.1 z x1) (va_cwS 1 hts gX5_leastBeat_X5_isStation rfl rfl rfl (by decide +kernel) ⟨Nat.le_of_ble_eq_true rfl, Nat.le_of_ble_eq_true rfl⟩) hK hZ hH rfl hl.1 rfl (Nat.le_of_ble_eq_true rfl) ⟨Nat.zero_le _, Nat.zero_le _⟩ dX5_leastBeat_1 (fun r1 z1 H locs hp1 hH => ?_)
  rcases hp1 with ⟨rfl, ⟨rfl, a1⟩ | ⟨rfl, a1⟩⟩
  · skip
    refine lv_if_eq (tgt := 18) hx hb dX5_leastBeat_4 (by decide) (fun c0 => absurd c0 (by decide)) (fun _ => ?_)
    refine lv_aload_n hx hb dX5_leastBeat_7 rfl (lv_at hl 0 rfl) ?_
    refine b_get (ci := 5) (C := RX5) (T := TX5) (Nf := 12) (v := .ref (q 32)) hx hb hts in_X5_leastBeat_X5 hown hK hH 0 (by decide) rfl rfl 6 (by decide) (hts (.fieldLink RX5 45 "StationLine" "search" "LStationLine$Search;") (List.mem_of_getElem? (i := 1) rfl)) rfl dX5_leastBeat_8 ?_
    refine lv_iload_n hx hb dX5_leastBeat_11 rfl (lv_at hl 1 rfl) ?_
    refine b_calli (As := [.int x1]) (rest := []) ⟨hx, hb, hml, hown, hts⟩ 32 3 (c_X3_leastBeatFor_32 l D cy q hH.2.1 z hF x1  a1) (cwV 1 hts gX5_leastBeat_X3_leastBeatFor rfl rfl rfl (by decide +kernel) ⟨Nat.le_of_ble_eq_true rfl, Nat.le_of_ble_eq_true rfl⟩) hK hZ hH (by decide) rfl rfl rfl hl.1 rfl (Nat.le_of_ble_eq_true rfl) ⟨Nat.zero_le _, Nat.zero_le _⟩ dX5_leastBeat_12 (fun r2 z2 H locs hp2 hH => ?_)
    obtain ⟨hFz2, rfl⟩ := hp2
    refine lv_goto (tgt := 20) hx hb dX5_leastBeat_15 (by decide) ?_
    exact b_iret hx hb hr hlocks hH ((by first | rfl | (unfold o_leastBeat; (repeat' split) <;> first | rfl | omega))) dX5_leastBeat_20
  · skip
    refine lv_if_eq (tgt := 18) hx hb dX5_leastBeat_4 (by decide) (fun _ => ?_) (fun c0 => absurd c0 (by decide))
    refine lv_bipush (v := (-2)) hx hb dX5_leastBeat_18 (by decide) ?_
    exact b_iret hx hb hr hlocks hH ((by first | rfl | (unfold o_leastBeat; (repeat' split) <;> first | rfl | omega))) dX5_leastBeat_20
set_option maxHeartbeats 4000000 in
set_option maxRecDepth 100000 in
theorem c_X5_bound (l : Launch) (D : va_G) (cy : Nat → ClassId) (q : Nat → Nat) (hq : bJ 66 q) (z : zS) (hF : Fr z) (x1 : Int32) : bCi l yX5_bound wsX5_bound ({ frames := 4, cells := 0, slots := 0, locals := 99 }) D cy 66 (enC cy) q z [.ref (q 0), .int x1] (fun r _ => (o_bound x1 : Int32) = r) := by
  intro sz
  refine Met.ofW (cc := cX5_bound) (maxL := 2) (ret := (some .int)) (by decide) rfl ?_
  intro p e s m args below meth c s₁ B hml hv
  obtain ⟨rfl, hsz, hP, hK, hZ⟩ := hv
  have hx := B.exec
  have hb := B.bytes
  have hr := B.returns
  have hts := atoms_spec (ws := wsX5_bound) B.pre
  have hown : s.vm.findClass RX5 = some m.cls := findClass_of_methodNamed B.named
  have hlocks := B.notSynchronized
  subst hsz
  have hH : bH D 66 (enC cy) q z s.heap s.heap [] := bH_in hq hP
  have hl := lv_entry ([.ref (q 0), .int x1]) (n := 2) (Nat.le_of_ble_eq_true rfl)
  rw [lg_entry_eq]
  generalize (lg_sl ([.ref (q 0), .int x1]) ++ List.replicate (2 - (lg_sl ([.ref (q 0), .int x1])).length) Slot.unset).toArray = ls at hl ⊢
  have hl : lv_has ls 2 [(0, .ref (q 0)), (1, .int x1)] := hl
  refine lv_iload_n hx hb dX5_bound_0 rfl (lv_at hl 1 rfl) ?_
  rcases (show (x1).toInt = 0 ∨ (x1).toInt = 1 ∨ (¬ (x1).toInt = 0 ∧ ¬ (x1).toInt = 1) by omega) with e1 | e1 | e1
  · refine lv_lookup (off := 27) (tgt := 28) hx hb dX5_bound_1 (by decide) (by rw [e1]; rfl) (by decide) ?_
    refine lv_aload_n hx hb dX5_bound_28 rfl (lv_at hl 0 rfl) ?_
    refine lv_aload_n hx hb dX5_bound_29 rfl (lv_at hl 0 rfl) ?_
    refine b_get (ci := 5) (C := RX5) (T := TX5) (Nf := 12) (v := .ref (q 1)) hx hb hts in_X5_bound_X5 hown hK hH 0 (by decide) rfl rfl 0 (by decide) (hts (.fieldLink RX5 12 "StationLine" "bench" "LStationLine$Bench;") (List.mem_of_getElem? (i := 1) rfl)) rfl dX5_bound_30 ?_
    refine b_calli (As := []) (rest := [.ref (q 0)]) ⟨hx, hb, hml, hown, hts⟩ 1 0 (c_X0_all_1 l D cy q hH.2.1 z hF  ) (cwV 0 hts gX5_bound_X0_all rfl rfl rfl (by decide +kernel) ⟨Nat.le_of_ble_eq_true rfl, Nat.le_of_ble_eq_true rfl⟩) hK hZ hH (by decide) rfl rfl rfl hl.1 rfl (Nat.le_of_ble_eq_true rfl) ⟨Nat.zero_le _, Nat.zero_le _⟩ dX5_bound_33 (fun r2 z2 H locs hp2 hH => ?_)
    obtain ⟨rfl, rfl⟩ := hp2
    refine b_calli (As := [.int 0]) (rest := []) ⟨hx, hb, hml, hown, hts⟩ 0 5 (c_X5_stationsFor_0 l D cy q hH.2.1 z hF 0 ) (cwV 1 hts gX5_bound_X5_stationsFor rfl rfl rfl (by decide +kernel) ⟨Nat.le_of_ble_eq_true rfl, Nat.le_of_ble_eq_true rfl⟩) hK hZ hH (by decide) rfl rfl rfl hl.1 rfl (Nat.le_of_ble_eq_true rfl) ⟨Nat.zero_le _, Nat.zero_le _⟩ dX5_bound_36 (fun r3 z3 H locs hp3 hH => ?_)
    obtain ⟨rfl, rfl⟩ := hp3
    exact b_iret hx hb hr hlocks hH ((by first | rfl | (unfold o_bound; (repeat' split) <;> first | rfl | omega))) dX5_bound_39
  · refine lv_lookup (off := 39) (tgt := 40) hx hb dX5_bound_1 (by decide) (by rw [e1]; rfl) (by decide) ?_
    refine lv_aload_n hx hb dX5_bound_40 rfl (lv_at hl 0 rfl) ?_
    refine b_get (ci := 5) (C := RX5) (T := TX5) (Nf := 12) (v := .ref (q 1)) hx hb hts in_X5_bound_X5 hown hK hH 0 (by decide) rfl rfl 0 (by decide) (hts (.fieldLink RX5 12 "StationLine" "bench" "LStationLine$Bench;") (List.mem_of_getElem? (i := 1) rfl)) rfl dX5_bound_41 ?_
    refine b_calli (As := []) (rest := []) ⟨hx, hb, hml, hown, hts⟩ 1 0 (c_X0_halfRoomBound_1 l D cy q hH.2.1 z hF  ) (cwV 0 hts gX5_bound_X0_halfRoomBound rfl rfl rfl (by decide +kernel) ⟨Nat.le_of_ble_eq_true rfl, Nat.le_of_ble_eq_true rfl⟩) hK hZ hH (by decide) rfl rfl rfl hl.1 rfl (Nat.le_of_ble_eq_true rfl) ⟨Nat.zero_le _, Nat.zero_le _⟩ dX5_bound_44 (fun r4 z4 H locs hp4 hH => ?_)
    obtain ⟨rfl, rfl⟩ := hp4
    exact b_iret hx hb hr hlocks hH ((by first | rfl | (unfold o_bound; (repeat' split) <;> first | rfl | omega))) dX5_bound_47
  · refine lv_lookup (off := 47) (tgt := 48) hx hb dX5_bound_1 (by decide) (by simp only [Op.lookupswitch.offset]; (repeat' split) <;> omega) (by decide) ?_
    refine lv_bipush (v := (-2)) hx hb dX5_bound_48 (by decide) ?_
    exact b_iret hx hb hr hlocks hH ((by first | rfl | (unfold o_bound; (repeat' split) <;> first | rfl | omega))) dX5_bound_50
set_option maxHeartbeats 4000000 in
set_option maxRecDepth 100000 in
theorem c_X5_early (l : Launch) (D : va_G) (cy : Nat → ClassId) (q : Nat → Nat) (hq : bJ 66 q) (z : zS) (hF : Fr z) (x1 : Int32) : bCi l yX5_early wsX5_early ({ frames := 4, cells := 0, slots := 0, locals := 95 }) D cy 66 (enC cy) q z [.ref (q 0), .int x1] (fun r _ => (-2 : Int32) = r) := by
  intro sz
  refine Met.ofW (cc := cX5_early) (maxL := 2) (ret := (some .int)) (by decide) rfl ?_
  intro p e s m args below meth c s₁ B hml hv
  obtain ⟨rfl, hsz, hP, hK, hZ⟩ := hv
  have hx := B.exec
  have hb := B.bytes
  have hr := B.returns
  have hts := atoms_spec (ws := wsX5_early) B.pre
  have hown : s.vm.findClass RX5 = some m.cls := findClass_of_methodNamed B.named
  have hlocks := B.notSynchronized
  subst hsz
  have hH : bH D 66 (enC cy) q z s.heap s.heap [] := bH_in hq hP
  have hl := lv_entry ([.ref (q 0), .int x1]) (n := 2) (Nat.le_of_ble_eq_true rfl)
  rw [lg_entry_eq]
  generalize (lg_sl ([.ref (q 0), .int x1]) ++ List.replicate (2 - (lg_sl ([.ref (q 0), .int x1])).length) Slot.unset).toArray = ls at hl ⊢
  have hl : lv_has ls 2 [(0, .ref (q 0)), (1, .int x1)] := hl
  refine lv_aload_n hx hb dX5_early_0 rfl (lv_at hl 0 rfl) ?_
  refine b_get (ci := 5) (C := RX5) (T := TX5) (Nf := 12) (v := .ref (q 1)) hx hb hts in_X5_early_X5 hown hK hH 0 (by decide) rfl rfl 0 (by decide) (hts (.fieldLink RX5 12 "StationLine" "bench" "LStationLine$Bench;") (List.mem_of_getElem? (i := 1) rfl)) rfl dX5_early_1 ?_
  refine lv_iload_n hx hb dX5_early_4 rfl (lv_at hl 1 rfl) ?_
  refine b_calli (As := [.int x1]) (rest := []) ⟨hx, hb, hml, hown, hts⟩ 1 0 (c_X0_has_1 l D cy q hH.2.1 z hF x1 ) (cwV 1 hts gX5_early_X0_has rfl rfl rfl (by decide +kernel) ⟨Nat.le_of_ble_eq_true rfl, Nat.le_of_ble_eq_true rfl⟩) hK hZ hH (by decide) rfl rfl rfl hl.1 rfl (Nat.le_of_ble_eq_true rfl) ⟨Nat.zero_le _, Nat.zero_le _⟩ dX5_early_5 (fun r1 z1 H locs hp1 hH => ?_)
  obtain ⟨rfl, rfl⟩ := hp1
  refine lv_if_eq (tgt := 31) hx hb dX5_early_8 (by decide) (fun _ => ?_) (fun c0 => absurd c0 (by decide))
  refine lv_bipush (v := (-2)) hx hb dX5_early_31 (by decide) ?_
  exact b_iret hx hb hr hlocks hH ((by first | rfl | ((repeat' split) <;> first | rfl | omega))) dX5_early_33
set_option maxHeartbeats 4000000 in
set_option maxRecDepth 100000 in
theorem c_X5_late (l : Launch) (D : va_G) (cy : Nat → ClassId) (q : Nat → Nat) (hq : bJ 66 q) (z : zS) (hF : Fr z) (x1 : Int32) (x2 : Int32) : bCi l yX5_late wsX5_late ({ frames := 4, cells := 0, slots := 0, locals := 95 }) D cy 66 (enC cy) q z [.ref (q 0), .int x1, .int x2] (fun r _ => (-2 : Int32) = r) := by
  intro sz
  refine Met.ofW (cc := cX5_late) (maxL := 3) (ret := (some .int)) (by decide) rfl ?_
  intro p e s m args below meth c s₁ B hml hv
  obtain ⟨rfl, hsz, hP, hK, hZ⟩ := hv
  have hx := B.exec
  have hb := B.bytes
  have hr := B.returns
  have hts := atoms_spec (ws := wsX5_late) B.pre
  have hown : s.vm.findClass RX5 = some m.cls := findClass_of_methodNamed B.named
  have hlocks := B.notSynchronized
  subst hsz
  have hH : bH D 66 (enC cy) q z s.heap s.heap [] := bH_in hq hP
  have hl := lv_entry ([.ref (q 0), .int x1, .int x2]) (n := 3) (Nat.le_of_ble_eq_true rfl)
  rw [lg_entry_eq]
  generalize (lg_sl ([.ref (q 0), .int x1, .int x2]) ++ List.replicate (3 - (lg_sl ([.ref (q 0), .int x1, .int x2])).length) Slot.unset).toArray = ls at hl ⊢
  have hl : lv_has ls 3 [(0, .ref (q 0)), (1, .int x1), (2, .int x2)] := hl
  refine lv_aload_n hx hb dX5_late_0 rfl (lv_at hl 0 rfl) ?_
  refine b_get (ci := 5) (C := RX5) (T := TX5) (Nf := 12) (v := .ref (q 1)) hx hb hts in_X5_late_X5 hown hK hH 0 (by decide) rfl rfl 0 (by decide) (hts (.fieldLink RX5 12 "StationLine" "bench" "LStationLine$Bench;") (List.mem_of_getElem? (i := 1) rfl)) rfl dX5_late_1 ?_
  refine lv_iload_n hx hb dX5_late_4 rfl (lv_at hl 1 rfl) ?_
  refine b_calli (As := [.int x1]) (rest := []) ⟨hx, hb, hml, hown, hts⟩ 1 0 (c_X0_has_1 l D cy q hH.2.1 z hF x1 ) (cwV 1 hts gX5_late_X0_has rfl rfl rfl (by decide +kernel) ⟨Nat.le_of_ble_eq_true rfl, Nat.le_of_ble_eq_true rfl⟩) hK hZ hH (by decide) rfl rfl rfl hl.1 rfl (Nat.le_of_ble_eq_true rfl) ⟨Nat.zero_le _, Nat.zero_le _⟩ dX5_late_5 (fun r1 z1 H locs hp1 hH => ?_)
  obtain ⟨rfl, rfl⟩ := hp1
  refine lv_if_eq (tgt := 18) hx hb dX5_late_8 (by decide) (fun _ => ?_) (fun c0 => absurd c0 (by decide))
  refine lv_bipush (v := (-2)) hx hb dX5_late_18 (by decide) ?_
  exact b_iret hx hb hr hlocks hH ((by first | rfl | ((repeat' split) <;> first | rfl | omega))) dX5_late_20
set_option maxHeartbeats 4000000 in
set_option maxRecDepth 100000 in
theorem c_X5_rule (l : Launch) (D : va_G) (cy : Nat → ClassId) (q : Nat → Nat) (hq : bJ 66 q) (z : zS) (hF : Fr z) (x1 : Int32) : bCi l yX5_rule wsX5_rule ({ frames := 6, cells := 0, slots := 0, locals := 150 }) D cy 66 (enC cy) q z [.ref (q 0), .int x1] (fun r _ => (o_rule x1 : Int32) = r) := by
  intro sz
  refine Met.ofW (cc := cX5_rule) (maxL := 2) (ret := (some .int)) (by decide) rfl ?_
  intro p e s m args below meth c s₁ B hml hv
  obtain ⟨rfl, hsz, hP, hK, hZ⟩ := hv
  have hx := B.exec
  have hb := B.bytes
  have hr := B.returns
  have hts := atoms_spec (ws := wsX5_rule) B.pre
  have hown : s.vm.findClass RX5 = some m.cls := findClass_of_methodNamed B.named
  have hlocks := B.notSynchronized
  subst hsz
  have hH : bH D 66 (enC cy) q z s.heap s.heap [] := bH_in hq hP
  have hl := lv_entry ([.ref (q 0), .int x1]) (n := 2) (Nat.le_of_ble_eq_true rfl)
  rw [lg_entry_eq]
  generalize (lg_sl ([.ref (q 0), .int x1]) ++ List.replicate (2 - (lg_sl ([.ref (q 0), .int x1])).length) Slot.unset).toArray = ls at hl ⊢
  have hl : lv_has ls 2 [(0, .ref (q 0)), (1, .int x1)] := hl
  refine lv_iload_n hx hb dX5_rule_0 rfl (lv_at hl 1 rfl) ?_
  refine lv_if_lt (tgt := 9) hx hb dX5_rule_1 (by decide) (fun c1 => ?_) (fun c1 => ?_)
  · skip
    refine lv_bipush (v := (-2)) hx hb dX5_rule_9 (by decide) ?_
    exact b_iret hx hb hr hlocks hH ((by have e0 : (0 : Int32).toInt = 0 := (by decide); try simp only [b_lt, b_le, b_eq] at c1; first | rfl | (unfold o_rule; (repeat' split) <;> first | rfl | omega))) dX5_rule_11
  · skip
    refine lv_iload_n hx hb dX5_rule_4 rfl (lv_at hl 1 rfl) ?_
    refine lv_iconst (v := 4) hx hb dX5_rule_5 (by decide) ?_
    refine lv_icmp_lt (tgt := 12) hx hb dX5_rule_6 (by decide) (fun c2 => ?_) (fun c2 => ?_)
    · skip
      refine lv_aload_n hx hb dX5_rule_12 rfl (lv_at hl 0 rfl) ?_
      refine b_get (ci := 5) (C := RX5) (T := TX5) (Nf := 12) (v := .ref (q 55)) hx hb hts in_X5_rule_X5 hown hK hH 0 (by decide) rfl rfl 7 (by decide) (hts (.fieldLink RX5 49 "StationLine" "trial" "LStationLine$Putting;") (List.mem_of_getElem? (i := 1) rfl)) rfl dX5_rule_13 ?_
      refine lv_iload_n hx hb dX5_rule_16 rfl (lv_at hl 1 rfl) ?_
      refine b_calli (As := [.int x1]) (rest := []) ⟨hx, hb, hml, hown, hts⟩ 55 1 (c_X1_putByRule_55 l D cy q hH.2.1 z hF x1  ) (cwV 1 hts gX5_rule_X1_putByRule rfl rfl rfl (by decide +kernel) ⟨Nat.le_of_ble_eq_true rfl, Nat.le_of_ble_eq_true rfl⟩) hK hZ hH (by decide) rfl rfl rfl hl.1 rfl (Nat.le_of_ble_eq_true rfl) ⟨Nat.zero_le _, Nat.zero_le _⟩ dX5_rule_17 (fun r3 z3 H locs hp3 hH => ?_)
      obtain ⟨hFz3, rfl⟩ := hp3
      refine lv_if_ne (tgt := 26) hx hb dX5_rule_20 (by decide) (fun _ => ?_) (fun c0 => absurd c0 (by decide))
      refine lv_aload_n hx hb dX5_rule_26 rfl (lv_at hl 0 rfl) ?_
      refine b_get (ci := 5) (C := RX5) (T := TX5) (Nf := 12) (v := .ref (q 13)) hx hb hts in_X5_rule_X5 hown hK hH 0 (by decide) rfl rfl 1 (by decide) (hts (.fieldLink RX5 21 "StationLine" "hand" "LStationLine$Putting;") (List.mem_of_getElem? (i := 2) rfl)) rfl dX5_rule_27 ?_
      refine lv_aload_n hx hb dX5_rule_30 rfl (lv_at hl 0 rfl) ?_
      refine b_get (ci := 5) (C := RX5) (T := TX5) (Nf := 12) (v := .ref (q 55)) hx hb hts in_X5_rule_X5 hown hK hH 0 (by decide) rfl rfl 7 (by decide) (hts (.fieldLink RX5 49 "StationLine" "trial" "LStationLine$Putting;") (List.mem_of_getElem? (i := 1) rfl)) rfl dX5_rule_31 ?_
      refine b_callv (As := [.ref (q 55)]) (rest := []) ⟨hx, hb, hml, hown, hts⟩ 13 1 (c_X1_copyRow_13 l D cy q hH.2.1 z3 hFz3   ) (cwV 1 hts gX5_rule_X1_copyRow rfl rfl rfl (by decide +kernel) ⟨Nat.le_of_ble_eq_true rfl, Nat.le_of_ble_eq_true rfl⟩) hK hZ hH (by decide) rfl rfl rfl hl.1 rfl (Nat.le_of_ble_eq_true rfl) ⟨Nat.zero_le _, Nat.zero_le _⟩ dX5_rule_34 (fun z4 H locs hp4 hH => ?_)
      have hFz4 := hp4
      refine lv_aload_n hx hb dX5_rule_37 rfl (lv_at hl 0 rfl) ?_
      refine b_get (ci := 5) (C := RX5) (T := TX5) (Nf := 12) (v := .ref (q 13)) hx hb hts in_X5_rule_X5 hown hK hH 0 (by decide) rfl rfl 1 (by decide) (hts (.fieldLink RX5 21 "StationLine" "hand" "LStationLine$Putting;") (List.mem_of_getElem? (i := 2) rfl)) rfl dX5_rule_38 ?_
      refine b_calli (As := []) (rest := []) ⟨hx, hb, hml, hown, hts⟩ 13 1 (c_X1_greatest_13 l D cy q hH.2.1 z4 hFz4  ) (cwV 0 hts gX5_rule_X1_greatest rfl rfl rfl (by decide +kernel) ⟨Nat.le_of_ble_eq_true rfl, Nat.le_of_ble_eq_true rfl⟩) hK hZ hH (by decide) rfl rfl rfl hl.1 rfl (Nat.le_of_ble_eq_true rfl) ⟨Nat.zero_le _, Nat.zero_le _⟩ dX5_rule_41 (fun r5 z5 H locs hp5 hH => ?_)
      obtain ⟨rfl, rfl⟩ := hp5
      exact b_iret hx hb hr hlocks hH ((by have e0 : (0 : Int32).toInt = 0 := (by decide); have e4 : (4 : Int32).toInt = 4 := (by decide); try simp only [b_lt, b_le, b_eq] at c1 c2; first | rfl | (unfold o_rule; (repeat' split) <;> first | rfl | omega))) dX5_rule_44
    · skip
      refine lv_bipush (v := (-2)) hx hb dX5_rule_9 (by decide) ?_
      exact b_iret hx hb hr hlocks hH ((by have e0 : (0 : Int32).toInt = 0 := (by decide); have e4 : (4 : Int32).toInt = 4 := (by decide); try simp only [b_lt, b_le, b_eq] at c1 c2; first | rfl | (unfold o_rule; (repeat' split) <;> first | rfl | omega))) dX5_rule_11
set_option maxHeartbeats 4000000 in
set_option maxRecDepth 100000 in
theorem c_X5_better (l : Launch) (D : va_G) (cy : Nat → ClassId) (q : Nat → Nat) (hq : bJ 66 q) (z : zS) (hF : Fr z)  : bCi l yX5_better wsX5_better ({ frames := 7, cells := 0, slots := 0, locals := 168 }) D cy 66 (enC cy) q z [.ref (q 0)] (fun r _ => (0 : Int32) = r) := by
  intro sz
  refine Met.ofW (cc := cX5_better) (maxL := 2) (ret := (some .int)) (by decide) rfl ?_
  intro p e s m args below meth c s₁ B hml hv
  obtain ⟨rfl, hsz, hP, hK, hZ⟩ := hv
  have hx := B.exec
  have hb := B.bytes
  have hr := B.returns
  have hts := atoms_spec (ws := wsX5_better) B.pre
  have hown : s.vm.findClass RX5 = some m.cls := findClass_of_methodNamed B.named
  have hlocks := B.notSynchronized
  subst hsz
  have hH : bH D 66 (enC cy) q z s.heap s.heap [] := bH_in hq hP
  have hl := lv_entry ([.ref (q 0)]) (n := 2) (Nat.le_of_ble_eq_true rfl)
  rw [lg_entry_eq]
  generalize (lg_sl ([.ref (q 0)]) ++ List.replicate (2 - (lg_sl ([.ref (q 0)])).length) Slot.unset).toArray = ls at hl ⊢
  have hl : lv_has ls 2 [(0, .ref (q 0))] := hl
  refine lv_aload_n hx hb dX5_better_0 rfl (lv_at hl 0 rfl) ?_
  refine b_get (ci := 5) (C := RX5) (T := TX5) (Nf := 12) (v := .ref (q 13)) hx hb hts in_X5_better_X5 hown hK hH 0 (by decide) rfl rfl 1 (by decide) (hts (.fieldLink RX5 21 "StationLine" "hand" "LStationLine$Putting;") (List.mem_of_getElem? (i := 1) rfl)) rfl dX5_better_1 ?_
  refine b_calli (As := []) (rest := []) ⟨hx, hb, hml, hown, hts⟩ 13 1 (c_X1_firstClash_13 l D cy q hH.2.1 z hF  ) (cwV 0 hts gX5_better_X1_firstClash rfl rfl rfl (by decide +kernel) ⟨Nat.le_of_ble_eq_true rfl, Nat.le_of_ble_eq_true rfl⟩) hK hZ hH (by decide) rfl rfl rfl hl.1 rfl (Nat.le_of_ble_eq_true rfl) ⟨Nat.zero_le _, Nat.zero_le _⟩ dX5_better_4 (fun r1 z1 H locs hp1 hH => ?_)
  obtain ⟨rfl, rfl⟩ := hp1
  refine lv_if_lt (tgt := 13) hx hb dX5_better_7 (by decide) (fun _ => ?_) (fun c0 => absurd c0 (by decide))
  refine lv_iconst (v := 0) hx hb dX5_better_13 (by decide) ?_
  refine lv_istore_n (lv' := [(1, .int 0), (0, .ref (q 0))]) hx hb dX5_better_14 rfl hl (by decide) rfl (fun ls hl => ?_)
  refine lv_iload_n hx hb dX5_better_15 rfl (lv_at hl 0 rfl) ?_
  refine lv_ldc hx hb hown (hts (.constant RX5 200 (1000000)) (List.mem_of_getElem? (i := 2) rfl)) dX5_better_16 ?_
  refine lv_icmp_ge (tgt := 37) hx hb dX5_better_18 (by decide) (fun c0 => absurd c0 (by decide)) (fun _ => ?_)
  refine lv_aload_n hx hb dX5_better_21 rfl (lv_at hl 1 rfl) ?_
  refine b_get (ci := 5) (C := RX5) (T := TX5) (Nf := 12) (v := .ref (q 13)) hx hb hts in_X5_better_X5 hown hK hH 0 (by decide) rfl rfl 1 (by decide) (hts (.fieldLink RX5 21 "StationLine" "hand" "LStationLine$Putting;") (List.mem_of_getElem? (i := 1) rfl)) rfl dX5_better_22 ?_
  refine b_calli (As := []) (rest := []) ⟨hx, hb, hml, hown, hts⟩ 13 1 (c_X1_moveOnce_13 l D cy q hH.2.1 z hF  ) (cwV 0 hts gX5_better_X1_moveOnce rfl rfl rfl (by decide +kernel) ⟨Nat.le_of_ble_eq_true rfl, Nat.le_of_ble_eq_true rfl⟩) hK hZ hH (by decide) rfl rfl rfl hl.1 rfl (Nat.le_of_ble_eq_true rfl) ⟨Nat.zero_le _, Nat.zero_le _⟩ dX5_better_25 (fun r2 z2 H locs hp2 hH => ?_)
  obtain ⟨rfl, rfl⟩ := hp2
  refine lv_if_eq (tgt := 37) hx hb dX5_better_28 (by decide) (fun _ => ?_) (fun c0 => absurd c0 (by decide))
  refine lv_iload_n hx hb dX5_better_37 rfl (lv_at hl 0 rfl) ?_
  exact b_iret hx hb hr hlocks hH ((by first | rfl | ((repeat' split) <;> first | rfl | omega))) dX5_better_38
set_option maxHeartbeats 4000000 in
set_option maxRecDepth 100000 in
theorem c_X5_sheet (l : Launch) (D : va_G) (cy : Nat → ClassId) (q : Nat → Nat) (hq : bJ 66 q) (z : zS) (hF : Fr z) (x1 : Int32) (x2 : Int32) (x3 : Int32) : bCi l yX5_sheet wsX5_sheet ({ frames := 2, cells := 0, slots := 0, locals := 46 }) D cy 66 (enC cy) q z [.ref (q 0), .int x1, .int x2, .int x3] (fun r _ => (o_sheet x1 x2 x3 : Int32) = r) := by
  intro sz
  refine Met.ofW (cc := cX5_sheet) (maxL := 4) (ret := (some .int)) (by decide) rfl ?_
  intro p e s m args below meth c s₁ B hml hv
  obtain ⟨rfl, hsz, hP, hK, hZ⟩ := hv
  have hx := B.exec
  have hb := B.bytes
  have hr := B.returns
  have hts := atoms_spec (ws := wsX5_sheet) B.pre
  have hown : s.vm.findClass RX5 = some m.cls := findClass_of_methodNamed B.named
  have hlocks := B.notSynchronized
  subst hsz
  have hH : bH D 66 (enC cy) q z s.heap s.heap [] := bH_in hq hP
  have hl := lv_entry ([.ref (q 0), .int x1, .int x2, .int x3]) (n := 4) (Nat.le_of_ble_eq_true rfl)
  rw [lg_entry_eq]
  generalize (lg_sl ([.ref (q 0), .int x1, .int x2, .int x3]) ++ List.replicate (4 - (lg_sl ([.ref (q 0), .int x1, .int x2, .int x3])).length) Slot.unset).toArray = ls at hl ⊢
  have hl : lv_has ls 4 [(0, .ref (q 0)), (1, .int x1), (2, .int x2), (3, .int x3)] := hl
  refine lv_iload_n hx hb dX5_sheet_0 rfl (lv_at hl 1 rfl) ?_
  refine b_stati (As := [.int x1]) (rest := []) ⟨hx, hb, hml, hown, hts⟩ (c_X5_isSheet l D cy q hH.2.1 z x1) (va_cwS 1 hts gX5_sheet_X5_isSheet rfl rfl rfl (by decide +kernel) ⟨Nat.le_of_ble_eq_true rfl, Nat.le_of_ble_eq_true rfl⟩) hK hZ hH rfl hl.1 rfl (Nat.le_of_ble_eq_true rfl) ⟨Nat.zero_le _, Nat.zero_le _⟩ dX5_sheet_1 (fun r1 z1 H locs hp1 hH => ?_)
  rcases hp1 with ⟨rfl, ⟨rfl, a1⟩ | ⟨rfl, a1⟩⟩
  · skip
    refine lv_if_eq (tgt := 20) hx hb dX5_sheet_4 (by decide) (fun c0 => absurd c0 (by decide)) (fun _ => ?_)
    refine lv_iload_n hx hb dX5_sheet_7 rfl (lv_at hl 2 rfl) ?_
    refine b_stati (As := [.int x2]) (rest := []) ⟨hx, hb, hml, hown, hts⟩ (c_X5_isSort l D cy q hH.2.1 z x2) (va_cwS 1 hts gX5_sheet_X5_isSort rfl rfl rfl (by decide +kernel) ⟨Nat.le_of_ble_eq_true rfl, Nat.le_of_ble_eq_true rfl⟩) hK hZ hH rfl hl.1 rfl (Nat.le_of_ble_eq_true rfl) ⟨Nat.zero_le _, Nat.zero_le _⟩ dX5_sheet_8 (fun r2 z2 H locs hp2 hH => ?_)
    rcases hp2 with ⟨rfl, ⟨rfl, a2⟩ | ⟨rfl, a2⟩⟩
    · skip
      refine lv_if_eq (tgt := 20) hx hb dX5_sheet_11 (by decide) (fun c0 => absurd c0 (by decide)) (fun _ => ?_)
      refine lv_iload_n hx hb dX5_sheet_14 rfl (lv_at hl 3 rfl) ?_
      refine lv_bipush (v := 40) hx hb dX5_sheet_15 (by decide) ?_
      refine lv_icmp_le (tgt := 23) hx hb dX5_sheet_17 (by decide) (fun c3 => ?_) (fun c3 => ?_)
      · skip
        refine lv_iload_n hx hb dX5_sheet_23 rfl (lv_at hl 3 rfl) ?_
        refine lv_if_ge (tgt := 34) hx hb dX5_sheet_24 (by decide) (fun c4 => ?_) (fun c4 => ?_)
        · skip
          rcases (show x1 = 0 ∨ x1 = 1 ∨ x1 = 2 ∨ x1 = 3 by simp only [b_eq]; have k0 : (0 : Int32).toInt = 0 := (by decide); have k1 : (1 : Int32).toInt = 1 := (by decide); have k2 : (2 : Int32).toInt = 2 := (by decide); have k3 : (3 : Int32).toInt = 3 := (by decide); omega) with rfl | rfl | rfl | rfl
          · skip
            have k0 : (0 : Int32).toInt = 0 := by decide
            refine lv_aload_n hx hb dX5_sheet_34 rfl (lv_at hl 0 rfl) ?_
            refine b_get (ci := 5) (C := RX5) (T := TX5) (Nf := 12) (v := .ref (q 57)) hx hb hts in_X5_sheet_X5 hown hK hH 0 (by decide) rfl rfl 8 (by decide) (hts (.fieldLink RX5 55 "StationLine" "sheets" "LStationLine$Sheets;") (List.mem_of_getElem? (i := 1) rfl)) rfl dX5_sheet_35 ?_
            refine lv_iload_n hx hb dX5_sheet_38 rfl (lv_at hl 1 rfl) ?_
            refine lv_iload_n hx hb dX5_sheet_39 rfl (lv_at hl 2 rfl) ?_
            refine lv_iload_n hx hb dX5_sheet_40 rfl (lv_at hl 3 rfl) ?_
            refine b_callv (As := [.int 0, .int x2, .int x3]) (rest := []) ⟨hx, hb, hml, hown, hts⟩ 57 4 (c_X4_lay_57_0 l D cy q hH.2.1 z hF x2 x3  ) (cwV 3 hts gX5_sheet_X4_lay rfl rfl rfl (by decide +kernel) ⟨Nat.le_of_ble_eq_true rfl, Nat.le_of_ble_eq_true rfl⟩) hK hZ hH (by decide) rfl rfl rfl hl.1 rfl (Nat.le_of_ble_eq_true rfl) ⟨Nat.zero_le _, Nat.zero_le _⟩ dX5_sheet_41 (fun z6 H locs hp6 hH => ?_)
            refine lv_iload_n hx hb dX5_sheet_44 rfl (lv_at hl 3 rfl) ?_
            exact b_iret hx hb hr hlocks hH ((by have e0 : (0 : Int32).toInt = 0 := (by decide); have e40 : (40 : Int32).toInt = 40 := (by decide); try simp only [b_lt, b_le, b_eq] at c3 c4; first | rfl | (unfold o_sheet; (repeat' split) <;> first | rfl | omega))) dX5_sheet_45
          · skip
            have k1 : (1 : Int32).toInt = 1 := by decide
            refine lv_aload_n hx hb dX5_sheet_34 rfl (lv_at hl 0 rfl) ?_
            refine b_get (ci := 5) (C := RX5) (T := TX5) (Nf := 12) (v := .ref (q 57)) hx hb hts in_X5_sheet_X5 hown hK hH 0 (by decide) rfl rfl 8 (by decide) (hts (.fieldLink RX5 55 "StationLine" "sheets" "LStationLine$Sheets;") (List.mem_of_getElem? (i := 1) rfl)) rfl dX5_sheet_35 ?_
            refine lv_iload_n hx hb dX5_sheet_38 rfl (lv_at hl 1 rfl) ?_
            refine lv_iload_n hx hb dX5_sheet_39 rfl (lv_at hl 2 rfl) ?_
            refine lv_iload_n hx hb dX5_sheet_40 rfl (lv_at hl 3 rfl) ?_
            refine b_callv (As := [.int 1, .int x2, .int x3]) (rest := []) ⟨hx, hb, hml, hown, hts⟩ 57 4 (c_X4_lay_57_1 l D cy q hH.2.1 z hF x2 x3  ) (cwV 3 hts gX5_sheet_X4_lay rfl rfl rfl (by decide +kernel) ⟨Nat.le_of_ble_eq_true rfl, Nat.le_of_ble_eq_true rfl⟩) hK hZ hH (by decide) rfl rfl rfl hl.1 rfl (Nat.le_of_ble_eq_true rfl) ⟨Nat.zero_le _, Nat.zero_le _⟩ dX5_sheet_41 (fun z7 H locs hp7 hH => ?_)
            refine lv_iload_n hx hb dX5_sheet_44 rfl (lv_at hl 3 rfl) ?_
            exact b_iret hx hb hr hlocks hH ((by have e0 : (0 : Int32).toInt = 0 := (by decide); have e40 : (40 : Int32).toInt = 40 := (by decide); try simp only [b_lt, b_le, b_eq] at c3 c4; first | rfl | (unfold o_sheet; (repeat' split) <;> first | rfl | omega))) dX5_sheet_45
          · skip
            have k2 : (2 : Int32).toInt = 2 := by decide
            refine lv_aload_n hx hb dX5_sheet_34 rfl (lv_at hl 0 rfl) ?_
            refine b_get (ci := 5) (C := RX5) (T := TX5) (Nf := 12) (v := .ref (q 57)) hx hb hts in_X5_sheet_X5 hown hK hH 0 (by decide) rfl rfl 8 (by decide) (hts (.fieldLink RX5 55 "StationLine" "sheets" "LStationLine$Sheets;") (List.mem_of_getElem? (i := 1) rfl)) rfl dX5_sheet_35 ?_
            refine lv_iload_n hx hb dX5_sheet_38 rfl (lv_at hl 1 rfl) ?_
            refine lv_iload_n hx hb dX5_sheet_39 rfl (lv_at hl 2 rfl) ?_
            refine lv_iload_n hx hb dX5_sheet_40 rfl (lv_at hl 3 rfl) ?_
            refine b_callv (As := [.int 2, .int x2, .int x3]) (rest := []) ⟨hx, hb, hml, hown, hts⟩ 57 4 (c_X4_lay_57_2 l D cy q hH.2.1 z hF x2 x3  ) (cwV 3 hts gX5_sheet_X4_lay rfl rfl rfl (by decide +kernel) ⟨Nat.le_of_ble_eq_true rfl, Nat.le_of_ble_eq_true rfl⟩) hK hZ hH (by decide) rfl rfl rfl hl.1 rfl (Nat.le_of_ble_eq_true rfl) ⟨Nat.zero_le _, Nat.zero_le _⟩ dX5_sheet_41 (fun z8 H locs hp8 hH => ?_)
            refine lv_iload_n hx hb dX5_sheet_44 rfl (lv_at hl 3 rfl) ?_
            exact b_iret hx hb hr hlocks hH ((by have e0 : (0 : Int32).toInt = 0 := (by decide); have e40 : (40 : Int32).toInt = 40 := (by decide); try simp only [b_lt, b_le, b_eq] at c3 c4; first | rfl | (unfold o_sheet; (repeat' split) <;> first | rfl | omega))) dX5_sheet_45
          · skip
            have k3 : (3 : Int32).toInt = 3 := by decide
            refine lv_aload_n hx hb dX5_sheet_34 rfl (lv_at hl 0 rfl) ?_
            refine b_get (ci := 5) (C := RX5) (T := TX5) (Nf := 12) (v := .ref (q 57)) hx hb hts in_X5_sheet_X5 hown hK hH 0 (by decide) rfl rfl 8 (by decide) (hts (.fieldLink RX5 55 "StationLine" "sheets" "LStationLine$Sheets;") (List.mem_of_getElem? (i := 1) rfl)) rfl dX5_sheet_35 ?_
            refine lv_iload_n hx hb dX5_sheet_38 rfl (lv_at hl 1 rfl) ?_
            refine lv_iload_n hx hb dX5_sheet_39 rfl (lv_at hl 2 rfl) ?_
            refine lv_iload_n hx hb dX5_sheet_40 rfl (lv_at hl 3 rfl) ?_
            refine b_callv (As := [.int 3, .int x2, .int x3]) (rest := []) ⟨hx, hb, hml, hown, hts⟩ 57 4 (c_X4_lay_57_3 l D cy q hH.2.1 z hF x2 x3  ) (cwV 3 hts gX5_sheet_X4_lay rfl rfl rfl (by decide +kernel) ⟨Nat.le_of_ble_eq_true rfl, Nat.le_of_ble_eq_true rfl⟩) hK hZ hH (by decide) rfl rfl rfl hl.1 rfl (Nat.le_of_ble_eq_true rfl) ⟨Nat.zero_le _, Nat.zero_le _⟩ dX5_sheet_41 (fun z9 H locs hp9 hH => ?_)
            refine lv_iload_n hx hb dX5_sheet_44 rfl (lv_at hl 3 rfl) ?_
            exact b_iret hx hb hr hlocks hH ((by have e0 : (0 : Int32).toInt = 0 := (by decide); have e40 : (40 : Int32).toInt = 40 := (by decide); try simp only [b_lt, b_le, b_eq] at c3 c4; first | rfl | (unfold o_sheet; (repeat' split) <;> first | rfl | omega))) dX5_sheet_45
        · skip
          refine lv_aload_n hx hb dX5_sheet_27 rfl (lv_at hl 0 rfl) ?_
          refine lv_bipush (v := (-13)) hx hb dX5_sheet_28 (by decide) ?_
          refine b_calli (As := [.int (-13)]) (rest := []) ⟨hx, hb, hml, hown, hts⟩ 0 5 (c_X5_found_0 l D cy q hH.2.1 z hF (-13)  ) (cwV 1 hts gX5_sheet_X5_found rfl rfl rfl (by decide +kernel) ⟨Nat.le_of_ble_eq_true rfl, Nat.le_of_ble_eq_true rfl⟩) hK hZ hH (by decide) rfl rfl rfl hl.1 rfl (Nat.le_of_ble_eq_true rfl) ⟨Nat.zero_le _, Nat.zero_le _⟩ dX5_sheet_30 (fun r10 z10 H locs hp10 hH => ?_)
          obtain rfl := hp10
          exact b_iret hx hb hr hlocks hH ((by have e0 : (0 : Int32).toInt = 0 := (by decide); have e40 : (40 : Int32).toInt = 40 := (by decide); try simp only [b_lt, b_le, b_eq] at c3 c4; first | rfl | (unfold o_sheet; (repeat' split) <;> first | rfl | omega))) dX5_sheet_33
      · skip
        refine lv_bipush (v := (-2)) hx hb dX5_sheet_20 (by decide) ?_
        exact b_iret hx hb hr hlocks hH ((by have e40 : (40 : Int32).toInt = 40 := (by decide); try simp only [b_lt, b_le, b_eq] at c3; first | rfl | (unfold o_sheet; (repeat' split) <;> first | rfl | omega))) dX5_sheet_22
    · skip
      refine lv_if_eq (tgt := 20) hx hb dX5_sheet_11 (by decide) (fun _ => ?_) (fun c0 => absurd c0 (by decide))
      refine lv_bipush (v := (-2)) hx hb dX5_sheet_20 (by decide) ?_
      exact b_iret hx hb hr hlocks hH ((by first | rfl | (unfold o_sheet; (repeat' split) <;> first | rfl | omega))) dX5_sheet_22
  · skip
    refine lv_if_eq (tgt := 20) hx hb dX5_sheet_4 (by decide) (fun _ => ?_) (fun c0 => absurd c0 (by decide))
    refine lv_bipush (v := (-2)) hx hb dX5_sheet_20 (by decide) ?_
    exact b_iret hx hb hr hlocks hH ((by first | rfl | (unfold o_sheet; (repeat' split) <;> first | rfl | omega))) dX5_sheet_22
set_option maxHeartbeats 4000000 in
set_option maxRecDepth 100000 in
theorem c_X5_write (l : Launch) (D : va_G) (cy : Nat → ClassId) (q : Nat → Nat) (hq : bJ 66 q) (z : zS) (hF : Fr z) (x1 : Int32) (x2 : Int32) (x3 : Int32) : bCi l yX5_write wsX5_write ({ frames := 1, cells := 0, slots := 0, locals := 21 }) D cy 66 (enC cy) q z [.ref (q 0), .int x1, .int x2, .int x3] (fun r _ => (o_write x1 : Int32) = r) := by
  intro sz
  refine Met.ofW (cc := cX5_write) (maxL := 5) (ret := (some .int)) (by decide) rfl ?_
  intro p e s m args below meth c s₁ B hml hv
  obtain ⟨rfl, hsz, hP, hK, hZ⟩ := hv
  have hx := B.exec
  have hb := B.bytes
  have hr := B.returns
  have hts := atoms_spec (ws := wsX5_write) B.pre
  have hown : s.vm.findClass RX5 = some m.cls := findClass_of_methodNamed B.named
  have hlocks := B.notSynchronized
  subst hsz
  have hH : bH D 66 (enC cy) q z s.heap s.heap [] := bH_in hq hP
  have hl := lv_entry ([.ref (q 0), .int x1, .int x2, .int x3]) (n := 5) (Nat.le_of_ble_eq_true rfl)
  rw [lg_entry_eq]
  generalize (lg_sl ([.ref (q 0), .int x1, .int x2, .int x3]) ++ List.replicate (5 - (lg_sl ([.ref (q 0), .int x1, .int x2, .int x3])).length) Slot.unset).toArray = ls at hl ⊢
  have hl : lv_has ls 5 [(0, .ref (q 0)), (1, .int x1), (2, .int x2), (3, .int x3)] := hl
  refine lv_iload_n hx hb dX5_write_0 rfl (lv_at hl 1 rfl) ?_
  refine b_stati (As := [.int x1]) (rest := []) ⟨hx, hb, hml, hown, hts⟩ (c_X5_isSheet l D cy q hH.2.1 z x1) (va_cwS 1 hts gX5_write_X5_isSheet rfl rfl rfl (by decide +kernel) ⟨Nat.le_of_ble_eq_true rfl, Nat.le_of_ble_eq_true rfl⟩) hK hZ hH rfl hl.1 rfl (Nat.le_of_ble_eq_true rfl) ⟨Nat.zero_le _, Nat.zero_le _⟩ dX5_write_1 (fun r1 z1 H locs hp1 hH => ?_)
  rcases hp1 with ⟨rfl, ⟨rfl, a1⟩ | ⟨rfl, a1⟩⟩
  · skip
    refine lv_if_ne (tgt := 10) hx hb dX5_write_4 (by decide) (fun _ => ?_) (fun c0 => absurd c0 (by decide))
    refine lv_aload_n hx hb dX5_write_10 rfl (lv_at hl 0 rfl) ?_
    refine b_get (ci := 5) (C := RX5) (T := TX5) (Nf := 12) (v := .ref (q 57)) hx hb hts in_X5_write_X5 hown hK hH 0 (by decide) rfl rfl 8 (by decide) (hts (.fieldLink RX5 55 "StationLine" "sheets" "LStationLine$Sheets;") (List.mem_of_getElem? (i := 1) rfl)) rfl dX5_write_11 ?_
    refine lv_iload_n hx hb dX5_write_14 rfl (lv_at hl 1 rfl) ?_
    refine b_calli (As := [.int x1]) (rest := []) ⟨hx, hb, hml, hown, hts⟩ 57 4 (c_X4_isMissing_57 l D cy q hH.2.1 z hF x1  (b_inof ⟨a1.1, by have := a1.2; omega⟩)) (cwV 1 hts gX5_write_X4_isMissing rfl rfl rfl (by decide +kernel) ⟨Nat.le_of_ble_eq_true rfl, Nat.le_of_ble_eq_true rfl⟩) hK hZ hH (by decide) rfl rfl rfl hl.1 rfl (Nat.le_of_ble_eq_true rfl) ⟨Nat.zero_le _, Nat.zero_le _⟩ dX5_write_15 (fun r2 z2 H locs hp2 hH => ?_)
    obtain ⟨hFz2, rfl⟩ := hp2
    refine lv_if_eq (tgt := 28) hx hb dX5_write_18 (by decide) (fun c0 => absurd c0 (by decide)) (fun _ => ?_)
    refine lv_aload_n hx hb dX5_write_21 rfl (lv_at hl 0 rfl) ?_
    refine lv_bipush (v := (-10)) hx hb dX5_write_22 (by decide) ?_
    refine b_calli (As := [.int (-10)]) (rest := []) ⟨hx, hb, hml, hown, hts⟩ 0 5 (c_X5_found_0 l D cy q hH.2.1 z2 hFz2 (-10)  ) (cwV 1 hts gX5_write_X5_found rfl rfl rfl (by decide +kernel) ⟨Nat.le_of_ble_eq_true rfl, Nat.le_of_ble_eq_true rfl⟩) hK hZ hH (by decide) rfl rfl rfl hl.1 rfl (Nat.le_of_ble_eq_true rfl) ⟨Nat.zero_le _, Nat.zero_le _⟩ dX5_write_24 (fun r3 z3 H locs hp3 hH => ?_)
    obtain rfl := hp3
    exact b_iret hx hb hr hlocks hH ((by first | rfl | (unfold o_write; (repeat' split) <;> first | rfl | omega))) dX5_write_27
  · skip
    refine lv_if_ne (tgt := 10) hx hb dX5_write_4 (by decide) (fun c0 => absurd c0 (by decide)) (fun _ => ?_)
    refine lv_bipush (v := (-2)) hx hb dX5_write_7 (by decide) ?_
    exact b_iret hx hb hr hlocks hH ((by first | rfl | (unfold o_write; (repeat' split) <;> first | rfl | omega))) dX5_write_9
set_option maxHeartbeats 4000000 in
set_option maxRecDepth 100000 in
theorem c_X5_take (l : Launch) (D : va_G) (cy : Nat → ClassId) (q : Nat → Nat) (hq : bJ 66 q) (z : zS) (hF : Fr z) (x1 : Int32) (x2 : Int32) (x3 : Int32) (x4 : Int32) : bCi l yX5_take wsX5_take ({ frames := 2, cells := 0, slots := 0, locals := 55 }) D cy 66 (enC cy) q z [.ref (q 0), .int x1, .int x2, .int x3, .int x4] (fun r _ => (o_take x1 x2 x3 : Int32) = r) := by
  intro sz
  refine Met.ofW (cc := cX5_take) (maxL := 5) (ret := (some .int)) (by decide) rfl ?_
  intro p e s m args below meth c s₁ B hml hv
  obtain ⟨rfl, hsz, hP, hK, hZ⟩ := hv
  have hx := B.exec
  have hb := B.bytes
  have hr := B.returns
  have hts := atoms_spec (ws := wsX5_take) B.pre
  have hown : s.vm.findClass RX5 = some m.cls := findClass_of_methodNamed B.named
  have hlocks := B.notSynchronized
  subst hsz
  have hH : bH D 66 (enC cy) q z s.heap s.heap [] := bH_in hq hP
  have hl := lv_entry ([.ref (q 0), .int x1, .int x2, .int x3, .int x4]) (n := 5) (Nat.le_of_ble_eq_true rfl)
  rw [lg_entry_eq]
  generalize (lg_sl ([.ref (q 0), .int x1, .int x2, .int x3, .int x4]) ++ List.replicate (5 - (lg_sl ([.ref (q 0), .int x1, .int x2, .int x3, .int x4])).length) Slot.unset).toArray = ls at hl ⊢
  have hl : lv_has ls 5 [(0, .ref (q 0)), (1, .int x1), (2, .int x2), (3, .int x3), (4, .int x4)] := hl
  refine lv_iload_n hx hb dX5_take_0 rfl (lv_at hl 1 rfl) ?_
  refine b_stati (As := [.int x1]) (rest := []) ⟨hx, hb, hml, hown, hts⟩ (c_X5_isMake l D cy q hH.2.1 z x1) (va_cwS 1 hts gX5_take_X5_isMake rfl rfl rfl (by decide +kernel) ⟨Nat.le_of_ble_eq_true rfl, Nat.le_of_ble_eq_true rfl⟩) hK hZ hH rfl hl.1 rfl (Nat.le_of_ble_eq_true rfl) ⟨Nat.zero_le _, Nat.zero_le _⟩ dX5_take_1 (fun r1 z1 H locs hp1 hH => ?_)
  rcases hp1 with ⟨rfl, ⟨rfl, a1⟩ | ⟨rfl, a1⟩⟩
  · skip
    refine lv_if_eq (tgt := 21) hx hb dX5_take_4 (by decide) (fun c0 => absurd c0 (by decide)) (fun _ => ?_)
    refine lv_iload_n hx hb dX5_take_7 rfl (lv_at hl 2 rfl) ?_
    refine b_stati (As := [.int x2]) (rest := []) ⟨hx, hb, hml, hown, hts⟩ (c_X5_isSheet l D cy q hH.2.1 z x2) (va_cwS 1 hts gX5_take_X5_isSheet rfl rfl rfl (by decide +kernel) ⟨Nat.le_of_ble_eq_true rfl, Nat.le_of_ble_eq_true rfl⟩) hK hZ hH rfl hl.1 rfl (Nat.le_of_ble_eq_true rfl) ⟨Nat.zero_le _, Nat.zero_le _⟩ dX5_take_8 (fun r2 z2 H locs hp2 hH => ?_)
    rcases hp2 with ⟨rfl, ⟨rfl, a2⟩ | ⟨rfl, a2⟩⟩
    · skip
      refine lv_if_eq (tgt := 21) hx hb dX5_take_11 (by decide) (fun c0 => absurd c0 (by decide)) (fun _ => ?_)
      refine lv_iload_n hx hb dX5_take_14 rfl (lv_at hl 3 rfl) ?_
      refine b_stati (As := [.int x3]) (rest := []) ⟨hx, hb, hml, hown, hts⟩ (c_X5_isSort l D cy q hH.2.1 z x3) (va_cwS 1 hts gX5_take_X5_isSort rfl rfl rfl (by decide +kernel) ⟨Nat.le_of_ble_eq_true rfl, Nat.le_of_ble_eq_true rfl⟩) hK hZ hH rfl hl.1 rfl (Nat.le_of_ble_eq_true rfl) ⟨Nat.zero_le _, Nat.zero_le _⟩ dX5_take_15 (fun r3 z3 H locs hp3 hH => ?_)
      rcases hp3 with ⟨rfl, ⟨rfl, a3⟩ | ⟨rfl, a3⟩⟩
      · skip
        refine lv_if_ne (tgt := 24) hx hb dX5_take_18 (by decide) (fun _ => ?_) (fun c0 => absurd c0 (by decide))
        refine lv_aload_n hx hb dX5_take_24 rfl (lv_at hl 0 rfl) ?_
        refine b_get (ci := 5) (C := RX5) (T := TX5) (Nf := 12) (v := .ref (q 57)) hx hb hts in_X5_take_X5 hown hK hH 0 (by decide) rfl rfl 8 (by decide) (hts (.fieldLink RX5 55 "StationLine" "sheets" "LStationLine$Sheets;") (List.mem_of_getElem? (i := 1) rfl)) rfl dX5_take_25 ?_
        refine lv_iload_n hx hb dX5_take_28 rfl (lv_at hl 2 rfl) ?_
        refine b_calli (As := [.int x2]) (rest := []) ⟨hx, hb, hml, hown, hts⟩ 57 4 (c_X4_isMissing_57 l D cy q hH.2.1 z hF x2  (b_inof ⟨a2.1, by have := a2.2; omega⟩)) (cwV 1 hts gX5_take_X4_isMissing rfl rfl rfl (by decide +kernel) ⟨Nat.le_of_ble_eq_true rfl, Nat.le_of_ble_eq_true rfl⟩) hK hZ hH (by decide) rfl rfl rfl hl.1 rfl (Nat.le_of_ble_eq_true rfl) ⟨Nat.zero_le _, Nat.zero_le _⟩ dX5_take_29 (fun r4 z4 H locs hp4 hH => ?_)
        obtain ⟨hFz4, rfl⟩ := hp4
        refine lv_if_eq (tgt := 42) hx hb dX5_take_32 (by decide) (fun c0 => absurd c0 (by decide)) (fun _ => ?_)
        refine lv_aload_n hx hb dX5_take_35 rfl (lv_at hl 0 rfl) ?_
        refine lv_bipush (v := (-10)) hx hb dX5_take_36 (by decide) ?_
        refine b_calli (As := [.int (-10)]) (rest := []) ⟨hx, hb, hml, hown, hts⟩ 0 5 (c_X5_found_0 l D cy q hH.2.1 z4 hFz4 (-10)  ) (cwV 1 hts gX5_take_X5_found rfl rfl rfl (by decide +kernel) ⟨Nat.le_of_ble_eq_true rfl, Nat.le_of_ble_eq_true rfl⟩) hK hZ hH (by decide) rfl rfl rfl hl.1 rfl (Nat.le_of_ble_eq_true rfl) ⟨Nat.zero_le _, Nat.zero_le _⟩ dX5_take_38 (fun r5 z5 H locs hp5 hH => ?_)
        obtain rfl := hp5
        exact b_iret hx hb hr hlocks hH ((by first | rfl | (unfold o_take; (repeat' split) <;> first | rfl | omega))) dX5_take_41
      · skip
        refine lv_if_ne (tgt := 24) hx hb dX5_take_18 (by decide) (fun c0 => absurd c0 (by decide)) (fun _ => ?_)
        refine lv_bipush (v := (-2)) hx hb dX5_take_21 (by decide) ?_
        exact b_iret hx hb hr hlocks hH ((by first | rfl | (unfold o_take; (repeat' split) <;> first | rfl | omega))) dX5_take_23
    · skip
      refine lv_if_eq (tgt := 21) hx hb dX5_take_11 (by decide) (fun _ => ?_) (fun c0 => absurd c0 (by decide))
      refine lv_bipush (v := (-2)) hx hb dX5_take_21 (by decide) ?_
      exact b_iret hx hb hr hlocks hH ((by first | rfl | (unfold o_take; (repeat' split) <;> first | rfl | omega))) dX5_take_23
  · skip
    refine lv_if_eq (tgt := 21) hx hb dX5_take_4 (by decide) (fun _ => ?_) (fun c0 => absurd c0 (by decide))
    refine lv_bipush (v := (-2)) hx hb dX5_take_21 (by decide) ?_
    exact b_iret hx hb hr hlocks hH ((by first | rfl | (unfold o_take; (repeat' split) <;> first | rfl | omega))) dX5_take_23
set_option maxHeartbeats 4000000 in
set_option maxRecDepth 100000 in
theorem c_X5_lose (l : Launch) (D : va_G) (cy : Nat → ClassId) (q : Nat → Nat) (hq : bJ 66 q) (z : zS) (hF : Fr z) (x1 : Int32) : bCi l yX5_lose wsX5_lose ({ frames := 1, cells := 0, slots := 0, locals := 21 }) D cy 66 (enC cy) q z [.ref (q 0), .int x1] (fun r _ => (o_lose x1 : Int32) = r) := by
  intro sz
  refine Met.ofW (cc := cX5_lose) (maxL := 3) (ret := (some .int)) (by decide) rfl ?_
  intro p e s m args below meth c s₁ B hml hv
  obtain ⟨rfl, hsz, hP, hK, hZ⟩ := hv
  have hx := B.exec
  have hb := B.bytes
  have hr := B.returns
  have hts := atoms_spec (ws := wsX5_lose) B.pre
  have hown : s.vm.findClass RX5 = some m.cls := findClass_of_methodNamed B.named
  have hlocks := B.notSynchronized
  subst hsz
  have hH : bH D 66 (enC cy) q z s.heap s.heap [] := bH_in hq hP
  have hl := lv_entry ([.ref (q 0), .int x1]) (n := 3) (Nat.le_of_ble_eq_true rfl)
  rw [lg_entry_eq]
  generalize (lg_sl ([.ref (q 0), .int x1]) ++ List.replicate (3 - (lg_sl ([.ref (q 0), .int x1])).length) Slot.unset).toArray = ls at hl ⊢
  have hl : lv_has ls 3 [(0, .ref (q 0)), (1, .int x1)] := hl
  refine lv_iload_n hx hb dX5_lose_0 rfl (lv_at hl 1 rfl) ?_
  refine b_stati (As := [.int x1]) (rest := []) ⟨hx, hb, hml, hown, hts⟩ (c_X5_isSheet l D cy q hH.2.1 z x1) (va_cwS 1 hts gX5_lose_X5_isSheet rfl rfl rfl (by decide +kernel) ⟨Nat.le_of_ble_eq_true rfl, Nat.le_of_ble_eq_true rfl⟩) hK hZ hH rfl hl.1 rfl (Nat.le_of_ble_eq_true rfl) ⟨Nat.zero_le _, Nat.zero_le _⟩ dX5_lose_1 (fun r1 z1 H locs hp1 hH => ?_)
  rcases hp1 with ⟨rfl, ⟨rfl, a1⟩ | ⟨rfl, a1⟩⟩
  · skip
    refine lv_if_ne (tgt := 10) hx hb dX5_lose_4 (by decide) (fun _ => ?_) (fun c0 => absurd c0 (by decide))
    refine lv_aload_n hx hb dX5_lose_10 rfl (lv_at hl 0 rfl) ?_
    refine b_get (ci := 5) (C := RX5) (T := TX5) (Nf := 12) (v := .ref (q 57)) hx hb hts in_X5_lose_X5 hown hK hH 0 (by decide) rfl rfl 8 (by decide) (hts (.fieldLink RX5 55 "StationLine" "sheets" "LStationLine$Sheets;") (List.mem_of_getElem? (i := 1) rfl)) rfl dX5_lose_11 ?_
    refine lv_iload_n hx hb dX5_lose_14 rfl (lv_at hl 1 rfl) ?_
    refine b_calli (As := [.int x1]) (rest := []) ⟨hx, hb, hml, hown, hts⟩ 57 4 (c_X4_isMissing_57 l D cy q hH.2.1 z hF x1  (b_inof ⟨a1.1, by have := a1.2; omega⟩)) (cwV 1 hts gX5_lose_X4_isMissing rfl rfl rfl (by decide +kernel) ⟨Nat.le_of_ble_eq_true rfl, Nat.le_of_ble_eq_true rfl⟩) hK hZ hH (by decide) rfl rfl rfl hl.1 rfl (Nat.le_of_ble_eq_true rfl) ⟨Nat.zero_le _, Nat.zero_le _⟩ dX5_lose_15 (fun r2 z2 H locs hp2 hH => ?_)
    obtain ⟨hFz2, rfl⟩ := hp2
    refine lv_if_eq (tgt := 25) hx hb dX5_lose_18 (by decide) (fun c0 => absurd c0 (by decide)) (fun _ => ?_)
    refine lv_iconst (v := 0) hx hb dX5_lose_21 (by decide) ?_
    refine lv_goto (tgt := 26) hx hb dX5_lose_22 (by decide) ?_
    refine lv_istore_n (lv' := [(2, .int 0), (0, .ref (q 0)), (1, .int x1)]) hx hb dX5_lose_26 rfl hl (by decide) rfl (fun ls hl => ?_)
    refine lv_aload_n hx hb dX5_lose_27 rfl (lv_at hl 1 rfl) ?_
    refine b_get (ci := 5) (C := RX5) (T := TX5) (Nf := 12) (v := .ref (q 57)) hx hb hts in_X5_lose_X5 hown hK hH 0 (by decide) rfl rfl 8 (by decide) (hts (.fieldLink RX5 55 "StationLine" "sheets" "LStationLine$Sheets;") (List.mem_of_getElem? (i := 1) rfl)) rfl dX5_lose_28 ?_
    refine lv_iload_n hx hb dX5_lose_31 rfl (lv_at hl 2 rfl) ?_
    refine b_callv (As := [.int x1]) (rest := []) ⟨hx, hb, hml, hown, hts⟩ 57 4 (c_X4_drop_57 l D cy q hH.2.1 z2 hFz2 x1  (b_inof ⟨a1.1, by have := a1.2; omega⟩)) (cwV 1 hts gX5_lose_X4_drop rfl rfl rfl (by decide +kernel) ⟨Nat.le_of_ble_eq_true rfl, Nat.le_of_ble_eq_true rfl⟩) hK hZ hH (by decide) rfl rfl rfl hl.1 rfl (Nat.le_of_ble_eq_true rfl) ⟨Nat.zero_le _, Nat.zero_le _⟩ dX5_lose_32 (fun z3 H locs hp3 hH => ?_)
    refine lv_iload_n hx hb dX5_lose_35 rfl (lv_at hl 0 rfl) ?_
    exact b_iret hx hb hr hlocks hH ((by first | rfl | (unfold o_lose; (repeat' split) <;> first | rfl | omega))) dX5_lose_36
  · skip
    refine lv_if_ne (tgt := 10) hx hb dX5_lose_4 (by decide) (fun c0 => absurd c0 (by decide)) (fun _ => ?_)
    refine lv_bipush (v := (-2)) hx hb dX5_lose_7 (by decide) ?_
    exact b_iret hx hb hr hlocks hH ((by first | rfl | (unfold o_lose; (repeat' split) <;> first | rfl | omega))) dX5_lose_9
set_option maxHeartbeats 4000000 in
set_option maxRecDepth 100000 in
theorem c_X5_tell (l : Launch) (D : va_G) (cy : Nat → ClassId) (q : Nat → Nat) (hq : bJ 66 q) (z : zS) (hF : Fr z) (x1 : Int32) : bCi l yX5_tell wsX5_tell ({ frames := 0, cells := 0, slots := 0, locals := 0 }) D cy 66 (enC cy) q z [.ref (q 0), .int x1] (fun r _ => (1 : Int32) = r) := by
  intro sz
  refine Met.ofW (cc := cX5_tell) (maxL := 2) (ret := (some .int)) (by decide) rfl ?_
  intro p e s m args below meth c s₁ B hml hv
  obtain ⟨rfl, hsz, hP, hK, hZ⟩ := hv
  have hx := B.exec
  have hb := B.bytes
  have hr := B.returns
  have hts := atoms_spec (ws := wsX5_tell) B.pre
  have hown : s.vm.findClass RX5 = some m.cls := findClass_of_methodNamed B.named
  have hlocks := B.notSynchronized
  subst hsz
  have hH : bH D 66 (enC cy) q z s.heap s.heap [] := bH_in hq hP
  have hl := lv_entry ([.ref (q 0), .int x1]) (n := 2) (Nat.le_of_ble_eq_true rfl)
  rw [lg_entry_eq]
  generalize (lg_sl ([.ref (q 0), .int x1]) ++ List.replicate (2 - (lg_sl ([.ref (q 0), .int x1])).length) Slot.unset).toArray = ls at hl ⊢
  have hl : lv_has ls 2 [(0, .ref (q 0)), (1, .int x1)] := hl
  refine lv_aload_n hx hb dX5_tell_0 rfl (lv_at hl 0 rfl) ?_
  refine b_get (ci := 5) (C := RX5) (T := TX5) (Nf := 12) (v := .int 0) hx hb hts in_X5_tell_X5 hown hK hH 0 (by decide) rfl rfl 10 (by decide) (hts (.fieldLink RX5 63 "StationLine" "waitingCount" "I") (List.mem_of_getElem? (i := 1) rfl)) (congrArg (fun x => some (Value.int x)) (Fr_5 hF)) dX5_tell_1 ?_
  refine lv_bipush (v := 20) hx hb dX5_tell_4 (by decide) ?_
  refine lv_icmp_lt (tgt := 12) hx hb dX5_tell_6 (by decide) (fun _ => ?_) (fun c0 => absurd c0 (by decide))
  refine lv_aload_n hx hb dX5_tell_12 rfl (lv_at hl 0 rfl) ?_
  refine b_get (ci := 5) (C := RX5) (T := TX5) (Nf := 12) (v := .ref (q 65)) hx hb hts in_X5_tell_X5 hown hK hH 0 (by decide) rfl rfl 9 (by decide) (hts (.fieldLink RX5 59 "StationLine" "waiting" "[I") (List.mem_of_getElem? (i := 2) rfl)) rfl dX5_tell_13 ?_
  refine lv_aload_n hx hb dX5_tell_16 rfl (lv_at hl 0 rfl) ?_
  refine b_get (ci := 5) (C := RX5) (T := TX5) (Nf := 12) (v := .int 0) hx hb hts in_X5_tell_X5 hown hK hH 0 (by decide) rfl rfl 10 (by decide) (hts (.fieldLink RX5 63 "StationLine" "waitingCount" "I") (List.mem_of_getElem? (i := 1) rfl)) (congrArg (fun x => some (Value.int x)) (Fr_5 hF)) dX5_tell_17 ?_
  refine lv_iload_n hx hb dX5_tell_20 rfl (lv_at hl 1 rfl) ?_
  refine b_iast hx hb hK hH 65 (by decide) rfl (by unfold vp_in; decide) (upA z 65 (upd (z.2.1 65) (0 : Int32).toNatClampNeg x1)) rfl (enC_A _ _ _ _ _) dX5_tell_21 (fun H locs hH => ?_)
  obtain ⟨z1, hz1⟩ : ∃ w : zS, w = upA z 65 (upd (z.2.1 65) (0 : Int32).toNatClampNeg x1) := ⟨_, rfl⟩
  rw [← hz1] at hH
  have hFz1 : Fr z1 := by rw [hz1]; exact hF
  refine lv_aload_n hx hb dX5_tell_22 rfl (lv_at hl 0 rfl) ?_
  refine lv_dup hx hb dX5_tell_23 rfl ?_
  refine b_get (ci := 5) (C := RX5) (T := TX5) (Nf := 12) (v := .int 0) hx hb hts in_X5_tell_X5 hown hK hH 0 (by decide) rfl rfl 10 (by decide) (hts (.fieldLink RX5 63 "StationLine" "waitingCount" "I") (List.mem_of_getElem? (i := 1) rfl)) (congrArg (fun x => some (Value.int x)) (Fr_5 hFz1)) dX5_tell_24 ?_
  refine lv_iconst (v := 1) hx hb dX5_tell_27 (by decide) ?_
  refine lv_iadd hx hb dX5_tell_28 ?_
  refine b_vi (v := 1) (by decide) ?_
  refine b_put (ci := 5) (C := RX5) (T := TX5) (Nf := 12) (v := .int 1) (ty := .int) hx hb hts in_X5_tell_X5 tyX5 tyX5_ok nmX5 hown hK hH 0 (by decide) rfl rfl 10 (by decide) (hts (.fieldLink RX5 63 "StationLine" "waitingCount" "I") (List.mem_of_getElem? (i := 1) rfl)) rfl (by decide +kernel) rfl rfl (Nat.le_of_ble_eq_true rfl) (upS z1 9 1) rfl (enC_S9 _ _ _ _) dX5_tell_29 (fun H locs hH => ?_)
  obtain ⟨z2, hz2⟩ : ∃ w : zS, w = upS z1 9 1 := ⟨_, rfl⟩
  rw [← hz2] at hH
  refine lv_aload_n hx hb dX5_tell_32 rfl (lv_at hl 0 rfl) ?_
  refine b_get (ci := 5) (C := RX5) (T := TX5) (Nf := 12) (v := .int 1) hx hb hts in_X5_tell_X5 hown hK hH 0 (by decide) rfl rfl 10 (by decide) (hts (.fieldLink RX5 63 "StationLine" "waitingCount" "I") (List.mem_of_getElem? (i := 1) rfl)) (congrArg (fun x => some (Value.int x)) (by rw [hz2]; rfl)) dX5_tell_33 ?_
  exact b_iret hx hb hr hlocks hH ((by first | rfl | ((repeat' split) <;> first | rfl | omega))) dX5_tell_36
set_option maxHeartbeats 4000000 in
set_option maxRecDepth 100000 in
theorem c_X5_check (l : Launch) (D : va_G) (cy : Nat → ClassId) (q : Nat → Nat) (hq : bJ 66 q) (z : zS) (hF : Fr z)  : bCi l yX5_check wsX5_check ({ frames := 5, cells := 0, slots := 0, locals := 118 }) D cy 66 (enC cy) q z [.ref (q 0)] (fun r _ => (0 : Int32) = r) := by
  intro sz
  refine Met.ofW (cc := cX5_check) (maxL := 3) (ret := (some .int)) (by decide) rfl ?_
  intro p e s m args below meth c s₁ B hml hv
  obtain ⟨rfl, hsz, hP, hK, hZ⟩ := hv
  have hx := B.exec
  have hb := B.bytes
  have hr := B.returns
  have hts := atoms_spec (ws := wsX5_check) B.pre
  have hown : s.vm.findClass RX5 = some m.cls := findClass_of_methodNamed B.named
  have hlocks := B.notSynchronized
  subst hsz
  have hH : bH D 66 (enC cy) q z s.heap s.heap [] := bH_in hq hP
  have hl := lv_entry ([.ref (q 0)]) (n := 3) (Nat.le_of_ble_eq_true rfl)
  rw [lg_entry_eq]
  generalize (lg_sl ([.ref (q 0)]) ++ List.replicate (3 - (lg_sl ([.ref (q 0)])).length) Slot.unset).toArray = ls at hl ⊢
  have hl : lv_has ls 3 [(0, .ref (q 0))] := hl
  refine lv_aload_n hx hb dX5_check_0 rfl (lv_at hl 0 rfl) ?_
  refine b_get (ci := 5) (C := RX5) (T := TX5) (Nf := 12) (v := .int 0) hx hb hts in_X5_check_X5 hown hK hH 0 (by decide) rfl rfl 10 (by decide) (hts (.fieldLink RX5 63 "StationLine" "waitingCount" "I") (List.mem_of_getElem? (i := 1) rfl)) (congrArg (fun x => some (Value.int x)) (Fr_5 hF)) dX5_check_1 ?_
  refine lv_istore_n (lv' := [(1, .int 0), (0, .ref (q 0))]) hx hb dX5_check_4 rfl hl (by decide) rfl (fun ls hl => ?_)
  refine lv_aload_n hx hb dX5_check_5 rfl (lv_at hl 1 rfl) ?_
  refine lv_iconst (v := 0) hx hb dX5_check_6 (by decide) ?_
  refine b_put (ci := 5) (C := RX5) (T := TX5) (Nf := 12) (v := .int 0) (ty := .int) hx hb hts in_X5_check_X5 tyX5 tyX5_ok nmX5 hown hK hH 0 (by decide) rfl rfl 10 (by decide) (hts (.fieldLink RX5 63 "StationLine" "waitingCount" "I") (List.mem_of_getElem? (i := 1) rfl)) rfl (by decide +kernel) rfl rfl (Nat.le_of_ble_eq_true rfl) (upS z 9 0) rfl (enC_S9 _ _ _ _) dX5_check_7 (fun H locs hH => ?_)
  obtain ⟨z1, hz1⟩ : ∃ w : zS, w = upS z 9 0 := ⟨_, rfl⟩
  rw [← hz1] at hH
  have hFz1 : Fr z1 := by rw [hz1]; exact ⟨Fr_0 (z := z) hF, Fr_1 (z := z) hF, Fr_2 (z := z) hF, Fr_3 (z := z) hF, Fr_4 (z := z) hF, rfl, Fr_6 (z := z) hF, Fr_7 (z := z) hF, Fr_8 (z := z) hF, Fr_9 (z := z) hF, Fr_10 (z := z) hF⟩
  refine lv_iload_n hx hb dX5_check_10 rfl (lv_at hl 0 rfl) ?_
  refine lv_aload_n hx hb dX5_check_11 rfl (lv_at hl 1 rfl) ?_
  refine b_get (ci := 5) (C := RX5) (T := TX5) (Nf := 12) (v := .ref (q 1)) hx hb hts in_X5_check_X5 hown hK hH 0 (by decide) rfl rfl 0 (by decide) (hts (.fieldLink RX5 12 "StationLine" "bench" "LStationLine$Bench;") (List.mem_of_getElem? (i := 2) rfl)) rfl dX5_check_12 ?_
  refine b_get (ci := 0) (C := RX0) (T := TX0) (Nf := 11) (v := .int 0) hx hb hts in_X5_check_X0 hown hK hH 1 (by decide) rfl rfl 0 (by decide) (hts (.fieldLink RX5 70 "StationLine$Bench" "size" "I") (List.mem_of_getElem? (i := 3) rfl)) (congrArg (fun x => some (Value.int x)) (Fr_0 hFz1)) dX5_check_15 ?_
  refine lv_icmp_eq (tgt := 24) hx hb dX5_check_18 (by decide) (fun _ => ?_) (fun c0 => absurd c0 (by decide))
  refine lv_iconst (v := 0) hx hb dX5_check_24 (by decide) ?_
  refine lv_istore_n (lv' := [(2, .int 0), (1, .int 0), (0, .ref (q 0))]) hx hb dX5_check_25 rfl hl (by decide) rfl (fun ls hl => ?_)
  refine lv_iload_n hx hb dX5_check_26 rfl (lv_at hl 0 rfl) ?_
  refine lv_iload_n hx hb dX5_check_27 rfl (lv_at hl 1 rfl) ?_
  refine lv_icmp_ge (tgt := 52) hx hb dX5_check_28 (by decide) (fun _ => ?_) (fun c0 => absurd c0 (by decide))
  refine lv_aload_n hx hb dX5_check_52 rfl (lv_at hl 2 rfl) ?_
  refine b_get (ci := 5) (C := RX5) (T := TX5) (Nf := 12) (v := .ref (q 65)) hx hb hts in_X5_check_X5 hown hK hH 0 (by decide) rfl rfl 9 (by decide) (hts (.fieldLink RX5 59 "StationLine" "waiting" "[I") (List.mem_of_getElem? (i := 4) rfl)) rfl dX5_check_53 ?_
  refine lv_iconst (v := 0) hx hb dX5_check_56 (by decide) ?_
  refine lv_aload_n hx hb dX5_check_57 rfl (lv_at hl 2 rfl) ?_
  refine b_get (ci := 5) (C := RX5) (T := TX5) (Nf := 12) (v := .ref (q 55)) hx hb hts in_X5_check_X5 hown hK hH 0 (by decide) rfl rfl 7 (by decide) (hts (.fieldLink RX5 49 "StationLine" "trial" "LStationLine$Putting;") (List.mem_of_getElem? (i := 5) rfl)) rfl dX5_check_58 ?_
  refine b_get (ci := 1) (C := RX1) (T := TX1) (Nf := 2) (v := .ref (q 56)) hx hb hts in_X5_check_X1 hown hK hH 55 (by decide) rfl rfl 1 (by decide) (hts (.fieldLink RX5 77 "StationLine$Putting" "row" "[I") (List.mem_of_getElem? (i := 6) rfl)) rfl dX5_check_61 ?_
  refine lv_iconst (v := 0) hx hb dX5_check_64 (by decide) ?_
  refine lv_iload_n hx hb dX5_check_65 rfl (lv_at hl 1 rfl) ?_
  refine b_copyi hx hb (by rw [hml]; exact hl.1.symm) hown (hts (.methodLink RX5 240 arraycopyName) (List.mem_of_getElem? (i := 7) rfl)) (hts (.native arraycopyName) (List.mem_of_getElem? (i := 8) rfl)) (hts (.static arraycopyName) (List.mem_of_getElem? (i := 9) rfl)) (hts (.initialized "java/lang/System") (List.mem_of_getElem? (i := 10) rfl)) hK hH 65 56 (by decide) (by decide) rfl rfl (by decide) (by decide) (by decide) (by decide) (by decide) (Nat.le_of_ble_eq_true rfl) (Nat.le_of_ble_eq_true rfl) (upA z1 56 (va_cpy (z1.2.1 65) (z1.2.1 56) (0 : Int32).toNatClampNeg (0 : Int32).toNatClampNeg (0 : Int32).toNatClampNeg)) rfl (enC_A _ _ _ _ _) dX5_check_66 (fun H locs hH => ?_)
  obtain ⟨z2, hz2⟩ : ∃ w : zS, w = upA z1 56 (va_cpy (z1.2.1 65) (z1.2.1 56) (0 : Int32).toNatClampNeg (0 : Int32).toNatClampNeg (0 : Int32).toNatClampNeg) := ⟨_, rfl⟩
  rw [← hz2] at hH
  have hFz2 : Fr z2 := by rw [hz2]; exact hFz1
  refine lv_aload_n hx hb dX5_check_69 rfl (lv_at hl 2 rfl) ?_
  refine b_get (ci := 5) (C := RX5) (T := TX5) (Nf := 12) (v := .ref (q 55)) hx hb hts in_X5_check_X5 hown hK hH 0 (by decide) rfl rfl 7 (by decide) (hts (.fieldLink RX5 49 "StationLine" "trial" "LStationLine$Putting;") (List.mem_of_getElem? (i := 5) rfl)) rfl dX5_check_70 ?_
  refine b_calli (As := []) (rest := []) ⟨hx, hb, hml, hown, hts⟩ 55 1 (c_X1_firstClash_55 l D cy q hH.2.1 z2 hFz2  ) (cwV 0 hts gX5_check_X1_firstClash rfl rfl rfl (by decide +kernel) ⟨Nat.le_of_ble_eq_true rfl, Nat.le_of_ble_eq_true rfl⟩) hK hZ hH (by decide) rfl rfl rfl hl.1 rfl (Nat.le_of_ble_eq_true rfl) ⟨Nat.zero_le _, Nat.zero_le _⟩ dX5_check_73 (fun r3 z3 H locs hp3 hH => ?_)
  obtain ⟨rfl, rfl⟩ := hp3
  refine lv_istore_n (lv' := [(2, .int (-1)), (1, .int 0), (0, .ref (q 0))]) hx hb dX5_check_76 rfl hl (by decide) rfl (fun ls hl => ?_)
  refine lv_iload_n hx hb dX5_check_77 rfl (lv_at hl 0 rfl) ?_
  refine lv_if_ge (tgt := 85) hx hb dX5_check_78 (by decide) (fun c0 => absurd c0 (by decide)) (fun _ => ?_)
  refine lv_iconst (v := 0) hx hb dX5_check_81 (by decide) ?_
  refine lv_goto (tgt := 98) hx hb dX5_check_82 (by decide) ?_
  exact b_iret hx hb hr hlocks hH ((by first | rfl | ((repeat' split) <;> first | rfl | omega))) dX5_check_98
set_option maxHeartbeats 4000000 in
set_option maxRecDepth 100000 in
theorem c_X5_keep (l : Launch) (D : va_G) (cy : Nat → ClassId) (q : Nat → Nat) (hq : bJ 66 q) (z : zS) (hF : Fr z)  : bCi l yX5_keep wsX5_keep ({ frames := 2, cells := 0, slots := 0, locals := 62 }) D cy 66 (enC cy) q z [.ref (q 0)] (fun r _ => (0 : Int32) = r) := by
  intro sz
  refine Met.ofW (cc := cX5_keep) (maxL := 1) (ret := (some .int)) (by decide) rfl ?_
  intro p e s m args below meth c s₁ B hml hv
  obtain ⟨rfl, hsz, hP, hK, hZ⟩ := hv
  have hx := B.exec
  have hb := B.bytes
  have hr := B.returns
  have hts := atoms_spec (ws := wsX5_keep) B.pre
  have hown : s.vm.findClass RX5 = some m.cls := findClass_of_methodNamed B.named
  have hlocks := B.notSynchronized
  subst hsz
  have hH : bH D 66 (enC cy) q z s.heap s.heap [] := bH_in hq hP
  have hl := lv_entry ([.ref (q 0)]) (n := 1) (Nat.le_of_ble_eq_true rfl)
  rw [lg_entry_eq]
  generalize (lg_sl ([.ref (q 0)]) ++ List.replicate (1 - (lg_sl ([.ref (q 0)])).length) Slot.unset).toArray = ls at hl ⊢
  have hl : lv_has ls 1 [(0, .ref (q 0))] := hl
  refine lv_aload_n hx hb dX5_keep_0 rfl (lv_at hl 0 rfl) ?_
  refine b_get (ci := 5) (C := RX5) (T := TX5) (Nf := 12) (v := .ref (q 15)) hx hb hts in_X5_keep_X5 hown hK hH 0 (by decide) rfl rfl 2 (by decide) (hts (.fieldLink RX5 25 "StationLine" "keptBench" "LStationLine$Bench;") (List.mem_of_getElem? (i := 1) rfl)) rfl dX5_keep_1 ?_
  refine lv_aload_n hx hb dX5_keep_4 rfl (lv_at hl 0 rfl) ?_
  refine b_get (ci := 5) (C := RX5) (T := TX5) (Nf := 12) (v := .ref (q 1)) hx hb hts in_X5_keep_X5 hown hK hH 0 (by decide) rfl rfl 0 (by decide) (hts (.fieldLink RX5 12 "StationLine" "bench" "LStationLine$Bench;") (List.mem_of_getElem? (i := 2) rfl)) rfl dX5_keep_5 ?_
  refine b_callv (As := [.ref (q 1)]) (rest := []) ⟨hx, hb, hml, hown, hts⟩ 15 0 (c_X0_become_15 l D cy q hH.2.1 z hF   ) (cwV 1 hts gX5_keep_X0_become rfl rfl rfl (by decide +kernel) ⟨Nat.le_of_ble_eq_true rfl, Nat.le_of_ble_eq_true rfl⟩) hK hZ hH (by decide) rfl rfl rfl hl.1 rfl (Nat.le_of_ble_eq_true rfl) ⟨Nat.zero_le _, Nat.zero_le _⟩ dX5_keep_8 (fun z1 H locs hp1 hH => ?_)
  have hFz1 := hp1
  refine lv_aload_n hx hb dX5_keep_11 rfl (lv_at hl 0 rfl) ?_
  refine b_get (ci := 5) (C := RX5) (T := TX5) (Nf := 12) (v := .ref (q 27)) hx hb hts in_X5_keep_X5 hown hK hH 0 (by decide) rfl rfl 3 (by decide) (hts (.fieldLink RX5 28 "StationLine" "keptHand" "LStationLine$Putting;") (List.mem_of_getElem? (i := 3) rfl)) rfl dX5_keep_12 ?_
  refine lv_aload_n hx hb dX5_keep_15 rfl (lv_at hl 0 rfl) ?_
  refine b_get (ci := 5) (C := RX5) (T := TX5) (Nf := 12) (v := .ref (q 13)) hx hb hts in_X5_keep_X5 hown hK hH 0 (by decide) rfl rfl 1 (by decide) (hts (.fieldLink RX5 21 "StationLine" "hand" "LStationLine$Putting;") (List.mem_of_getElem? (i := 4) rfl)) rfl dX5_keep_16 ?_
  refine b_callv (As := [.ref (q 13)]) (rest := []) ⟨hx, hb, hml, hown, hts⟩ 27 1 (c_X1_copyRow_27 l D cy q hH.2.1 z1 hFz1   ) (cwV 1 hts gX5_keep_X1_copyRow rfl rfl rfl (by decide +kernel) ⟨Nat.le_of_ble_eq_true rfl, Nat.le_of_ble_eq_true rfl⟩) hK hZ hH (by decide) rfl rfl rfl hl.1 rfl (Nat.le_of_ble_eq_true rfl) ⟨Nat.zero_le _, Nat.zero_le _⟩ dX5_keep_19 (fun z2 H locs hp2 hH => ?_)
  have hFz2 := hp2
  refine lv_aload_n hx hb dX5_keep_22 rfl (lv_at hl 0 rfl) ?_
  refine lv_iconst (v := 1) hx hb dX5_keep_23 (by decide) ?_
  refine b_put (ci := 5) (C := RX5) (T := TX5) (Nf := 12) (v := .int 1) (ty := .boolean) hx hb hts in_X5_keep_X5 tyX5 tyX5_ok nmX5 hown hK hH 0 (by decide) rfl rfl 4 (by decide) (hts (.fieldLink RX5 31 "StationLine" "isKept" "Z") (List.mem_of_getElem? (i := 5) rfl)) rfl (by decide +kernel) rfl rfl (Nat.le_of_ble_eq_true rfl) (upS z2 6 1) rfl (enC_S6 _ _ _ _) dX5_keep_24 (fun H locs hH => ?_)
  obtain ⟨z3, hz3⟩ : ∃ w : zS, w = upS z2 6 1 := ⟨_, rfl⟩
  rw [← hz3] at hH
  refine lv_aload_n hx hb dX5_keep_27 rfl (lv_at hl 0 rfl) ?_
  refine b_get (ci := 5) (C := RX5) (T := TX5) (Nf := 12) (v := .ref (q 1)) hx hb hts in_X5_keep_X5 hown hK hH 0 (by decide) rfl rfl 0 (by decide) (hts (.fieldLink RX5 12 "StationLine" "bench" "LStationLine$Bench;") (List.mem_of_getElem? (i := 2) rfl)) rfl dX5_keep_28 ?_
  refine b_get (ci := 0) (C := RX0) (T := TX0) (Nf := 11) (v := .int 0) hx hb hts in_X5_keep_X0 hown hK hH 1 (by decide) rfl rfl 0 (by decide) (hts (.fieldLink RX5 70 "StationLine$Bench" "size" "I") (List.mem_of_getElem? (i := 6) rfl)) (congrArg (fun x => some (Value.int x)) (by rw [hz3]; exact Fr_0 (z := z2) hFz2)) dX5_keep_31 ?_
  exact b_iret hx hb hr hlocks hH ((by first | rfl | ((repeat' split) <;> first | rfl | omega))) dX5_keep_34
set_option maxHeartbeats 4000000 in
set_option maxRecDepth 100000 in
theorem c_X5_back (l : Launch) (D : va_G) (cy : Nat → ClassId) (q : Nat → Nat) (hq : bJ 66 q) (z : zS) (hF : Fr z)  : bCi l yX5_back wsX5_back ({ frames := 2, cells := 0, slots := 0, locals := 62 }) D cy 66 (enC cy) q z [.ref (q 0)] (fun r _ => (-10 : Int32) = r) := by
  intro sz
  refine Met.ofW (cc := cX5_back) (maxL := 1) (ret := (some .int)) (by decide) rfl ?_
  intro p e s m args below meth c s₁ B hml hv
  obtain ⟨rfl, hsz, hP, hK, hZ⟩ := hv
  have hx := B.exec
  have hb := B.bytes
  have hr := B.returns
  have hts := atoms_spec (ws := wsX5_back) B.pre
  have hown : s.vm.findClass RX5 = some m.cls := findClass_of_methodNamed B.named
  have hlocks := B.notSynchronized
  subst hsz
  have hH : bH D 66 (enC cy) q z s.heap s.heap [] := bH_in hq hP
  have hl := lv_entry ([.ref (q 0)]) (n := 1) (Nat.le_of_ble_eq_true rfl)
  rw [lg_entry_eq]
  generalize (lg_sl ([.ref (q 0)]) ++ List.replicate (1 - (lg_sl ([.ref (q 0)])).length) Slot.unset).toArray = ls at hl ⊢
  have hl : lv_has ls 1 [(0, .ref (q 0))] := hl
  refine lv_aload_n hx hb dX5_back_0 rfl (lv_at hl 0 rfl) ?_
  refine b_get (ci := 5) (C := RX5) (T := TX5) (Nf := 12) (v := .int 0) hx hb hts in_X5_back_X5 hown hK hH 0 (by decide) rfl rfl 4 (by decide) (hts (.fieldLink RX5 31 "StationLine" "isKept" "Z") (List.mem_of_getElem? (i := 1) rfl)) (congrArg (fun x => some (Value.int x)) (Fr_3 hF)) dX5_back_1 ?_
  refine lv_if_ne (tgt := 14) hx hb dX5_back_4 (by decide) (fun c0 => absurd c0 (by decide)) (fun _ => ?_)
  refine lv_aload_n hx hb dX5_back_7 rfl (lv_at hl 0 rfl) ?_
  refine lv_bipush (v := (-10)) hx hb dX5_back_8 (by decide) ?_
  refine b_calli (As := [.int (-10)]) (rest := []) ⟨hx, hb, hml, hown, hts⟩ 0 5 (c_X5_found_0 l D cy q hH.2.1 z hF (-10)  ) (cwV 1 hts gX5_back_X5_found rfl rfl rfl (by decide +kernel) ⟨Nat.le_of_ble_eq_true rfl, Nat.le_of_ble_eq_true rfl⟩) hK hZ hH (by decide) rfl rfl rfl hl.1 rfl (Nat.le_of_ble_eq_true rfl) ⟨Nat.zero_le _, Nat.zero_le _⟩ dX5_back_10 (fun r1 z1 H locs hp1 hH => ?_)
  obtain rfl := hp1
  exact b_iret hx hb hr hlocks hH ((by first | rfl | ((repeat' split) <;> first | rfl | omega))) dX5_back_13
set_option maxHeartbeats 4000000 in
set_option maxRecDepth 100000 in
theorem c_X5_count (l : Launch) (D : va_G) (cy : Nat → ClassId) (q : Nat → Nat) (hq : bJ 66 q) (z : zS) (hF : Fr z) (x1 : Int32) : bCi l yX5_count wsX5_count ({ frames := 2, cells := 0, slots := 0, locals := 40 }) D cy 66 (enC cy) q z [.ref (q 0), .int x1] (fun r _ => (o_count x1 : Int32) = r) := by
  intro sz
  refine Met.ofW (cc := cX5_count) (maxL := 2) (ret := (some .int)) (by decide) rfl ?_
  intro p e s m args below meth c s₁ B hml hv
  obtain ⟨rfl, hsz, hP, hK, hZ⟩ := hv
  have hx := B.exec
  have hb := B.bytes
  have hr := B.returns
  have hts := atoms_spec (ws := wsX5_count) B.pre
  have hown : s.vm.findClass RX5 = some m.cls := findClass_of_methodNamed B.named
  have hlocks := B.notSynchronized
  subst hsz
  have hH : bH D 66 (enC cy) q z s.heap s.heap [] := bH_in hq hP
  have hl := lv_entry ([.ref (q 0), .int x1]) (n := 2) (Nat.le_of_ble_eq_true rfl)
  rw [lg_entry_eq]
  generalize (lg_sl ([.ref (q 0), .int x1]) ++ List.replicate (2 - (lg_sl ([.ref (q 0), .int x1])).length) Slot.unset).toArray = ls at hl ⊢
  have hl : lv_has ls 2 [(0, .ref (q 0)), (1, .int x1)] := hl
  refine lv_iload_n hx hb dX5_count_0 rfl (lv_at hl 1 rfl) ?_
  rcases (show ((x1).toInt < 0 ∨ 5 < (x1).toInt) ∨ (¬ (x1).toInt < 0 ∧ ¬ 5 < (x1).toInt) by omega) with h1 | h1
  · refine lv_tableOut (tgt := 82) hx hb dX5_count_1 h1 (by decide) ?_
    refine lv_bipush (v := (-2)) hx hb dX5_count_82 (by decide) ?_
    exact b_iret hx hb hr hlocks hH ((by first | rfl | (unfold o_count; (repeat' split) <;> first | rfl | omega))) dX5_count_84
  · rcases (show (x1).toInt = 0 ∨ (x1).toInt = 1 ∨ (x1).toInt = 2 ∨ (x1).toInt = 3 ∨ (x1).toInt = 4 ∨ (x1).toInt = 5 by omega) with e1 | e1 | e1 | e1 | e1 | e1
    · refine lv_tableIn (off := 39) (tgt := 40) hx hb dX5_count_1 h1.1 h1.2 (by rw [e1]; rfl) (by decide) ?_
      refine lv_aload_n hx hb dX5_count_40 rfl (lv_at hl 0 rfl) ?_
      refine b_get (ci := 5) (C := RX5) (T := TX5) (Nf := 12) (v := .ref (q 1)) hx hb hts in_X5_count_X5 hown hK hH 0 (by decide) rfl rfl 0 (by decide) (hts (.fieldLink RX5 12 "StationLine" "bench" "LStationLine$Bench;") (List.mem_of_getElem? (i := 1) rfl)) rfl dX5_count_41 ?_
      refine b_get (ci := 0) (C := RX0) (T := TX0) (Nf := 11) (v := .int 0) hx hb hts in_X5_count_X0 hown hK hH 1 (by decide) rfl rfl 0 (by decide) (hts (.fieldLink RX5 70 "StationLine$Bench" "size" "I") (List.mem_of_getElem? (i := 2) rfl)) (congrArg (fun x => some (Value.int x)) (Fr_0 hF)) dX5_count_44 ?_
      exact b_iret hx hb hr hlocks hH ((by first | rfl | (unfold o_count; (repeat' split) <;> first | rfl | omega))) dX5_count_47
    · refine lv_tableIn (off := 47) (tgt := 48) hx hb dX5_count_1 h1.1 h1.2 (by rw [e1]; rfl) (by decide) ?_
      refine lv_aload_n hx hb dX5_count_48 rfl (lv_at hl 0 rfl) ?_
      refine b_get (ci := 5) (C := RX5) (T := TX5) (Nf := 12) (v := .int 0) hx hb hts in_X5_count_X5 hown hK hH 0 (by decide) rfl rfl 10 (by decide) (hts (.fieldLink RX5 63 "StationLine" "waitingCount" "I") (List.mem_of_getElem? (i := 3) rfl)) (congrArg (fun x => some (Value.int x)) (Fr_5 hF)) dX5_count_49 ?_
      exact b_iret hx hb hr hlocks hH ((by first | rfl | (unfold o_count; (repeat' split) <;> first | rfl | omega))) dX5_count_52
    · refine lv_tableIn (off := 52) (tgt := 53) hx hb dX5_count_1 h1.1 h1.2 (by rw [e1]; rfl) (by decide) ?_
      refine lv_aload_n hx hb dX5_count_53 rfl (lv_at hl 0 rfl) ?_
      refine b_get (ci := 5) (C := RX5) (T := TX5) (Nf := 12) (v := .int 0) hx hb hts in_X5_count_X5 hown hK hH 0 (by decide) rfl rfl 11 (by decide) (hts (.fieldLink RX5 67 "StationLine" "hostFindings" "I") (List.mem_of_getElem? (i := 4) rfl)) (congrArg (fun x => some (Value.int x)) (Fr_6 hF)) dX5_count_54 ?_
      exact b_iret hx hb hr hlocks hH ((by first | rfl | (unfold o_count; (repeat' split) <;> first | rfl | omega))) dX5_count_57
    · refine lv_tableIn (off := 57) (tgt := 58) hx hb dX5_count_1 h1.1 h1.2 (by rw [e1]; rfl) (by decide) ?_
      refine lv_aload_n hx hb dX5_count_58 rfl (lv_at hl 0 rfl) ?_
      refine b_get (ci := 5) (C := RX5) (T := TX5) (Nf := 12) (v := .ref (q 1)) hx hb hts in_X5_count_X5 hown hK hH 0 (by decide) rfl rfl 0 (by decide) (hts (.fieldLink RX5 12 "StationLine" "bench" "LStationLine$Bench;") (List.mem_of_getElem? (i := 1) rfl)) rfl dX5_count_59 ?_
      refine b_get (ci := 0) (C := RX0) (T := TX0) (Nf := 11) (v := .int 0) hx hb hts in_X5_count_X0 hown hK hH 1 (by decide) rfl rfl 1 (by decide) (hts (.fieldLink RX5 127 "StationLine$Bench" "kind" "I") (List.mem_of_getElem? (i := 5) rfl)) (congrArg (fun x => some (Value.int x)) (Fr_1 hF)) dX5_count_62 ?_
      exact b_iret hx hb hr hlocks hH ((by first | rfl | (unfold o_count; (repeat' split) <;> first | rfl | omega))) dX5_count_65
    · refine lv_tableIn (off := 65) (tgt := 66) hx hb dX5_count_1 h1.1 h1.2 (by rw [e1]; rfl) (by decide) ?_
      refine lv_aload_n hx hb dX5_count_66 rfl (lv_at hl 0 rfl) ?_
      refine b_get (ci := 5) (C := RX5) (T := TX5) (Nf := 12) (v := .ref (q 1)) hx hb hts in_X5_count_X5 hown hK hH 0 (by decide) rfl rfl 0 (by decide) (hts (.fieldLink RX5 12 "StationLine" "bench" "LStationLine$Bench;") (List.mem_of_getElem? (i := 1) rfl)) rfl dX5_count_67 ?_
      refine b_get (ci := 0) (C := RX0) (T := TX0) (Nf := 11) (v := .int 10) hx hb hts in_X5_count_X0 hown hK hH 1 (by decide) rfl rfl 2 (by decide) (hts (.fieldLink RX5 130 "StationLine$Bench" "beat" "I") (List.mem_of_getElem? (i := 6) rfl)) (congrArg (fun x => some (Value.int x)) (Fr_2 hF)) dX5_count_70 ?_
      exact b_iret hx hb hr hlocks hH ((by first | rfl | (unfold o_count; (repeat' split) <;> first | rfl | omega))) dX5_count_73
    · refine lv_tableIn (off := 73) (tgt := 74) hx hb dX5_count_1 h1.1 h1.2 (by rw [e1]; rfl) (by decide) ?_
      refine lv_aload_n hx hb dX5_count_74 rfl (lv_at hl 0 rfl) ?_
      refine b_get (ci := 5) (C := RX5) (T := TX5) (Nf := 12) (v := .ref (q 1)) hx hb hts in_X5_count_X5 hown hK hH 0 (by decide) rfl rfl 0 (by decide) (hts (.fieldLink RX5 12 "StationLine" "bench" "LStationLine$Bench;") (List.mem_of_getElem? (i := 1) rfl)) rfl dX5_count_75 ?_
      refine b_calli (As := []) (rest := []) ⟨hx, hb, hml, hown, hts⟩ 1 0 (c_X0_room_1 l D cy q hH.2.1 z hF  ) (cwV 0 hts gX5_count_X0_room rfl rfl rfl (by decide +kernel) ⟨Nat.le_of_ble_eq_true rfl, Nat.le_of_ble_eq_true rfl⟩) hK hZ hH (by decide) rfl rfl rfl hl.1 rfl (Nat.le_of_ble_eq_true rfl) ⟨Nat.zero_le _, Nat.zero_le _⟩ dX5_count_78 (fun r2 z2 H locs hp2 hH => ?_)
      obtain ⟨rfl, rfl⟩ := hp2
      exact b_iret hx hb hr hlocks hH ((by first | rfl | (unfold o_count; (repeat' split) <;> first | rfl | omega))) dX5_count_81
