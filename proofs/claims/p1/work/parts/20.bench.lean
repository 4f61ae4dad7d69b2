set_option maxHeartbeats 4000000 in
set_option maxRecDepth 100000 in
theorem c_X0_has_1 (l : Launch) (D : va_G) (cy : Nat → ClassId) (q : Nat → Nat) (hq : bJ 66 q) (z : zS) (hF : Fr z) (t : Int32) : bCi l yX0_has wsX0_has ({ frames := 0, cells := 0, slots := 0, locals := 0 }) D cy 66 (enC cy) q z [.ref (q 1), .int t] (fun r z' => z = z' ∧ (0 : Int32) = r) := by
  intro sz
  refine Met.ofW (cc := cX0_has) (maxL := 2) (ret := (some .boolean)) (by decide) rfl ?_
  intro p e s m args below meth c s₁ B hml hv
  obtain ⟨rfl, hsz, hP, hK, hZ⟩ := hv
  have hx := B.exec
  have hb := B.bytes
  have hr := B.returns
  have hts := atoms_spec (ws := wsX0_has) B.pre
  have hown : s.vm.findClass RX0 = some m.cls := findClass_of_methodNamed B.named
  have hlocks := B.notSynchronized
  subst hsz
  have hH : bH D 66 (enC cy) q z s.heap s.heap [] := bH_in hq hP
  have hl := lv_entry ([.ref (q 1), .int t]) (n := 2) (Nat.le_of_ble_eq_true rfl)
  rw [lg_entry_eq]
  generalize (lg_sl ([.ref (q 1), .int t]) ++ List.replicate (2 - (lg_sl ([.ref (q 1), .int t])).length) Slot.unset).toArray = ls at hl ⊢
  have hl : lv_has ls 2 [(0, .ref (q 1)), (1, .int t)] := hl
  refine lv_iload_n hx hb dX0_has_0 rfl (lv_at hl 1 rfl) ?_
  refine lv_if_lt (tgt := 16) hx hb dX0_has_1 (by decide) (fun c1 => ?_) (fun c1 => ?_)
  · skip
    refine lv_iconst (v := 0) hx hb dX0_has_16 (by decide) ?_
    exact b_zret hx hb hr hlocks (by decide) hH (⟨rfl, (by first | rfl | (exfalso; have e0 : (0 : Int32).toInt = 0 := (by decide); try simp only [b_lt, b_le, b_eq] at c1; omega))⟩) dX0_has_17
  · skip
    refine lv_iload_n hx hb dX0_has_4 rfl (lv_at hl 1 rfl) ?_
    refine lv_aload_n hx hb dX0_has_5 rfl (lv_at hl 0 rfl) ?_
    refine b_get (ci := 0) (C := RX0) (T := TX0) (Nf := 11) (v := .int 0) hx hb hts in_X0_has_X0 hown hK hH 1 (by decide) rfl rfl 0 (by decide) (hts (.fieldLink RX0 9 "StationLine$Bench" "size" "I") (List.mem_of_getElem? (i := 1) rfl)) (congrArg (fun x => some (Value.int x)) (Fr_0 hF)) dX0_has_6 ?_
    refine lv_icmp_ge (tgt := 16) hx hb dX0_has_9 (by decide) (fun c2 => ?_) (fun c2 => ?_)
    · skip
      refine lv_iconst (v := 0) hx hb dX0_has_16 (by decide) ?_
      exact b_zret hx hb hr hlocks (by decide) hH (⟨rfl, (by first | rfl | (exfalso; have e0 : (0 : Int32).toInt = 0 := (by decide); try simp only [b_lt, b_le, b_eq] at c1 c2; omega))⟩) dX0_has_17
    · skip
      refine lv_iconst (v := 1) hx hb dX0_has_12 (by decide) ?_
      refine lv_goto (tgt := 17) hx hb dX0_has_13 (by decide) ?_
      exact b_zret hx hb hr hlocks (by decide) hH (⟨rfl, (by first | rfl | (exfalso; have e0 : (0 : Int32).toInt = 0 := (by decide); try simp only [b_lt, b_le, b_eq] at c1 c2; omega))⟩) dX0_has_17
set_option maxHeartbeats 4000000 in
set_option maxRecDepth 100000 in
theorem c_X0_all_1 (l : Launch) (D : va_G) (cy : Nat → ClassId) (q : Nat → Nat) (hq : bJ 66 q) (z : zS) (hF : Fr z)  : bCi l yX0_all wsX0_all ({ frames := 0, cells := 0, slots := 0, locals := 0 }) D cy 66 (enC cy) q z [.ref (q 1)] (fun r z' => z = z' ∧ (0 : Int32) = r) := by
  intro sz
  refine Met.ofW (cc := cX0_all) (maxL := 1) (ret := (some .int)) (by decide) rfl ?_
  intro p e s m args below meth c s₁ B hml hv
  obtain ⟨rfl, hsz, hP, hK, hZ⟩ := hv
  have hx := B.exec
  have hb := B.bytes
  have hr := B.returns
  have hts := atoms_spec (ws := wsX0_all) B.pre
  have hown : s.vm.findClass RX0 = some m.cls := findClass_of_methodNamed B.named
  have hlocks := B.notSynchronized
  subst hsz
  have hH : bH D 66 (enC cy) q z s.heap s.heap [] := bH_in hq hP
  have hl := lv_entry ([.ref (q 1)]) (n := 1) (Nat.le_of_ble_eq_true rfl)
  rw [lg_entry_eq]
  generalize (lg_sl ([.ref (q 1)]) ++ List.replicate (1 - (lg_sl ([.ref (q 1)])).length) Slot.unset).toArray = ls at hl ⊢
  have hl : lv_has ls 1 [(0, .ref (q 1))] := hl
  refine lv_iconst (v := 1) hx hb dX0_all_0 (by decide) ?_
  refine lv_aload_n hx hb dX0_all_1 rfl (lv_at hl 0 rfl) ?_
  refine b_get (ci := 0) (C := RX0) (T := TX0) (Nf := 11) (v := .int 0) hx hb hts in_X0_all_X0 hown hK hH 1 (by decide) rfl rfl 0 (by decide) (hts (.fieldLink RX0 9 "StationLine$Bench" "size" "I") (List.mem_of_getElem? (i := 1) rfl)) (congrArg (fun x => some (Value.int x)) (Fr_0 hF)) dX0_all_2 ?_
  refine lv_ishl hx hb dX0_all_5 ?_
  refine b_vi (v := 1) (by decide) ?_
  refine lv_iconst (v := 1) hx hb dX0_all_6 (by decide) ?_
  refine lv_isub hx hb dX0_all_7 ?_
  refine b_vi (v := 0) (by decide) ?_
  exact b_iret hx hb hr hlocks hH (⟨rfl, (by first | rfl | (exfalso; omega))⟩) dX0_all_8
set_option maxHeartbeats 4000000 in
set_option maxRecDepth 100000 in
theorem c_X0_shareSum_1 (l : Launch) (D : va_G) (cy : Nat → ClassId) (q : Nat → Nat) (hq : bJ 66 q) (z : zS) (hF : Fr z)  : bCi l yX0_shareSum wsX0_shareSum ({ frames := 0, cells := 0, slots := 0, locals := 0 }) D cy 66 (enC cy) q z [.ref (q 1)] (fun r z' => z = z' ∧ (1 : Int32) = r) := by
  intro sz
  refine Met.ofW (cc := cX0_shareSum) (maxL := 1) (ret := (some .int)) (by decide) rfl ?_
  intro p e s m args below meth c s₁ B hml hv
  obtain ⟨rfl, hsz, hP, hK, hZ⟩ := hv
  have hx := B.exec
  have hb := B.bytes
  have hr := B.returns
  have hts := atoms_spec (ws := wsX0_shareSum) B.pre
  have hown : s.vm.findClass RX0 = some m.cls := findClass_of_methodNamed B.named
  have hlocks := B.notSynchronized
  subst hsz
  have hH : bH D 66 (enC cy) q z s.heap s.heap [] := bH_in hq hP
  have hl := lv_entry ([.ref (q 1)]) (n := 1) (Nat.le_of_ble_eq_true rfl)
  rw [lg_entry_eq]
  generalize (lg_sl ([.ref (q 1)]) ++ List.replicate (1 - (lg_sl ([.ref (q 1)])).length) Slot.unset).toArray = ls at hl ⊢
  have hl : lv_has ls 1 [(0, .ref (q 1))] := hl
  refine lv_aload_n hx hb dX0_shareSum_0 rfl (lv_at hl 0 rfl) ?_
  refine b_get (ci := 0) (C := RX0) (T := TX0) (Nf := 11) (v := .ref (q 2)) hx hb hts in_X0_shareSum_X0 hown hK hH 1 (by decide) rfl rfl 3 (by decide) (hts (.fieldLink RX0 21 "StationLine$Bench" "shares" "[I") (List.mem_of_getElem? (i := 1) rfl)) rfl dX0_shareSum_1 ?_
  refine lv_iconst (v := 0) hx hb dX0_shareSum_4 (by decide) ?_
  refine b_iald (v := 1) hx hb hK hH 2 (by decide) rfl (by unfold vp_in; decide) (Fr_7 hF) dX0_shareSum_5 ?_
  refine lv_aload_n hx hb dX0_shareSum_6 rfl (lv_at hl 0 rfl) ?_
  refine b_get (ci := 0) (C := RX0) (T := TX0) (Nf := 11) (v := .ref (q 2)) hx hb hts in_X0_shareSum_X0 hown hK hH 1 (by decide) rfl rfl 3 (by decide) (hts (.fieldLink RX0 21 "StationLine$Bench" "shares" "[I") (List.mem_of_getElem? (i := 1) rfl)) rfl dX0_shareSum_7 ?_
  refine lv_iconst (v := 1) hx hb dX0_shareSum_10 (by decide) ?_
  refine b_iald (v := 0) hx hb hK hH 2 (by decide) rfl (by unfold vp_in; decide) (Fr_8 hF) dX0_shareSum_11 ?_
  refine lv_iadd hx hb dX0_shareSum_12 ?_
  refine b_vi (v := 1) (by decide) ?_
  refine lv_aload_n hx hb dX0_shareSum_13 rfl (lv_at hl 0 rfl) ?_
  refine b_get (ci := 0) (C := RX0) (T := TX0) (Nf := 11) (v := .ref (q 2)) hx hb hts in_X0_shareSum_X0 hown hK hH 1 (by decide) rfl rfl 3 (by decide) (hts (.fieldLink RX0 21 "StationLine$Bench" "shares" "[I") (List.mem_of_getElem? (i := 1) rfl)) rfl dX0_shareSum_14 ?_
  refine lv_iconst (v := 2) hx hb dX0_shareSum_17 (by decide) ?_
  refine b_iald (v := 0) hx hb hK hH 2 (by decide) rfl (by unfold vp_in; decide) (Fr_9 hF) dX0_shareSum_18 ?_
  refine lv_iadd hx hb dX0_shareSum_19 ?_
  refine b_vi (v := 1) (by decide) ?_
  exact b_iret hx hb hr hlocks hH (⟨rfl, (by first | rfl | (exfalso; omega))⟩) dX0_shareSum_20
set_option maxHeartbeats 4000000 in
set_option maxRecDepth 100000 in
theorem c_X0_room_1 (l : Launch) (D : va_G) (cy : Nat → ClassId) (q : Nat → Nat) (hq : bJ 66 q) (z : zS) (hF : Fr z)  : bCi l yX0_room wsX0_room ({ frames := 1, cells := 0, slots := 0, locals := 20 }) D cy 66 (enC cy) q z [.ref (q 1)] (fun r z' => z = z' ∧ (10 : Int32) = r) := by
  intro sz
  refine Met.ofW (cc := cX0_room) (maxL := 1) (ret := (some .int)) (by decide) rfl ?_
  intro p e s m args below meth c s₁ B hml hv
  obtain ⟨rfl, hsz, hP, hK, hZ⟩ := hv
  have hx := B.exec
  have hb := B.bytes
  have hr := B.returns
  have hts := atoms_spec (ws := wsX0_room) B.pre
  have hown : s.vm.findClass RX0 = some m.cls := findClass_of_methodNamed B.named
  have hlocks := B.notSynchronized
  subst hsz
  have hH : bH D 66 (enC cy) q z s.heap s.heap [] := bH_in hq hP
  have hl := lv_entry ([.ref (q 1)]) (n := 1) (Nat.le_of_ble_eq_true rfl)
  rw [lg_entry_eq]
  generalize (lg_sl ([.ref (q 1)]) ++ List.replicate (1 - (lg_sl ([.ref (q 1)])).length) Slot.unset).toArray = ls at hl ⊢
  have hl : lv_has ls 1 [(0, .ref (q 1))] := hl
  refine lv_aload_n hx hb dX0_room_0 rfl (lv_at hl 0 rfl) ?_
  refine b_get (ci := 0) (C := RX0) (T := TX0) (Nf := 11) (v := .int 0) hx hb hts in_X0_room_X0 hown hK hH 1 (by decide) rfl rfl 1 (by decide) (hts (.fieldLink RX0 15 "StationLine$Bench" "kind" "I") (List.mem_of_getElem? (i := 1) rfl)) (congrArg (fun x => some (Value.int x)) (Fr_1 hF)) dX0_room_1 ?_
  refine lv_iconst (v := 2) hx hb dX0_room_4 (by decide) ?_
  refine lv_icmp_ne (tgt := 20) hx hb dX0_room_5 (by decide) (fun _ => ?_) (fun c0 => absurd c0 (by decide))
  refine lv_aload_n hx hb dX0_room_20 rfl (lv_at hl 0 rfl) ?_
  refine b_get (ci := 0) (C := RX0) (T := TX0) (Nf := 11) (v := .int 10) hx hb hts in_X0_room_X0 hown hK hH 1 (by decide) rfl rfl 2 (by decide) (hts (.fieldLink RX0 18 "StationLine$Bench" "beat" "I") (List.mem_of_getElem? (i := 2) rfl)) (congrArg (fun x => some (Value.int x)) (Fr_2 hF)) dX0_room_21 ?_
  exact b_iret hx hb hr hlocks hH (⟨rfl, (by first | rfl | (exfalso; omega))⟩) dX0_room_24
set_option maxHeartbeats 4000000 in
set_option maxRecDepth 100000 in
theorem c_X0_roomOfOneBeat_1 (l : Launch) (D : va_G) (cy : Nat → ClassId) (q : Nat → Nat) (hq : bJ 66 q) (z : zS) (hF : Fr z)  : bCi l yX0_roomOfOneBeat wsX0_roomOfOneBeat ({ frames := 1, cells := 0, slots := 0, locals := 20 }) D cy 66 (enC cy) q z [.ref (q 1)] (fun r z' => z = z' ∧ (1 : Int32) = r) := by
  intro sz
  refine Met.ofW (cc := cX0_roomOfOneBeat) (maxL := 1) (ret := (some .int)) (by decide) rfl ?_
  intro p e s m args below meth c s₁ B hml hv
  obtain ⟨rfl, hsz, hP, hK, hZ⟩ := hv
  have hx := B.exec
  have hb := B.bytes
  have hr := B.returns
  have hts := atoms_spec (ws := wsX0_roomOfOneBeat) B.pre
  have hown : s.vm.findClass RX0 = some m.cls := findClass_of_methodNamed B.named
  have hlocks := B.notSynchronized
  subst hsz
  have hH : bH D 66 (enC cy) q z s.heap s.heap [] := bH_in hq hP
  have hl := lv_entry ([.ref (q 1)]) (n := 1) (Nat.le_of_ble_eq_true rfl)
  rw [lg_entry_eq]
  generalize (lg_sl ([.ref (q 1)]) ++ List.replicate (1 - (lg_sl ([.ref (q 1)])).length) Slot.unset).toArray = ls at hl ⊢
  have hl : lv_has ls 1 [(0, .ref (q 1))] := hl
  refine lv_aload_n hx hb dX0_roomOfOneBeat_0 rfl (lv_at hl 0 rfl) ?_
  refine b_get (ci := 0) (C := RX0) (T := TX0) (Nf := 11) (v := .int 0) hx hb hts in_X0_roomOfOneBeat_X0 hown hK hH 1 (by decide) rfl rfl 1 (by decide) (hts (.fieldLink RX0 15 "StationLine$Bench" "kind" "I") (List.mem_of_getElem? (i := 1) rfl)) (congrArg (fun x => some (Value.int x)) (Fr_1 hF)) dX0_roomOfOneBeat_1 ?_
  refine lv_iconst (v := 2) hx hb dX0_roomOfOneBeat_4 (by decide) ?_
  refine lv_icmp_ne (tgt := 15) hx hb dX0_roomOfOneBeat_5 (by decide) (fun _ => ?_) (fun c0 => absurd c0 (by decide))
  refine lv_iconst (v := 1) hx hb dX0_roomOfOneBeat_15 (by decide) ?_
  exact b_iret hx hb hr hlocks hH (⟨rfl, (by first | rfl | (exfalso; omega))⟩) dX0_roomOfOneBeat_16
set_option maxHeartbeats 4000000 in
set_option maxRecDepth 100000 in
theorem c_X0_weight_1 (l : Launch) (D : va_G) (cy : Nat → ClassId) (q : Nat → Nat) (hq : bJ 66 q) (z : zS) (hF : Fr z) (mk : Int32) : bCi l yX0_weight wsX0_weight ({ frames := 0, cells := 0, slots := 0, locals := 0 }) D cy 66 (enC cy) q z [.ref (q 1), .int mk] (fun r z' => z = z' ∧ (if mk = 0 then 1 else 0 : Int32) = r) := by
  intro sz
  refine Met.ofW (cc := cX0_weight) (maxL := 2) (ret := (some .int)) (by decide) rfl ?_
  intro p e s m args below meth c s₁ B hml hv
  obtain ⟨rfl, hsz, hP, hK, hZ⟩ := hv
  have hx := B.exec
  have hb := B.bytes
  have hr := B.returns
  have hts := atoms_spec (ws := wsX0_weight) B.pre
  have hown : s.vm.findClass RX0 = some m.cls := findClass_of_methodNamed B.named
  have hlocks := B.notSynchronized
  subst hsz
  have hH : bH D 66 (enC cy) q z s.heap s.heap [] := bH_in hq hP
  have hl := lv_entry ([.ref (q 1), .int mk]) (n := 2) (Nat.le_of_ble_eq_true rfl)
  rw [lg_entry_eq]
  generalize (lg_sl ([.ref (q 1), .int mk]) ++ List.replicate (2 - (lg_sl ([.ref (q 1), .int mk])).length) Slot.unset).toArray = ls at hl ⊢
  have hl : lv_has ls 2 [(0, .ref (q 1)), (1, .int mk)] := hl
  refine lv_aload_n hx hb dX0_weight_0 rfl (lv_at hl 0 rfl) ?_
  refine b_get (ci := 0) (C := RX0) (T := TX0) (Nf := 11) (v := .int 0) hx hb hts in_X0_weight_X0 hown hK hH 1 (by decide) rfl rfl 1 (by decide) (hts (.fieldLink RX0 15 "StationLine$Bench" "kind" "I") (List.mem_of_getElem? (i := 1) rfl)) (congrArg (fun x => some (Value.int x)) (Fr_1 hF)) dX0_weight_1 ?_
  refine lv_iconst (v := 2) hx hb dX0_weight_4 (by decide) ?_
  refine lv_icmp_ne (tgt := 15) hx hb dX0_weight_5 (by decide) (fun _ => ?_) (fun c0 => absurd c0 (by decide))
  refine lv_aload_n hx hb dX0_weight_15 rfl (lv_at hl 0 rfl) ?_
  refine b_get (ci := 0) (C := RX0) (T := TX0) (Nf := 11) (v := .int 0) hx hb hts in_X0_weight_X0 hown hK hH 1 (by decide) rfl rfl 1 (by decide) (hts (.fieldLink RX0 15 "StationLine$Bench" "kind" "I") (List.mem_of_getElem? (i := 1) rfl)) (congrArg (fun x => some (Value.int x)) (Fr_1 hF)) dX0_weight_16 ?_
  refine lv_iconst (v := 3) hx hb dX0_weight_19 (by decide) ?_
  refine lv_icmp_ne (tgt := 38) hx hb dX0_weight_20 (by decide) (fun _ => ?_) (fun c0 => absurd c0 (by decide))
  refine lv_iload_n hx hb dX0_weight_38 rfl (lv_at hl 1 rfl) ?_
  refine lv_if_ne (tgt := 46) hx hb dX0_weight_39 (by decide) (fun c1 => ?_) (fun c1 => ?_)
  · skip
    refine lv_iconst (v := 0) hx hb dX0_weight_46 (by decide) ?_
    exact b_iret hx hb hr hlocks hH (⟨rfl, (by have e0 : (0 : Int32).toInt = 0 := (by decide); try simp only [b_lt, b_le, b_eq] at c1; first | rfl | (split <;> first | rfl | (rename_i h9; exfalso; simp only [b_lt, b_le, b_eq] at h9; first | omega | contradiction)))⟩) dX0_weight_47
  · skip
    refine lv_iconst (v := 1) hx hb dX0_weight_42 (by decide) ?_
    refine lv_goto (tgt := 47) hx hb dX0_weight_43 (by decide) ?_
    exact b_iret hx hb hr hlocks hH (⟨rfl, (by have e0 : (0 : Int32).toInt = 0 := (by decide); try simp only [b_lt, b_le, b_eq] at c1; first | rfl | (split <;> first | rfl | (rename_i h9; exfalso; simp only [b_lt, b_le, b_eq] at h9; first | omega | contradiction)))⟩) dX0_weight_47
set_option maxHeartbeats 4000000 in
set_option maxRecDepth 100000 in
theorem c_X0_joined_1 (l : Launch) (D : va_G) (cy : Nat → ClassId) (q : Nat → Nat) (hq : bJ 66 q) (z : zS) (hF : Fr z) (a : Int32) (b : Int32) : bCi l yX0_joined wsX0_joined ({ frames := 1, cells := 0, slots := 0, locals := 28 }) D cy 66 (enC cy) q z [.ref (q 1), .int a, .int b] (fun r z' => z = z' ∧ (a + b : Int32) = r) := by
  intro sz
  refine Met.ofW (cc := cX0_joined) (maxL := 3) (ret := (some .int)) (by decide) rfl ?_
  intro p e s m args below meth c s₁ B hml hv
  obtain ⟨rfl, hsz, hP, hK, hZ⟩ := hv
  have hx := B.exec
  have hb := B.bytes
  have hr := B.returns
  have hts := atoms_spec (ws := wsX0_joined) B.pre
  have hown : s.vm.findClass RX0 = some m.cls := findClass_of_methodNamed B.named
  have hlocks := B.notSynchronized
  subst hsz
  have hH : bH D 66 (enC cy) q z s.heap s.heap [] := bH_in hq hP
  have hl := lv_entry ([.ref (q 1), .int a, .int b]) (n := 3) (Nat.le_of_ble_eq_true rfl)
  rw [lg_entry_eq]
  generalize (lg_sl ([.ref (q 1), .int a, .int b]) ++ List.replicate (3 - (lg_sl ([.ref (q 1), .int a, .int b])).length) Slot.unset).toArray = ls at hl ⊢
  have hl : lv_has ls 3 [(0, .ref (q 1)), (1, .int a), (2, .int b)] := hl
  refine lv_aload_n hx hb dX0_joined_0 rfl (lv_at hl 0 rfl) ?_
  refine b_get (ci := 0) (C := RX0) (T := TX0) (Nf := 11) (v := .int 0) hx hb hts in_X0_joined_X0 hown hK hH 1 (by decide) rfl rfl 1 (by decide) (hts (.fieldLink RX0 15 "StationLine$Bench" "kind" "I") (List.mem_of_getElem? (i := 1) rfl)) (congrArg (fun x => some (Value.int x)) (Fr_1 hF)) dX0_joined_1 ?_
  refine lv_iconst (v := 3) hx hb dX0_joined_4 (by decide) ?_
  refine lv_icmp_ne (tgt := 16) hx hb dX0_joined_5 (by decide) (fun _ => ?_) (fun c0 => absurd c0 (by decide))
  refine lv_iload_n hx hb dX0_joined_16 rfl (lv_at hl 1 rfl) ?_
  refine lv_iload_n hx hb dX0_joined_17 rfl (lv_at hl 2 rfl) ?_
  refine lv_iadd hx hb dX0_joined_18 ?_
  exact b_iret hx hb hr hlocks hH (⟨rfl, (by first | rfl | (exfalso; omega))⟩) dX0_joined_19
set_option maxHeartbeats 4000000 in
set_option maxRecDepth 100000 in
theorem c_X0_timeSum_1 (l : Launch) (D : va_G) (cy : Nat → ClassId) (q : Nat → Nat) (hq : bJ 66 q) (z : zS) (hF : Fr z) (a : Int32) (b : Int32) : bCi l yX0_timeSum wsX0_timeSum ({ frames := 0, cells := 0, slots := 0, locals := 0 }) D cy 66 (enC cy) q z [.ref (q 1), .int a, .int b] (fun r z' => z = z' ∧ (0 : Int32) = r) := by
  intro sz
  refine Met.ofW (cc := cX0_timeSum) (maxL := 5) (ret := (some .int)) (by decide) rfl ?_
  intro p e s m args below meth c s₁ B hml hv
  obtain ⟨rfl, hsz, hP, hK, hZ⟩ := hv
  have hx := B.exec
  have hb := B.bytes
  have hr := B.returns
  have hts := atoms_spec (ws := wsX0_timeSum) B.pre
  have hown : s.vm.findClass RX0 = some m.cls := findClass_of_methodNamed B.named
  have hlocks := B.notSynchronized
  subst hsz
  have hH : bH D 66 (enC cy) q z s.heap s.heap [] := bH_in hq hP
  have hl := lv_entry ([.ref (q 1), .int a, .int b]) (n := 5) (Nat.le_of_ble_eq_true rfl)
  rw [lg_entry_eq]
  generalize (lg_sl ([.ref (q 1), .int a, .int b]) ++ List.replicate (5 - (lg_sl ([.ref (q 1), .int a, .int b])).length) Slot.unset).toArray = ls at hl ⊢
  have hl : lv_has ls 5 [(0, .ref (q 1)), (1, .int a), (2, .int b)] := hl
  refine lv_iconst (v := 0) hx hb dX0_timeSum_0 (by decide) ?_
  refine lv_istore_n (lv' := [(3, .int 0), (0, .ref (q 1)), (1, .int a), (2, .int b)]) hx hb dX0_timeSum_1 rfl hl (by decide) rfl (fun ls hl => ?_)
  refine lv_iconst (v := 0) hx hb dX0_timeSum_2 (by decide) ?_
  refine lv_istore (lv' := [(4, .int 0), (3, .int 0), (0, .ref (q 1)), (1, .int a), (2, .int b)]) hx hb dX0_timeSum_3 hl (by decide) rfl (fun ls hl => ?_)
  refine lv_iload hx hb dX0_timeSum_5 (lv_at hl 0 rfl) ?_
  refine lv_aload_n hx hb dX0_timeSum_7 rfl (lv_at hl 2 rfl) ?_
  refine b_get (ci := 0) (C := RX0) (T := TX0) (Nf := 11) (v := .int 0) hx hb hts in_X0_timeSum_X0 hown hK hH 1 (by decide) rfl rfl 0 (by decide) (hts (.fieldLink RX0 9 "StationLine$Bench" "size" "I") (List.mem_of_getElem? (i := 1) rfl)) (congrArg (fun x => some (Value.int x)) (Fr_0 hF)) dX0_timeSum_8 ?_
  refine lv_icmp_ge (tgt := 41) hx hb dX0_timeSum_11 (by decide) (fun _ => ?_) (fun c0 => absurd c0 (by decide))
  refine lv_iload_n hx hb dX0_timeSum_41 rfl (lv_at hl 1 rfl) ?_
  exact b_iret hx hb hr hlocks hH (⟨rfl, (by first | rfl | (exfalso; omega))⟩) dX0_timeSum_42
set_option maxHeartbeats 4000000 in
set_option maxRecDepth 100000 in
theorem c_X0_loadOf_1 (l : Launch) (D : va_G) (cy : Nat → ClassId) (q : Nat → Nat) (hq : bJ 66 q) (z : zS) (hF : Fr z) (a : Int32) : bCi l yX0_loadOf wsX0_loadOf ({ frames := 2, cells := 0, slots := 0, locals := 50 }) D cy 66 (enC cy) q z [.ref (q 1), .int a] (fun r z' => z = z' ∧ (0 : Int32) = r) := by
  intro sz
  refine Met.ofW (cc := cX0_loadOf) (maxL := 5) (ret := (some .int)) (by decide) rfl ?_
  intro p e s m args below meth c s₁ B hml hv
  obtain ⟨rfl, hsz, hP, hK, hZ⟩ := hv
  have hx := B.exec
  have hb := B.bytes
  have hr := B.returns
  have hts := atoms_spec (ws := wsX0_loadOf) B.pre
  have hown : s.vm.findClass RX0 = some m.cls := findClass_of_methodNamed B.named
  have hlocks := B.notSynchronized
  subst hsz
  have hH : bH D 66 (enC cy) q z s.heap s.heap [] := bH_in hq hP
  have hl := lv_entry ([.ref (q 1), .int a]) (n := 5) (Nat.le_of_ble_eq_true rfl)
  rw [lg_entry_eq]
  generalize (lg_sl ([.ref (q 1), .int a]) ++ List.replicate (5 - (lg_sl ([.ref (q 1), .int a])).length) Slot.unset).toArray = ls at hl ⊢
  have hl : lv_has ls 5 [(0, .ref (q 1)), (1, .int a)] := hl
  refine lv_iconst (v := 0) hx hb dX0_loadOf_0 (by decide) ?_
  refine lv_istore_n (lv' := [(2, .int 0), (0, .ref (q 1)), (1, .int a)]) hx hb dX0_loadOf_1 rfl hl (by decide) rfl (fun ls hl => ?_)
  refine lv_iconst (v := 0) hx hb dX0_loadOf_2 (by decide) ?_
  refine lv_istore_n (lv' := [(3, .int 0), (2, .int 0), (0, .ref (q 1)), (1, .int a)]) hx hb dX0_loadOf_3 rfl hl (by decide) rfl (fun ls hl => ?_)
  refine lv_iload_n hx hb dX0_loadOf_4 rfl (lv_at hl 0 rfl) ?_
  refine lv_iconst (v := 3) hx hb dX0_loadOf_5 (by decide) ?_
  refine lv_icmp_ge (tgt := 42) hx hb dX0_loadOf_6 (by decide) (fun c0 => absurd c0 (by decide)) (fun _ => ?_)
  refine lv_aload_n hx hb dX0_loadOf_9 rfl (lv_at hl 2 rfl) ?_
  refine lv_iload_n hx hb dX0_loadOf_10 rfl (lv_at hl 0 rfl) ?_
  refine b_calli (As := [.int 0]) (rest := []) ⟨hx, hb, hml, hown, hts⟩ 1 0 (c_X0_weight_1 l D cy q hH.2.1 z hF 0 ) (cwV 1 hts gX0_loadOf_X0_weight rfl rfl rfl (by decide +kernel) ⟨Nat.le_of_ble_eq_true rfl, Nat.le_of_ble_eq_true rfl⟩) hK hZ hH (by decide) rfl rfl rfl hl.1 rfl (Nat.le_of_ble_eq_true rfl) ⟨Nat.zero_le _, Nat.zero_le _⟩ dX0_loadOf_11 (fun r1 z1 H locs hp1 hH => ?_)
  obtain ⟨rfl, rfl⟩ := hp1
  refine b_vi (v := 1) (by decide) ?_
  refine lv_istore (lv' := [(4, .int 1), (3, .int 0), (2, .int 0), (0, .ref (q 1)), (1, .int a)]) hx hb dX0_loadOf_14 hl (by decide) rfl (fun ls hl => ?_)
  refine lv_iload hx hb dX0_loadOf_16 (lv_at hl 0 rfl) ?_
  refine lv_if_le (tgt := 36) hx hb dX0_loadOf_18 (by decide) (fun c0 => absurd c0 (by decide)) (fun _ => ?_)
  refine lv_aload_n hx hb dX0_loadOf_21 rfl (lv_at hl 3 rfl) ?_
  refine lv_iload_n hx hb dX0_loadOf_22 rfl (lv_at hl 2 rfl) ?_
  refine lv_iload hx hb dX0_loadOf_23 (lv_at hl 0 rfl) ?_
  refine lv_aload_n hx hb dX0_loadOf_25 rfl (lv_at hl 3 rfl) ?_
  refine lv_iload_n hx hb dX0_loadOf_26 rfl (lv_at hl 4 rfl) ?_
  refine lv_iload_n hx hb dX0_loadOf_27 rfl (lv_at hl 1 rfl) ?_
  refine b_calli (As := [.int a, .int 0]) (rest := [.int 1, .int 0, .ref (q 1)]) ⟨hx, hb, hml, hown, hts⟩ 1 0 (c_X0_timeSum_1 l D cy q hH.2.1 z hF a 0 ) (cwV 2 hts gX0_loadOf_X0_timeSum rfl rfl rfl (by decide +kernel) ⟨Nat.le_of_ble_eq_true rfl, Nat.le_of_ble_eq_true rfl⟩) hK hZ hH (by decide) rfl rfl rfl hl.1 rfl (Nat.le_of_ble_eq_true rfl) ⟨Nat.zero_le _, Nat.zero_le _⟩ dX0_loadOf_28 (fun r2 z2 H locs hp2 hH => ?_)
  obtain ⟨rfl, rfl⟩ := hp2
  refine lv_imul hx hb dX0_loadOf_31 ?_
  refine b_vi (v := 0) (by decide) ?_
  refine b_calli (As := [.int 0, .int 0]) (rest := []) ⟨hx, hb, hml, hown, hts⟩ 1 0 (c_X0_joined_1 l D cy q hH.2.1 z hF 0 0 ) (cwV 2 hts gX0_loadOf_X0_joined rfl rfl rfl (by decide +kernel) ⟨Nat.le_of_ble_eq_true rfl, Nat.le_of_ble_eq_true rfl⟩) hK hZ hH (by decide) rfl rfl rfl hl.1 rfl (Nat.le_of_ble_eq_true rfl) ⟨Nat.zero_le _, Nat.zero_le _⟩ dX0_loadOf_32 (fun r3 z3 H locs hp3 hH => ?_)
  obtain ⟨rfl, rfl⟩ := hp3
  refine b_vi (v := 0) (by decide) ?_
  refine lv_istore_n (lv' := [(2, .int 0), (4, .int 1), (3, .int 0), (0, .ref (q 1)), (1, .int a)]) hx hb dX0_loadOf_35 rfl hl (by decide) rfl (fun ls hl => ?_)
  refine lv_iinc (v := 1) (lv' := [(3, .int 1), (2, .int 0), (4, .int 1), (0, .ref (q 1)), (1, .int a)]) hx hb dX0_loadOf_36 hl (k := 2) rfl (by decide) (by decide) rfl (fun ls hl => ?_)
  refine lv_goto (tgt := 4) hx hb dX0_loadOf_39 (by decide) ?_
  refine lv_iload_n hx hb dX0_loadOf_4 rfl (lv_at hl 0 rfl) ?_
  refine lv_iconst (v := 3) hx hb dX0_loadOf_5 (by decide) ?_
  refine lv_icmp_ge (tgt := 42) hx hb dX0_loadOf_6 (by decide) (fun c0 => absurd c0 (by decide)) (fun _ => ?_)
  refine lv_aload_n hx hb dX0_loadOf_9 rfl (lv_at hl 3 rfl) ?_
  refine lv_iload_n hx hb dX0_loadOf_10 rfl (lv_at hl 0 rfl) ?_
  refine b_calli (As := [.int 1]) (rest := []) ⟨hx, hb, hml, hown, hts⟩ 1 0 (c_X0_weight_1 l D cy q hH.2.1 z hF 1 ) (cwV 1 hts gX0_loadOf_X0_weight rfl rfl rfl (by decide +kernel) ⟨Nat.le_of_ble_eq_true rfl, Nat.le_of_ble_eq_true rfl⟩) hK hZ hH (by decide) rfl rfl rfl hl.1 rfl (Nat.le_of_ble_eq_true rfl) ⟨Nat.zero_le _, Nat.zero_le _⟩ dX0_loadOf_11 (fun r4 z4 H locs hp4 hH => ?_)
  obtain ⟨rfl, rfl⟩ := hp4
  refine b_vi (v := 0) (by decide) ?_
  refine lv_istore (lv' := [(4, .int 0), (3, .int 1), (2, .int 0), (0, .ref (q 1)), (1, .int a)]) hx hb dX0_loadOf_14 hl (by decide) rfl (fun ls hl => ?_)
  refine lv_iload hx hb dX0_loadOf_16 (lv_at hl 0 rfl) ?_
  refine lv_if_le (tgt := 36) hx hb dX0_loadOf_18 (by decide) (fun _ => ?_) (fun c0 => absurd c0 (by decide))
  refine lv_iinc (v := 2) (lv' := [(3, .int 2), (4, .int 0), (2, .int 0), (0, .ref (q 1)), (1, .int a)]) hx hb dX0_loadOf_36 hl (k := 1) rfl (by decide) (by decide) rfl (fun ls hl => ?_)
  refine lv_goto (tgt := 4) hx hb dX0_loadOf_39 (by decide) ?_
  refine lv_iload_n hx hb dX0_loadOf_4 rfl (lv_at hl 0 rfl) ?_
  refine lv_iconst (v := 3) hx hb dX0_loadOf_5 (by decide) ?_
  refine lv_icmp_ge (tgt := 42) hx hb dX0_loadOf_6 (by decide) (fun c0 => absurd c0 (by decide)) (fun _ => ?_)
  refine lv_aload_n hx hb dX0_loadOf_9 rfl (lv_at hl 3 rfl) ?_
  refine lv_iload_n hx hb dX0_loadOf_10 rfl (lv_at hl 0 rfl) ?_
  refine b_calli (As := [.int 2]) (rest := []) ⟨hx, hb, hml, hown, hts⟩ 1 0 (c_X0_weight_1 l D cy q hH.2.1 z hF 2 ) (cwV 1 hts gX0_loadOf_X0_weight rfl rfl rfl (by decide +kernel) ⟨Nat.le_of_ble_eq_true rfl, Nat.le_of_ble_eq_true rfl⟩) hK hZ hH (by decide) rfl rfl rfl hl.1 rfl (Nat.le_of_ble_eq_true rfl) ⟨Nat.zero_le _, Nat.zero_le _⟩ dX0_loadOf_11 (fun r5 z5 H locs hp5 hH => ?_)
  obtain ⟨rfl, rfl⟩ := hp5
  refine b_vi (v := 0) (by decide) ?_
  refine lv_istore (lv' := [(4, .int 0), (3, .int 2), (2, .int 0), (0, .ref (q 1)), (1, .int a)]) hx hb dX0_loadOf_14 hl (by decide) rfl (fun ls hl => ?_)
  refine lv_iload hx hb dX0_loadOf_16 (lv_at hl 0 rfl) ?_
  refine lv_if_le (tgt := 36) hx hb dX0_loadOf_18 (by decide) (fun _ => ?_) (fun c0 => absurd c0 (by decide))
  refine lv_iinc (v := 3) (lv' := [(3, .int 3), (4, .int 0), (2, .int 0), (0, .ref (q 1)), (1, .int a)]) hx hb dX0_loadOf_36 hl (k := 1) rfl (by decide) (by decide) rfl (fun ls hl => ?_)
  refine lv_goto (tgt := 4) hx hb dX0_loadOf_39 (by decide) ?_
  refine lv_iload_n hx hb dX0_loadOf_4 rfl (lv_at hl 0 rfl) ?_
  refine lv_iconst (v := 3) hx hb dX0_loadOf_5 (by decide) ?_
  refine lv_icmp_ge (tgt := 42) hx hb dX0_loadOf_6 (by decide) (fun _ => ?_) (fun c0 => absurd c0 (by decide))
  refine lv_iload_n hx hb dX0_loadOf_42 rfl (lv_at hl 2 rfl) ?_
  exact b_iret hx hb hr hlocks hH (⟨rfl, (by first | rfl | (exfalso; omega))⟩) dX0_loadOf_43
set_option maxHeartbeats 4000000 in
set_option maxRecDepth 100000 in
theorem c_X5_takenUp (l : Launch) (D : va_G) (cy : Nat → ClassId) (q : Nat → Nat) (hq : bJ 66 q) (z : zS) (a : Int32) (b : Int32) : bCi l yX5_takenUp wsX5_takenUp ({ frames := 0, cells := 0, slots := 0, locals := 0 }) D cy 66 (enC cy) q z [.int a, .int b] (fun r z' => z = z' ∧ (if b < 1 then 0 else (a + b - 1) / b : Int32) = r) := by
  intro sz
  refine Met.ofW (cc := cX5_takenUp) (maxL := 2) (ret := (some .int)) (by decide) rfl ?_
  intro p e s m args below meth c s₁ B hml hv
  obtain ⟨rfl, hsz, hP, hK, hZ⟩ := hv
  have hx := B.exec
  have hb := B.bytes
  have hr := B.returns
  have hts := atoms_spec (ws := wsX5_takenUp) B.pre
  have hown : s.vm.findClass RX5 = some m.cls := findClass_of_methodNamed B.named
  have hlocks := B.notSynchronized
  subst hsz
  have hH : bH D 66 (enC cy) q z s.heap s.heap [] := bH_in hq hP
  have hl := lv_entry ([.int a, .int b]) (n := 2) (Nat.le_of_ble_eq_true rfl)
  rw [lg_entry_eq]
  generalize (lg_sl ([.int a, .int b]) ++ List.replicate (2 - (lg_sl ([.int a, .int b])).length) Slot.unset).toArray = ls at hl ⊢
  have hl : lv_has ls 2 [(0, .int a), (1, .int b)] := hl
  refine lv_iload_n hx hb dX5_takenUp_0 rfl (lv_at hl 1 rfl) ?_
  refine lv_iconst (v := 1) hx hb dX5_takenUp_1 (by decide) ?_
  refine lv_icmp_ge (tgt := 9) hx hb dX5_takenUp_2 (by decide) (fun c1 => ?_) (fun c1 => ?_)
  · skip
    refine lv_iload_n hx hb dX5_takenUp_9 rfl (lv_at hl 0 rfl) ?_
    refine lv_iload_n hx hb dX5_takenUp_10 rfl (lv_at hl 1 rfl) ?_
    refine lv_iadd hx hb dX5_takenUp_11 ?_
    refine lv_iconst (v := 1) hx hb dX5_takenUp_12 (by decide) ?_
    refine lv_isub hx hb dX5_takenUp_13 ?_
    refine lv_iload_n hx hb dX5_takenUp_14 rfl (lv_at hl 1 rfl) ?_
    refine lv_idiv hx hb dX5_takenUp_15 (b_nz (fun h => absurd c1 (by rw [b_lt] at h; rw [b_le]; omega))) ?_
    exact b_iret hx hb hr hlocks hH (⟨rfl, (by have e1 : (1 : Int32).toInt = 1 := (by decide); try simp only [b_lt, b_le, b_eq] at c1; first | rfl | (split <;> first | rfl | (rename_i h9; exfalso; simp only [b_lt, b_le, b_eq] at h9; first | omega | contradiction)))⟩) dX5_takenUp_16
  · skip
    refine lv_iconst (v := 0) hx hb dX5_takenUp_5 (by decide) ?_
    refine lv_goto (tgt := 16) hx hb dX5_takenUp_6 (by decide) ?_
    exact b_iret hx hb hr hlocks hH (⟨rfl, (by have e1 : (1 : Int32).toInt = 1 := (by decide); try simp only [b_lt, b_le, b_eq] at c1; first | rfl | (split <;> first | rfl | (rename_i h9; exfalso; simp only [b_lt, b_le, b_eq] at h9; first | omega | contradiction)))⟩) dX5_takenUp_16
set_option maxHeartbeats 4000000 in
set_option maxRecDepth 100000 in
theorem c_X0_halfRoomBound_1 (l : Launch) (D : va_G) (cy : Nat → ClassId) (q : Nat → Nat) (hq : bJ 66 q) (z : zS) (hF : Fr z)  : bCi l yX0_halfRoomBound wsX0_halfRoomBound ({ frames := 3, cells := 0, slots := 0, locals := 74 }) D cy 66 (enC cy) q z [.ref (q 1)] (fun r z' => z = z' ∧ (0 : Int32) = r) := by
  intro sz
  refine Met.ofW (cc := cX0_halfRoomBound) (maxL := 6) (ret := (some .int)) (by decide) rfl ?_
  intro p e s m args below meth c s₁ B hml hv
  obtain ⟨rfl, hsz, hP, hK, hZ⟩ := hv
  have hx := B.exec
  have hb := B.bytes
  have hr := B.returns
  have hts := atoms_spec (ws := wsX0_halfRoomBound) B.pre
  have hown : s.vm.findClass RX0 = some m.cls := findClass_of_methodNamed B.named
  have hlocks := B.notSynchronized
  subst hsz
  have hH : bH D 66 (enC cy) q z s.heap s.heap [] := bH_in hq hP
  have hl := lv_entry ([.ref (q 1)]) (n := 6) (Nat.le_of_ble_eq_true rfl)
  rw [lg_entry_eq]
  generalize (lg_sl ([.ref (q 1)]) ++ List.replicate (6 - (lg_sl ([.ref (q 1)])).length) Slot.unset).toArray = ls at hl ⊢
  have hl : lv_has ls 6 [(0, .ref (q 1))] := hl
  refine lv_aload_n hx hb dX0_halfRoomBound_0 rfl (lv_at hl 0 rfl) ?_
  refine b_calli (As := []) (rest := []) ⟨hx, hb, hml, hown, hts⟩ 1 0 (c_X0_room_1 l D cy q hH.2.1 z hF  ) (cwV 0 hts gX0_halfRoomBound_X0_room rfl rfl rfl (by decide +kernel) ⟨Nat.le_of_ble_eq_true rfl, Nat.le_of_ble_eq_true rfl⟩) hK hZ hH (by decide) rfl rfl rfl hl.1 rfl (Nat.le_of_ble_eq_true rfl) ⟨Nat.zero_le _, Nat.zero_le _⟩ dX0_halfRoomBound_1 (fun r1 z1 H locs hp1 hH => ?_)
  obtain ⟨rfl, rfl⟩ := hp1
  refine lv_istore_n (lv' := [(1, .int 10), (0, .ref (q 1))]) hx hb dX0_halfRoomBound_4 rfl hl (by decide) rfl (fun ls hl => ?_)
  refine lv_iconst (v := 0) hx hb dX0_halfRoomBound_5 (by decide) ?_
  refine lv_istore_n (lv' := [(2, .int 0), (1, .int 10), (0, .ref (q 1))]) hx hb dX0_halfRoomBound_6 rfl hl (by decide) rfl (fun ls hl => ?_)
  refine lv_iconst (v := 0) hx hb dX0_halfRoomBound_7 (by decide) ?_
  refine lv_istore_n (lv' := [(3, .int 0), (2, .int 0), (1, .int 10), (0, .ref (q 1))]) hx hb dX0_halfRoomBound_8 rfl hl (by decide) rfl (fun ls hl => ?_)
  refine lv_iconst (v := 0) hx hb dX0_halfRoomBound_9 (by decide) ?_
  refine lv_istore (lv' := [(4, .int 0), (3, .int 0), (2, .int 0), (1, .int 10), (0, .ref (q 1))]) hx hb dX0_halfRoomBound_10 hl (by decide) rfl (fun ls hl => ?_)
  refine lv_iload hx hb dX0_halfRoomBound_12 (lv_at hl 0 rfl) ?_
  refine lv_aload_n hx hb dX0_halfRoomBound_14 rfl (lv_at hl 4 rfl) ?_
  refine b_get (ci := 0) (C := RX0) (T := TX0) (Nf := 11) (v := .int 0) hx hb hts in_X0_halfRoomBound_X0 hown hK hH 1 (by decide) rfl rfl 0 (by decide) (hts (.fieldLink RX0 9 "StationLine$Bench" "size" "I") (List.mem_of_getElem? (i := 1) rfl)) (congrArg (fun x => some (Value.int x)) (Fr_0 hF)) dX0_halfRoomBound_15 ?_
  refine lv_icmp_ge (tgt := 60) hx hb dX0_halfRoomBound_18 (by decide) (fun _ => ?_) (fun c0 => absurd c0 (by decide))
  refine lv_iload_n hx hb dX0_halfRoomBound_60 rfl (lv_at hl 2 rfl) ?_
  refine lv_iload_n hx hb dX0_halfRoomBound_61 rfl (lv_at hl 1 rfl) ?_
  refine lv_iconst (v := 2) hx hb dX0_halfRoomBound_62 (by decide) ?_
  refine b_statN (As := [.int 0, .int 2]) (rest := [.int 0]) ⟨hx, hb, hml, hown, hts⟩ (c_X5_takenUp l D cy q hH.2.1 z  0 2 ) ⟨va_cnB 2 hts gX0_halfRoomBound_X5_takenUp_n91 rfl rfl rfl hZ.1 (hts (.initialized RX5) (List.mem_of_getElem? (i := 36) rfl)) (by decide +kernel) ⟨Nat.le_of_ble_eq_true rfl, Nat.le_of_ble_eq_true rfl⟩, (hts (.static yX5_takenUp) (List.mem_of_getElem? (i := 35) rfl)), trivial⟩ hK hZ hH rfl hl.1 rfl (Nat.le_of_ble_eq_true rfl) ⟨Nat.zero_le _, Nat.zero_le _⟩ dX0_halfRoomBound_63 (fun r2 z2 H locs hp2 hH => ?_)
  obtain ⟨rfl, rfl⟩ := hp2
  refine b_vi (v := 0) (by decide) ?_
  refine lv_iadd hx hb dX0_halfRoomBound_66 ?_
  refine b_vi (v := 0) (by decide) ?_
  exact b_iret hx hb hr hlocks hH (⟨rfl, (by first | rfl | (exfalso; omega))⟩) dX0_halfRoomBound_67
