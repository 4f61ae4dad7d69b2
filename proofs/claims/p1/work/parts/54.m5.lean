set_option maxHeartbeats 4000000 in
set_option maxRecDepth 100000 in
theorem c_X6_many (l : Launch) (D : va_G) (cy : Nat → ClassId) (q : Nat → Nat) (hq : bJ 23 q) (z : zS) (hF : Fm z) (h10 : z.1 2 = 10)  : bCl l yX6_many wsX6_many ({ frames := 5, cells := 0, slots := 0, locals := 121 }) D cy 23 (enM cy) q z [.ref (q 0)] (fun r _ => (1 : Int64) = r) := by
  intro sz
  refine Met.ofW (cc := cX6_many) (maxL := 2) (ret := (some .long)) (by decide) rfl ?_
  intro p e s m args below meth c s₁ B hml hv
  obtain ⟨rfl, hsz, hP, hK, hZ⟩ := hv
  have hx := B.exec
  have hb := B.bytes
  have hr := B.returns
  have hts := atoms_spec (ws := wsX6_many) B.pre
  have hown : s.vm.findClass RX6 = some m.cls := findClass_of_methodNamed B.named
  have hlocks := B.notSynchronized
  subst hsz
  have hH : bH D 23 (enM cy) q z s.heap s.heap [] := bH_in hq hP
  have hl := lv_entry ([.ref (q 0)]) (n := 2) (Nat.le_of_ble_eq_true rfl)
  rw [lg_entry_eq]
  generalize (lg_sl ([.ref (q 0)]) ++ List.replicate (2 - (lg_sl ([.ref (q 0)])).length) Slot.unset).toArray = ls at hl ⊢
  have hl : lv_has ls 2 [(0, .ref (q 0))] := hl
  refine lv_aload_n hx hb dX6_many_0 rfl (lv_at hl 0 rfl) ?_
  refine b_calli (As := []) (rest := []) ⟨hx, hb, hml, hown, hts⟩ 0 6 (c_X6_tellWays_0 l D cy q hH.2.1 z hF  10 h10 ) (cwV 0 hts gX6_many_X6_tellWays rfl rfl rfl (by decide +kernel) ⟨Nat.le_of_ble_eq_true rfl, Nat.le_of_ble_eq_true rfl⟩) hK hZ hH (by decide) rfl rfl rfl hl.1 rfl (Nat.le_of_ble_eq_true rfl) ⟨Nat.zero_le _, Nat.zero_le _⟩ dX6_many_1 (fun r1 z1 H locs hp1 hH => ?_)
  obtain ⟨hFz1, g1_0, g1_1, rfl⟩ := hp1
  refine lv_istore_n (lv' := [(1, .int 0), (0, .ref (q 0))]) hx hb dX6_many_4 rfl hl (by decide) rfl (fun ls hl => ?_)
  refine lv_iload_n hx hb dX6_many_5 rfl (lv_at hl 0 rfl) ?_
  refine lv_if_ge (tgt := 13) hx hb dX6_many_6 (by decide) (fun _ => ?_) (fun c0 => absurd c0 (by decide))
  refine lv_aload_n hx hb dX6_many_13 rfl (lv_at hl 1 rfl) ?_
  refine b_get (ci := 6) (C := RX6) (T := TX6) (Nf := 29) (v := .ref (q 19)) hx hb hts in_X6_many_X6 hown hK hH 0 (by decide) rfl rfl 25 (by decide) (hts (.fieldLink RX6 69 "StationLineModel" "ways" "[J") (List.mem_of_getElem? (i := 1) rfl)) rfl dX6_many_14 ?_
  refine lv_sipush (v := 1024) hx hb dX6_many_17 (by decide) ?_
  refine lv_iload_n hx hb dX6_many_20 rfl (lv_at hl 0 rfl) ?_
  refine lv_imul hx hb dX6_many_21 ?_
  refine b_vi (v := 0) (by decide) ?_
  refine lv_aload_n hx hb dX6_many_22 rfl (lv_at hl 1 rfl) ?_
  refine b_calli (As := []) (rest := [.int 0, .ref (q 19)]) ⟨hx, hb, hml, hown, hts⟩ 0 6 (c_X6_all_0 l D cy q hH.2.1 z1 hFz1  ) (cwV 0 hts gX6_many_X6_all rfl rfl rfl (by decide +kernel) ⟨Nat.le_of_ble_eq_true rfl, Nat.le_of_ble_eq_true rfl⟩) hK hZ hH (by decide) rfl rfl rfl hl.1 rfl (Nat.le_of_ble_eq_true rfl) ⟨Nat.zero_le _, Nat.zero_le _⟩ dX6_many_23 (fun r2 z2 H locs hp2 hH => ?_)
  obtain ⟨rfl, rfl⟩ := hp2
  refine lv_iadd hx hb dX6_many_26 ?_
  refine b_vi (v := 0) (by decide) ?_
  refine b_lald (v := 1) hx hb hK hH 19 (by decide) rfl (by unfold vp_in; decide) g1_0 dX6_many_27 ?_
  exact b_lret hx hb hr hlocks hH ((by first | rfl | ((repeat' split) <;> first | rfl | omega))) dX6_many_28
set_option maxHeartbeats 4000000 in
set_option maxRecDepth 100000 in
theorem c_X6_best (l : Launch) (D : va_G) (cy : Nat → ClassId) (q : Nat → Nat) (hq : bJ 23 q) (z : zS) (hF : Fm z) (h10 : z.1 2 = 10) (x1 : Int32) : bCi l yX6_best wsX6_best ({ frames := 5, cells := 0, slots := 0, locals := 121 }) D cy 23 (enM cy) q z [.ref (q 0), .int x1] (fun r _ => (0 : Int32) = r) := by
  intro sz
  refine Met.ofW (cc := cX6_best) (maxL := 7) (ret := (some .int)) (by decide) rfl ?_
  intro p e s m args below meth c s₁ B hml hv
  obtain ⟨rfl, hsz, hP, hK, hZ⟩ := hv
  have hx := B.exec
  have hb := B.bytes
  have hr := B.returns
  have hts := atoms_spec (ws := wsX6_best) B.pre
  have hown : s.vm.findClass RX6 = some m.cls := findClass_of_methodNamed B.named
  have hlocks := B.notSynchronized
  subst hsz
  have hH : bH D 23 (enM cy) q z s.heap s.heap [] := bH_in hq hP
  have hl := lv_entry ([.ref (q 0), .int x1]) (n := 7) (Nat.le_of_ble_eq_true rfl)
  rw [lg_entry_eq]
  generalize (lg_sl ([.ref (q 0), .int x1]) ++ List.replicate (7 - (lg_sl ([.ref (q 0), .int x1])).length) Slot.unset).toArray = ls at hl ⊢
  have hl : lv_has ls 7 [(0, .ref (q 0)), (1, .int x1)] := hl
  refine lv_aload_n hx hb dX6_best_0 rfl (lv_at hl 0 rfl) ?_
  refine b_calli (As := []) (rest := []) ⟨hx, hb, hml, hown, hts⟩ 0 6 (c_X6_tellWays_0 l D cy q hH.2.1 z hF  10 h10 ) (cwV 0 hts gX6_best_X6_tellWays rfl rfl rfl (by decide +kernel) ⟨Nat.le_of_ble_eq_true rfl, Nat.le_of_ble_eq_true rfl⟩) hK hZ hH (by decide) rfl rfl rfl hl.1 rfl (Nat.le_of_ble_eq_true rfl) ⟨Nat.zero_le _, Nat.zero_le _⟩ dX6_best_1 (fun r1 z1 H locs hp1 hH => ?_)
  obtain ⟨hFz1, g1_0, g1_1, rfl⟩ := hp1
  refine lv_istore_n (lv' := [(2, .int 0), (0, .ref (q 0)), (1, .int x1)]) hx hb dX6_best_4 rfl hl (by decide) rfl (fun ls hl => ?_)
  refine lv_iload_n hx hb dX6_best_5 rfl (lv_at hl 0 rfl) ?_
  refine lv_if_ge (tgt := 12) hx hb dX6_best_6 (by decide) (fun _ => ?_) (fun c0 => absurd c0 (by decide))
  refine lv_aload_n hx hb dX6_best_12 rfl (lv_at hl 1 rfl) ?_
  refine lv_iload_n hx hb dX6_best_13 rfl (lv_at hl 0 rfl) ?_
  refine b_callv (As := [.int 0]) (rest := []) ⟨hx, hb, hml, hown, hts⟩ 0 6 (c_X6_tellLeast_0 l D cy q hH.2.1 z1 hFz1    ) (cwV 1 hts gX6_best_X6_tellLeast rfl rfl rfl (by decide +kernel) ⟨Nat.le_of_ble_eq_true rfl, Nat.le_of_ble_eq_true rfl⟩) hK hZ hH (by decide) rfl rfl rfl hl.1 rfl (Nat.le_of_ble_eq_true rfl) ⟨Nat.zero_le _, Nat.zero_le _⟩ dX6_best_14 (fun z2 H locs hp2 hH => ?_)
  obtain ⟨hFz2, g2_0⟩ := hp2
  refine lv_iconst (v := 0) hx hb dX6_best_17 (by decide) ?_
  refine lv_istore_n (lv' := [(3, .int 0), (2, .int 0), (0, .ref (q 0)), (1, .int x1)]) hx hb dX6_best_18 rfl hl (by decide) rfl (fun ls hl => ?_)
  refine lv_iconst (v := 1) hx hb dX6_best_19 (by decide) ?_
  refine lv_istore (lv' := [(4, .int 1), (3, .int 0), (2, .int 0), (0, .ref (q 0)), (1, .int x1)]) hx hb dX6_best_20 hl (by decide) rfl (fun ls hl => ?_)
  refine lv_iload hx hb dX6_best_22 (lv_at hl 0 rfl) ?_
  refine lv_iload_n hx hb dX6_best_24 rfl (lv_at hl 2 rfl) ?_
  refine lv_icmp_gt (tgt := 108) hx hb dX6_best_25 (by decide) (fun _ => ?_) (fun c0 => absurd c0 (by decide))
  refine lv_iload_n hx hb dX6_best_108 rfl (lv_at hl 2 rfl) ?_
  exact b_iret hx hb hr hlocks hH ((by first | rfl | ((repeat' split) <;> first | rfl | omega))) dX6_best_109
set_option maxHeartbeats 4000000 in
set_option maxRecDepth 100000 in
theorem c_X6_evenest (l : Launch) (D : va_G) (cy : Nat → ClassId) (q : Nat → Nat) (hq : bJ 23 q) (z : zS) (hF : Fm z) (h10 : z.1 2 = 10)  : bCl l yX6_evenest wsX6_evenest ({ frames := 5, cells := 0, slots := 0, locals := 121 }) D cy 23 (enM cy) q z [.ref (q 0)] (fun r _ => (0 : Int64) = r) := by
  intro sz
  refine Met.ofW (cc := cX6_evenest) (maxL := 2) (ret := (some .long)) (by decide) rfl ?_
  intro p e s m args below meth c s₁ B hml hv
  obtain ⟨rfl, hsz, hP, hK, hZ⟩ := hv
  have hx := B.exec
  have hb := B.bytes
  have hr := B.returns
  have hts := atoms_spec (ws := wsX6_evenest) B.pre
  have hown : s.vm.findClass RX6 = some m.cls := findClass_of_methodNamed B.named
  have hlocks := B.notSynchronized
  subst hsz
  have hH : bH D 23 (enM cy) q z s.heap s.heap [] := bH_in hq hP
  have hl := lv_entry ([.ref (q 0)]) (n := 2) (Nat.le_of_ble_eq_true rfl)
  rw [lg_entry_eq]
  generalize (lg_sl ([.ref (q 0)]) ++ List.replicate (2 - (lg_sl ([.ref (q 0)])).length) Slot.unset).toArray = ls at hl ⊢
  have hl : lv_has ls 2 [(0, .ref (q 0))] := hl
  refine lv_aload_n hx hb dX6_evenest_0 rfl (lv_at hl 0 rfl) ?_
  refine b_calli (As := []) (rest := []) ⟨hx, hb, hml, hown, hts⟩ 0 6 (c_X6_tellWays_0 l D cy q hH.2.1 z hF  10 h10 ) (cwV 0 hts gX6_evenest_X6_tellWays rfl rfl rfl (by decide +kernel) ⟨Nat.le_of_ble_eq_true rfl, Nat.le_of_ble_eq_true rfl⟩) hK hZ hH (by decide) rfl rfl rfl hl.1 rfl (Nat.le_of_ble_eq_true rfl) ⟨Nat.zero_le _, Nat.zero_le _⟩ dX6_evenest_1 (fun r1 z1 H locs hp1 hH => ?_)
  obtain ⟨hFz1, g1_0, g1_1, rfl⟩ := hp1
  refine lv_istore_n (lv' := [(1, .int 0), (0, .ref (q 0))]) hx hb dX6_evenest_4 rfl hl (by decide) rfl (fun ls hl => ?_)
  refine lv_iload_n hx hb dX6_evenest_5 rfl (lv_at hl 0 rfl) ?_
  refine lv_if_ge (tgt := 13) hx hb dX6_evenest_6 (by decide) (fun _ => ?_) (fun c0 => absurd c0 (by decide))
  refine lv_aload_n hx hb dX6_evenest_13 rfl (lv_at hl 1 rfl) ?_
  refine lv_iload_n hx hb dX6_evenest_14 rfl (lv_at hl 0 rfl) ?_
  refine b_callv (As := [.int 0]) (rest := []) ⟨hx, hb, hml, hown, hts⟩ 0 6 (c_X6_tellLeast_0 l D cy q hH.2.1 z1 hFz1    ) (cwV 1 hts gX6_evenest_X6_tellLeast rfl rfl rfl (by decide +kernel) ⟨Nat.le_of_ble_eq_true rfl, Nat.le_of_ble_eq_true rfl⟩) hK hZ hH (by decide) rfl rfl rfl hl.1 rfl (Nat.le_of_ble_eq_true rfl) ⟨Nat.zero_le _, Nat.zero_le _⟩ dX6_evenest_15 (fun z2 H locs hp2 hH => ?_)
  obtain ⟨hFz2, g2_0⟩ := hp2
  refine lv_aload_n hx hb dX6_evenest_18 rfl (lv_at hl 1 rfl) ?_
  refine b_get (ci := 6) (C := RX6) (T := TX6) (Nf := 29) (v := .ref (q 20)) hx hb hts in_X6_evenest_X6 hown hK hH 0 (by decide) rfl rfl 26 (by decide) (hts (.fieldLink RX6 73 "StationLineModel" "least" "[J") (List.mem_of_getElem? (i := 2) rfl)) rfl dX6_evenest_19 ?_
  refine lv_iconst (v := 0) hx hb dX6_evenest_22 (by decide) ?_
  refine b_lald (v := 0) hx hb hK hH 20 (by decide) rfl (by unfold vp_in; decide) g2_0 dX6_evenest_23 ?_
  exact b_lret hx hb hr hlocks hH ((by first | rfl | ((repeat' split) <;> first | rfl | omega))) dX6_evenest_24
set_option maxHeartbeats 4000000 in
set_option maxRecDepth 100000 in
theorem c_X6_leastBeat (l : Launch) (D : va_G) (cy : Nat → ClassId) (q : Nat → Nat) (hq : bJ 23 q) (z : zS) (hF : Fm z) (h10 : z.1 2 = 10) (x1 : Int32) : bCi l yX6_leastBeat wsX6_leastBeat ({ frames := 5, cells := 0, slots := 0, locals := 121 }) D cy 23 (enM cy) q z [.ref (q 0), .int x1] (fun r _ => (o_leastBeat x1 : Int32) = r) := by
  intro sz
  refine Met.ofW (cc := cX6_leastBeat) (maxL := 6) (ret := (some .int)) (by decide) rfl ?_
  intro p e s m args below meth c s₁ B hml hv
  obtain ⟨rfl, hsz, hP, hK, hZ⟩ := hv
  have hx := B.exec
  have hb := B.bytes
  have hr := B.returns
  have hts := atoms_spec (ws := wsX6_leastBeat) B.pre
  have hown : s.vm.findClass RX6 = some m.cls := findClass_of_methodNamed B.named
  have hlocks := B.notSynchronized
  subst hsz
  have hH : bH D 23 (enM cy) q z s.heap s.heap [] := bH_in hq hP
  have hl := lv_entry ([.ref (q 0), .int x1]) (n := 6) (Nat.le_of_ble_eq_true rfl)
  rw [lg_entry_eq]
  generalize (lg_sl ([.ref (q 0), .int x1]) ++ List.replicate (6 - (lg_sl ([.ref (q 0), .int x1])).length) Slot.unset).toArray = ls at hl ⊢
  have hl : lv_has ls 6 [(0, .ref (q 0)), (1, .int x1)] := hl
  refine lv_iload_n hx hb dX6_leastBeat_0 rfl (lv_at hl 1 rfl) ?_
  refine lv_iconst (v := 1) hx hb dX6_leastBeat_1 (by decide) ?_
  refine lv_icmp_lt (tgt := 11) hx hb dX6_leastBeat_2 (by decide) (fun c1 => ?_) (fun c1 => ?_)
  · skip
    refine lv_bipush (v := (-2)) hx hb dX6_leastBeat_11 (by decide) ?_
    exact b_iret hx hb hr hlocks hH ((by have e1 : (1 : Int32).toInt = 1 := (by decide); try simp only [b_lt, b_le, b_eq] at c1; first | rfl | (unfold o_leastBeat; (repeat' split) <;> first | rfl | omega))) dX6_leastBeat_13
  · skip
    refine lv_iload_n hx hb dX6_leastBeat_5 rfl (lv_at hl 1 rfl) ?_
    refine lv_bipush (v := 10) hx hb dX6_leastBeat_6 (by decide) ?_
    refine lv_icmp_le (tgt := 14) hx hb dX6_leastBeat_8 (by decide) (fun c2 => ?_) (fun c2 => ?_)
    · skip
      refine lv_aload_n hx hb dX6_leastBeat_14 rfl (lv_at hl 0 rfl) ?_
      refine b_get (ci := 6) (C := RX6) (T := TX6) (Nf := 29) (v := .int 10) hx hb hts in_X6_leastBeat_X6 hown hK hH 0 (by decide) rfl rfl 8 (by decide) (hts (.fieldLink RX6 28 "StationLineModel" "beat" "I") (List.mem_of_getElem? (i := 1) rfl)) (congrArg (fun x => some (Value.int x)) h10) dX6_leastBeat_15 ?_
      refine lv_istore_n (lv' := [(2, .int 10), (0, .ref (q 0)), (1, .int x1)]) hx hb dX6_leastBeat_18 rfl hl (by decide) rfl (fun ls hl => ?_)
      refine lv_iconst (v := 0) hx hb dX6_leastBeat_19 (by decide) ?_
      refine lv_istore_n (lv' := [(3, .int 0), (2, .int 10), (0, .ref (q 0)), (1, .int x1)]) hx hb dX6_leastBeat_20 rfl hl (by decide) rfl (fun ls hl => ?_)
      refine lv_sipush (v := 1001) hx hb dX6_leastBeat_21 (by decide) ?_
      refine lv_istore (lv' := [(4, .int 1001), (3, .int 0), (2, .int 10), (0, .ref (q 0)), (1, .int x1)]) hx hb dX6_leastBeat_24 hl (by decide) rfl (fun ls hl => ?_)
      refine lv_iload hx hb dX6_leastBeat_26 (lv_at hl 0 rfl) ?_
      refine lv_iload_n hx hb dX6_leastBeat_28 rfl (lv_at hl 1 rfl) ?_
      refine lv_isub hx hb dX6_leastBeat_29 ?_
      refine b_vi (v := 1001) (by decide) ?_
      refine lv_iconst (v := 1) hx hb dX6_leastBeat_30 (by decide) ?_
      refine lv_icmp_le (tgt := 78) hx hb dX6_leastBeat_31 (by decide) (fun c0 => absurd c0 (by decide)) (fun _ => ?_)
      refine lv_aload_n hx hb dX6_leastBeat_34 rfl (lv_at hl 3 rfl) ?_
      refine lv_iload_n hx hb dX6_leastBeat_35 rfl (lv_at hl 1 rfl) ?_
      refine lv_iload hx hb dX6_leastBeat_36 (lv_at hl 0 rfl) ?_
      refine lv_iadd hx hb dX6_leastBeat_38 ?_
      refine b_vi (v := 1001) (by decide) ?_
      refine lv_iconst (v := 2) hx hb dX6_leastBeat_39 (by decide) ?_
      refine lv_idiv hx hb dX6_leastBeat_40 (by decide) ?_
      refine b_vi (v := 500) (by decide) ?_
      refine b_put (ci := 6) (C := RX6) (T := TX6) (Nf := 29) (v := .int 500) (ty := .int) hx hb hts in_X6_leastBeat_X6 tyX6 tyX6_ok nmX6 hown hK hH 0 (by decide) rfl rfl 8 (by decide) (hts (.fieldLink RX6 28 "StationLineModel" "beat" "I") (List.mem_of_getElem? (i := 1) rfl)) rfl (by decide +kernel) rfl rfl (Nat.le_of_ble_eq_true rfl) (upS z 2 500) rfl (enM_S2 _ _ _ _) dX6_leastBeat_41 (fun H locs hH => ?_)
      obtain ⟨z3, hz3⟩ : ∃ w : zS, w = upS z 2 500 := ⟨_, rfl⟩
      rw [← hz3] at hH
      have hFz3 : Fm z3 := by rw [hz3]; exact hF
      refine lv_aload_n hx hb dX6_leastBeat_44 rfl (lv_at hl 3 rfl) ?_
      refine b_calli (As := []) (rest := []) ⟨hx, hb, hml, hown, hts⟩ 0 6 (c_X6_tellWays_0 l D cy q hH.2.1 z3 hFz3  500 (by rw [hz3]; rfl) ) (cwV 0 hts gX6_leastBeat_X6_tellWays rfl rfl rfl (by decide +kernel) ⟨Nat.le_of_ble_eq_true rfl, Nat.le_of_ble_eq_true rfl⟩) hK hZ hH (by decide) rfl rfl rfl hl.1 rfl (Nat.le_of_ble_eq_true rfl) ⟨Nat.zero_le _, Nat.zero_le _⟩ dX6_leastBeat_45 (fun r4 z4 H locs hp4 hH => ?_)
      obtain ⟨hFz4, g4_0, g4_1, rfl⟩ := hp4
      refine lv_istore (lv' := [(5, .int 0), (4, .int 1001), (3, .int 0), (2, .int 10), (0, .ref (q 0)), (1, .int x1)]) hx hb dX6_leastBeat_48 hl (by decide) rfl (fun ls hl => ?_)
      refine lv_iload hx hb dX6_leastBeat_50 (lv_at hl 0 rfl) ?_
      refine lv_if_lt (tgt := 70) hx hb dX6_leastBeat_52 (by decide) (fun c0 => absurd c0 (by decide)) (fun _ => ?_)
      refine lv_iload hx hb dX6_leastBeat_55 (lv_at hl 0 rfl) ?_
      refine lv_iload_n hx hb dX6_leastBeat_57 rfl (lv_at hl 5 rfl) ?_
      refine lv_icmp_gt (tgt := 70) hx hb dX6_leastBeat_58 (by decide) (fun c0 => absurd c0 (by have e1 : (1 : Int32).toInt = 1 := (by decide); have e10 : (10 : Int32).toInt = 10 := (by decide); try simp only [b_lt, b_le, b_eq] at c1 c2; rw [b_lt]; have e0 : (0 : Int32).toInt = 0 := (by decide); omega)) (fun _ => ?_)
      refine lv_aload_n hx hb dX6_leastBeat_61 rfl (lv_at hl 4 rfl) ?_
      refine b_get (ci := 6) (C := RX6) (T := TX6) (Nf := 29) (v := .int 500) hx hb hts in_X6_leastBeat_X6 hown hK hH 0 (by decide) rfl rfl 8 (by decide) (hts (.fieldLink RX6 28 "StationLineModel" "beat" "I") (List.mem_of_getElem? (i := 1) rfl)) (congrArg (fun x => some (Value.int x)) g4_1) dX6_leastBeat_62 ?_
      refine lv_istore (lv' := [(4, .int 500), (5, .int 0), (3, .int 0), (2, .int 10), (0, .ref (q 0)), (1, .int x1)]) hx hb dX6_leastBeat_65 hl (by decide) rfl (fun ls hl => ?_)
      refine lv_goto (tgt := 75) hx hb dX6_leastBeat_67 (by decide) ?_
      refine lv_goto (tgt := 26) hx hb dX6_leastBeat_75 (by decide) ?_
      refine lv_iload hx hb dX6_leastBeat_26 (lv_at hl 0 rfl) ?_
      refine lv_iload_n hx hb dX6_leastBeat_28 rfl (lv_at hl 2 rfl) ?_
      refine lv_isub hx hb dX6_leastBeat_29 ?_
      refine b_vi (v := 500) (by decide) ?_
      refine lv_iconst (v := 1) hx hb dX6_leastBeat_30 (by decide) ?_
      refine lv_icmp_le (tgt := 78) hx hb dX6_leastBeat_31 (by decide) (fun c0 => absurd c0 (by decide)) (fun _ => ?_)
      refine lv_aload_n hx hb dX6_leastBeat_34 rfl (lv_at hl 4 rfl) ?_
      refine lv_iload_n hx hb dX6_leastBeat_35 rfl (lv_at hl 2 rfl) ?_
      refine lv_iload hx hb dX6_leastBeat_36 (lv_at hl 0 rfl) ?_
      refine lv_iadd hx hb dX6_leastBeat_38 ?_
      refine b_vi (v := 500) (by decide) ?_
      refine lv_iconst (v := 2) hx hb dX6_leastBeat_39 (by decide) ?_
      refine lv_idiv hx hb dX6_leastBeat_40 (by decide) ?_
      refine b_vi (v := 250) (by decide) ?_
      refine b_put (ci := 6) (C := RX6) (T := TX6) (Nf := 29) (v := .int 250) (ty := .int) hx hb hts in_X6_leastBeat_X6 tyX6 tyX6_ok nmX6 hown hK hH 0 (by decide) rfl rfl 8 (by decide) (hts (.fieldLink RX6 28 "StationLineModel" "beat" "I") (List.mem_of_getElem? (i := 1) rfl)) rfl (by decide +kernel) rfl rfl (Nat.le_of_ble_eq_true rfl) (upS z4 2 250) rfl (enM_S2 _ _ _ _) dX6_leastBeat_41 (fun H locs hH => ?_)
      obtain ⟨z5, hz5⟩ : ∃ w : zS, w = upS z4 2 250 := ⟨_, rfl⟩
      rw [← hz5] at hH
      have hFz5 : Fm z5 := by rw [hz5]; exact hFz4
      refine lv_aload_n hx hb dX6_leastBeat_44 rfl (lv_at hl 4 rfl) ?_
      refine b_calli (As := []) (rest := []) ⟨hx, hb, hml, hown, hts⟩ 0 6 (c_X6_tellWays_0 l D cy q hH.2.1 z5 hFz5  250 (by rw [hz5]; rfl) ) (cwV 0 hts gX6_leastBeat_X6_tellWays rfl rfl rfl (by decide +kernel) ⟨Nat.le_of_ble_eq_true rfl, Nat.le_of_ble_eq_true rfl⟩) hK hZ hH (by decide) rfl rfl rfl hl.1 rfl (Nat.le_of_ble_eq_true rfl) ⟨Nat.zero_le _, Nat.zero_le _⟩ dX6_leastBeat_45 (fun r6 z6 H locs hp6 hH => ?_)
      obtain ⟨hFz6, g6_0, g6_1, rfl⟩ := hp6
      refine lv_istore (lv' := [(5, .int 0), (4, .int 500), (3, .int 0), (2, .int 10), (0, .ref (q 0)), (1, .int x1)]) hx hb dX6_leastBeat_48 hl (by decide) rfl (fun ls hl => ?_)
      refine lv_iload hx hb dX6_leastBeat_50 (lv_at hl 0 rfl) ?_
      refine lv_if_lt (tgt := 70) hx hb dX6_leastBeat_52 (by decide) (fun c0 => absurd c0 (by decide)) (fun _ => ?_)
      refine lv_iload hx hb dX6_leastBeat_55 (lv_at hl 0 rfl) ?_
      refine lv_iload_n hx hb dX6_leastBeat_57 rfl (lv_at hl 5 rfl) ?_
      refine lv_icmp_gt (tgt := 70) hx hb dX6_leastBeat_58 (by decide) (fun c0 => absurd c0 (by have e1 : (1 : Int32).toInt = 1 := (by decide); have e10 : (10 : Int32).toInt = 10 := (by decide); try simp only [b_lt, b_le, b_eq] at c1 c2; rw [b_lt]; have e0 : (0 : Int32).toInt = 0 := (by decide); omega)) (fun _ => ?_)
      refine lv_aload_n hx hb dX6_leastBeat_61 rfl (lv_at hl 4 rfl) ?_
      refine b_get (ci := 6) (C := RX6) (T := TX6) (Nf := 29) (v := .int 250) hx hb hts in_X6_leastBeat_X6 hown hK hH 0 (by decide) rfl rfl 8 (by decide) (hts (.fieldLink RX6 28 "StationLineModel" "beat" "I") (List.mem_of_getElem? (i := 1) rfl)) (congrArg (fun x => some (Value.int x)) g6_1) dX6_leastBeat_62 ?_
      refine lv_istore (lv' := [(4, .int 250), (5, .int 0), (3, .int 0), (2, .int 10), (0, .ref (q 0)), (1, .int x1)]) hx hb dX6_leastBeat_65 hl (by decide) rfl (fun ls hl => ?_)
      refine lv_goto (tgt := 75) hx hb dX6_leastBeat_67 (by decide) ?_
      refine lv_goto (tgt := 26) hx hb dX6_leastBeat_75 (by decide) ?_
      refine lv_iload hx hb dX6_leastBeat_26 (lv_at hl 0 rfl) ?_
      refine lv_iload_n hx hb dX6_leastBeat_28 rfl (lv_at hl 2 rfl) ?_
      refine lv_isub hx hb dX6_leastBeat_29 ?_
      refine b_vi (v := 250) (by decide) ?_
      refine lv_iconst (v := 1) hx hb dX6_leastBeat_30 (by decide) ?_
      refine lv_icmp_le (tgt := 78) hx hb dX6_leastBeat_31 (by decide) (fun c0 => absurd c0 (by decide)) (fun _ => ?_)
      refine lv_aload_n hx hb dX6_leastBeat_34 rfl (lv_at hl 4 rfl) ?_
      refine lv_iload_n hx hb dX6_leastBeat_35 rfl (lv_at hl 2 rfl) ?_
      refine lv_iload hx hb dX6_leastBeat_36 (lv_at hl 0 rfl) ?_
      refine lv_iadd hx hb dX6_leastBeat_38 ?_
      refine b_vi (v := 250) (by decide) ?_
      refine lv_iconst (v := 2) hx hb dX6_leastBeat_39 (by decide) ?_
      refine lv_idiv hx hb dX6_leastBeat_40 (by decide) ?_
      refine b_vi (v := 125) (by decide) ?_
      refine b_put (ci := 6) (C := RX6) (T := TX6) (Nf := 29) (v := .int 125) (ty := .int) hx hb hts in_X6_leastBeat_X6 tyX6 tyX6_ok nmX6 hown hK hH 0 (by decide) rfl rfl 8 (by decide) (hts (.fieldLink RX6 28 "StationLineModel" "beat" "I") (List.mem_of_getElem? (i := 1) rfl)) rfl (by decide +kernel) rfl rfl (Nat.le_of_ble_eq_true rfl) (upS z6 2 125) rfl (enM_S2 _ _ _ _) dX6_leastBeat_41 (fun H locs hH => ?_)
      obtain ⟨z7, hz7⟩ : ∃ w : zS, w = upS z6 2 125 := ⟨_, rfl⟩
      rw [← hz7] at hH
      have hFz7 : Fm z7 := by rw [hz7]; exact hFz6
      refine lv_aload_n hx hb dX6_leastBeat_44 rfl (lv_at hl 4 rfl) ?_
      refine b_calli (As := []) (rest := []) ⟨hx, hb, hml, hown, hts⟩ 0 6 (c_X6_tellWays_0 l D cy q hH.2.1 z7 hFz7  125 (by rw [hz7]; rfl) ) (cwV 0 hts gX6_leastBeat_X6_tellWays rfl rfl rfl (by decide +kernel) ⟨Nat.le_of_ble_eq_true rfl, Nat.le_of_ble_eq_true rfl⟩) hK hZ hH (by decide) rfl rfl rfl hl.1 rfl (Nat.le_of_ble_eq_true rfl) ⟨Nat.zero_le _, Nat.zero_le _⟩ dX6_leastBeat_45 (fun r8 z8 H locs hp8 hH => ?_)
      obtain ⟨hFz8, g8_0, g8_1, rfl⟩ := hp8
      refine lv_istore (lv' := [(5, .int 0), (4, .int 250), (3, .int 0), (2, .int 10), (0, .ref (q 0)), (1, .int x1)]) hx hb dX6_leastBeat_48 hl (by decide) rfl (fun ls hl => ?_)
      refine lv_iload hx hb dX6_leastBeat_50 (lv_at hl 0 rfl) ?_
      refine lv_if_lt (tgt := 70) hx hb dX6_leastBeat_52 (by decide) (fun c0 => absurd c0 (by decide)) (fun _ => ?_)
      refine lv_iload hx hb dX6_leastBeat_55 (lv_at hl 0 rfl) ?_
      refine lv_iload_n hx hb dX6_leastBeat_57 rfl (lv_at hl 5 rfl) ?_
      refine lv_icmp_gt (tgt := 70) hx hb dX6_leastBeat_58 (by decide) (fun c0 => absurd c0 (by have e1 : (1 : Int32).toInt = 1 := (by decide); have e10 : (10 : Int32).toInt = 10 := (by decide); try simp only [b_lt, b_le, b_eq] at c1 c2; rw [b_lt]; have e0 : (0 : Int32).toInt = 0 := (by decide); omega)) (fun _ => ?_)
      refine lv_aload_n hx hb dX6_leastBeat_61 rfl (lv_at hl 4 rfl) ?_
      refine b_get (ci := 6) (C := RX6) (T := TX6) (Nf := 29) (v := .int 125) hx hb hts in_X6_leastBeat_X6 hown hK hH 0 (by decide) rfl rfl 8 (by decide) (hts (.fieldLink RX6 28 "StationLineModel" "beat" "I") (List.mem_of_getElem? (i := 1) rfl)) (congrArg (fun x => some (Value.int x)) g8_1) dX6_leastBeat_62 ?_
      refine lv_istore (lv' := [(4, .int 125), (5, .int 0), (3, .int 0), (2, .int 10), (0, .ref (q 0)), (1, .int x1)]) hx hb dX6_leastBeat_65 hl (by decide) rfl (fun ls hl => ?_)
      refine lv_goto (tgt := 75) hx hb dX6_leastBeat_67 (by decide) ?_
      refine lv_goto (tgt := 26) hx hb dX6_leastBeat_75 (by decide) ?_
      refine lv_iload hx hb dX6_leastBeat_26 (lv_at hl 0 rfl) ?_
      refine lv_iload_n hx hb dX6_leastBeat_28 rfl (lv_at hl 2 rfl) ?_
      refine lv_isub hx hb dX6_leastBeat_29 ?_
      refine b_vi (v := 125) (by decide) ?_
      refine lv_iconst (v := 1) hx hb dX6_leastBeat_30 (by decide) ?_
      refine lv_icmp_le (tgt := 78) hx hb dX6_leastBeat_31 (by decide) (fun c0 => absurd c0 (by decide)) (fun _ => ?_)
      refine lv_aload_n hx hb dX6_leastBeat_34 rfl (lv_at hl 4 rfl) ?_
      refine lv_iload_n hx hb dX6_leastBeat_35 rfl (lv_at hl 2 rfl) ?_
      refine lv_iload hx hb dX6_leastBeat_36 (lv_at hl 0 rfl) ?_
      refine lv_iadd hx hb dX6_leastBeat_38 ?_
      refine b_vi (v := 125) (by decide) ?_
      refine lv_iconst (v := 2) hx hb dX6_leastBeat_39 (by decide) ?_
      refine lv_idiv hx hb dX6_leastBeat_40 (by decide) ?_
      refine b_vi (v := 62) (by decide) ?_
      refine b_put (ci := 6) (C := RX6) (T := TX6) (Nf := 29) (v := .int 62) (ty := .int) hx hb hts in_X6_leastBeat_X6 tyX6 tyX6_ok nmX6 hown hK hH 0 (by decide) rfl rfl 8 (by decide) (hts (.fieldLink RX6 28 "StationLineModel" "beat" "I") (List.mem_of_getElem? (i := 1) rfl)) rfl (by decide +kernel) rfl rfl (Nat.le_of_ble_eq_true rfl) (upS z8 2 62) rfl (enM_S2 _ _ _ _) dX6_leastBeat_41 (fun H locs hH => ?_)
      obtain ⟨z9, hz9⟩ : ∃ w : zS, w = upS z8 2 62 := ⟨_, rfl⟩
      rw [← hz9] at hH
      have hFz9 : Fm z9 := by rw [hz9]; exact hFz8
      refine lv_aload_n hx hb dX6_leastBeat_44 rfl (lv_at hl 4 rfl) ?_
      refine b_calli (As := []) (rest := []) ⟨hx, hb, hml, hown, hts⟩ 0 6 (c_X6_tellWays_0 l D cy q hH.2.1 z9 hFz9  62 (by rw [hz9]; rfl) ) (cwV 0 hts gX6_leastBeat_X6_tellWays rfl rfl rfl (by decide +kernel) ⟨Nat.le_of_ble_eq_true rfl, Nat.le_of_ble_eq_true rfl⟩) hK hZ hH (by decide) rfl rfl rfl hl.1 rfl (Nat.le_of_ble_eq_true rfl) ⟨Nat.zero_le _, Nat.zero_le _⟩ dX6_leastBeat_45 (fun r10 z10 H locs hp10 hH => ?_)
      obtain ⟨hFz10, g10_0, g10_1, rfl⟩ := hp10
      refine lv_istore (lv' := [(5, .int 0), (4, .int 125), (3, .int 0), (2, .int 10), (0, .ref (q 0)), (1, .int x1)]) hx hb dX6_leastBeat_48 hl (by decide) rfl (fun ls hl => ?_)
      refine lv_iload hx hb dX6_leastBeat_50 (lv_at hl 0 rfl) ?_
      refine lv_if_lt (tgt := 70) hx hb dX6_leastBeat_52 (by decide) (fun c0 => absurd c0 (by decide)) (fun _ => ?_)
      refine lv_iload hx hb dX6_leastBeat_55 (lv_at hl 0 rfl) ?_
      refine lv_iload_n hx hb dX6_leastBeat_57 rfl (lv_at hl 5 rfl) ?_
      refine lv_icmp_gt (tgt := 70) hx hb dX6_leastBeat_58 (by decide) (fun c0 => absurd c0 (by have e1 : (1 : Int32).toInt = 1 := (by decide); have e10 : (10 : Int32).toInt = 10 := (by decide); try simp only [b_lt, b_le, b_eq] at c1 c2; rw [b_lt]; have e0 : (0 : Int32).toInt = 0 := (by decide); omega)) (fun _ => ?_)
      refine lv_aload_n hx hb dX6_leastBeat_61 rfl (lv_at hl 4 rfl) ?_
      refine b_get (ci := 6) (C := RX6) (T := TX6) (Nf := 29) (v := .int 62) hx hb hts in_X6_leastBeat_X6 hown hK hH 0 (by decide) rfl rfl 8 (by decide) (hts (.fieldLink RX6 28 "StationLineModel" "beat" "I") (List.mem_of_getElem? (i := 1) rfl)) (congrArg (fun x => some (Value.int x)) g10_1) dX6_leastBeat_62 ?_
      refine lv_istore (lv' := [(4, .int 62), (5, .int 0), (3, .int 0), (2, .int 10), (0, .ref (q 0)), (1, .int x1)]) hx hb dX6_leastBeat_65 hl (by decide) rfl (fun ls hl => ?_)
      refine lv_goto (tgt := 75) hx hb dX6_leastBeat_67 (by decide) ?_
      refine lv_goto (tgt := 26) hx hb dX6_leastBeat_75 (by decide) ?_
      refine lv_iload hx hb dX6_leastBeat_26 (lv_at hl 0 rfl) ?_
      refine lv_iload_n hx hb dX6_leastBeat_28 rfl (lv_at hl 2 rfl) ?_
      refine lv_isub hx hb dX6_leastBeat_29 ?_
      refine b_vi (v := 62) (by decide) ?_
      refine lv_iconst (v := 1) hx hb dX6_leastBeat_30 (by decide) ?_
      refine lv_icmp_le (tgt := 78) hx hb dX6_leastBeat_31 (by decide) (fun c0 => absurd c0 (by decide)) (fun _ => ?_)
      refine lv_aload_n hx hb dX6_leastBeat_34 rfl (lv_at hl 4 rfl) ?_
      refine lv_iload_n hx hb dX6_leastBeat_35 rfl (lv_at hl 2 rfl) ?_
      refine lv_iload hx hb dX6_leastBeat_36 (lv_at hl 0 rfl) ?_
      refine lv_iadd hx hb dX6_leastBeat_38 ?_
      refine b_vi (v := 62) (by decide) ?_
      refine lv_iconst (v := 2) hx hb dX6_leastBeat_39 (by decide) ?_
      refine lv_idiv hx hb dX6_leastBeat_40 (by decide) ?_
      refine b_vi (v := 31) (by decide) ?_
      refine b_put (ci := 6) (C := RX6) (T := TX6) (Nf := 29) (v := .int 31) (ty := .int) hx hb hts in_X6_leastBeat_X6 tyX6 tyX6_ok nmX6 hown hK hH 0 (by decide) rfl rfl 8 (by decide) (hts (.fieldLink RX6 28 "StationLineModel" "beat" "I") (List.mem_of_getElem? (i := 1) rfl)) rfl (by decide +kernel) rfl rfl (Nat.le_of_ble_eq_true rfl) (upS z10 2 31) rfl (enM_S2 _ _ _ _) dX6_leastBeat_41 (fun H locs hH => ?_)
      obtain ⟨z11, hz11⟩ : ∃ w : zS, w = upS z10 2 31 := ⟨_, rfl⟩
      rw [← hz11] at hH
      have hFz11 : Fm z11 := by rw [hz11]; exact hFz10
      refine lv_aload_n hx hb dX6_leastBeat_44 rfl (lv_at hl 4 rfl) ?_
      refine b_calli (As := []) (rest := []) ⟨hx, hb, hml, hown, hts⟩ 0 6 (c_X6_tellWays_0 l D cy q hH.2.1 z11 hFz11  31 (by rw [hz11]; rfl) ) (cwV 0 hts gX6_leastBeat_X6_tellWays rfl rfl rfl (by decide +kernel) ⟨Nat.le_of_ble_eq_true rfl, Nat.le_of_ble_eq_true rfl⟩) hK hZ hH (by decide) rfl rfl rfl hl.1 rfl (Nat.le_of_ble_eq_true rfl) ⟨Nat.zero_le _, Nat.zero_le _⟩ dX6_leastBeat_45 (fun r12 z12 H locs hp12 hH => ?_)
      obtain ⟨hFz12, g12_0, g12_1, rfl⟩ := hp12
      refine lv_istore (lv' := [(5, .int 0), (4, .int 62), (3, .int 0), (2, .int 10), (0, .ref (q 0)), (1, .int x1)]) hx hb dX6_leastBeat_48 hl (by decide) rfl (fun ls hl => ?_)
      refine lv_iload hx hb dX6_leastBeat_50 (lv_at hl 0 rfl) ?_
      refine lv_if_lt (tgt := 70) hx hb dX6_leastBeat_52 (by decide) (fun c0 => absurd c0 (by decide)) (fun _ => ?_)
      refine lv_iload hx hb dX6_leastBeat_55 (lv_at hl 0 rfl) ?_
      refine lv_iload_n hx hb dX6_leastBeat_57 rfl (lv_at hl 5 rfl) ?_
      refine lv_icmp_gt (tgt := 70) hx hb dX6_leastBeat_58 (by decide) (fun c0 => absurd c0 (by have e1 : (1 : Int32).toInt = 1 := (by decide); have e10 : (10 : Int32).toInt = 10 := (by decide); try simp only [b_lt, b_le, b_eq] at c1 c2; rw [b_lt]; have e0 : (0 : Int32).toInt = 0 := (by decide); omega)) (fun _ => ?_)
      refine lv_aload_n hx hb dX6_leastBeat_61 rfl (lv_at hl 4 rfl) ?_
      refine b_get (ci := 6) (C := RX6) (T := TX6) (Nf := 29) (v := .int 31) hx hb hts in_X6_leastBeat_X6 hown hK hH 0 (by decide) rfl rfl 8 (by decide) (hts (.fieldLink RX6 28 "StationLineModel" "beat" "I") (List.mem_of_getElem? (i := 1) rfl)) (congrArg (fun x => some (Value.int x)) g12_1) dX6_leastBeat_62 ?_
      refine lv_istore (lv' := [(4, .int 31), (5, .int 0), (3, .int 0), (2, .int 10), (0, .ref (q 0)), (1, .int x1)]) hx hb dX6_leastBeat_65 hl (by decide) rfl (fun ls hl => ?_)
      refine lv_goto (tgt := 75) hx hb dX6_leastBeat_67 (by decide) ?_
      refine lv_goto (tgt := 26) hx hb dX6_leastBeat_75 (by decide) ?_
      refine lv_iload hx hb dX6_leastBeat_26 (lv_at hl 0 rfl) ?_
      refine lv_iload_n hx hb dX6_leastBeat_28 rfl (lv_at hl 2 rfl) ?_
      refine lv_isub hx hb dX6_leastBeat_29 ?_
      refine b_vi (v := 31) (by decide) ?_
      refine lv_iconst (v := 1) hx hb dX6_leastBeat_30 (by decide) ?_
      refine lv_icmp_le (tgt := 78) hx hb dX6_leastBeat_31 (by decide) (fun c0 => absurd c0 (by decide)) (fun _ => ?_)
      refine lv_aload_n hx hb dX6_leastBeat_34 rfl (lv_at hl 4 rfl) ?_
      refine lv_iload_n hx hb dX6_leastBeat_35 rfl (lv_at hl 2 rfl) ?_
      refine lv_iload hx hb dX6_leastBeat_36 (lv_at hl 0 rfl) ?_
      refine lv_iadd hx hb dX6_leastBeat_38 ?_
      refine b_vi (v := 31) (by decide) ?_
      refine lv_iconst (v := 2) hx hb dX6_leastBeat_39 (by decide) ?_
      refine lv_idiv hx hb dX6_leastBeat_40 (by decide) ?_
      refine b_vi (v := 15) (by decide) ?_
      refine b_put (ci := 6) (C := RX6) (T := TX6) (Nf := 29) (v := .int 15) (ty := .int) hx hb hts in_X6_leastBeat_X6 tyX6 tyX6_ok nmX6 hown hK hH 0 (by decide) rfl rfl 8 (by decide) (hts (.fieldLink RX6 28 "StationLineModel" "beat" "I") (List.mem_of_getElem? (i := 1) rfl)) rfl (by decide +kernel) rfl rfl (Nat.le_of_ble_eq_true rfl) (upS z12 2 15) rfl (enM_S2 _ _ _ _) dX6_leastBeat_41 (fun H locs hH => ?_)
      obtain ⟨z13, hz13⟩ : ∃ w : zS, w = upS z12 2 15 := ⟨_, rfl⟩
      rw [← hz13] at hH
      have hFz13 : Fm z13 := by rw [hz13]; exact hFz12
      refine lv_aload_n hx hb dX6_leastBeat_44 rfl (lv_at hl 4 rfl) ?_
      refine b_calli (As := []) (rest := []) ⟨hx, hb, hml, hown, hts⟩ 0 6 (c_X6_tellWays_0 l D cy q hH.2.1 z13 hFz13  15 (by rw [hz13]; rfl) ) (cwV 0 hts gX6_leastBeat_X6_tellWays rfl rfl rfl (by decide +kernel) ⟨Nat.le_of_ble_eq_true rfl, Nat.le_of_ble_eq_true rfl⟩) hK hZ hH (by decide) rfl rfl rfl hl.1 rfl (Nat.le_of_ble_eq_true rfl) ⟨Nat.zero_le _, Nat.zero_le _⟩ dX6_leastBeat_45 (fun r14 z14 H locs hp14 hH => ?_)
      obtain ⟨hFz14, g14_0, g14_1, rfl⟩ := hp14
      refine lv_istore (lv' := [(5, .int 0), (4, .int 31), (3, .int 0), (2, .int 10), (0, .ref (q 0)), (1, .int x1)]) hx hb dX6_leastBeat_48 hl (by decide) rfl (fun ls hl => ?_)
      refine lv_iload hx hb dX6_leastBeat_50 (lv_at hl 0 rfl) ?_
      refine lv_if_lt (tgt := 70) hx hb dX6_leastBeat_52 (by decide) (fun c0 => absurd c0 (by decide)) (fun _ => ?_)
      refine lv_iload hx hb dX6_leastBeat_55 (lv_at hl 0 rfl) ?_
      refine lv_iload_n hx hb dX6_leastBeat_57 rfl (lv_at hl 5 rfl) ?_
      refine lv_icmp_gt (tgt := 70) hx hb dX6_leastBeat_58 (by decide) (fun c0 => absurd c0 (by have e1 : (1 : Int32).toInt = 1 := (by decide); have e10 : (10 : Int32).toInt = 10 := (by decide); try simp only [b_lt, b_le, b_eq] at c1 c2; rw [b_lt]; have e0 : (0 : Int32).toInt = 0 := (by decide); omega)) (fun _ => ?_)
      refine lv_aload_n hx hb dX6_leastBeat_61 rfl (lv_at hl 4 rfl) ?_
      refine b_get (ci := 6) (C := RX6) (T := TX6) (Nf := 29) (v := .int 15) hx hb hts in_X6_leastBeat_X6 hown hK hH 0 (by decide) rfl rfl 8 (by decide) (hts (.fieldLink RX6 28 "StationLineModel" "beat" "I") (List.mem_of_getElem? (i := 1) rfl)) (congrArg (fun x => some (Value.int x)) g14_1) dX6_leastBeat_62 ?_
      refine lv_istore (lv' := [(4, .int 15), (5, .int 0), (3, .int 0), (2, .int 10), (0, .ref (q 0)), (1, .int x1)]) hx hb dX6_leastBeat_65 hl (by decide) rfl (fun ls hl => ?_)
      refine lv_goto (tgt := 75) hx hb dX6_leastBeat_67 (by decide) ?_
      refine lv_goto (tgt := 26) hx hb dX6_leastBeat_75 (by decide) ?_
      refine lv_iload hx hb dX6_leastBeat_26 (lv_at hl 0 rfl) ?_
      refine lv_iload_n hx hb dX6_leastBeat_28 rfl (lv_at hl 2 rfl) ?_
      refine lv_isub hx hb dX6_leastBeat_29 ?_
      refine b_vi (v := 15) (by decide) ?_
      refine lv_iconst (v := 1) hx hb dX6_leastBeat_30 (by decide) ?_
      refine lv_icmp_le (tgt := 78) hx hb dX6_leastBeat_31 (by decide) (fun c0 => absurd c0 (by decide)) (fun _ => ?_)
      refine lv_aload_n hx hb dX6_leastBeat_34 rfl (lv_at hl 4 rfl) ?_
      refine lv_iload_n hx hb dX6_leastBeat_35 rfl (lv_at hl 2 rfl) ?_
      refine lv_iload hx hb dX6_leastBeat_36 (lv_at hl 0 rfl) ?_
      refine lv_iadd hx hb dX6_leastBeat_38 ?_
      refine b_vi (v := 15) (by decide) ?_
      refine lv_iconst (v := 2) hx hb dX6_leastBeat_39 (by decide) ?_
      refine lv_idiv hx hb dX6_leastBeat_40 (by decide) ?_
      refine b_vi (v := 7) (by decide) ?_
      refine b_put (ci := 6) (C := RX6) (T := TX6) (Nf := 29) (v := .int 7) (ty := .int) hx hb hts in_X6_leastBeat_X6 tyX6 tyX6_ok nmX6 hown hK hH 0 (by decide) rfl rfl 8 (by decide) (hts (.fieldLink RX6 28 "StationLineModel" "beat" "I") (List.mem_of_getElem? (i := 1) rfl)) rfl (by decide +kernel) rfl rfl (Nat.le_of_ble_eq_true rfl) (upS z14 2 7) rfl (enM_S2 _ _ _ _) dX6_leastBeat_41 (fun H locs hH => ?_)
      obtain ⟨z15, hz15⟩ : ∃ w : zS, w = upS z14 2 7 := ⟨_, rfl⟩
      rw [← hz15] at hH
      have hFz15 : Fm z15 := by rw [hz15]; exact hFz14
      refine lv_aload_n hx hb dX6_leastBeat_44 rfl (lv_at hl 4 rfl) ?_
      refine b_calli (As := []) (rest := []) ⟨hx, hb, hml, hown, hts⟩ 0 6 (c_X6_tellWays_0 l D cy q hH.2.1 z15 hFz15  7 (by rw [hz15]; rfl) ) (cwV 0 hts gX6_leastBeat_X6_tellWays rfl rfl rfl (by decide +kernel) ⟨Nat.le_of_ble_eq_true rfl, Nat.le_of_ble_eq_true rfl⟩) hK hZ hH (by decide) rfl rfl rfl hl.1 rfl (Nat.le_of_ble_eq_true rfl) ⟨Nat.zero_le _, Nat.zero_le _⟩ dX6_leastBeat_45 (fun r16 z16 H locs hp16 hH => ?_)
      obtain ⟨hFz16, g16_0, g16_1, rfl⟩ := hp16
      refine lv_istore (lv' := [(5, .int 0), (4, .int 15), (3, .int 0), (2, .int 10), (0, .ref (q 0)), (1, .int x1)]) hx hb dX6_leastBeat_48 hl (by decide) rfl (fun ls hl => ?_)
      refine lv_iload hx hb dX6_leastBeat_50 (lv_at hl 0 rfl) ?_
      refine lv_if_lt (tgt := 70) hx hb dX6_leastBeat_52 (by decide) (fun c0 => absurd c0 (by decide)) (fun _ => ?_)
      refine lv_iload hx hb dX6_leastBeat_55 (lv_at hl 0 rfl) ?_
      refine lv_iload_n hx hb dX6_leastBeat_57 rfl (lv_at hl 5 rfl) ?_
      refine lv_icmp_gt (tgt := 70) hx hb dX6_leastBeat_58 (by decide) (fun c0 => absurd c0 (by have e1 : (1 : Int32).toInt = 1 := (by decide); have e10 : (10 : Int32).toInt = 10 := (by decide); try simp only [b_lt, b_le, b_eq] at c1 c2; rw [b_lt]; have e0 : (0 : Int32).toInt = 0 := (by decide); omega)) (fun _ => ?_)
      refine lv_aload_n hx hb dX6_leastBeat_61 rfl (lv_at hl 4 rfl) ?_
      refine b_get (ci := 6) (C := RX6) (T := TX6) (Nf := 29) (v := .int 7) hx hb hts in_X6_leastBeat_X6 hown hK hH 0 (by decide) rfl rfl 8 (by decide) (hts (.fieldLink RX6 28 "StationLineModel" "beat" "I") (List.mem_of_getElem? (i := 1) rfl)) (congrArg (fun x => some (Value.int x)) g16_1) dX6_leastBeat_62 ?_
      refine lv_istore (lv' := [(4, .int 7), (5, .int 0), (3, .int 0), (2, .int 10), (0, .ref (q 0)), (1, .int x1)]) hx hb dX6_leastBeat_65 hl (by decide) rfl (fun ls hl => ?_)
      refine lv_goto (tgt := 75) hx hb dX6_leastBeat_67 (by decide) ?_
      refine lv_goto (tgt := 26) hx hb dX6_leastBeat_75 (by decide) ?_
      refine lv_iload hx hb dX6_leastBeat_26 (lv_at hl 0 rfl) ?_
      refine lv_iload_n hx hb dX6_leastBeat_28 rfl (lv_at hl 2 rfl) ?_
      refine lv_isub hx hb dX6_leastBeat_29 ?_
      refine b_vi (v := 7) (by decide) ?_
      refine lv_iconst (v := 1) hx hb dX6_leastBeat_30 (by decide) ?_
      refine lv_icmp_le (tgt := 78) hx hb dX6_leastBeat_31 (by decide) (fun c0 => absurd c0 (by decide)) (fun _ => ?_)
      refine lv_aload_n hx hb dX6_leastBeat_34 rfl (lv_at hl 4 rfl) ?_
      refine lv_iload_n hx hb dX6_leastBeat_35 rfl (lv_at hl 2 rfl) ?_
      refine lv_iload hx hb dX6_leastBeat_36 (lv_at hl 0 rfl) ?_
      refine lv_iadd hx hb dX6_leastBeat_38 ?_
      refine b_vi (v := 7) (by decide) ?_
      refine lv_iconst (v := 2) hx hb dX6_leastBeat_39 (by decide) ?_
      refine lv_idiv hx hb dX6_leastBeat_40 (by decide) ?_
      refine b_vi (v := 3) (by decide) ?_
      refine b_put (ci := 6) (C := RX6) (T := TX6) (Nf := 29) (v := .int 3) (ty := .int) hx hb hts in_X6_leastBeat_X6 tyX6 tyX6_ok nmX6 hown hK hH 0 (by decide) rfl rfl 8 (by decide) (hts (.fieldLink RX6 28 "StationLineModel" "beat" "I") (List.mem_of_getElem? (i := 1) rfl)) rfl (by decide +kernel) rfl rfl (Nat.le_of_ble_eq_true rfl) (upS z16 2 3) rfl (enM_S2 _ _ _ _) dX6_leastBeat_41 (fun H locs hH => ?_)
      obtain ⟨z17, hz17⟩ : ∃ w : zS, w = upS z16 2 3 := ⟨_, rfl⟩
      rw [← hz17] at hH
      have hFz17 : Fm z17 := by rw [hz17]; exact hFz16
      refine lv_aload_n hx hb dX6_leastBeat_44 rfl (lv_at hl 4 rfl) ?_
      refine b_calli (As := []) (rest := []) ⟨hx, hb, hml, hown, hts⟩ 0 6 (c_X6_tellWays_0 l D cy q hH.2.1 z17 hFz17  3 (by rw [hz17]; rfl) ) (cwV 0 hts gX6_leastBeat_X6_tellWays rfl rfl rfl (by decide +kernel) ⟨Nat.le_of_ble_eq_true rfl, Nat.le_of_ble_eq_true rfl⟩) hK hZ hH (by decide) rfl rfl rfl hl.1 rfl (Nat.le_of_ble_eq_true rfl) ⟨Nat.zero_le _, Nat.zero_le _⟩ dX6_leastBeat_45 (fun r18 z18 H locs hp18 hH => ?_)
      obtain ⟨hFz18, g18_0, g18_1, rfl⟩ := hp18
      refine lv_istore (lv' := [(5, .int 0), (4, .int 7), (3, .int 0), (2, .int 10), (0, .ref (q 0)), (1, .int x1)]) hx hb dX6_leastBeat_48 hl (by decide) rfl (fun ls hl => ?_)
      refine lv_iload hx hb dX6_leastBeat_50 (lv_at hl 0 rfl) ?_
      refine lv_if_lt (tgt := 70) hx hb dX6_leastBeat_52 (by decide) (fun c0 => absurd c0 (by decide)) (fun _ => ?_)
      refine lv_iload hx hb dX6_leastBeat_55 (lv_at hl 0 rfl) ?_
      refine lv_iload_n hx hb dX6_leastBeat_57 rfl (lv_at hl 5 rfl) ?_
      refine lv_icmp_gt (tgt := 70) hx hb dX6_leastBeat_58 (by decide) (fun c0 => absurd c0 (by have e1 : (1 : Int32).toInt = 1 := (by decide); have e10 : (10 : Int32).toInt = 10 := (by decide); try simp only [b_lt, b_le, b_eq] at c1 c2; rw [b_lt]; have e0 : (0 : Int32).toInt = 0 := (by decide); omega)) (fun _ => ?_)
      refine lv_aload_n hx hb dX6_leastBeat_61 rfl (lv_at hl 4 rfl) ?_
      refine b_get (ci := 6) (C := RX6) (T := TX6) (Nf := 29) (v := .int 3) hx hb hts in_X6_leastBeat_X6 hown hK hH 0 (by decide) rfl rfl 8 (by decide) (hts (.fieldLink RX6 28 "StationLineModel" "beat" "I") (List.mem_of_getElem? (i := 1) rfl)) (congrArg (fun x => some (Value.int x)) g18_1) dX6_leastBeat_62 ?_
      refine lv_istore (lv' := [(4, .int 3), (5, .int 0), (3, .int 0), (2, .int 10), (0, .ref (q 0)), (1, .int x1)]) hx hb dX6_leastBeat_65 hl (by decide) rfl (fun ls hl => ?_)
      refine lv_goto (tgt := 75) hx hb dX6_leastBeat_67 (by decide) ?_
      refine lv_goto (tgt := 26) hx hb dX6_leastBeat_75 (by decide) ?_
      refine lv_iload hx hb dX6_leastBeat_26 (lv_at hl 0 rfl) ?_
      refine lv_iload_n hx hb dX6_leastBeat_28 rfl (lv_at hl 2 rfl) ?_
      refine lv_isub hx hb dX6_leastBeat_29 ?_
      refine b_vi (v := 3) (by decide) ?_
      refine lv_iconst (v := 1) hx hb dX6_leastBeat_30 (by decide) ?_
      refine lv_icmp_le (tgt := 78) hx hb dX6_leastBeat_31 (by decide) (fun c0 => absurd c0 (by decide)) (fun _ => ?_)
      refine lv_aload_n hx hb dX6_leastBeat_34 rfl (lv_at hl 4 rfl) ?_
      refine lv_iload_n hx hb dX6_leastBeat_35 rfl (lv_at hl 2 rfl) ?_
      refine lv_iload hx hb dX6_leastBeat_36 (lv_at hl 0 rfl) ?_
      refine lv_iadd hx hb dX6_leastBeat_38 ?_
      refine b_vi (v := 3) (by decide) ?_
      refine lv_iconst (v := 2) hx hb dX6_leastBeat_39 (by decide) ?_
      refine lv_idiv hx hb dX6_leastBeat_40 (by decide) ?_
      refine b_vi (v := 1) (by decide) ?_
      refine b_put (ci := 6) (C := RX6) (T := TX6) (Nf := 29) (v := .int 1) (ty := .int) hx hb hts in_X6_leastBeat_X6 tyX6 tyX6_ok nmX6 hown hK hH 0 (by decide) rfl rfl 8 (by decide) (hts (.fieldLink RX6 28 "StationLineModel" "beat" "I") (List.mem_of_getElem? (i := 1) rfl)) rfl (by decide +kernel) rfl rfl (Nat.le_of_ble_eq_true rfl) (upS z18 2 1) rfl (enM_S2 _ _ _ _) dX6_leastBeat_41 (fun H locs hH => ?_)
      obtain ⟨z19, hz19⟩ : ∃ w : zS, w = upS z18 2 1 := ⟨_, rfl⟩
      rw [← hz19] at hH
      have hFz19 : Fm z19 := by rw [hz19]; exact hFz18
      refine lv_aload_n hx hb dX6_leastBeat_44 rfl (lv_at hl 4 rfl) ?_
      refine b_calli (As := []) (rest := []) ⟨hx, hb, hml, hown, hts⟩ 0 6 (c_X6_tellWays_0 l D cy q hH.2.1 z19 hFz19  1 (by rw [hz19]; rfl) ) (cwV 0 hts gX6_leastBeat_X6_tellWays rfl rfl rfl (by decide +kernel) ⟨Nat.le_of_ble_eq_true rfl, Nat.le_of_ble_eq_true rfl⟩) hK hZ hH (by decide) rfl rfl rfl hl.1 rfl (Nat.le_of_ble_eq_true rfl) ⟨Nat.zero_le _, Nat.zero_le _⟩ dX6_leastBeat_45 (fun r20 z20 H locs hp20 hH => ?_)
      obtain ⟨hFz20, g20_0, g20_1, rfl⟩ := hp20
      refine lv_istore (lv' := [(5, .int 0), (4, .int 3), (3, .int 0), (2, .int 10), (0, .ref (q 0)), (1, .int x1)]) hx hb dX6_leastBeat_48 hl (by decide) rfl (fun ls hl => ?_)
      refine lv_iload hx hb dX6_leastBeat_50 (lv_at hl 0 rfl) ?_
      refine lv_if_lt (tgt := 70) hx hb dX6_leastBeat_52 (by decide) (fun c0 => absurd c0 (by decide)) (fun _ => ?_)
      refine lv_iload hx hb dX6_leastBeat_55 (lv_at hl 0 rfl) ?_
      refine lv_iload_n hx hb dX6_leastBeat_57 rfl (lv_at hl 5 rfl) ?_
      refine lv_icmp_gt (tgt := 70) hx hb dX6_leastBeat_58 (by decide) (fun c0 => absurd c0 (by have e1 : (1 : Int32).toInt = 1 := (by decide); have e10 : (10 : Int32).toInt = 10 := (by decide); try simp only [b_lt, b_le, b_eq] at c1 c2; rw [b_lt]; have e0 : (0 : Int32).toInt = 0 := (by decide); omega)) (fun _ => ?_)
      refine lv_aload_n hx hb dX6_leastBeat_61 rfl (lv_at hl 4 rfl) ?_
      refine b_get (ci := 6) (C := RX6) (T := TX6) (Nf := 29) (v := .int 1) hx hb hts in_X6_leastBeat_X6 hown hK hH 0 (by decide) rfl rfl 8 (by decide) (hts (.fieldLink RX6 28 "StationLineModel" "beat" "I") (List.mem_of_getElem? (i := 1) rfl)) (congrArg (fun x => some (Value.int x)) g20_1) dX6_leastBeat_62 ?_
      refine lv_istore (lv' := [(4, .int 1), (5, .int 0), (3, .int 0), (2, .int 10), (0, .ref (q 0)), (1, .int x1)]) hx hb dX6_leastBeat_65 hl (by decide) rfl (fun ls hl => ?_)
      refine lv_goto (tgt := 75) hx hb dX6_leastBeat_67 (by decide) ?_
      refine lv_goto (tgt := 26) hx hb dX6_leastBeat_75 (by decide) ?_
      refine lv_iload hx hb dX6_leastBeat_26 (lv_at hl 0 rfl) ?_
      refine lv_iload_n hx hb dX6_leastBeat_28 rfl (lv_at hl 2 rfl) ?_
      refine lv_isub hx hb dX6_leastBeat_29 ?_
      refine b_vi (v := 1) (by decide) ?_
      refine lv_iconst (v := 1) hx hb dX6_leastBeat_30 (by decide) ?_
      refine lv_icmp_le (tgt := 78) hx hb dX6_leastBeat_31 (by decide) (fun _ => ?_) (fun c0 => absurd c0 (by decide))
      refine lv_aload_n hx hb dX6_leastBeat_78 rfl (lv_at hl 4 rfl) ?_
      refine lv_iload_n hx hb dX6_leastBeat_79 rfl (lv_at hl 3 rfl) ?_
      refine b_put (ci := 6) (C := RX6) (T := TX6) (Nf := 29) (v := .int 10) (ty := .int) hx hb hts in_X6_leastBeat_X6 tyX6 tyX6_ok nmX6 hown hK hH 0 (by decide) rfl rfl 8 (by decide) (hts (.fieldLink RX6 28 "StationLineModel" "beat" "I") (List.mem_of_getElem? (i := 1) rfl)) rfl (by decide +kernel) rfl rfl (Nat.le_of_ble_eq_true rfl) (upS z20 2 10) rfl (enM_S2 _ _ _ _) dX6_leastBeat_80 (fun H locs hH => ?_)
      obtain ⟨z21, hz21⟩ : ∃ w : zS, w = upS z20 2 10 := ⟨_, rfl⟩
      rw [← hz21] at hH
      have hFz21 : Fm z21 := by rw [hz21]; exact hFz20
      refine lv_iload hx hb dX6_leastBeat_83 (lv_at hl 0 rfl) ?_
      refine lv_sipush (v := 1000) hx hb dX6_leastBeat_85 (by decide) ?_
      refine lv_icmp_le (tgt := 96) hx hb dX6_leastBeat_88 (by decide) (fun _ => ?_) (fun c0 => absurd c0 (by decide))
      refine lv_iload hx hb dX6_leastBeat_96 (lv_at hl 0 rfl) ?_
      exact b_iret hx hb hr hlocks hH ((by have e1 : (1 : Int32).toInt = 1 := (by decide); have e10 : (10 : Int32).toInt = 10 := (by decide); try simp only [b_lt, b_le, b_eq] at c1 c2; first | rfl | (unfold o_leastBeat; (repeat' split) <;> first | rfl | omega))) dX6_leastBeat_98
    · skip
      refine lv_bipush (v := (-2)) hx hb dX6_leastBeat_11 (by decide) ?_
      exact b_iret hx hb hr hlocks hH ((by have e1 : (1 : Int32).toInt = 1 := (by decide); have e10 : (10 : Int32).toInt = 10 := (by decide); try simp only [b_lt, b_le, b_eq] at c1 c2; first | rfl | (unfold o_leastBeat; (repeat' split) <;> first | rfl | omega))) dX6_leastBeat_13
set_option maxHeartbeats 4000000 in
set_option maxRecDepth 100000 in
theorem c_X6_bound (l : Launch) (D : va_G) (cy : Nat → ClassId) (q : Nat → Nat) (hq : bJ 23 q) (z : zS) (hF : Fm z) (h10 : z.1 2 = 10) (x1 : Int32) : bCi l yX6_bound wsX6_bound ({ frames := 3, cells := 0, slots := 0, locals := 69 }) D cy 23 (enM cy) q z [.ref (q 0), .int x1] (fun r _ => (o_bound x1 : Int32) = r) := by
  intro sz
  refine Met.ofW (cc := cX6_bound) (maxL := 6) (ret := (some .int)) (by decide) rfl ?_
  intro p e s m args below meth c s₁ B hml hv
  obtain ⟨rfl, hsz, hP, hK, hZ⟩ := hv
  have hx := B.exec
  have hb := B.bytes
  have hr := B.returns
  have hts := atoms_spec (ws := wsX6_bound) B.pre
  have hown : s.vm.findClass RX6 = some m.cls := findClass_of_methodNamed B.named
  have hlocks := B.notSynchronized
  subst hsz
  have hH : bH D 23 (enM cy) q z s.heap s.heap [] := bH_in hq hP
  have hl := lv_entry ([.ref (q 0), .int x1]) (n := 6) (Nat.le_of_ble_eq_true rfl)
  rw [lg_entry_eq]
  generalize (lg_sl ([.ref (q 0), .int x1]) ++ List.replicate (6 - (lg_sl ([.ref (q 0), .int x1])).length) Slot.unset).toArray = ls at hl ⊢
  have hl : lv_has ls 6 [(0, .ref (q 0)), (1, .int x1)] := hl
  refine lv_iload_n hx hb dX6_bound_0 rfl (lv_at hl 1 rfl) ?_
  refine lv_if_lt (tgt := 9) hx hb dX6_bound_1 (by decide) (fun c1 => ?_) (fun c1 => ?_)
  · skip
    refine lv_bipush (v := (-2)) hx hb dX6_bound_9 (by decide) ?_
    exact b_iret hx hb hr hlocks hH ((by have e0 : (0 : Int32).toInt = 0 := (by decide); try simp only [b_lt, b_le, b_eq] at c1; first | rfl | (unfold o_bound; (repeat' split) <;> first | rfl | omega))) dX6_bound_11
  · skip
    refine lv_iload_n hx hb dX6_bound_4 rfl (lv_at hl 1 rfl) ?_
    refine lv_iconst (v := 1) hx hb dX6_bound_5 (by decide) ?_
    refine lv_icmp_le (tgt := 12) hx hb dX6_bound_6 (by decide) (fun c2 => ?_) (fun c2 => ?_)
    · skip
      refine lv_iload_n hx hb dX6_bound_12 rfl (lv_at hl 1 rfl) ?_
      refine lv_if_ne (tgt := 29) hx hb dX6_bound_13 (by decide) (fun c3 => ?_) (fun c3 => ?_)
      · skip
        refine lv_iconst (v := 0) hx hb dX6_bound_29 (by decide) ?_
        refine lv_istore_n (lv' := [(2, .int 0), (0, .ref (q 0)), (1, .int x1)]) hx hb dX6_bound_30 rfl hl (by decide) rfl (fun ls hl => ?_)
        refine lv_iconst (v := 0) hx hb dX6_bound_31 (by decide) ?_
        refine lv_istore_n (lv' := [(3, .int 0), (2, .int 0), (0, .ref (q 0)), (1, .int x1)]) hx hb dX6_bound_32 rfl hl (by decide) rfl (fun ls hl => ?_)
        refine lv_iconst (v := 0) hx hb dX6_bound_33 (by decide) ?_
        refine lv_istore (lv' := [(4, .int 0), (3, .int 0), (2, .int 0), (0, .ref (q 0)), (1, .int x1)]) hx hb dX6_bound_34 hl (by decide) rfl (fun ls hl => ?_)
        refine lv_iload hx hb dX6_bound_36 (lv_at hl 0 rfl) ?_
        refine lv_aload_n hx hb dX6_bound_38 rfl (lv_at hl 3 rfl) ?_
        refine b_get (ci := 6) (C := RX6) (T := TX6) (Nf := 29) (v := .int 0) hx hb hts in_X6_bound_X6 hown hK hH 0 (by decide) rfl rfl 0 (by decide) (hts (.fieldLink RX6 85 "StationLineModel" "tasks" "I") (List.mem_of_getElem? (i := 1) rfl)) (congrArg (fun x => some (Value.int x)) (Fm_0 hF)) dX6_bound_39 ?_
        refine lv_icmp_ge (tgt := 97) hx hb dX6_bound_42 (by decide) (fun _ => ?_) (fun c0 => absurd c0 (by decide))
        refine lv_iload_n hx hb dX6_bound_97 rfl (lv_at hl 2 rfl) ?_
        refine lv_iload_n hx hb dX6_bound_98 rfl (lv_at hl 1 rfl) ?_
        refine lv_iconst (v := 1) hx hb dX6_bound_99 (by decide) ?_
        refine lv_iadd hx hb dX6_bound_100 ?_
        refine b_vi (v := 1) (by decide) ?_
        refine lv_iconst (v := 2) hx hb dX6_bound_101 (by decide) ?_
        refine lv_idiv hx hb dX6_bound_102 (by decide) ?_
        refine b_vi (v := 0) (by decide) ?_
        refine lv_iadd hx hb dX6_bound_103 ?_
        refine b_vi (v := 0) (by decide) ?_
        exact b_iret hx hb hr hlocks hH ((by have e0 : (0 : Int32).toInt = 0 := (by decide); have e1 : (1 : Int32).toInt = 1 := (by decide); try simp only [b_lt, b_le, b_eq] at c1 c2 c3; first | rfl | (unfold o_bound; (repeat' split) <;> first | rfl | omega))) dX6_bound_104
      · skip
        refine lv_aload_n hx hb dX6_bound_16 rfl (lv_at hl 0 rfl) ?_
        refine lv_aload_n hx hb dX6_bound_17 rfl (lv_at hl 0 rfl) ?_
        refine lv_aload_n hx hb dX6_bound_18 rfl (lv_at hl 0 rfl) ?_
        refine b_calli (As := []) (rest := [.ref (q 0), .ref (q 0)]) ⟨hx, hb, hml, hown, hts⟩ 0 6 (c_X6_all_0 l D cy q hH.2.1 z hF  ) (cwV 0 hts gX6_bound_X6_all rfl rfl rfl (by decide +kernel) ⟨Nat.le_of_ble_eq_true rfl, Nat.le_of_ble_eq_true rfl⟩) hK hZ hH (by decide) rfl rfl rfl hl.1 rfl (Nat.le_of_ble_eq_true rfl) ⟨Nat.zero_le _, Nat.zero_le _⟩ dX6_bound_19 (fun r4 z4 H locs hp4 hH => ?_)
        obtain ⟨rfl, rfl⟩ := hp4
        refine b_calli (As := [.int 0]) (rest := [.ref (q 0)]) ⟨hx, hb, hml, hown, hts⟩ 0 6 (c_X6_loadOf_0 l D cy q hH.2.1 z hF 0 ) (cwV 1 hts gX6_bound_X6_loadOf rfl rfl rfl (by decide +kernel) ⟨Nat.le_of_ble_eq_true rfl, Nat.le_of_ble_eq_true rfl⟩) hK hZ hH (by decide) rfl rfl rfl hl.1 rfl (Nat.le_of_ble_eq_true rfl) ⟨Nat.zero_le _, Nat.zero_le _⟩ dX6_bound_22 (fun r5 z5 H locs hp5 hH => ?_)
        obtain ⟨rfl, rfl⟩ := hp5
        refine b_calli (As := [.int 0]) (rest := []) ⟨hx, hb, hml, hown, hts⟩ 0 6 (c_X6_byRoom_0 l D cy q hH.2.1 z hF 0  h10 ) (cwV 1 hts gX6_bound_X6_byRoom rfl rfl rfl (by decide +kernel) ⟨Nat.le_of_ble_eq_true rfl, Nat.le_of_ble_eq_true rfl⟩) hK hZ hH (by decide) rfl rfl rfl hl.1 rfl (Nat.le_of_ble_eq_true rfl) ⟨Nat.zero_le _, Nat.zero_le _⟩ dX6_bound_25 (fun r6 z6 H locs hp6 hH => ?_)
        obtain ⟨hFz6, g6_0, rfl⟩ := hp6
        refine b_vi (v := 0) (by decide) ?_
        exact b_iret hx hb hr hlocks hH ((by have e0 : (0 : Int32).toInt = 0 := (by decide); have e1 : (1 : Int32).toInt = 1 := (by decide); try simp only [b_lt, b_le, b_eq] at c1 c2 c3; first | rfl | (unfold o_bound; (repeat' split) <;> first | rfl | omega))) dX6_bound_28
    · skip
      refine lv_bipush (v := (-2)) hx hb dX6_bound_9 (by decide) ?_
      exact b_iret hx hb hr hlocks hH ((by have e0 : (0 : Int32).toInt = 0 := (by decide); have e1 : (1 : Int32).toInt = 1 := (by decide); try simp only [b_lt, b_le, b_eq] at c1 c2; first | rfl | (unfold o_bound; (repeat' split) <;> first | rfl | omega))) dX6_bound_11
set_option maxHeartbeats 4000000 in
set_option maxRecDepth 100000 in
theorem c_X6_early (l : Launch) (D : va_G) (cy : Nat → ClassId) (q : Nat → Nat) (hq : bJ 23 q) (z : zS) (hF : Fm z) (h10 : z.1 2 = 10) (x1 : Int32) : bCi l yX6_early wsX6_early ({ frames := 3, cells := 0, slots := 0, locals := 69 }) D cy 23 (enM cy) q z [.ref (q 0), .int x1] (fun r _ => (-2 : Int32) = r) := by
  intro sz
  refine Met.ofW (cc := cX6_early) (maxL := 2) (ret := (some .int)) (by decide) rfl ?_
  intro p e s m args below meth c s₁ B hml hv
  obtain ⟨rfl, hsz, hP, hK, hZ⟩ := hv
  have hx := B.exec
  have hb := B.bytes
  have hr := B.returns
  have hts := atoms_spec (ws := wsX6_early) B.pre
  have hown : s.vm.findClass RX6 = some m.cls := findClass_of_methodNamed B.named
  have hlocks := B.notSynchronized
  subst hsz
  have hH : bH D 23 (enM cy) q z s.heap s.heap [] := bH_in hq hP
  have hl := lv_entry ([.ref (q 0), .int x1]) (n := 2) (Nat.le_of_ble_eq_true rfl)
  rw [lg_entry_eq]
  generalize (lg_sl ([.ref (q 0), .int x1]) ++ List.replicate (2 - (lg_sl ([.ref (q 0), .int x1])).length) Slot.unset).toArray = ls at hl ⊢
  have hl : lv_has ls 2 [(0, .ref (q 0)), (1, .int x1)] := hl
  refine lv_aload_n hx hb dX6_early_0 rfl (lv_at hl 0 rfl) ?_
  refine lv_iload_n hx hb dX6_early_1 rfl (lv_at hl 1 rfl) ?_
  refine b_calli (As := [.int x1]) (rest := []) ⟨hx, hb, hml, hown, hts⟩ 0 6 (c_X6_isTask_0 l D cy q hH.2.1 z hF x1 ) (cwV 1 hts gX6_early_X6_isTask rfl rfl rfl (by decide +kernel) ⟨Nat.le_of_ble_eq_true rfl, Nat.le_of_ble_eq_true rfl⟩) hK hZ hH (by decide) rfl rfl rfl hl.1 rfl (Nat.le_of_ble_eq_true rfl) ⟨Nat.zero_le _, Nat.zero_le _⟩ dX6_early_2 (fun r1 z1 H locs hp1 hH => ?_)
  obtain ⟨rfl, rfl⟩ := hp1
  refine lv_if_eq (tgt := 28) hx hb dX6_early_5 (by decide) (fun _ => ?_) (fun c0 => absurd c0 (by decide))
  refine lv_bipush (v := (-2)) hx hb dX6_early_28 (by decide) ?_
  exact b_iret hx hb hr hlocks hH ((by first | rfl | ((repeat' split) <;> first | rfl | omega))) dX6_early_30
set_option maxHeartbeats 4000000 in
set_option maxRecDepth 100000 in
theorem c_X6_late (l : Launch) (D : va_G) (cy : Nat → ClassId) (q : Nat → Nat) (hq : bJ 23 q) (z : zS) (hF : Fm z) (h10 : z.1 2 = 10) (x1 : Int32) (x2 : Int32) : bCi l yX6_late wsX6_late ({ frames := 3, cells := 0, slots := 0, locals := 69 }) D cy 23 (enM cy) q z [.ref (q 0), .int x1, .int x2] (fun r _ => (-2 : Int32) = r) := by
  intro sz
  refine Met.ofW (cc := cX6_late) (maxL := 3) (ret := (some .int)) (by decide) rfl ?_
  intro p e s m args below meth c s₁ B hml hv
  obtain ⟨rfl, hsz, hP, hK, hZ⟩ := hv
  have hx := B.exec
  have hb := B.bytes
  have hr := B.returns
  have hts := atoms_spec (ws := wsX6_late) B.pre
  have hown : s.vm.findClass RX6 = some m.cls := findClass_of_methodNamed B.named
  have hlocks := B.notSynchronized
  subst hsz
  have hH : bH D 23 (enM cy) q z s.heap s.heap [] := bH_in hq hP
  have hl := lv_entry ([.ref (q 0), .int x1, .int x2]) (n := 3) (Nat.le_of_ble_eq_true rfl)
  rw [lg_entry_eq]
  generalize (lg_sl ([.ref (q 0), .int x1, .int x2]) ++ List.replicate (3 - (lg_sl ([.ref (q 0), .int x1, .int x2])).length) Slot.unset).toArray = ls at hl ⊢
  have hl : lv_has ls 3 [(0, .ref (q 0)), (1, .int x1), (2, .int x2)] := hl
  refine lv_aload_n hx hb dX6_late_0 rfl (lv_at hl 0 rfl) ?_
  refine lv_iload_n hx hb dX6_late_1 rfl (lv_at hl 1 rfl) ?_
  refine b_calli (As := [.int x1]) (rest := []) ⟨hx, hb, hml, hown, hts⟩ 0 6 (c_X6_isTask_0 l D cy q hH.2.1 z hF x1 ) (cwV 1 hts gX6_late_X6_isTask rfl rfl rfl (by decide +kernel) ⟨Nat.le_of_ble_eq_true rfl, Nat.le_of_ble_eq_true rfl⟩) hK hZ hH (by decide) rfl rfl rfl hl.1 rfl (Nat.le_of_ble_eq_true rfl) ⟨Nat.zero_le _, Nat.zero_le _⟩ dX6_late_2 (fun r1 z1 H locs hp1 hH => ?_)
  obtain ⟨rfl, rfl⟩ := hp1
  refine lv_if_eq (tgt := 19) hx hb dX6_late_5 (by decide) (fun _ => ?_) (fun c0 => absurd c0 (by decide))
  refine lv_bipush (v := (-2)) hx hb dX6_late_19 (by decide) ?_
  refine lv_goto (tgt := 45) hx hb dX6_late_21 (by decide) ?_
  exact b_iret hx hb hr hlocks hH ((by first | rfl | ((repeat' split) <;> first | rfl | omega))) dX6_late_45
set_option maxHeartbeats 4000000 in
set_option maxRecDepth 100000 in
theorem c_X6_rule (l : Launch) (D : va_G) (cy : Nat → ClassId) (q : Nat → Nat) (hq : bJ 23 q) (z : zS) (hF : Fm z) (h10 : z.1 2 = 10) (x1 : Int32) : bCi l yX6_rule wsX6_rule ({ frames := 5, cells := 0, slots := 0, locals := 119 }) D cy 23 (enM cy) q z [.ref (q 0), .int x1] (fun r _ => (o_rule x1 : Int32) = r) := by
  intro sz
  refine Met.ofW (cc := cX6_rule) (maxL := 4) (ret := (some .int)) (by decide) rfl ?_
  intro p e s m args below meth c s₁ B hml hv
  obtain ⟨rfl, hsz, hP, hK, hZ⟩ := hv
  have hx := B.exec
  have hb := B.bytes
  have hr := B.returns
  have hts := atoms_spec (ws := wsX6_rule) B.pre
  have hown : s.vm.findClass RX6 = some m.cls := findClass_of_methodNamed B.named
  have hlocks := B.notSynchronized
  subst hsz
  have hH : bH D 23 (enM cy) q z s.heap s.heap [] := bH_in hq hP
  have hl := lv_entry ([.ref (q 0), .int x1]) (n := 4) (Nat.le_of_ble_eq_true rfl)
  rw [lg_entry_eq]
  generalize (lg_sl ([.ref (q 0), .int x1]) ++ List.replicate (4 - (lg_sl ([.ref (q 0), .int x1])).length) Slot.unset).toArray = ls at hl ⊢
  have hl : lv_has ls 4 [(0, .ref (q 0)), (1, .int x1)] := hl
  refine lv_iload_n hx hb dX6_rule_0 rfl (lv_at hl 1 rfl) ?_
  refine lv_if_lt (tgt := 9) hx hb dX6_rule_1 (by decide) (fun c1 => ?_) (fun c1 => ?_)
  · skip
    refine lv_bipush (v := (-2)) hx hb dX6_rule_9 (by decide) ?_
    exact b_iret hx hb hr hlocks hH ((by have e0 : (0 : Int32).toInt = 0 := (by decide); try simp only [b_lt, b_le, b_eq] at c1; first | rfl | (unfold o_rule; (repeat' split) <;> first | rfl | omega))) dX6_rule_11
  · skip
    refine lv_iload_n hx hb dX6_rule_4 rfl (lv_at hl 1 rfl) ?_
    refine lv_iconst (v := 3) hx hb dX6_rule_5 (by decide) ?_
    refine lv_icmp_le (tgt := 12) hx hb dX6_rule_6 (by decide) (fun c2 => ?_) (fun c2 => ?_)
    · skip
      refine lv_iconst (v := 0) hx hb dX6_rule_12 (by decide) ?_
      refine lv_istore_n (lv' := [(2, .int 0), (0, .ref (q 0)), (1, .int x1)]) hx hb dX6_rule_13 rfl hl (by decide) rfl (fun ls hl => ?_)
      refine lv_iload_n hx hb dX6_rule_14 rfl (lv_at hl 0 rfl) ?_
      refine lv_aload_n hx hb dX6_rule_15 rfl (lv_at hl 1 rfl) ?_
      refine b_get (ci := 6) (C := RX6) (T := TX6) (Nf := 29) (v := .int 0) hx hb hts in_X6_rule_X6 hown hK hH 0 (by decide) rfl rfl 0 (by decide) (hts (.fieldLink RX6 85 "StationLineModel" "tasks" "I") (List.mem_of_getElem? (i := 1) rfl)) (congrArg (fun x => some (Value.int x)) (Fm_0 hF)) dX6_rule_16 ?_
      refine lv_icmp_ge (tgt := 52) hx hb dX6_rule_19 (by decide) (fun _ => ?_) (fun c0 => absurd c0 (by decide))
      refine lv_iconst (v := 1) hx hb dX6_rule_52 (by decide) ?_
      refine lv_istore_n (lv' := [(2, .int 1), (0, .ref (q 0)), (1, .int x1)]) hx hb dX6_rule_53 rfl hl (by decide) rfl (fun ls hl => ?_)
      refine lv_aload_n hx hb dX6_rule_54 rfl (lv_at hl 1 rfl) ?_
      refine lv_aload_n hx hb dX6_rule_55 rfl (lv_at hl 1 rfl) ?_
      refine b_get (ci := 6) (C := RX6) (T := TX6) (Nf := 29) (v := .ref (q 21)) hx hb hts in_X6_rule_X6 hown hK hH 0 (by decide) rfl rfl 27 (by decide) (hts (.fieldLink RX6 76 "StationLineModel" "trial" "[I") (List.mem_of_getElem? (i := 2) rfl)) rfl dX6_rule_56 ?_
      refine lv_iconst (v := 0) hx hb dX6_rule_59 (by decide) ?_
      refine b_calli (As := [.ref (q 21), .int 0]) (rest := []) ⟨hx, hb, hml, hown, hts⟩ 0 6 (c_X6_setAt_0_r21 l D cy q hH.2.1 z hF 0 ) (cwV 2 hts gX6_rule_X6_setAt rfl rfl rfl (by decide +kernel) ⟨Nat.le_of_ble_eq_true rfl, Nat.le_of_ble_eq_true rfl⟩) hK hZ hH (by decide) rfl rfl rfl hl.1 rfl (Nat.le_of_ble_eq_true rfl) ⟨Nat.zero_le _, Nat.zero_le _⟩ dX6_rule_60 (fun r3 z3 H locs hp3 hH => ?_)
      obtain ⟨rfl, rfl⟩ := hp3
      refine lv_if_eq (tgt := 102) hx hb dX6_rule_63 (by decide) (fun _ => ?_) (fun c0 => absurd c0 (by decide))
      refine lv_iconst (v := 0) hx hb dX6_rule_102 (by decide) ?_
      refine lv_istore_n (lv' := [(3, .int 0), (2, .int 1), (0, .ref (q 0)), (1, .int x1)]) hx hb dX6_rule_103 rfl hl (by decide) rfl (fun ls hl => ?_)
      refine lv_iload_n hx hb dX6_rule_104 rfl (lv_at hl 0 rfl) ?_
      refine lv_aload_n hx hb dX6_rule_105 rfl (lv_at hl 2 rfl) ?_
      refine b_get (ci := 6) (C := RX6) (T := TX6) (Nf := 29) (v := .int 0) hx hb hts in_X6_rule_X6 hown hK hH 0 (by decide) rfl rfl 0 (by decide) (hts (.fieldLink RX6 85 "StationLineModel" "tasks" "I") (List.mem_of_getElem? (i := 1) rfl)) (congrArg (fun x => some (Value.int x)) (Fm_0 hF)) dX6_rule_106 ?_
      refine lv_icmp_ge (tgt := 130) hx hb dX6_rule_109 (by decide) (fun _ => ?_) (fun c0 => absurd c0 (by decide))
      refine lv_aload_n hx hb dX6_rule_130 rfl (lv_at hl 2 rfl) ?_
      refine lv_aload_n hx hb dX6_rule_131 rfl (lv_at hl 2 rfl) ?_
      refine b_get (ci := 6) (C := RX6) (T := TX6) (Nf := 29) (v := .ref (q 6)) hx hb hts in_X6_rule_X6 hown hK hH 0 (by decide) rfl rfl 6 (by decide) (hts (.fieldLink RX6 25 "StationLineModel" "hand" "[I") (List.mem_of_getElem? (i := 3) rfl)) rfl dX6_rule_132 ?_
      refine b_calli (As := [.ref (q 6)]) (rest := []) ⟨hx, hb, hml, hown, hts⟩ 0 6 (c_X6_lengthOf_0_r6 l D cy q hH.2.1 z hF  ) (cwV 1 hts gX6_rule_X6_lengthOf rfl rfl rfl (by decide +kernel) ⟨Nat.le_of_ble_eq_true rfl, Nat.le_of_ble_eq_true rfl⟩) hK hZ hH (by decide) rfl rfl rfl hl.1 rfl (Nat.le_of_ble_eq_true rfl) ⟨Nat.zero_le _, Nat.zero_le _⟩ dX6_rule_135 (fun r4 z4 H locs hp4 hH => ?_)
      obtain ⟨rfl, rfl⟩ := hp4
      exact b_iret hx hb hr hlocks hH ((by have e0 : (0 : Int32).toInt = 0 := (by decide); have e3 : (3 : Int32).toInt = 3 := (by decide); try simp only [b_lt, b_le, b_eq] at c1 c2; first | rfl | (unfold o_rule; (repeat' split) <;> first | rfl | omega))) dX6_rule_138
    · skip
      refine lv_bipush (v := (-2)) hx hb dX6_rule_9 (by decide) ?_
      exact b_iret hx hb hr hlocks hH ((by have e0 : (0 : Int32).toInt = 0 := (by decide); have e3 : (3 : Int32).toInt = 3 := (by decide); try simp only [b_lt, b_le, b_eq] at c1 c2; first | rfl | (unfold o_rule; (repeat' split) <;> first | rfl | omega))) dX6_rule_11
set_option maxHeartbeats 4000000 in
set_option maxRecDepth 100000 in
theorem c_X6_better (l : Launch) (D : va_G) (cy : Nat → ClassId) (q : Nat → Nat) (hq : bJ 23 q) (z : zS) (hF : Fm z) (h10 : z.1 2 = 10)  : bCi l yX6_better wsX6_better ({ frames := 6, cells := 0, slots := 0, locals := 143 }) D cy 23 (enM cy) q z [.ref (q 0)] (fun r _ => (0 : Int32) = r) := by
  intro sz
  refine Met.ofW (cc := cX6_better) (maxL := 2) (ret := (some .int)) (by decide) rfl ?_
  intro p e s m args below meth c s₁ B hml hv
  obtain ⟨rfl, hsz, hP, hK, hZ⟩ := hv
  have hx := B.exec
  have hb := B.bytes
  have hr := B.returns
  have hts := atoms_spec (ws := wsX6_better) B.pre
  have hown : s.vm.findClass RX6 = some m.cls := findClass_of_methodNamed B.named
  have hlocks := B.notSynchronized
  subst hsz
  have hH : bH D 23 (enM cy) q z s.heap s.heap [] := bH_in hq hP
  have hl := lv_entry ([.ref (q 0)]) (n := 2) (Nat.le_of_ble_eq_true rfl)
  rw [lg_entry_eq]
  generalize (lg_sl ([.ref (q 0)]) ++ List.replicate (2 - (lg_sl ([.ref (q 0)])).length) Slot.unset).toArray = ls at hl ⊢
  have hl : lv_has ls 2 [(0, .ref (q 0))] := hl
  refine lv_aload_n hx hb dX6_better_0 rfl (lv_at hl 0 rfl) ?_
  refine b_calli (As := []) (rest := []) ⟨hx, hb, hml, hown, hts⟩ 0 6 (c_X6_clash_0_in l D cy q hH.2.1 z hF  ) (cwV 0 hts gX6_better_X6_clash rfl rfl rfl (by decide +kernel) ⟨Nat.le_of_ble_eq_true rfl, Nat.le_of_ble_eq_true rfl⟩) hK hZ hH (by decide) rfl rfl rfl hl.1 rfl (Nat.le_of_ble_eq_true rfl) ⟨Nat.zero_le _, Nat.zero_le _⟩ dX6_better_1 (fun r1 z1 H locs hp1 hH => ?_)
  obtain ⟨rfl, rfl⟩ := hp1
  refine lv_if_lt (tgt := 10) hx hb dX6_better_4 (by decide) (fun _ => ?_) (fun c0 => absurd c0 (by decide))
  refine lv_iconst (v := 0) hx hb dX6_better_10 (by decide) ?_
  refine lv_istore_n (lv' := [(1, .int 0), (0, .ref (q 0))]) hx hb dX6_better_11 rfl hl (by decide) rfl (fun ls hl => ?_)
  refine lv_aload_n hx hb dX6_better_12 rfl (lv_at hl 1 rfl) ?_
  refine b_calli (As := []) (rest := []) ⟨hx, hb, hml, hown, hts⟩ 0 6 (c_X6_betters_0 l D cy q hH.2.1 z hF  ) (cwV 0 hts gX6_better_X6_betters rfl rfl rfl (by decide +kernel) ⟨Nat.le_of_ble_eq_true rfl, Nat.le_of_ble_eq_true rfl⟩) hK hZ hH (by decide) rfl rfl rfl hl.1 rfl (Nat.le_of_ble_eq_true rfl) ⟨Nat.zero_le _, Nat.zero_le _⟩ dX6_better_13 (fun r2 z2 H locs hp2 hH => ?_)
  obtain ⟨rfl, rfl⟩ := hp2
  refine lv_if_eq (tgt := 25) hx hb dX6_better_16 (by decide) (fun _ => ?_) (fun c0 => absurd c0 (by decide))
  refine lv_iload_n hx hb dX6_better_25 rfl (lv_at hl 0 rfl) ?_
  exact b_iret hx hb hr hlocks hH ((by first | rfl | ((repeat' split) <;> first | rfl | omega))) dX6_better_26
set_option maxHeartbeats 4000000 in
set_option maxRecDepth 100000 in
theorem c_X6_sheet (l : Launch) (D : va_G) (cy : Nat → ClassId) (q : Nat → Nat) (hq : bJ 23 q) (z : zS) (hF : Fm z) (h10 : z.1 2 = 10) (x1 : Int32) (x2 : Int32) (x3 : Int32) : bCi l yX6_sheet wsX6_sheet ({ frames := 1, cells := 0, slots := 0, locals := 21 }) D cy 23 (enM cy) q z [.ref (q 0), .int x1, .int x2, .int x3] (fun r _ => (o_sheet x1 x2 x3 : Int32) = r) := by
  intro sz
  refine Met.ofW (cc := cX6_sheet) (maxL := 5) (ret := (some .int)) (by decide) rfl ?_
  intro p e s m args below meth c s₁ B hml hv
  obtain ⟨rfl, hsz, hP, hK, hZ⟩ := hv
  have hx := B.exec
  have hb := B.bytes
  have hr := B.returns
  have hts := atoms_spec (ws := wsX6_sheet) B.pre
  have hown : s.vm.findClass RX6 = some m.cls := findClass_of_methodNamed B.named
  have hlocks := B.notSynchronized
  subst hsz
  have hH : bH D 23 (enM cy) q z s.heap s.heap [] := bH_in hq hP
  have hl := lv_entry ([.ref (q 0), .int x1, .int x2, .int x3]) (n := 5) (Nat.le_of_ble_eq_true rfl)
  rw [lg_entry_eq]
  generalize (lg_sl ([.ref (q 0), .int x1, .int x2, .int x3]) ++ List.replicate (5 - (lg_sl ([.ref (q 0), .int x1, .int x2, .int x3])).length) Slot.unset).toArray = ls at hl ⊢
  have hl : lv_has ls 5 [(0, .ref (q 0)), (1, .int x1), (2, .int x2), (3, .int x3)] := hl
  refine lv_iload_n hx hb dX6_sheet_0 rfl (lv_at hl 1 rfl) ?_
  refine b_stati (As := [.int x1]) (rest := []) ⟨hx, hb, hml, hown, hts⟩ (c_X6_isSheet l D cy q hH.2.1 z x1) (va_cwS 1 hts gX6_sheet_X6_isSheet rfl rfl rfl (by decide +kernel) ⟨Nat.le_of_ble_eq_true rfl, Nat.le_of_ble_eq_true rfl⟩) hK hZ hH rfl hl.1 rfl (Nat.le_of_ble_eq_true rfl) ⟨Nat.zero_le _, Nat.zero_le _⟩ dX6_sheet_1 (fun r1 z1 H locs hp1 hH => ?_)
  rcases hp1 with ⟨rfl, ⟨rfl, a1⟩ | ⟨rfl, a1⟩⟩
  · skip
    refine lv_if_eq (tgt := 22) hx hb dX6_sheet_4 (by decide) (fun c0 => absurd c0 (by decide)) (fun _ => ?_)
    refine lv_iload_n hx hb dX6_sheet_7 rfl (lv_at hl 2 rfl) ?_
    refine lv_if_lt (tgt := 22) hx hb dX6_sheet_8 (by decide) (fun c2 => ?_) (fun c2 => ?_)
    · skip
      refine lv_bipush (v := (-2)) hx hb dX6_sheet_22 (by decide) ?_
      exact b_iret hx hb hr hlocks hH ((by have e0 : (0 : Int32).toInt = 0 := (by decide); try simp only [b_lt, b_le, b_eq] at c2; first | rfl | (unfold o_sheet; (repeat' split) <;> first | rfl | omega))) dX6_sheet_24
    · skip
      refine lv_iload_n hx hb dX6_sheet_11 rfl (lv_at hl 2 rfl) ?_
      refine lv_iconst (v := 2) hx hb dX6_sheet_12 (by decide) ?_
      refine lv_icmp_gt (tgt := 22) hx hb dX6_sheet_13 (by decide) (fun c3 => ?_) (fun c3 => ?_)
      · skip
        refine lv_bipush (v := (-2)) hx hb dX6_sheet_22 (by decide) ?_
        exact b_iret hx hb hr hlocks hH ((by have e0 : (0 : Int32).toInt = 0 := (by decide); have e2 : (2 : Int32).toInt = 2 := (by decide); try simp only [b_lt, b_le, b_eq] at c2 c3; first | rfl | (unfold o_sheet; (repeat' split) <;> first | rfl | omega))) dX6_sheet_24
      · skip
        refine lv_iload_n hx hb dX6_sheet_16 rfl (lv_at hl 3 rfl) ?_
        refine lv_bipush (v := 40) hx hb dX6_sheet_17 (by decide) ?_
        refine lv_icmp_le (tgt := 25) hx hb dX6_sheet_19 (by decide) (fun c4 => ?_) (fun c4 => ?_)
        · skip
          refine lv_iload_n hx hb dX6_sheet_25 rfl (lv_at hl 3 rfl) ?_
          refine lv_if_ge (tgt := 36) hx hb dX6_sheet_26 (by decide) (fun c5 => ?_) (fun c5 => ?_)
          · skip
            rcases (show x1 = 0 ∨ x1 = 1 ∨ x1 = 2 ∨ x1 = 3 by simp only [b_eq]; have k0 : (0 : Int32).toInt = 0 := (by decide); have k1 : (1 : Int32).toInt = 1 := (by decide); have k2 : (2 : Int32).toInt = 2 := (by decide); have k3 : (3 : Int32).toInt = 3 := (by decide); omega) with rfl | rfl | rfl | rfl
            · skip
              have k0 : (0 : Int32).toInt = 0 := by decide
              refine lv_aload_n hx hb dX6_sheet_36 rfl (lv_at hl 0 rfl) ?_
              refine b_get (ci := 6) (C := RX6) (T := TX6) (Nf := 29) (v := .ref (q 9)) hx hb hts in_X6_sheet_X6 hown hK hH 0 (by decide) rfl rfl 13 (by decide) (hts (.fieldLink RX6 38 "StationLineModel" "sheetSort" "[I") (List.mem_of_getElem? (i := 1) rfl)) rfl dX6_sheet_37 ?_
              refine lv_iload_n hx hb dX6_sheet_40 rfl (lv_at hl 1 rfl) ?_
              refine lv_iload_n hx hb dX6_sheet_41 rfl (lv_at hl 2 rfl) ?_
              refine b_iast hx hb hK hH 9 (by decide) rfl (by unfold vp_in; decide) (upA z 9 (upd (z.2.1 9) (0 : Int32).toNatClampNeg x2)) rfl (enM_A _ _ _ _ _) dX6_sheet_42 (fun H locs hH => ?_)
              obtain ⟨z7, hz7⟩ : ∃ w : zS, w = upA z 9 (upd (z.2.1 9) (0 : Int32).toNatClampNeg x2) := ⟨_, rfl⟩
              rw [← hz7] at hH
              have hFz7 : Fm z7 := by rw [hz7]; exact hF
              refine lv_aload_n hx hb dX6_sheet_43 rfl (lv_at hl 0 rfl) ?_
              refine b_get (ci := 6) (C := RX6) (T := TX6) (Nf := 29) (v := .ref (q 10)) hx hb hts in_X6_sheet_X6 hown hK hH 0 (by decide) rfl rfl 14 (by decide) (hts (.fieldLink RX6 41 "StationLineModel" "sheetSize" "[I") (List.mem_of_getElem? (i := 2) rfl)) rfl dX6_sheet_44 ?_
              refine lv_iload_n hx hb dX6_sheet_47 rfl (lv_at hl 1 rfl) ?_
              refine lv_iload_n hx hb dX6_sheet_48 rfl (lv_at hl 3 rfl) ?_
              refine b_iast hx hb hK hH 10 (by decide) rfl (by unfold vp_in; decide) (upA z7 10 (upd (z7.2.1 10) (0 : Int32).toNatClampNeg x3)) rfl (enM_A _ _ _ _ _) dX6_sheet_49 (fun H locs hH => ?_)
              obtain ⟨z8, hz8⟩ : ∃ w : zS, w = upA z7 10 (upd (z7.2.1 10) (0 : Int32).toNatClampNeg x3) := ⟨_, rfl⟩
              rw [← hz8] at hH
              refine lv_iconst (v := 0) hx hb dX6_sheet_50 (by decide) ?_
              refine lv_istore (lv' := [(4, .int 0), (0, .ref (q 0)), (1, .int 0), (2, .int x2), (3, .int x3)]) hx hb dX6_sheet_51 hl (by decide) rfl (fun ls hl => ?_)
              obtain ⟨nn, hnn, hx3⟩ : ∃ nn : Nat, nn ≤ 40 ∧ x3 = nI nn := nI_of2 (M := 40) (n := 40) (by decide) (by have e0 : (0 : Int32).toInt = 0 := (by decide); have e2 : (2 : Int32).toInt = 2 := (by decide); have e40 : (40 : Int32).toInt = 40 := (by decide); try simp only [b_lt, b_le, b_eq] at c2 c3 c4 c5; intro h9; rw [b_lt] at h9; omega) (by have e0 : (0 : Int32).toInt = 0 := (by decide); have e2 : (2 : Int32).toInt = 2 := (by decide); have e40 : (40 : Int32).toInt = 40 := (by decide); try simp only [b_lt, b_le, b_eq] at c2 c3 c4 c5; rw [b_le]; have e40 : (40 : Int32).toInt = 40 := (by decide); omega)
              subst hx3
              have tnn : (nI nn).toInt = nn := nI_toInt (by omega)
              have loop : ∀ (r i : Nat), i + r = nn → ∀ (w : zS) (H : Heap) (locs : List Loc), bH D 23 (enM cy) q w s.heap H locs → ∀ ls : Array Slot, lv_has ls 5 [(4, .int (nI i)), (0, .ref (q 0)), (1, .int 0), (2, .int x2), (3, .int (nI nn))] → W p l e (headSpec wsX6_sheet ({ frames := 1, cells := 0, slots := 0, locals := 21 })).room s m ([.ref (q 0), .int 0, .int x2, .int (nI nn)] : List Value).toArray below meth c H locs 0 0 (MQ below (va_Qi (fun r _ => (o_sheet 0 x2 (nI nn) : Int32) = r) (bPos D 23 (enM cy) q) (bA 23 q s.heap.size)) ([.ref (q 0), .int 0, .int x2, .int (nI nn)] : List Value).toArray s 0 0 (bA 23 q s.heap.size)) (F0 m 53 ls []) := by
                intro r
                induction r with
                | zero =>
                  intro i hi w H locs hH ls hl
                  refine lv_iload hx hb dX6_sheet_53 (lv_at hl 0 rfl) ?_
                  refine lv_iload_n hx hb dX6_sheet_55 rfl (lv_at hl 4 rfl) ?_
                  refine lv_icmp_ge (tgt := 78) hx hb dX6_sheet_56 (by decide) (fun _ => ?_) (fun c0 => absurd (nI_le (by omega) (by omega)) c0)
                  refine lv_iload_n hx hb dX6_sheet_78 rfl (lv_at hl 4 rfl) ?_
                  exact b_iret hx hb hr hlocks hH (by have e0 : (0 : Int32).toInt = 0 := (by decide); have e2 : (2 : Int32).toInt = 2 := (by decide); have e40 : (40 : Int32).toInt = 40 := (by decide); try simp only [b_lt, b_le, b_eq] at c2 c3 c4 c5; unfold o_sheet; (repeat' split) <;> first | rfl | omega) dX6_sheet_79
                | succ r ih =>
                  intro i hi w H locs hH ls hl
                  refine lv_iload hx hb dX6_sheet_53 (lv_at hl 0 rfl) ?_
                  refine lv_iload_n hx hb dX6_sheet_55 rfl (lv_at hl 4 rfl) ?_
                  refine lv_icmp_ge (tgt := 78) hx hb dX6_sheet_56 (by decide) (fun c0 => absurd c0 (nI_ge (by omega) (by omega))) (fun _ => ?_)
                  refine lv_aload_n hx hb dX6_sheet_59 rfl (lv_at hl 1 rfl) ?_
                  refine b_get (ci := 6) (C := RX6) (T := TX6) (Nf := 29) (v := .ref (q 11)) hx hb hts in_X6_sheet_X6 hown hK hH 0 (by decide) rfl rfl 15 (by decide) (hts (.fieldLink RX6 44 "StationLineModel" "sheet" "[I") (List.mem_of_getElem? (i := 3) rfl)) rfl dX6_sheet_60 ?_
                  refine lv_bipush (v := 40) hx hb dX6_sheet_63 (by decide) ?_
                  refine lv_iload_n hx hb dX6_sheet_65 rfl (lv_at hl 2 rfl) ?_
                  refine lv_imul hx hb dX6_sheet_66 ?_
                  refine lv_iload hx hb dX6_sheet_67 (lv_at hl 0 rfl) ?_
                  refine lv_iadd hx hb dX6_sheet_69 ?_
                  refine b_vi (v := nI (0 + i)) ((congrArg (fun w9 : Int32 => w9 + nI i) (show (40 * 0 : Int32) = nI 0 from by decide)).trans (nI_add _ _)) ?_
                  refine lv_iconst (v := 0) hx hb dX6_sheet_70 (by decide) ?_
                  refine b_iast hx hb hK hH 11 (by decide) rfl (vp_in_nI (by omega) (by omega)) (upA w 11 (upd (w.2.1 11) (nI (0 + i)).toNatClampNeg 0)) rfl (enM_A _ _ _ _ _) dX6_sheet_71 (fun H locs hH => ?_)
                  refine lv_iinc (v := nI (i + 1)) (lv' := [(4, .int (nI (i + 1))), (0, .ref (q 0)), (1, .int 0), (2, .int x2), (3, .int (nI nn))]) hx hb dX6_sheet_72 hl (k := 0) rfl (nI_succ i).symm (by decide) rfl (fun ls hl => ?_)
                  refine lv_goto (tgt := 53) hx hb dX6_sheet_75 (by decide) ?_
                  exact ih (i + 1) (by omega) _ H locs hH ls hl
              exact loop nn 0 (by omega) _ _ _ hH ls hl
            · skip
              have k1 : (1 : Int32).toInt = 1 := by decide
              refine lv_aload_n hx hb dX6_sheet_36 rfl (lv_at hl 0 rfl) ?_
              refine b_get (ci := 6) (C := RX6) (T := TX6) (Nf := 29) (v := .ref (q 9)) hx hb hts in_X6_sheet_X6 hown hK hH 0 (by decide) rfl rfl 13 (by decide) (hts (.fieldLink RX6 38 "StationLineModel" "sheetSort" "[I") (List.mem_of_getElem? (i := 1) rfl)) rfl dX6_sheet_37 ?_
              refine lv_iload_n hx hb dX6_sheet_40 rfl (lv_at hl 1 rfl) ?_
              refine lv_iload_n hx hb dX6_sheet_41 rfl (lv_at hl 2 rfl) ?_
              refine b_iast hx hb hK hH 9 (by decide) rfl (by unfold vp_in; decide) (upA z 9 (upd (z.2.1 9) (1 : Int32).toNatClampNeg x2)) rfl (enM_A _ _ _ _ _) dX6_sheet_42 (fun H locs hH => ?_)
              obtain ⟨z9, hz9⟩ : ∃ w : zS, w = upA z 9 (upd (z.2.1 9) (1 : Int32).toNatClampNeg x2) := ⟨_, rfl⟩
              rw [← hz9] at hH
              have hFz9 : Fm z9 := by rw [hz9]; exact hF
              refine lv_aload_n hx hb dX6_sheet_43 rfl (lv_at hl 0 rfl) ?_
              refine b_get (ci := 6) (C := RX6) (T := TX6) (Nf := 29) (v := .ref (q 10)) hx hb hts in_X6_sheet_X6 hown hK hH 0 (by decide) rfl rfl 14 (by decide) (hts (.fieldLink RX6 41 "StationLineModel" "sheetSize" "[I") (List.mem_of_getElem? (i := 2) rfl)) rfl dX6_sheet_44 ?_
              refine lv_iload_n hx hb dX6_sheet_47 rfl (lv_at hl 1 rfl) ?_
              refine lv_iload_n hx hb dX6_sheet_48 rfl (lv_at hl 3 rfl) ?_
              refine b_iast hx hb hK hH 10 (by decide) rfl (by unfold vp_in; decide) (upA z9 10 (upd (z9.2.1 10) (1 : Int32).toNatClampNeg x3)) rfl (enM_A _ _ _ _ _) dX6_sheet_49 (fun H locs hH => ?_)
              obtain ⟨z10, hz10⟩ : ∃ w : zS, w = upA z9 10 (upd (z9.2.1 10) (1 : Int32).toNatClampNeg x3) := ⟨_, rfl⟩
              rw [← hz10] at hH
              refine lv_iconst (v := 0) hx hb dX6_sheet_50 (by decide) ?_
              refine lv_istore (lv' := [(4, .int 0), (0, .ref (q 0)), (1, .int 1), (2, .int x2), (3, .int x3)]) hx hb dX6_sheet_51 hl (by decide) rfl (fun ls hl => ?_)
              obtain ⟨nn, hnn, hx3⟩ : ∃ nn : Nat, nn ≤ 40 ∧ x3 = nI nn := nI_of2 (M := 40) (n := 40) (by decide) (by have e0 : (0 : Int32).toInt = 0 := (by decide); have e2 : (2 : Int32).toInt = 2 := (by decide); have e40 : (40 : Int32).toInt = 40 := (by decide); try simp only [b_lt, b_le, b_eq] at c2 c3 c4 c5; intro h9; rw [b_lt] at h9; omega) (by have e0 : (0 : Int32).toInt = 0 := (by decide); have e2 : (2 : Int32).toInt = 2 := (by decide); have e40 : (40 : Int32).toInt = 40 := (by decide); try simp only [b_lt, b_le, b_eq] at c2 c3 c4 c5; rw [b_le]; have e40 : (40 : Int32).toInt = 40 := (by decide); omega)
              subst hx3
              have tnn : (nI nn).toInt = nn := nI_toInt (by omega)
              have loop : ∀ (r i : Nat), i + r = nn → ∀ (w : zS) (H : Heap) (locs : List Loc), bH D 23 (enM cy) q w s.heap H locs → ∀ ls : Array Slot, lv_has ls 5 [(4, .int (nI i)), (0, .ref (q 0)), (1, .int 1), (2, .int x2), (3, .int (nI nn))] → W p l e (headSpec wsX6_sheet ({ frames := 1, cells := 0, slots := 0, locals := 21 })).room s m ([.ref (q 0), .int 1, .int x2, .int (nI nn)] : List Value).toArray below meth c H locs 0 0 (MQ below (va_Qi (fun r _ => (o_sheet 1 x2 (nI nn) : Int32) = r) (bPos D 23 (enM cy) q) (bA 23 q s.heap.size)) ([.ref (q 0), .int 1, .int x2, .int (nI nn)] : List Value).toArray s 0 0 (bA 23 q s.heap.size)) (F0 m 53 ls []) := by
                intro r
                induction r with
                | zero =>
                  intro i hi w H locs hH ls hl
                  refine lv_iload hx hb dX6_sheet_53 (lv_at hl 0 rfl) ?_
                  refine lv_iload_n hx hb dX6_sheet_55 rfl (lv_at hl 4 rfl) ?_
                  refine lv_icmp_ge (tgt := 78) hx hb dX6_sheet_56 (by decide) (fun _ => ?_) (fun c0 => absurd (nI_le (by omega) (by omega)) c0)
                  refine lv_iload_n hx hb dX6_sheet_78 rfl (lv_at hl 4 rfl) ?_
                  exact b_iret hx hb hr hlocks hH (by have e0 : (0 : Int32).toInt = 0 := (by decide); have e2 : (2 : Int32).toInt = 2 := (by decide); have e40 : (40 : Int32).toInt = 40 := (by decide); try simp only [b_lt, b_le, b_eq] at c2 c3 c4 c5; unfold o_sheet; (repeat' split) <;> first | rfl | omega) dX6_sheet_79
                | succ r ih =>
                  intro i hi w H locs hH ls hl
                  refine lv_iload hx hb dX6_sheet_53 (lv_at hl 0 rfl) ?_
                  refine lv_iload_n hx hb dX6_sheet_55 rfl (lv_at hl 4 rfl) ?_
                  refine lv_icmp_ge (tgt := 78) hx hb dX6_sheet_56 (by decide) (fun c0 => absurd c0 (nI_ge (by omega) (by omega))) (fun _ => ?_)
                  refine lv_aload_n hx hb dX6_sheet_59 rfl (lv_at hl 1 rfl) ?_
                  refine b_get (ci := 6) (C := RX6) (T := TX6) (Nf := 29) (v := .ref (q 11)) hx hb hts in_X6_sheet_X6 hown hK hH 0 (by decide) rfl rfl 15 (by decide) (hts (.fieldLink RX6 44 "StationLineModel" "sheet" "[I") (List.mem_of_getElem? (i := 3) rfl)) rfl dX6_sheet_60 ?_
                  refine lv_bipush (v := 40) hx hb dX6_sheet_63 (by decide) ?_
                  refine lv_iload_n hx hb dX6_sheet_65 rfl (lv_at hl 2 rfl) ?_
                  refine lv_imul hx hb dX6_sheet_66 ?_
                  refine lv_iload hx hb dX6_sheet_67 (lv_at hl 0 rfl) ?_
                  refine lv_iadd hx hb dX6_sheet_69 ?_
                  refine b_vi (v := nI (40 + i)) ((congrArg (fun w9 : Int32 => w9 + nI i) (show (40 * 1 : Int32) = nI 40 from by decide)).trans (nI_add _ _)) ?_
                  refine lv_iconst (v := 0) hx hb dX6_sheet_70 (by decide) ?_
                  refine b_iast hx hb hK hH 11 (by decide) rfl (vp_in_nI (by omega) (by omega)) (upA w 11 (upd (w.2.1 11) (nI (40 + i)).toNatClampNeg 0)) rfl (enM_A _ _ _ _ _) dX6_sheet_71 (fun H locs hH => ?_)
                  refine lv_iinc (v := nI (i + 1)) (lv' := [(4, .int (nI (i + 1))), (0, .ref (q 0)), (1, .int 1), (2, .int x2), (3, .int (nI nn))]) hx hb dX6_sheet_72 hl (k := 0) rfl (nI_succ i).symm (by decide) rfl (fun ls hl => ?_)
                  refine lv_goto (tgt := 53) hx hb dX6_sheet_75 (by decide) ?_
                  exact ih (i + 1) (by omega) _ H locs hH ls hl
              exact loop nn 0 (by omega) _ _ _ hH ls hl
            · skip
              have k2 : (2 : Int32).toInt = 2 := by decide
              refine lv_aload_n hx hb dX6_sheet_36 rfl (lv_at hl 0 rfl) ?_
              refine b_get (ci := 6) (C := RX6) (T := TX6) (Nf := 29) (v := .ref (q 9)) hx hb hts in_X6_sheet_X6 hown hK hH 0 (by decide) rfl rfl 13 (by decide) (hts (.fieldLink RX6 38 "StationLineModel" "sheetSort" "[I") (List.mem_of_getElem? (i := 1) rfl)) rfl dX6_sheet_37 ?_
              refine lv_iload_n hx hb dX6_sheet_40 rfl (lv_at hl 1 rfl) ?_
              refine lv_iload_n hx hb dX6_sheet_41 rfl (lv_at hl 2 rfl) ?_
              refine b_iast hx hb hK hH 9 (by decide) rfl (by unfold vp_in; decide) (upA z 9 (upd (z.2.1 9) (2 : Int32).toNatClampNeg x2)) rfl (enM_A _ _ _ _ _) dX6_sheet_42 (fun H locs hH => ?_)
              obtain ⟨z11, hz11⟩ : ∃ w : zS, w = upA z 9 (upd (z.2.1 9) (2 : Int32).toNatClampNeg x2) := ⟨_, rfl⟩
              rw [← hz11] at hH
              have hFz11 : Fm z11 := by rw [hz11]; exact hF
              refine lv_aload_n hx hb dX6_sheet_43 rfl (lv_at hl 0 rfl) ?_
              refine b_get (ci := 6) (C := RX6) (T := TX6) (Nf := 29) (v := .ref (q 10)) hx hb hts in_X6_sheet_X6 hown hK hH 0 (by decide) rfl rfl 14 (by decide) (hts (.fieldLink RX6 41 "StationLineModel" "sheetSize" "[I") (List.mem_of_getElem? (i := 2) rfl)) rfl dX6_sheet_44 ?_
              refine lv_iload_n hx hb dX6_sheet_47 rfl (lv_at hl 1 rfl) ?_
              refine lv_iload_n hx hb dX6_sheet_48 rfl (lv_at hl 3 rfl) ?_
              refine b_iast hx hb hK hH 10 (by decide) rfl (by unfold vp_in; decide) (upA z11 10 (upd (z11.2.1 10) (2 : Int32).toNatClampNeg x3)) rfl (enM_A _ _ _ _ _) dX6_sheet_49 (fun H locs hH => ?_)
              obtain ⟨z12, hz12⟩ : ∃ w : zS, w = upA z11 10 (upd (z11.2.1 10) (2 : Int32).toNatClampNeg x3) := ⟨_, rfl⟩
              rw [← hz12] at hH
              refine lv_iconst (v := 0) hx hb dX6_sheet_50 (by decide) ?_
              refine lv_istore (lv' := [(4, .int 0), (0, .ref (q 0)), (1, .int 2), (2, .int x2), (3, .int x3)]) hx hb dX6_sheet_51 hl (by decide) rfl (fun ls hl => ?_)
              obtain ⟨nn, hnn, hx3⟩ : ∃ nn : Nat, nn ≤ 40 ∧ x3 = nI nn := nI_of2 (M := 40) (n := 40) (by decide) (by have e0 : (0 : Int32).toInt = 0 := (by decide); have e2 : (2 : Int32).toInt = 2 := (by decide); have e40 : (40 : Int32).toInt = 40 := (by decide); try simp only [b_lt, b_le, b_eq] at c2 c3 c4 c5; intro h9; rw [b_lt] at h9; omega) (by have e0 : (0 : Int32).toInt = 0 := (by decide); have e2 : (2 : Int32).toInt = 2 := (by decide); have e40 : (40 : Int32).toInt = 40 := (by decide); try simp only [b_lt, b_le, b_eq] at c2 c3 c4 c5; rw [b_le]; have e40 : (40 : Int32).toInt = 40 := (by decide); omega)
              subst hx3
              have tnn : (nI nn).toInt = nn := nI_toInt (by omega)
              have loop : ∀ (r i : Nat), i + r = nn → ∀ (w : zS) (H : Heap) (locs : List Loc), bH D 23 (enM cy) q w s.heap H locs → ∀ ls : Array Slot, lv_has ls 5 [(4, .int (nI i)), (0, .ref (q 0)), (1, .int 2), (2, .int x2), (3, .int (nI nn))] → W p l e (headSpec wsX6_sheet ({ frames := 1, cells := 0, slots := 0, locals := 21 })).room s m ([.ref (q 0), .int 2, .int x2, .int (nI nn)] : List Value).toArray below meth c H locs 0 0 (MQ below (va_Qi (fun r _ => (o_sheet 2 x2 (nI nn) : Int32) = r) (bPos D 23 (enM cy) q) (bA 23 q s.heap.size)) ([.ref (q 0), .int 2, .int x2, .int (nI nn)] : List Value).toArray s 0 0 (bA 23 q s.heap.size)) (F0 m 53 ls []) := by
                intro r
                induction r with
                | zero =>
                  intro i hi w H locs hH ls hl
                  refine lv_iload hx hb dX6_sheet_53 (lv_at hl 0 rfl) ?_
                  refine lv_iload_n hx hb dX6_sheet_55 rfl (lv_at hl 4 rfl) ?_
                  refine lv_icmp_ge (tgt := 78) hx hb dX6_sheet_56 (by decide) (fun _ => ?_) (fun c0 => absurd (nI_le (by omega) (by omega)) c0)
                  refine lv_iload_n hx hb dX6_sheet_78 rfl (lv_at hl 4 rfl) ?_
                  exact b_iret hx hb hr hlocks hH (by have e0 : (0 : Int32).toInt = 0 := (by decide); have e2 : (2 : Int32).toInt = 2 := (by decide); have e40 : (40 : Int32).toInt = 40 := (by decide); try simp only [b_lt, b_le, b_eq] at c2 c3 c4 c5; unfold o_sheet; (repeat' split) <;> first | rfl | omega) dX6_sheet_79
                | succ r ih =>
                  intro i hi w H locs hH ls hl
                  refine lv_iload hx hb dX6_sheet_53 (lv_at hl 0 rfl) ?_
                  refine lv_iload_n hx hb dX6_sheet_55 rfl (lv_at hl 4 rfl) ?_
                  refine lv_icmp_ge (tgt := 78) hx hb dX6_sheet_56 (by decide) (fun c0 => absurd c0 (nI_ge (by omega) (by omega))) (fun _ => ?_)
                  refine lv_aload_n hx hb dX6_sheet_59 rfl (lv_at hl 1 rfl) ?_
                  refine b_get (ci := 6) (C := RX6) (T := TX6) (Nf := 29) (v := .ref (q 11)) hx hb hts in_X6_sheet_X6 hown hK hH 0 (by decide) rfl rfl 15 (by decide) (hts (.fieldLink RX6 44 "StationLineModel" "sheet" "[I") (List.mem_of_getElem? (i := 3) rfl)) rfl dX6_sheet_60 ?_
                  refine lv_bipush (v := 40) hx hb dX6_sheet_63 (by decide) ?_
                  refine lv_iload_n hx hb dX6_sheet_65 rfl (lv_at hl 2 rfl) ?_
                  refine lv_imul hx hb dX6_sheet_66 ?_
                  refine lv_iload hx hb dX6_sheet_67 (lv_at hl 0 rfl) ?_
                  refine lv_iadd hx hb dX6_sheet_69 ?_
                  refine b_vi (v := nI (80 + i)) ((congrArg (fun w9 : Int32 => w9 + nI i) (show (40 * 2 : Int32) = nI 80 from by decide)).trans (nI_add _ _)) ?_
                  refine lv_iconst (v := 0) hx hb dX6_sheet_70 (by decide) ?_
                  refine b_iast hx hb hK hH 11 (by decide) rfl (vp_in_nI (by omega) (by omega)) (upA w 11 (upd (w.2.1 11) (nI (80 + i)).toNatClampNeg 0)) rfl (enM_A _ _ _ _ _) dX6_sheet_71 (fun H locs hH => ?_)
                  refine lv_iinc (v := nI (i + 1)) (lv' := [(4, .int (nI (i + 1))), (0, .ref (q 0)), (1, .int 2), (2, .int x2), (3, .int (nI nn))]) hx hb dX6_sheet_72 hl (k := 0) rfl (nI_succ i).symm (by decide) rfl (fun ls hl => ?_)
                  refine lv_goto (tgt := 53) hx hb dX6_sheet_75 (by decide) ?_
                  exact ih (i + 1) (by omega) _ H locs hH ls hl
              exact loop nn 0 (by omega) _ _ _ hH ls hl
            · skip
              have k3 : (3 : Int32).toInt = 3 := by decide
              refine lv_aload_n hx hb dX6_sheet_36 rfl (lv_at hl 0 rfl) ?_
              refine b_get (ci := 6) (C := RX6) (T := TX6) (Nf := 29) (v := .ref (q 9)) hx hb hts in_X6_sheet_X6 hown hK hH 0 (by decide) rfl rfl 13 (by decide) (hts (.fieldLink RX6 38 "StationLineModel" "sheetSort" "[I") (List.mem_of_getElem? (i := 1) rfl)) rfl dX6_sheet_37 ?_
              refine lv_iload_n hx hb dX6_sheet_40 rfl (lv_at hl 1 rfl) ?_
              refine lv_iload_n hx hb dX6_sheet_41 rfl (lv_at hl 2 rfl) ?_
              refine b_iast hx hb hK hH 9 (by decide) rfl (by unfold vp_in; decide) (upA z 9 (upd (z.2.1 9) (3 : Int32).toNatClampNeg x2)) rfl (enM_A _ _ _ _ _) dX6_sheet_42 (fun H locs hH => ?_)
              obtain ⟨z13, hz13⟩ : ∃ w : zS, w = upA z 9 (upd (z.2.1 9) (3 : Int32).toNatClampNeg x2) := ⟨_, rfl⟩
              rw [← hz13] at hH
              have hFz13 : Fm z13 := by rw [hz13]; exact hF
              refine lv_aload_n hx hb dX6_sheet_43 rfl (lv_at hl 0 rfl) ?_
              refine b_get (ci := 6) (C := RX6) (T := TX6) (Nf := 29) (v := .ref (q 10)) hx hb hts in_X6_sheet_X6 hown hK hH 0 (by decide) rfl rfl 14 (by decide) (hts (.fieldLink RX6 41 "StationLineModel" "sheetSize" "[I") (List.mem_of_getElem? (i := 2) rfl)) rfl dX6_sheet_44 ?_
              refine lv_iload_n hx hb dX6_sheet_47 rfl (lv_at hl 1 rfl) ?_
              refine lv_iload_n hx hb dX6_sheet_48 rfl (lv_at hl 3 rfl) ?_
              refine b_iast hx hb hK hH 10 (by decide) rfl (by unfold vp_in; decide) (upA z13 10 (upd (z13.2.1 10) (3 : Int32).toNatClampNeg x3)) rfl (enM_A _ _ _ _ _) dX6_sheet_49 (fun H locs hH => ?_)
              obtain ⟨z14, hz14⟩ : ∃ w : zS, w = upA z13 10 (upd (z13.2.1 10) (3 : Int32).toNatClampNeg x3) := ⟨_, rfl⟩
              rw [← hz14] at hH
              refine lv_iconst (v := 0) hx hb dX6_sheet_50 (by decide) ?_
              refine lv_istore (lv' := [(4, .int 0), (0, .ref (q 0)), (1, .int 3), (2, .int x2), (3, .int x3)]) hx hb dX6_sheet_51 hl (by decide) rfl (fun ls hl => ?_)
              obtain ⟨nn, hnn, hx3⟩ : ∃ nn : Nat, nn ≤ 40 ∧ x3 = nI nn := nI_of2 (M := 40) (n := 40) (by decide) (by have e0 : (0 : Int32).toInt = 0 := (by decide); have e2 : (2 : Int32).toInt = 2 := (by decide); have e40 : (40 : Int32).toInt = 40 := (by decide); try simp only [b_lt, b_le, b_eq] at c2 c3 c4 c5; intro h9; rw [b_lt] at h9; omega) (by have e0 : (0 : Int32).toInt = 0 := (by decide); have e2 : (2 : Int32).toInt = 2 := (by decide); have e40 : (40 : Int32).toInt = 40 := (by decide); try simp only [b_lt, b_le, b_eq] at c2 c3 c4 c5; rw [b_le]; have e40 : (40 : Int32).toInt = 40 := (by decide); omega)
              subst hx3
              have tnn : (nI nn).toInt = nn := nI_toInt (by omega)
              have loop : ∀ (r i : Nat), i + r = nn → ∀ (w : zS) (H : Heap) (locs : List Loc), bH D 23 (enM cy) q w s.heap H locs → ∀ ls : Array Slot, lv_has ls 5 [(4, .int (nI i)), (0, .ref (q 0)), (1, .int 3), (2, .int x2), (3, .int (nI nn))] → W p l e (headSpec wsX6_sheet ({ frames := 1, cells := 0, slots := 0, locals := 21 })).room s m ([.ref (q 0), .int 3, .int x2, .int (nI nn)] : List Value).toArray below meth c H locs 0 0 (MQ below (va_Qi (fun r _ => (o_sheet 3 x2 (nI nn) : Int32) = r) (bPos D 23 (enM cy) q) (bA 23 q s.heap.size)) ([.ref (q 0), .int 3, .int x2, .int (nI nn)] : List Value).toArray s 0 0 (bA 23 q s.heap.size)) (F0 m 53 ls []) := by
                intro r
                induction r with
                | zero =>
                  intro i hi w H locs hH ls hl
                  refine lv_iload hx hb dX6_sheet_53 (lv_at hl 0 rfl) ?_
                  refine lv_iload_n hx hb dX6_sheet_55 rfl (lv_at hl 4 rfl) ?_
                  refine lv_icmp_ge (tgt := 78) hx hb dX6_sheet_56 (by decide) (fun _ => ?_) (fun c0 => absurd (nI_le (by omega) (by omega)) c0)
                  refine lv_iload_n hx hb dX6_sheet_78 rfl (lv_at hl 4 rfl) ?_
                  exact b_iret hx hb hr hlocks hH (by have e0 : (0 : Int32).toInt = 0 := (by decide); have e2 : (2 : Int32).toInt = 2 := (by decide); have e40 : (40 : Int32).toInt = 40 := (by decide); try simp only [b_lt, b_le, b_eq] at c2 c3 c4 c5; unfold o_sheet; (repeat' split) <;> first | rfl | omega) dX6_sheet_79
                | succ r ih =>
                  intro i hi w H locs hH ls hl
                  refine lv_iload hx hb dX6_sheet_53 (lv_at hl 0 rfl) ?_
                  refine lv_iload_n hx hb dX6_sheet_55 rfl (lv_at hl 4 rfl) ?_
                  refine lv_icmp_ge (tgt := 78) hx hb dX6_sheet_56 (by decide) (fun c0 => absurd c0 (nI_ge (by omega) (by omega))) (fun _ => ?_)
                  refine lv_aload_n hx hb dX6_sheet_59 rfl (lv_at hl 1 rfl) ?_
                  refine b_get (ci := 6) (C := RX6) (T := TX6) (Nf := 29) (v := .ref (q 11)) hx hb hts in_X6_sheet_X6 hown hK hH 0 (by decide) rfl rfl 15 (by decide) (hts (.fieldLink RX6 44 "StationLineModel" "sheet" "[I") (List.mem_of_getElem? (i := 3) rfl)) rfl dX6_sheet_60 ?_
                  refine lv_bipush (v := 40) hx hb dX6_sheet_63 (by decide) ?_
                  refine lv_iload_n hx hb dX6_sheet_65 rfl (lv_at hl 2 rfl) ?_
                  refine lv_imul hx hb dX6_sheet_66 ?_
                  refine lv_iload hx hb dX6_sheet_67 (lv_at hl 0 rfl) ?_
                  refine lv_iadd hx hb dX6_sheet_69 ?_
                  refine b_vi (v := nI (120 + i)) ((congrArg (fun w9 : Int32 => w9 + nI i) (show (40 * 3 : Int32) = nI 120 from by decide)).trans (nI_add _ _)) ?_
                  refine lv_iconst (v := 0) hx hb dX6_sheet_70 (by decide) ?_
                  refine b_iast hx hb hK hH 11 (by decide) rfl (vp_in_nI (by omega) (by omega)) (upA w 11 (upd (w.2.1 11) (nI (120 + i)).toNatClampNeg 0)) rfl (enM_A _ _ _ _ _) dX6_sheet_71 (fun H locs hH => ?_)
                  refine lv_iinc (v := nI (i + 1)) (lv' := [(4, .int (nI (i + 1))), (0, .ref (q 0)), (1, .int 3), (2, .int x2), (3, .int (nI nn))]) hx hb dX6_sheet_72 hl (k := 0) rfl (nI_succ i).symm (by decide) rfl (fun ls hl => ?_)
                  refine lv_goto (tgt := 53) hx hb dX6_sheet_75 (by decide) ?_
                  exact ih (i + 1) (by omega) _ H locs hH ls hl
              exact loop nn 0 (by omega) _ _ _ hH ls hl
          · skip
            refine lv_aload_n hx hb dX6_sheet_29 rfl (lv_at hl 0 rfl) ?_
            refine lv_bipush (v := (-13)) hx hb dX6_sheet_30 (by decide) ?_
            refine b_calli (As := [.int (-13)]) (rest := []) ⟨hx, hb, hml, hown, hts⟩ 0 6 (c_X6_meet_0 l D cy q hH.2.1 z hF (-13)   ) (cwV 1 hts gX6_sheet_X6_meet rfl rfl rfl (by decide +kernel) ⟨Nat.le_of_ble_eq_true rfl, Nat.le_of_ble_eq_true rfl⟩) hK hZ hH (by decide) rfl rfl rfl hl.1 rfl (Nat.le_of_ble_eq_true rfl) ⟨Nat.zero_le _, Nat.zero_le _⟩ dX6_sheet_32 (fun r15 z15 H locs hp15 hH => ?_)
            obtain rfl := hp15
            exact b_iret hx hb hr hlocks hH ((by have e0 : (0 : Int32).toInt = 0 := (by decide); have e2 : (2 : Int32).toInt = 2 := (by decide); have e40 : (40 : Int32).toInt = 40 := (by decide); try simp only [b_lt, b_le, b_eq] at c2 c3 c4 c5; first | rfl | (unfold o_sheet; (repeat' split) <;> first | rfl | omega))) dX6_sheet_35
        · skip
          refine lv_bipush (v := (-2)) hx hb dX6_sheet_22 (by decide) ?_
          exact b_iret hx hb hr hlocks hH ((by have e0 : (0 : Int32).toInt = 0 := (by decide); have e2 : (2 : Int32).toInt = 2 := (by decide); have e40 : (40 : Int32).toInt = 40 := (by decide); try simp only [b_lt, b_le, b_eq] at c2 c3 c4; first | rfl | (unfold o_sheet; (repeat' split) <;> first | rfl | omega))) dX6_sheet_24
  · skip
    refine lv_if_eq (tgt := 22) hx hb dX6_sheet_4 (by decide) (fun _ => ?_) (fun c0 => absurd c0 (by decide))
    refine lv_bipush (v := (-2)) hx hb dX6_sheet_22 (by decide) ?_
    exact b_iret hx hb hr hlocks hH ((by first | rfl | (unfold o_sheet; (repeat' split) <;> first | rfl | omega))) dX6_sheet_24
set_option maxHeartbeats 4000000 in
set_option maxRecDepth 100000 in
theorem c_X6_write (l : Launch) (D : va_G) (cy : Nat → ClassId) (q : Nat → Nat) (hq : bJ 23 q) (z : zS) (hF : Fm z) (h10 : z.1 2 = 10) (x1 : Int32) (x2 : Int32) (x3 : Int32) : bCi l yX6_write wsX6_write ({ frames := 1, cells := 0, slots := 0, locals := 21 }) D cy 23 (enM cy) q z [.ref (q 0), .int x1, .int x2, .int x3] (fun r _ => (o_write x1 : Int32) = r) := by
  intro sz
  refine Met.ofW (cc := cX6_write) (maxL := 5) (ret := (some .int)) (by decide) rfl ?_
  intro p e s m args below meth c s₁ B hml hv
  obtain ⟨rfl, hsz, hP, hK, hZ⟩ := hv
  have hx := B.exec
  have hb := B.bytes
  have hr := B.returns
  have hts := atoms_spec (ws := wsX6_write) B.pre
  have hown : s.vm.findClass RX6 = some m.cls := findClass_of_methodNamed B.named
  have hlocks := B.notSynchronized
  subst hsz
  have hH : bH D 23 (enM cy) q z s.heap s.heap [] := bH_in hq hP
  have hl := lv_entry ([.ref (q 0), .int x1, .int x2, .int x3]) (n := 5) (Nat.le_of_ble_eq_true rfl)
  rw [lg_entry_eq]
  generalize (lg_sl ([.ref (q 0), .int x1, .int x2, .int x3]) ++ List.replicate (5 - (lg_sl ([.ref (q 0), .int x1, .int x2, .int x3])).length) Slot.unset).toArray = ls at hl ⊢
  have hl : lv_has ls 5 [(0, .ref (q 0)), (1, .int x1), (2, .int x2), (3, .int x3)] := hl
  refine lv_iload_n hx hb dX6_write_0 rfl (lv_at hl 1 rfl) ?_
  refine b_stati (As := [.int x1]) (rest := []) ⟨hx, hb, hml, hown, hts⟩ (c_X6_isSheet l D cy q hH.2.1 z x1) (va_cwS 1 hts gX6_write_X6_isSheet rfl rfl rfl (by decide +kernel) ⟨Nat.le_of_ble_eq_true rfl, Nat.le_of_ble_eq_true rfl⟩) hK hZ hH rfl hl.1 rfl (Nat.le_of_ble_eq_true rfl) ⟨Nat.zero_le _, Nat.zero_le _⟩ dX6_write_1 (fun r1 z1 H locs hp1 hH => ?_)
  rcases hp1 with ⟨rfl, ⟨rfl, a1⟩ | ⟨rfl, a1⟩⟩
  · skip
    refine lv_if_ne (tgt := 10) hx hb dX6_write_4 (by decide) (fun _ => ?_) (fun c0 => absurd c0 (by decide))
    refine lv_aload_n hx hb dX6_write_10 rfl (lv_at hl 0 rfl) ?_
    refine b_get (ci := 6) (C := RX6) (T := TX6) (Nf := 29) (v := .ref (q 10)) hx hb hts in_X6_write_X6 hown hK hH 0 (by decide) rfl rfl 14 (by decide) (hts (.fieldLink RX6 41 "StationLineModel" "sheetSize" "[I") (List.mem_of_getElem? (i := 1) rfl)) rfl dX6_write_11 ?_
    refine lv_iload_n hx hb dX6_write_14 rfl (lv_at hl 1 rfl) ?_
    refine b_iald (v := (-1)) hx hb hK hH 10 (by decide) rfl (b_inof ⟨a1.1, by have := a1.2; omega⟩) (Fm_9 hF _ (b_inlt (b_inof ⟨a1.1, by have := a1.2; omega⟩))) dX6_write_15 ?_
    refine lv_if_ge (tgt := 26) hx hb dX6_write_16 (by decide) (fun c0 => absurd c0 (by decide)) (fun _ => ?_)
    refine lv_aload_n hx hb dX6_write_19 rfl (lv_at hl 0 rfl) ?_
    refine lv_bipush (v := (-10)) hx hb dX6_write_20 (by decide) ?_
    refine b_calli (As := [.int (-10)]) (rest := []) ⟨hx, hb, hml, hown, hts⟩ 0 6 (c_X6_meet_0 l D cy q hH.2.1 z hF (-10)   ) (cwV 1 hts gX6_write_X6_meet rfl rfl rfl (by decide +kernel) ⟨Nat.le_of_ble_eq_true rfl, Nat.le_of_ble_eq_true rfl⟩) hK hZ hH (by decide) rfl rfl rfl hl.1 rfl (Nat.le_of_ble_eq_true rfl) ⟨Nat.zero_le _, Nat.zero_le _⟩ dX6_write_22 (fun r2 z2 H locs hp2 hH => ?_)
    obtain rfl := hp2
    exact b_iret hx hb hr hlocks hH ((by first | rfl | (unfold o_write; (repeat' split) <;> first | rfl | omega))) dX6_write_25
  · skip
    refine lv_if_ne (tgt := 10) hx hb dX6_write_4 (by decide) (fun c0 => absurd c0 (by decide)) (fun _ => ?_)
    refine lv_bipush (v := (-2)) hx hb dX6_write_7 (by decide) ?_
    exact b_iret hx hb hr hlocks hH ((by first | rfl | (unfold o_write; (repeat' split) <;> first | rfl | omega))) dX6_write_9
set_option maxHeartbeats 4000000 in
set_option maxRecDepth 100000 in
theorem c_X6_take (l : Launch) (D : va_G) (cy : Nat → ClassId) (q : Nat → Nat) (hq : bJ 23 q) (z : zS) (hF : Fm z) (h10 : z.1 2 = 10) (x1 : Int32) (x2 : Int32) (x3 : Int32) (x4 : Int32) : bCi l yX6_take wsX6_take ({ frames := 1, cells := 0, slots := 0, locals := 21 }) D cy 23 (enM cy) q z [.ref (q 0), .int x1, .int x2, .int x3, .int x4] (fun r _ => (o_take x1 x2 x3 : Int32) = r) := by
  intro sz
  refine Met.ofW (cc := cX6_take) (maxL := 8) (ret := (some .int)) (by decide) rfl ?_
  intro p e s m args below meth c s₁ B hml hv
  obtain ⟨rfl, hsz, hP, hK, hZ⟩ := hv
  have hx := B.exec
  have hb := B.bytes
  have hr := B.returns
  have hts := atoms_spec (ws := wsX6_take) B.pre
  have hown : s.vm.findClass RX6 = some m.cls := findClass_of_methodNamed B.named
  have hlocks := B.notSynchronized
  subst hsz
  have hH : bH D 23 (enM cy) q z s.heap s.heap [] := bH_in hq hP
  have hl := lv_entry ([.ref (q 0), .int x1, .int x2, .int x3, .int x4]) (n := 8) (Nat.le_of_ble_eq_true rfl)
  rw [lg_entry_eq]
  generalize (lg_sl ([.ref (q 0), .int x1, .int x2, .int x3, .int x4]) ++ List.replicate (8 - (lg_sl ([.ref (q 0), .int x1, .int x2, .int x3, .int x4])).length) Slot.unset).toArray = ls at hl ⊢
  have hl : lv_has ls 8 [(0, .ref (q 0)), (1, .int x1), (2, .int x2), (3, .int x3), (4, .int x4)] := hl
  refine lv_iload_n hx hb dX6_take_0 rfl (lv_at hl 1 rfl) ?_
  refine b_stati (As := [.int x1]) (rest := []) ⟨hx, hb, hml, hown, hts⟩ (c_X6_isMake l D cy q hH.2.1 z x1) (va_cwS 1 hts gX6_take_X6_isMake rfl rfl rfl (by decide +kernel) ⟨Nat.le_of_ble_eq_true rfl, Nat.le_of_ble_eq_true rfl⟩) hK hZ hH rfl hl.1 rfl (Nat.le_of_ble_eq_true rfl) ⟨Nat.zero_le _, Nat.zero_le _⟩ dX6_take_1 (fun r1 z1 H locs hp1 hH => ?_)
  rcases hp1 with ⟨rfl, ⟨rfl, a1⟩ | ⟨rfl, a1⟩⟩
  · skip
    refine lv_if_eq (tgt := 23) hx hb dX6_take_4 (by decide) (fun c0 => absurd c0 (by decide)) (fun _ => ?_)
    refine lv_iload_n hx hb dX6_take_7 rfl (lv_at hl 2 rfl) ?_
    refine b_stati (As := [.int x2]) (rest := []) ⟨hx, hb, hml, hown, hts⟩ (c_X6_isSheet l D cy q hH.2.1 z x2) (va_cwS 1 hts gX6_take_X6_isSheet rfl rfl rfl (by decide +kernel) ⟨Nat.le_of_ble_eq_true rfl, Nat.le_of_ble_eq_true rfl⟩) hK hZ hH rfl hl.1 rfl (Nat.le_of_ble_eq_true rfl) ⟨Nat.zero_le _, Nat.zero_le _⟩ dX6_take_8 (fun r2 z2 H locs hp2 hH => ?_)
    rcases hp2 with ⟨rfl, ⟨rfl, a2⟩ | ⟨rfl, a2⟩⟩
    · skip
      refine lv_if_eq (tgt := 23) hx hb dX6_take_11 (by decide) (fun c0 => absurd c0 (by decide)) (fun _ => ?_)
      refine lv_iload_n hx hb dX6_take_14 rfl (lv_at hl 3 rfl) ?_
      refine lv_if_lt (tgt := 23) hx hb dX6_take_15 (by decide) (fun c3 => ?_) (fun c3 => ?_)
      · skip
        refine lv_bipush (v := (-2)) hx hb dX6_take_23 (by decide) ?_
        exact b_iret hx hb hr hlocks hH ((by have e0 : (0 : Int32).toInt = 0 := (by decide); try simp only [b_lt, b_le, b_eq] at c3; first | rfl | (unfold o_take; (repeat' split) <;> first | rfl | omega))) dX6_take_25
      · skip
        refine lv_iload_n hx hb dX6_take_18 rfl (lv_at hl 3 rfl) ?_
        refine lv_iconst (v := 2) hx hb dX6_take_19 (by decide) ?_
        refine lv_icmp_le (tgt := 26) hx hb dX6_take_20 (by decide) (fun c4 => ?_) (fun c4 => ?_)
        · skip
          refine lv_aload_n hx hb dX6_take_26 rfl (lv_at hl 0 rfl) ?_
          refine b_get (ci := 6) (C := RX6) (T := TX6) (Nf := 29) (v := .ref (q 10)) hx hb hts in_X6_take_X6 hown hK hH 0 (by decide) rfl rfl 14 (by decide) (hts (.fieldLink RX6 41 "StationLineModel" "sheetSize" "[I") (List.mem_of_getElem? (i := 1) rfl)) rfl dX6_take_27 ?_
          refine lv_iload_n hx hb dX6_take_30 rfl (lv_at hl 2 rfl) ?_
          refine b_iald (v := (-1)) hx hb hK hH 10 (by decide) rfl (b_inof ⟨a2.1, by have := a2.2; omega⟩) (Fm_9 hF _ (b_inlt (b_inof ⟨a2.1, by have := a2.2; omega⟩))) dX6_take_31 ?_
          refine lv_if_ge (tgt := 42) hx hb dX6_take_32 (by decide) (fun c0 => absurd c0 (by decide)) (fun _ => ?_)
          refine lv_aload_n hx hb dX6_take_35 rfl (lv_at hl 0 rfl) ?_
          refine lv_bipush (v := (-10)) hx hb dX6_take_36 (by decide) ?_
          refine b_calli (As := [.int (-10)]) (rest := []) ⟨hx, hb, hml, hown, hts⟩ 0 6 (c_X6_meet_0 l D cy q hH.2.1 z hF (-10)   ) (cwV 1 hts gX6_take_X6_meet rfl rfl rfl (by decide +kernel) ⟨Nat.le_of_ble_eq_true rfl, Nat.le_of_ble_eq_true rfl⟩) hK hZ hH (by decide) rfl rfl rfl hl.1 rfl (Nat.le_of_ble_eq_true rfl) ⟨Nat.zero_le _, Nat.zero_le _⟩ dX6_take_38 (fun r5 z5 H locs hp5 hH => ?_)
          obtain rfl := hp5
          exact b_iret hx hb hr hlocks hH ((by have e0 : (0 : Int32).toInt = 0 := (by decide); have e2 : (2 : Int32).toInt = 2 := (by decide); try simp only [b_lt, b_le, b_eq] at c3 c4; first | rfl | (unfold o_take; (repeat' split) <;> first | rfl | omega))) dX6_take_41
        · skip
          refine lv_bipush (v := (-2)) hx hb dX6_take_23 (by decide) ?_
          exact b_iret hx hb hr hlocks hH ((by have e0 : (0 : Int32).toInt = 0 := (by decide); have e2 : (2 : Int32).toInt = 2 := (by decide); try simp only [b_lt, b_le, b_eq] at c3 c4; first | rfl | (unfold o_take; (repeat' split) <;> first | rfl | omega))) dX6_take_25
    · skip
      refine lv_if_eq (tgt := 23) hx hb dX6_take_11 (by decide) (fun _ => ?_) (fun c0 => absurd c0 (by decide))
      refine lv_bipush (v := (-2)) hx hb dX6_take_23 (by decide) ?_
      exact b_iret hx hb hr hlocks hH ((by first | rfl | (unfold o_take; (repeat' split) <;> first | rfl | omega))) dX6_take_25
  · skip
    refine lv_if_eq (tgt := 23) hx hb dX6_take_4 (by decide) (fun _ => ?_) (fun c0 => absurd c0 (by decide))
    refine lv_bipush (v := (-2)) hx hb dX6_take_23 (by decide) ?_
    exact b_iret hx hb hr hlocks hH ((by first | rfl | (unfold o_take; (repeat' split) <;> first | rfl | omega))) dX6_take_25
set_option maxHeartbeats 4000000 in
set_option maxRecDepth 100000 in
theorem c_X6_lose (l : Launch) (D : va_G) (cy : Nat → ClassId) (q : Nat → Nat) (hq : bJ 23 q) (z : zS) (hF : Fm z) (h10 : z.1 2 = 10) (x1 : Int32) : bCi l yX6_lose wsX6_lose ({ frames := 1, cells := 0, slots := 0, locals := 20 }) D cy 23 (enM cy) q z [.ref (q 0), .int x1] (fun r _ => (o_lose x1 : Int32) = r) := by
  intro sz
  refine Met.ofW (cc := cX6_lose) (maxL := 3) (ret := (some .int)) (by decide) rfl ?_
  intro p e s m args below meth c s₁ B hml hv
  obtain ⟨rfl, hsz, hP, hK, hZ⟩ := hv
  have hx := B.exec
  have hb := B.bytes
  have hr := B.returns
  have hts := atoms_spec (ws := wsX6_lose) B.pre
  have hown : s.vm.findClass RX6 = some m.cls := findClass_of_methodNamed B.named
  have hlocks := B.notSynchronized
  subst hsz
  have hH : bH D 23 (enM cy) q z s.heap s.heap [] := bH_in hq hP
  have hl := lv_entry ([.ref (q 0), .int x1]) (n := 3) (Nat.le_of_ble_eq_true rfl)
  rw [lg_entry_eq]
  generalize (lg_sl ([.ref (q 0), .int x1]) ++ List.replicate (3 - (lg_sl ([.ref (q 0), .int x1])).length) Slot.unset).toArray = ls at hl ⊢
  have hl : lv_has ls 3 [(0, .ref (q 0)), (1, .int x1)] := hl
  refine lv_iload_n hx hb dX6_lose_0 rfl (lv_at hl 1 rfl) ?_
  refine b_stati (As := [.int x1]) (rest := []) ⟨hx, hb, hml, hown, hts⟩ (c_X6_isSheet l D cy q hH.2.1 z x1) (va_cwS 1 hts gX6_lose_X6_isSheet rfl rfl rfl (by decide +kernel) ⟨Nat.le_of_ble_eq_true rfl, Nat.le_of_ble_eq_true rfl⟩) hK hZ hH rfl hl.1 rfl (Nat.le_of_ble_eq_true rfl) ⟨Nat.zero_le _, Nat.zero_le _⟩ dX6_lose_1 (fun r1 z1 H locs hp1 hH => ?_)
  rcases hp1 with ⟨rfl, ⟨rfl, a1⟩ | ⟨rfl, a1⟩⟩
  · skip
    refine lv_if_ne (tgt := 10) hx hb dX6_lose_4 (by decide) (fun _ => ?_) (fun c0 => absurd c0 (by decide))
    refine lv_aload_n hx hb dX6_lose_10 rfl (lv_at hl 0 rfl) ?_
    refine b_get (ci := 6) (C := RX6) (T := TX6) (Nf := 29) (v := .ref (q 10)) hx hb hts in_X6_lose_X6 hown hK hH 0 (by decide) rfl rfl 14 (by decide) (hts (.fieldLink RX6 41 "StationLineModel" "sheetSize" "[I") (List.mem_of_getElem? (i := 1) rfl)) rfl dX6_lose_11 ?_
    refine lv_iload_n hx hb dX6_lose_14 rfl (lv_at hl 1 rfl) ?_
    refine b_iald (v := (-1)) hx hb hK hH 10 (by decide) rfl (b_inof ⟨a1.1, by have := a1.2; omega⟩) (Fm_9 hF _ (b_inlt (b_inof ⟨a1.1, by have := a1.2; omega⟩))) dX6_lose_15 ?_
    refine lv_if_lt (tgt := 23) hx hb dX6_lose_16 (by decide) (fun _ => ?_) (fun c0 => absurd c0 (by decide))
    refine lv_iconst (v := 0) hx hb dX6_lose_23 (by decide) ?_
    refine lv_istore_n (lv' := [(2, .int 0), (0, .ref (q 0)), (1, .int x1)]) hx hb dX6_lose_24 rfl hl (by decide) rfl (fun ls hl => ?_)
    refine lv_aload_n hx hb dX6_lose_25 rfl (lv_at hl 1 rfl) ?_
    refine b_get (ci := 6) (C := RX6) (T := TX6) (Nf := 29) (v := .ref (q 10)) hx hb hts in_X6_lose_X6 hown hK hH 0 (by decide) rfl rfl 14 (by decide) (hts (.fieldLink RX6 41 "StationLineModel" "sheetSize" "[I") (List.mem_of_getElem? (i := 1) rfl)) rfl dX6_lose_26 ?_
    refine lv_iload_n hx hb dX6_lose_29 rfl (lv_at hl 2 rfl) ?_
    refine lv_iconst (v := (-1)) hx hb dX6_lose_30 (by decide) ?_
    refine b_iast hx hb hK hH 10 (by decide) rfl (b_inof ⟨a1.1, by have := a1.2; omega⟩) (upA z 10 (upd (z.2.1 10) (x1 : Int32).toNatClampNeg (-1))) rfl (enM_A _ _ _ _ _) dX6_lose_31 (fun H locs hH => ?_)
    obtain ⟨z2, hz2⟩ : ∃ w : zS, w = upA z 10 (upd (z.2.1 10) (x1 : Int32).toNatClampNeg (-1)) := ⟨_, rfl⟩
    rw [← hz2] at hH
    refine lv_iload_n hx hb dX6_lose_32 rfl (lv_at hl 0 rfl) ?_
    exact b_iret hx hb hr hlocks hH ((by first | rfl | (unfold o_lose; (repeat' split) <;> first | rfl | omega))) dX6_lose_33
  · skip
    refine lv_if_ne (tgt := 10) hx hb dX6_lose_4 (by decide) (fun c0 => absurd c0 (by decide)) (fun _ => ?_)
    refine lv_bipush (v := (-2)) hx hb dX6_lose_7 (by decide) ?_
    exact b_iret hx hb hr hlocks hH ((by first | rfl | (unfold o_lose; (repeat' split) <;> first | rfl | omega))) dX6_lose_9
set_option maxHeartbeats 4000000 in
set_option maxRecDepth 100000 in
theorem c_X6_tell (l : Launch) (D : va_G) (cy : Nat → ClassId) (q : Nat → Nat) (hq : bJ 23 q) (z : zS) (hF : Fm z) (h10 : z.1 2 = 10) (x1 : Int32) : bCi l yX6_tell wsX6_tell ({ frames := 0, cells := 0, slots := 0, locals := 0 }) D cy 23 (enM cy) q z [.ref (q 0), .int x1] (fun r _ => (1 : Int32) = r) := by
  intro sz
  refine Met.ofW (cc := cX6_tell) (maxL := 2) (ret := (some .int)) (by decide) rfl ?_
  intro p e s m args below meth c s₁ B hml hv
  obtain ⟨rfl, hsz, hP, hK, hZ⟩ := hv
  have hx := B.exec
  have hb := B.bytes
  have hr := B.returns
  have hts := atoms_spec (ws := wsX6_tell) B.pre
  have hown : s.vm.findClass RX6 = some m.cls := findClass_of_methodNamed B.named
  have hlocks := B.notSynchronized
  subst hsz
  have hH : bH D 23 (enM cy) q z s.heap s.heap [] := bH_in hq hP
  have hl := lv_entry ([.ref (q 0), .int x1]) (n := 2) (Nat.le_of_ble_eq_true rfl)
  rw [lg_entry_eq]
  generalize (lg_sl ([.ref (q 0), .int x1]) ++ List.replicate (2 - (lg_sl ([.ref (q 0), .int x1])).length) Slot.unset).toArray = ls at hl ⊢
  have hl : lv_has ls 2 [(0, .ref (q 0)), (1, .int x1)] := hl
  refine lv_aload_n hx hb dX6_tell_0 rfl (lv_at hl 0 rfl) ?_
  refine b_get (ci := 6) (C := RX6) (T := TX6) (Nf := 29) (v := .int 0) hx hb hts in_X6_tell_X6 hown hK hH 0 (by decide) rfl rfl 16 (by decide) (hts (.fieldLink RX6 201 "StationLineModel" "waits" "I") (List.mem_of_getElem? (i := 1) rfl)) (congrArg (fun x => some (Value.int x)) (Fm_4 hF)) dX6_tell_1 ?_
  refine lv_bipush (v := 20) hx hb dX6_tell_4 (by decide) ?_
  refine lv_icmp_ne (tgt := 12) hx hb dX6_tell_6 (by decide) (fun _ => ?_) (fun c0 => absurd c0 (by decide))
  refine lv_aload_n hx hb dX6_tell_12 rfl (lv_at hl 0 rfl) ?_
  refine b_get (ci := 6) (C := RX6) (T := TX6) (Nf := 29) (v := .ref (q 12)) hx hb hts in_X6_tell_X6 hown hK hH 0 (by decide) rfl rfl 17 (by decide) (hts (.fieldLink RX6 47 "StationLineModel" "waiting" "[I") (List.mem_of_getElem? (i := 2) rfl)) rfl dX6_tell_13 ?_
  refine lv_aload_n hx hb dX6_tell_16 rfl (lv_at hl 0 rfl) ?_
  refine b_get (ci := 6) (C := RX6) (T := TX6) (Nf := 29) (v := .int 0) hx hb hts in_X6_tell_X6 hown hK hH 0 (by decide) rfl rfl 16 (by decide) (hts (.fieldLink RX6 201 "StationLineModel" "waits" "I") (List.mem_of_getElem? (i := 1) rfl)) (congrArg (fun x => some (Value.int x)) (Fm_4 hF)) dX6_tell_17 ?_
  refine lv_iload_n hx hb dX6_tell_20 rfl (lv_at hl 1 rfl) ?_
  refine b_iast hx hb hK hH 12 (by decide) rfl (by unfold vp_in; decide) (upA z 12 (upd (z.2.1 12) (0 : Int32).toNatClampNeg x1)) rfl (enM_A _ _ _ _ _) dX6_tell_21 (fun H locs hH => ?_)
  obtain ⟨z1, hz1⟩ : ∃ w : zS, w = upA z 12 (upd (z.2.1 12) (0 : Int32).toNatClampNeg x1) := ⟨_, rfl⟩
  rw [← hz1] at hH
  have hFz1 : Fm z1 := by rw [hz1]; exact hF
  refine lv_aload_n hx hb dX6_tell_22 rfl (lv_at hl 0 rfl) ?_
  refine lv_dup hx hb dX6_tell_23 rfl ?_
  refine b_get (ci := 6) (C := RX6) (T := TX6) (Nf := 29) (v := .int 0) hx hb hts in_X6_tell_X6 hown hK hH 0 (by decide) rfl rfl 16 (by decide) (hts (.fieldLink RX6 201 "StationLineModel" "waits" "I") (List.mem_of_getElem? (i := 1) rfl)) (congrArg (fun x => some (Value.int x)) (Fm_4 hFz1)) dX6_tell_24 ?_
  refine lv_iconst (v := 1) hx hb dX6_tell_27 (by decide) ?_
  refine lv_iadd hx hb dX6_tell_28 ?_
  refine b_vi (v := 1) (by decide) ?_
  refine b_put (ci := 6) (C := RX6) (T := TX6) (Nf := 29) (v := .int 1) (ty := .int) hx hb hts in_X6_tell_X6 tyX6 tyX6_ok nmX6 hown hK hH 0 (by decide) rfl rfl 16 (by decide) (hts (.fieldLink RX6 201 "StationLineModel" "waits" "I") (List.mem_of_getElem? (i := 1) rfl)) rfl (by decide +kernel) rfl rfl (Nat.le_of_ble_eq_true rfl) (upS z1 5 1) rfl (enM_S5 _ _ _ _) dX6_tell_29 (fun H locs hH => ?_)
  obtain ⟨z2, hz2⟩ : ∃ w : zS, w = upS z1 5 1 := ⟨_, rfl⟩
  rw [← hz2] at hH
  refine lv_aload_n hx hb dX6_tell_32 rfl (lv_at hl 0 rfl) ?_
  refine b_get (ci := 6) (C := RX6) (T := TX6) (Nf := 29) (v := .int 1) hx hb hts in_X6_tell_X6 hown hK hH 0 (by decide) rfl rfl 16 (by decide) (hts (.fieldLink RX6 201 "StationLineModel" "waits" "I") (List.mem_of_getElem? (i := 1) rfl)) (congrArg (fun x => some (Value.int x)) (by rw [hz2]; rfl)) dX6_tell_33 ?_
  exact b_iret hx hb hr hlocks hH ((by first | rfl | ((repeat' split) <;> first | rfl | omega))) dX6_tell_36
set_option maxHeartbeats 4000000 in
set_option maxRecDepth 100000 in
theorem c_X6_check (l : Launch) (D : va_G) (cy : Nat → ClassId) (q : Nat → Nat) (hq : bJ 23 q) (z : zS) (hF : Fm z) (h10 : z.1 2 = 10)  : bCi l yX6_check wsX6_check ({ frames := 5, cells := 0, slots := 0, locals := 117 }) D cy 23 (enM cy) q z [.ref (q 0)] (fun r _ => (0 : Int32) = r) := by
  intro sz
  refine Met.ofW (cc := cX6_check) (maxL := 4) (ret := (some .int)) (by decide) rfl ?_
  intro p e s m args below meth c s₁ B hml hv
  obtain ⟨rfl, hsz, hP, hK, hZ⟩ := hv
  have hx := B.exec
  have hb := B.bytes
  have hr := B.returns
  have hts := atoms_spec (ws := wsX6_check) B.pre
  have hown : s.vm.findClass RX6 = some m.cls := findClass_of_methodNamed B.named
  have hlocks := B.notSynchronized
  subst hsz
  have hH : bH D 23 (enM cy) q z s.heap s.heap [] := bH_in hq hP
  have hl := lv_entry ([.ref (q 0)]) (n := 4) (Nat.le_of_ble_eq_true rfl)
  rw [lg_entry_eq]
  generalize (lg_sl ([.ref (q 0)]) ++ List.replicate (4 - (lg_sl ([.ref (q 0)])).length) Slot.unset).toArray = ls at hl ⊢
  have hl : lv_has ls 4 [(0, .ref (q 0))] := hl
  refine lv_aload_n hx hb dX6_check_0 rfl (lv_at hl 0 rfl) ?_
  refine b_get (ci := 6) (C := RX6) (T := TX6) (Nf := 29) (v := .int 0) hx hb hts in_X6_check_X6 hown hK hH 0 (by decide) rfl rfl 16 (by decide) (hts (.fieldLink RX6 201 "StationLineModel" "waits" "I") (List.mem_of_getElem? (i := 1) rfl)) (congrArg (fun x => some (Value.int x)) (Fm_4 hF)) dX6_check_1 ?_
  refine lv_istore_n (lv' := [(1, .int 0), (0, .ref (q 0))]) hx hb dX6_check_4 rfl hl (by decide) rfl (fun ls hl => ?_)
  refine lv_aload_n hx hb dX6_check_5 rfl (lv_at hl 1 rfl) ?_
  refine lv_iconst (v := 0) hx hb dX6_check_6 (by decide) ?_
  refine b_put (ci := 6) (C := RX6) (T := TX6) (Nf := 29) (v := .int 0) (ty := .int) hx hb hts in_X6_check_X6 tyX6 tyX6_ok nmX6 hown hK hH 0 (by decide) rfl rfl 16 (by decide) (hts (.fieldLink RX6 201 "StationLineModel" "waits" "I") (List.mem_of_getElem? (i := 1) rfl)) rfl (by decide +kernel) rfl rfl (Nat.le_of_ble_eq_true rfl) (upS z 5 0) rfl (enM_S5 _ _ _ _) dX6_check_7 (fun H locs hH => ?_)
  obtain ⟨z1, hz1⟩ : ∃ w : zS, w = upS z 5 0 := ⟨_, rfl⟩
  rw [← hz1] at hH
  have hFz1 : Fm z1 := by rw [hz1]; exact ⟨Fm_0 (z := z) hF, Fm_1 (z := z) hF, Fm_2 (z := z) hF, Fm_3 (z := z) hF, rfl, Fm_5 (z := z) hF, Fm_6 (z := z) hF, Fm_7 (z := z) hF, Fm_8 (z := z) hF, Fm_9 (z := z) hF⟩
  refine lv_iload_n hx hb dX6_check_10 rfl (lv_at hl 0 rfl) ?_
  refine lv_aload_n hx hb dX6_check_11 rfl (lv_at hl 1 rfl) ?_
  refine b_get (ci := 6) (C := RX6) (T := TX6) (Nf := 29) (v := .int 0) hx hb hts in_X6_check_X6 hown hK hH 0 (by decide) rfl rfl 0 (by decide) (hts (.fieldLink RX6 85 "StationLineModel" "tasks" "I") (List.mem_of_getElem? (i := 2) rfl)) (congrArg (fun x => some (Value.int x)) (Fm_0 hFz1)) dX6_check_12 ?_
  refine lv_icmp_ne (tgt := 22) hx hb dX6_check_15 (by decide) (fun c0 => absurd c0 (by decide)) (fun _ => ?_)
  refine lv_iconst (v := 1) hx hb dX6_check_18 (by decide) ?_
  refine lv_goto (tgt := 23) hx hb dX6_check_19 (by decide) ?_
  refine lv_istore_n (lv' := [(2, .int 1), (1, .int 0), (0, .ref (q 0))]) hx hb dX6_check_23 rfl hl (by decide) rfl (fun ls hl => ?_)
  refine lv_iconst (v := 0) hx hb dX6_check_24 (by decide) ?_
  refine lv_istore_n (lv' := [(3, .int 0), (2, .int 1), (1, .int 0), (0, .ref (q 0))]) hx hb dX6_check_25 rfl hl (by decide) rfl (fun ls hl => ?_)
  refine lv_iload_n hx hb dX6_check_26 rfl (lv_at hl 0 rfl) ?_
  refine lv_iload_n hx hb dX6_check_27 rfl (lv_at hl 2 rfl) ?_
  refine lv_icmp_ge (tgt := 49) hx hb dX6_check_28 (by decide) (fun _ => ?_) (fun c0 => absurd c0 (by decide))
  refine lv_iload_n hx hb dX6_check_49 rfl (lv_at hl 1 rfl) ?_
  refine lv_if_ne (tgt := 56) hx hb dX6_check_50 (by decide) (fun _ => ?_) (fun c0 => absurd c0 (by decide))
  refine lv_iconst (v := 0) hx hb dX6_check_56 (by decide) ?_
  refine lv_istore_n (lv' := [(3, .int 0), (2, .int 1), (1, .int 0), (0, .ref (q 0))]) hx hb dX6_check_57 rfl hl (by decide) rfl (fun ls hl => ?_)
  refine lv_iload_n hx hb dX6_check_58 rfl (lv_at hl 0 rfl) ?_
  refine lv_aload_n hx hb dX6_check_59 rfl (lv_at hl 3 rfl) ?_
  refine b_get (ci := 6) (C := RX6) (T := TX6) (Nf := 29) (v := .int 0) hx hb hts in_X6_check_X6 hown hK hH 0 (by decide) rfl rfl 0 (by decide) (hts (.fieldLink RX6 85 "StationLineModel" "tasks" "I") (List.mem_of_getElem? (i := 2) rfl)) (congrArg (fun x => some (Value.int x)) (Fm_0 hFz1)) dX6_check_60 ?_
  refine lv_icmp_ge (tgt := 84) hx hb dX6_check_63 (by decide) (fun _ => ?_) (fun c0 => absurd c0 (by decide))
  refine lv_aload_n hx hb dX6_check_84 rfl (lv_at hl 3 rfl) ?_
  refine lv_aload_n hx hb dX6_check_85 rfl (lv_at hl 3 rfl) ?_
  refine b_get (ci := 6) (C := RX6) (T := TX6) (Nf := 29) (v := .ref (q 21)) hx hb hts in_X6_check_X6 hown hK hH 0 (by decide) rfl rfl 27 (by decide) (hts (.fieldLink RX6 76 "StationLineModel" "trial" "[I") (List.mem_of_getElem? (i := 4) rfl)) rfl dX6_check_86 ?_
  refine b_calli (As := [.ref (q 21)]) (rest := []) ⟨hx, hb, hml, hown, hts⟩ 0 6 (c_X6_clashIn_0_r21 l D cy q hH.2.1 z1 hFz1  ) (cwV 1 hts gX6_check_X6_clashIn rfl rfl rfl (by decide +kernel) ⟨Nat.le_of_ble_eq_true rfl, Nat.le_of_ble_eq_true rfl⟩) hK hZ hH (by decide) rfl rfl rfl hl.1 rfl (Nat.le_of_ble_eq_true rfl) ⟨Nat.zero_le _, Nat.zero_le _⟩ dX6_check_89 (fun r2 z2 H locs hp2 hH => ?_)
  obtain ⟨rfl, rfl⟩ := hp2
  refine b_vi (v := (-1)) (by decide) ?_
  refine lv_istore_n (lv' := [(3, .int (-1)), (2, .int 1), (1, .int 0), (0, .ref (q 0))]) hx hb dX6_check_92 rfl hl (by decide) rfl (fun ls hl => ?_)
  refine lv_iload_n hx hb dX6_check_93 rfl (lv_at hl 0 rfl) ?_
  refine lv_if_ge (tgt := 101) hx hb dX6_check_94 (by decide) (fun c0 => absurd c0 (by decide)) (fun _ => ?_)
  refine lv_iconst (v := 0) hx hb dX6_check_97 (by decide) ?_
  refine lv_goto (tgt := 115) hx hb dX6_check_98 (by decide) ?_
  exact b_iret hx hb hr hlocks hH ((by first | rfl | ((repeat' split) <;> first | rfl | omega))) dX6_check_115
set_option maxHeartbeats 4000000 in
set_option maxRecDepth 100000 in
theorem c_X6_keep (l : Launch) (D : va_G) (cy : Nat → ClassId) (q : Nat → Nat) (hq : bJ 23 q) (z : zS) (hF : Fm z) (h10 : z.1 2 = 10)  : bCi l yX6_keep wsX6_keep ({ frames := 2, cells := 0, slots := 0, locals := 47 }) D cy 23 (enM cy) q z [.ref (q 0)] (fun r _ => (0 : Int32) = r) := by
  intro sz
  refine Met.ofW (cc := cX6_keep) (maxL := 1) (ret := (some .int)) (by decide) rfl ?_
  intro p e s m args below meth c s₁ B hml hv
  obtain ⟨rfl, hsz, hP, hK, hZ⟩ := hv
  have hx := B.exec
  have hb := B.bytes
  have hr := B.returns
  have hts := atoms_spec (ws := wsX6_keep) B.pre
  have hown : s.vm.findClass RX6 = some m.cls := findClass_of_methodNamed B.named
  have hlocks := B.notSynchronized
  subst hsz
  have hH : bH D 23 (enM cy) q z s.heap s.heap [] := bH_in hq hP
  have hl := lv_entry ([.ref (q 0)]) (n := 1) (Nat.le_of_ble_eq_true rfl)
  rw [lg_entry_eq]
  generalize (lg_sl ([.ref (q 0)]) ++ List.replicate (1 - (lg_sl ([.ref (q 0)])).length) Slot.unset).toArray = ls at hl ⊢
  have hl : lv_has ls 1 [(0, .ref (q 0))] := hl
  refine lv_aload_n hx hb dX6_keep_0 rfl (lv_at hl 0 rfl) ?_
  refine lv_iconst (v := 0) hx hb dX6_keep_1 (by decide) ?_
  refine b_callv (As := [.int 0]) (rest := []) ⟨hx, hb, hml, hown, hts⟩ 0 6 (c_X6_carryAll_0 l D cy q hH.2.1 z hF    ) (cwV 1 hts gX6_keep_X6_carryAll rfl rfl rfl (by decide +kernel) ⟨Nat.le_of_ble_eq_true rfl, Nat.le_of_ble_eq_true rfl⟩) hK hZ hH (by decide) rfl rfl rfl hl.1 rfl (Nat.le_of_ble_eq_true rfl) ⟨Nat.zero_le _, Nat.zero_le _⟩ dX6_keep_2 (fun z1 H locs hp1 hH => ?_)
  have hFz1 := hp1
  refine lv_aload_n hx hb dX6_keep_5 rfl (lv_at hl 0 rfl) ?_
  refine lv_iconst (v := 1) hx hb dX6_keep_6 (by decide) ?_
  refine b_put (ci := 6) (C := RX6) (T := TX6) (Nf := 29) (v := .int 1) (ty := .boolean) hx hb hts in_X6_keep_X6 tyX6 tyX6_ok nmX6 hown hK hH 0 (by decide) rfl rfl 11 (by decide) (hts (.fieldLink RX6 212 "StationLineModel" "isKept" "Z") (List.mem_of_getElem? (i := 1) rfl)) rfl (by decide +kernel) rfl rfl (Nat.le_of_ble_eq_true rfl) (upS z1 4 1) rfl (enM_S4 _ _ _ _) dX6_keep_7 (fun H locs hH => ?_)
  obtain ⟨z2, hz2⟩ : ∃ w : zS, w = upS z1 4 1 := ⟨_, rfl⟩
  rw [← hz2] at hH
  refine lv_aload_n hx hb dX6_keep_10 rfl (lv_at hl 0 rfl) ?_
  refine b_get (ci := 6) (C := RX6) (T := TX6) (Nf := 29) (v := .int 0) hx hb hts in_X6_keep_X6 hown hK hH 0 (by decide) rfl rfl 0 (by decide) (hts (.fieldLink RX6 85 "StationLineModel" "tasks" "I") (List.mem_of_getElem? (i := 2) rfl)) (congrArg (fun x => some (Value.int x)) (by rw [hz2]; exact Fm_0 (z := z1) hFz1)) dX6_keep_11 ?_
  exact b_iret hx hb hr hlocks hH ((by first | rfl | ((repeat' split) <;> first | rfl | omega))) dX6_keep_14
set_option maxHeartbeats 4000000 in
set_option maxRecDepth 100000 in
theorem c_X6_back (l : Launch) (D : va_G) (cy : Nat → ClassId) (q : Nat → Nat) (hq : bJ 23 q) (z : zS) (hF : Fm z) (h10 : z.1 2 = 10)  : bCi l yX6_back wsX6_back ({ frames := 2, cells := 0, slots := 0, locals := 47 }) D cy 23 (enM cy) q z [.ref (q 0)] (fun r _ => (-10 : Int32) = r) := by
  intro sz
  refine Met.ofW (cc := cX6_back) (maxL := 1) (ret := (some .int)) (by decide) rfl ?_
  intro p e s m args below meth c s₁ B hml hv
  obtain ⟨rfl, hsz, hP, hK, hZ⟩ := hv
  have hx := B.exec
  have hb := B.bytes
  have hr := B.returns
  have hts := atoms_spec (ws := wsX6_back) B.pre
  have hown : s.vm.findClass RX6 = some m.cls := findClass_of_methodNamed B.named
  have hlocks := B.notSynchronized
  subst hsz
  have hH : bH D 23 (enM cy) q z s.heap s.heap [] := bH_in hq hP
  have hl := lv_entry ([.ref (q 0)]) (n := 1) (Nat.le_of_ble_eq_true rfl)
  rw [lg_entry_eq]
  generalize (lg_sl ([.ref (q 0)]) ++ List.replicate (1 - (lg_sl ([.ref (q 0)])).length) Slot.unset).toArray = ls at hl ⊢
  have hl : lv_has ls 1 [(0, .ref (q 0))] := hl
  refine lv_aload_n hx hb dX6_back_0 rfl (lv_at hl 0 rfl) ?_
  refine b_get (ci := 6) (C := RX6) (T := TX6) (Nf := 29) (v := .int 0) hx hb hts in_X6_back_X6 hown hK hH 0 (by decide) rfl rfl 11 (by decide) (hts (.fieldLink RX6 212 "StationLineModel" "isKept" "Z") (List.mem_of_getElem? (i := 1) rfl)) (congrArg (fun x => some (Value.int x)) (Fm_3 hF)) dX6_back_1 ?_
  refine lv_if_ne (tgt := 14) hx hb dX6_back_4 (by decide) (fun c0 => absurd c0 (by decide)) (fun _ => ?_)
  refine lv_aload_n hx hb dX6_back_7 rfl (lv_at hl 0 rfl) ?_
  refine lv_bipush (v := (-10)) hx hb dX6_back_8 (by decide) ?_
  refine b_calli (As := [.int (-10)]) (rest := []) ⟨hx, hb, hml, hown, hts⟩ 0 6 (c_X6_meet_0 l D cy q hH.2.1 z hF (-10)   ) (cwV 1 hts gX6_back_X6_meet rfl rfl rfl (by decide +kernel) ⟨Nat.le_of_ble_eq_true rfl, Nat.le_of_ble_eq_true rfl⟩) hK hZ hH (by decide) rfl rfl rfl hl.1 rfl (Nat.le_of_ble_eq_true rfl) ⟨Nat.zero_le _, Nat.zero_le _⟩ dX6_back_10 (fun r1 z1 H locs hp1 hH => ?_)
  obtain rfl := hp1
  exact b_iret hx hb hr hlocks hH ((by first | rfl | ((repeat' split) <;> first | rfl | omega))) dX6_back_13
set_option maxHeartbeats 4000000 in
set_option maxRecDepth 100000 in
theorem c_X6_count (l : Launch) (D : va_G) (cy : Nat → ClassId) (q : Nat → Nat) (hq : bJ 23 q) (z : zS) (hF : Fm z) (h10 : z.1 2 = 10) (x1 : Int32) : bCi l yX6_count wsX6_count ({ frames := 1, cells := 0, slots := 0, locals := 20 }) D cy 23 (enM cy) q z [.ref (q 0), .int x1] (fun r _ => (o_count x1 : Int32) = r) := by
  intro sz
  refine Met.ofW (cc := cX6_count) (maxL := 2) (ret := (some .int)) (by decide) rfl ?_
  intro p e s m args below meth c s₁ B hml hv
  obtain ⟨rfl, hsz, hP, hK, hZ⟩ := hv
  have hx := B.exec
  have hb := B.bytes
  have hr := B.returns
  have hts := atoms_spec (ws := wsX6_count) B.pre
  have hown : s.vm.findClass RX6 = some m.cls := findClass_of_methodNamed B.named
  have hlocks := B.notSynchronized
  subst hsz
  have hH : bH D 23 (enM cy) q z s.heap s.heap [] := bH_in hq hP
  have hl := lv_entry ([.ref (q 0), .int x1]) (n := 2) (Nat.le_of_ble_eq_true rfl)
  rw [lg_entry_eq]
  generalize (lg_sl ([.ref (q 0), .int x1]) ++ List.replicate (2 - (lg_sl ([.ref (q 0), .int x1])).length) Slot.unset).toArray = ls at hl ⊢
  have hl : lv_has ls 2 [(0, .ref (q 0)), (1, .int x1)] := hl
  refine lv_iload_n hx hb dX6_count_0 rfl (lv_at hl 1 rfl) ?_
  rcases (show ((x1).toInt < 0 ∨ 5 < (x1).toInt) ∨ (¬ (x1).toInt < 0 ∧ ¬ 5 < (x1).toInt) by omega) with h1 | h1
  · refine lv_tableOut (tgt := 70) hx hb dX6_count_1 h1 (by decide) ?_
    refine lv_bipush (v := (-2)) hx hb dX6_count_70 (by decide) ?_
    exact b_iret hx hb hr hlocks hH ((by first | rfl | (unfold o_count; (repeat' split) <;> first | rfl | omega))) dX6_count_72
  · rcases (show (x1).toInt = 0 ∨ (x1).toInt = 1 ∨ (x1).toInt = 2 ∨ (x1).toInt = 3 ∨ (x1).toInt = 4 ∨ (x1).toInt = 5 by omega) with e1 | e1 | e1 | e1 | e1 | e1
    · refine lv_tableIn (off := 39) (tgt := 40) hx hb dX6_count_1 h1.1 h1.2 (by rw [e1]; rfl) (by decide) ?_
      refine lv_aload_n hx hb dX6_count_40 rfl (lv_at hl 0 rfl) ?_
      refine b_get (ci := 6) (C := RX6) (T := TX6) (Nf := 29) (v := .int 0) hx hb hts in_X6_count_X6 hown hK hH 0 (by decide) rfl rfl 0 (by decide) (hts (.fieldLink RX6 85 "StationLineModel" "tasks" "I") (List.mem_of_getElem? (i := 1) rfl)) (congrArg (fun x => some (Value.int x)) (Fm_0 hF)) dX6_count_41 ?_
      exact b_iret hx hb hr hlocks hH ((by first | rfl | (unfold o_count; (repeat' split) <;> first | rfl | omega))) dX6_count_44
    · refine lv_tableIn (off := 44) (tgt := 45) hx hb dX6_count_1 h1.1 h1.2 (by rw [e1]; rfl) (by decide) ?_
      refine lv_aload_n hx hb dX6_count_45 rfl (lv_at hl 0 rfl) ?_
      refine b_get (ci := 6) (C := RX6) (T := TX6) (Nf := 29) (v := .int 0) hx hb hts in_X6_count_X6 hown hK hH 0 (by decide) rfl rfl 16 (by decide) (hts (.fieldLink RX6 201 "StationLineModel" "waits" "I") (List.mem_of_getElem? (i := 2) rfl)) (congrArg (fun x => some (Value.int x)) (Fm_4 hF)) dX6_count_46 ?_
      exact b_iret hx hb hr hlocks hH ((by first | rfl | (unfold o_count; (repeat' split) <;> first | rfl | omega))) dX6_count_49
    · refine lv_tableIn (off := 49) (tgt := 50) hx hb dX6_count_1 h1.1 h1.2 (by rw [e1]; rfl) (by decide) ?_
      refine lv_aload_n hx hb dX6_count_50 rfl (lv_at hl 0 rfl) ?_
      refine b_get (ci := 6) (C := RX6) (T := TX6) (Nf := 29) (v := .int 0) hx hb hts in_X6_count_X6 hown hK hH 0 (by decide) rfl rfl 18 (by decide) (hts (.fieldLink RX6 82 "StationLineModel" "met" "I") (List.mem_of_getElem? (i := 3) rfl)) (congrArg (fun x => some (Value.int x)) (Fm_5 hF)) dX6_count_51 ?_
      exact b_iret hx hb hr hlocks hH ((by first | rfl | (unfold o_count; (repeat' split) <;> first | rfl | omega))) dX6_count_54
    · refine lv_tableIn (off := 54) (tgt := 55) hx hb dX6_count_1 h1.1 h1.2 (by rw [e1]; rfl) (by decide) ?_
      refine lv_aload_n hx hb dX6_count_55 rfl (lv_at hl 0 rfl) ?_
      refine b_get (ci := 6) (C := RX6) (T := TX6) (Nf := 29) (v := .int 0) hx hb hts in_X6_count_X6 hown hK hH 0 (by decide) rfl rfl 7 (by decide) (hts (.fieldLink RX6 113 "StationLineModel" "kind" "I") (List.mem_of_getElem? (i := 4) rfl)) (congrArg (fun x => some (Value.int x)) (Fm_1 hF)) dX6_count_56 ?_
      exact b_iret hx hb hr hlocks hH ((by first | rfl | (unfold o_count; (repeat' split) <;> first | rfl | omega))) dX6_count_59
    · refine lv_tableIn (off := 59) (tgt := 60) hx hb dX6_count_1 h1.1 h1.2 (by rw [e1]; rfl) (by decide) ?_
      refine lv_aload_n hx hb dX6_count_60 rfl (lv_at hl 0 rfl) ?_
      refine b_get (ci := 6) (C := RX6) (T := TX6) (Nf := 29) (v := .int 10) hx hb hts in_X6_count_X6 hown hK hH 0 (by decide) rfl rfl 8 (by decide) (hts (.fieldLink RX6 28 "StationLineModel" "beat" "I") (List.mem_of_getElem? (i := 5) rfl)) (congrArg (fun x => some (Value.int x)) h10) dX6_count_61 ?_
      exact b_iret hx hb hr hlocks hH ((by first | rfl | (unfold o_count; (repeat' split) <;> first | rfl | omega))) dX6_count_64
    · refine lv_tableIn (off := 64) (tgt := 65) hx hb dX6_count_1 h1.1 h1.2 (by rw [e1]; rfl) (by decide) ?_
      refine lv_aload_n hx hb dX6_count_65 rfl (lv_at hl 0 rfl) ?_
      refine b_calli (As := []) (rest := []) ⟨hx, hb, hml, hown, hts⟩ 0 6 (c_X6_room_0 l D cy q hH.2.1 z hF  ) (cwV 0 hts gX6_count_X6_room rfl rfl rfl (by decide +kernel) ⟨Nat.le_of_ble_eq_true rfl, Nat.le_of_ble_eq_true rfl⟩) hK hZ hH (by decide) rfl rfl rfl hl.1 rfl (Nat.le_of_ble_eq_true rfl) ⟨Nat.zero_le _, Nat.zero_le _⟩ dX6_count_66 (fun r2 z2 H locs hp2 hH => ?_)
      obtain ⟨rfl, rfl⟩ := hp2
      refine b_vi (v := 10) h10 ?_
      exact b_iret hx hb hr hlocks hH ((by first | rfl | (unfold o_count; (repeat' split) <;> first | rfl | omega))) dX6_count_69
