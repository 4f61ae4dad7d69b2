set_option maxHeartbeats 4000000 in
set_option maxRecDepth 100000 in
theorem c_X6_tellSets_0 (l : Launch) (D : va_G) (cy : Nat → ClassId) (q : Nat → Nat) (hq : bJ 23 q) (z : zS) (hF : Fm z)  (bv : Int32) (p0 : z.1 2 = bv)  : bCv l yX6_tellSets wsX6_tellSets ({ frames := 3, cells := 0, slots := 0, locals := 69 }) D cy 23 (enM cy) q z [.ref (q 0)] (fun z' => Fm z' ∧ z'.1 2 = bv) := by
  intro sz
  refine Met.ofW (cc := cX6_tellSets) (maxL := 7) (ret := none) (by decide) rfl ?_
  intro p e s m args below meth c s₁ B hml hv
  obtain ⟨rfl, hsz, hP, hK, hZ⟩ := hv
  have hx := B.exec
  have hb := B.bytes
  have hr := B.returns
  have hts := atoms_spec (ws := wsX6_tellSets) B.pre
  have hown : s.vm.findClass RX6 = some m.cls := findClass_of_methodNamed B.named
  have hlocks := B.notSynchronized
  subst hsz
  have hH : bH D 23 (enM cy) q z s.heap s.heap [] := bH_in hq hP
  have hl := lv_entry ([.ref (q 0)]) (n := 7) (Nat.le_of_ble_eq_true rfl)
  rw [lg_entry_eq]
  generalize (lg_sl ([.ref (q 0)]) ++ List.replicate (7 - (lg_sl ([.ref (q 0)])).length) Slot.unset).toArray = ls at hl ⊢
  have hl : lv_has ls 7 [(0, .ref (q 0))] := hl
  refine lv_iconst (v := 0) hx hb dX6_tellSets_0 (by decide) ?_
  refine lv_istore_n (lv' := [(1, .int 0), (0, .ref (q 0))]) hx hb dX6_tellSets_1 rfl hl (by decide) rfl (fun ls hl => ?_)
  refine lv_iload_n hx hb dX6_tellSets_2 rfl (lv_at hl 0 rfl) ?_
  refine lv_aload_n hx hb dX6_tellSets_3 rfl (lv_at hl 1 rfl) ?_
  refine b_get (ci := 6) (C := RX6) (T := TX6) (Nf := 29) (v := .int 0) hx hb hts in_X6_tellSets_X6 hown hK hH 0 (by decide) rfl rfl 0 (by decide) (hts (.fieldLink RX6 85 "StationLineModel" "tasks" "I") (List.mem_of_getElem? (i := 1) rfl)) (congrArg (fun x => some (Value.int x)) (Fm_0 hF)) dX6_tellSets_4 ?_
  refine lv_icmp_ge (tgt := 38) hx hb dX6_tellSets_7 (by decide) (fun _ => ?_) (fun c0 => absurd c0 (by decide))
  refine lv_aload_n hx hb dX6_tellSets_38 rfl (lv_at hl 1 rfl) ?_
  refine b_calli (As := []) (rest := []) ⟨hx, hb, hml, hown, hts⟩ 0 6 (c_X6_room_0 l D cy q hH.2.1 z hF  ) (cwV 0 hts gX6_tellSets_X6_room rfl rfl rfl (by decide +kernel) ⟨Nat.le_of_ble_eq_true rfl, Nat.le_of_ble_eq_true rfl⟩) hK hZ hH (by decide) rfl rfl rfl hl.1 rfl (Nat.le_of_ble_eq_true rfl) ⟨Nat.zero_le _, Nat.zero_le _⟩ dX6_tellSets_39 (fun r1 z1 H locs hp1 hH => ?_)
  obtain ⟨rfl, rfl⟩ := hp1
  refine lv_istore_n (lv' := [(1, .int (z.1 2)), (0, .ref (q 0))]) hx hb dX6_tellSets_42 rfl hl (by decide) rfl (fun ls hl => ?_)
  refine lv_iconst (v := 0) hx hb dX6_tellSets_43 (by decide) ?_
  refine lv_istore_n (lv' := [(2, .int 0), (1, .int (z.1 2)), (0, .ref (q 0))]) hx hb dX6_tellSets_44 rfl hl (by decide) rfl (fun ls hl => ?_)
  refine lv_iload_n hx hb dX6_tellSets_45 rfl (lv_at hl 0 rfl) ?_
  refine lv_aload_n hx hb dX6_tellSets_46 rfl (lv_at hl 2 rfl) ?_
  refine b_calli (As := []) (rest := [.int 0]) ⟨hx, hb, hml, hown, hts⟩ 0 6 (c_X6_all_0 l D cy q hH.2.1 z hF  ) (cwV 0 hts gX6_tellSets_X6_all rfl rfl rfl (by decide +kernel) ⟨Nat.le_of_ble_eq_true rfl, Nat.le_of_ble_eq_true rfl⟩) hK hZ hH (by decide) rfl rfl rfl hl.1 rfl (Nat.le_of_ble_eq_true rfl) ⟨Nat.zero_le _, Nat.zero_le _⟩ dX6_tellSets_47 (fun r2 z2 H locs hp2 hH => ?_)
  obtain ⟨rfl, rfl⟩ := hp2
  refine lv_icmp_gt (tgt := 249) hx hb dX6_tellSets_50 (by decide) (fun c0 => absurd c0 (by decide)) (fun _ => ?_)
  refine lv_aload_n hx hb dX6_tellSets_53 rfl (lv_at hl 2 rfl) ?_
  refine b_get (ci := 6) (C := RX6) (T := TX6) (Nf := 29) (v := .ref (q 16)) hx hb hts in_X6_tellSets_X6 hown hK hH 0 (by decide) rfl rfl 22 (by decide) (hts (.fieldLink RX6 60 "StationLineModel" "loads" "[I") (List.mem_of_getElem? (i := 4) rfl)) rfl dX6_tellSets_54 ?_
  refine lv_iload_n hx hb dX6_tellSets_57 rfl (lv_at hl 0 rfl) ?_
  refine lv_aload_n hx hb dX6_tellSets_58 rfl (lv_at hl 2 rfl) ?_
  refine lv_iload_n hx hb dX6_tellSets_59 rfl (lv_at hl 0 rfl) ?_
  refine b_calli (As := [.int 0]) (rest := [.int 0, .ref (q 16)]) ⟨hx, hb, hml, hown, hts⟩ 0 6 (c_X6_loadOf_0 l D cy q hH.2.1 z hF 0 ) (cwV 1 hts gX6_tellSets_X6_loadOf rfl rfl rfl (by decide +kernel) ⟨Nat.le_of_ble_eq_true rfl, Nat.le_of_ble_eq_true rfl⟩) hK hZ hH (by decide) rfl rfl rfl hl.1 rfl (Nat.le_of_ble_eq_true rfl) ⟨Nat.zero_le _, Nat.zero_le _⟩ dX6_tellSets_60 (fun r3 z3 H locs hp3 hH => ?_)
  obtain ⟨rfl, rfl⟩ := hp3
  refine b_iast hx hb hK hH 16 (by decide) rfl (by unfold vp_in; decide) (upA z 16 (upd (z.2.1 16) (0 : Int32).toNatClampNeg 0)) rfl (enM_A _ _ _ _ _) dX6_tellSets_63 (fun H locs hH => ?_)
  obtain ⟨z4, hz4⟩ : ∃ w : zS, w = upA z 16 (upd (z.2.1 16) (0 : Int32).toNatClampNeg 0) := ⟨_, rfl⟩
  rw [← hz4] at hH
  have hFz4 : Fm z4 := by rw [hz4]; exact hF
  refine lv_aload_n hx hb dX6_tellSets_64 rfl (lv_at hl 2 rfl) ?_
  refine b_get (ci := 6) (C := RX6) (T := TX6) (Nf := 29) (v := .ref (q 15)) hx hb hts in_X6_tellSets_X6 hown hK hH 0 (by decide) rfl rfl 21 (by decide) (hts (.fieldLink RX6 57 "StationLineModel" "needs" "[I") (List.mem_of_getElem? (i := 5) rfl)) rfl dX6_tellSets_65 ?_
  refine lv_iload_n hx hb dX6_tellSets_68 rfl (lv_at hl 0 rfl) ?_
  refine lv_iconst (v := 0) hx hb dX6_tellSets_69 (by decide) ?_
  refine b_iast hx hb hK hH 15 (by decide) rfl (by unfold vp_in; decide) (upA z4 15 (upd (z4.2.1 15) (0 : Int32).toNatClampNeg 0)) rfl (enM_A _ _ _ _ _) dX6_tellSets_70 (fun H locs hH => ?_)
  obtain ⟨z5, hz5⟩ : ∃ w : zS, w = upA z4 15 (upd (z4.2.1 15) (0 : Int32).toNatClampNeg 0) := ⟨_, rfl⟩
  rw [← hz5] at hH
  have hFz5 : Fm z5 := by rw [hz5]; exact hFz4
  refine lv_aload_n hx hb dX6_tellSets_71 rfl (lv_at hl 2 rfl) ?_
  refine b_get (ci := 6) (C := RX6) (T := TX6) (Nf := 29) (v := .ref (q 16)) hx hb hts in_X6_tellSets_X6 hown hK hH 0 (by decide) rfl rfl 22 (by decide) (hts (.fieldLink RX6 60 "StationLineModel" "loads" "[I") (List.mem_of_getElem? (i := 4) rfl)) rfl dX6_tellSets_72 ?_
  refine lv_iload_n hx hb dX6_tellSets_75 rfl (lv_at hl 0 rfl) ?_
  refine b_iald (v := 0) hx hb hK hH 16 (by decide) rfl (by unfold vp_in; decide) (by rw [hz5]; exact (by rw [hz4]; rfl)) dX6_tellSets_76 ?_
  refine lv_iload_n hx hb dX6_tellSets_77 rfl (lv_at hl 1 rfl) ?_
  refine lv_icmp_gt (tgt := 85) hx hb dX6_tellSets_78 (by decide) (fun c6 => ?_) (fun c6 => ?_)
  · skip
    refine lv_iconst (v := 0) hx hb dX6_tellSets_85 (by decide) ?_
    refine lv_istore_n (lv' := [(3, .int 0), (2, .int 0), (1, .int (z.1 2)), (0, .ref (q 0))]) hx hb dX6_tellSets_86 rfl hl (by decide) rfl (fun ls hl => ?_)
    refine lv_iconst (v := 0) hx hb dX6_tellSets_87 (by decide) ?_
    refine lv_istore (lv' := [(4, .int 0), (3, .int 0), (2, .int 0), (1, .int (z.1 2)), (0, .ref (q 0))]) hx hb dX6_tellSets_88 hl (by decide) rfl (fun ls hl => ?_)
    refine lv_iload hx hb dX6_tellSets_90 (lv_at hl 0 rfl) ?_
    refine lv_aload_n hx hb dX6_tellSets_92 rfl (lv_at hl 4 rfl) ?_
    refine b_get (ci := 6) (C := RX6) (T := TX6) (Nf := 29) (v := .int 0) hx hb hts in_X6_tellSets_X6 hown hK hH 0 (by decide) rfl rfl 0 (by decide) (hts (.fieldLink RX6 85 "StationLineModel" "tasks" "I") (List.mem_of_getElem? (i := 1) rfl)) (congrArg (fun x => some (Value.int x)) (Fm_0 hFz5)) dX6_tellSets_93 ?_
    refine lv_icmp_ge (tgt := 236) hx hb dX6_tellSets_96 (by decide) (fun _ => ?_) (fun c0 => absurd c0 (by decide))
    refine lv_aload_n hx hb dX6_tellSets_236 rfl (lv_at hl 4 rfl) ?_
    refine b_get (ci := 6) (C := RX6) (T := TX6) (Nf := 29) (v := .ref (q 14)) hx hb hts in_X6_tellSets_X6 hown hK hH 0 (by decide) rfl rfl 20 (by decide) (hts (.fieldLink RX6 53 "StationLineModel" "isOne" "[Z") (List.mem_of_getElem? (i := 7) rfl)) rfl dX6_tellSets_237 ?_
    refine lv_iload_n hx hb dX6_tellSets_240 rfl (lv_at hl 2 rfl) ?_
    refine lv_iload_n hx hb dX6_tellSets_241 rfl (lv_at hl 1 rfl) ?_
    refine b_zast hx hb hK hH 14 (by decide) rfl (by unfold vp_in; decide) (upA z5 14 (upd (z5.2.1 14) (0 : Int32).toNatClampNeg (vp_nar .boolean 0))) rfl (enM_A _ _ _ _ _) dX6_tellSets_242 (fun H locs hH => ?_)
    obtain ⟨z7, hz7⟩ : ∃ w : zS, w = upA z5 14 (upd (z5.2.1 14) (0 : Int32).toNatClampNeg (vp_nar .boolean 0)) := ⟨_, rfl⟩
    rw [← hz7] at hH
    have hFz7 : Fm z7 := by rw [hz7]; exact hFz5
    refine lv_iinc (v := 1) (lv' := [(2, .int 1), (4, .int 0), (3, .int 0), (1, .int (z.1 2)), (0, .ref (q 0))]) hx hb dX6_tellSets_243 hl (k := 2) rfl (by decide) (by decide) rfl (fun ls hl => ?_)
    refine lv_goto (tgt := 45) hx hb dX6_tellSets_246 (by decide) ?_
    refine lv_iload_n hx hb dX6_tellSets_45 rfl (lv_at hl 0 rfl) ?_
    refine lv_aload_n hx hb dX6_tellSets_46 rfl (lv_at hl 4 rfl) ?_
    refine b_calli (As := []) (rest := [.int 1]) ⟨hx, hb, hml, hown, hts⟩ 0 6 (c_X6_all_0 l D cy q hH.2.1 z7 hFz7  ) (cwV 0 hts gX6_tellSets_X6_all rfl rfl rfl (by decide +kernel) ⟨Nat.le_of_ble_eq_true rfl, Nat.le_of_ble_eq_true rfl⟩) hK hZ hH (by decide) rfl rfl rfl hl.1 rfl (Nat.le_of_ble_eq_true rfl) ⟨Nat.zero_le _, Nat.zero_le _⟩ dX6_tellSets_47 (fun r8 z8 H locs hp8 hH => ?_)
    obtain ⟨rfl, rfl⟩ := hp8
    refine lv_icmp_gt (tgt := 249) hx hb dX6_tellSets_50 (by decide) (fun _ => ?_) (fun c0 => absurd c0 (by decide))
    exact b_vret hx hb hr hlocks hH (⟨hFz7, (by rw [hz7]; exact (by rw [hz5]; exact (by rw [hz4]; exact p0)))⟩) dX6_tellSets_249
  · skip
    refine lv_iconst (v := 1) hx hb dX6_tellSets_81 (by decide) ?_
    refine lv_goto (tgt := 86) hx hb dX6_tellSets_82 (by decide) ?_
    refine lv_istore_n (lv' := [(3, .int 1), (2, .int 0), (1, .int (z.1 2)), (0, .ref (q 0))]) hx hb dX6_tellSets_86 rfl hl (by decide) rfl (fun ls hl => ?_)
    refine lv_iconst (v := 0) hx hb dX6_tellSets_87 (by decide) ?_
    refine lv_istore (lv' := [(4, .int 0), (3, .int 1), (2, .int 0), (1, .int (z.1 2)), (0, .ref (q 0))]) hx hb dX6_tellSets_88 hl (by decide) rfl (fun ls hl => ?_)
    refine lv_iload hx hb dX6_tellSets_90 (lv_at hl 0 rfl) ?_
    refine lv_aload_n hx hb dX6_tellSets_92 rfl (lv_at hl 4 rfl) ?_
    refine b_get (ci := 6) (C := RX6) (T := TX6) (Nf := 29) (v := .int 0) hx hb hts in_X6_tellSets_X6 hown hK hH 0 (by decide) rfl rfl 0 (by decide) (hts (.fieldLink RX6 85 "StationLineModel" "tasks" "I") (List.mem_of_getElem? (i := 1) rfl)) (congrArg (fun x => some (Value.int x)) (Fm_0 hFz5)) dX6_tellSets_93 ?_
    refine lv_icmp_ge (tgt := 236) hx hb dX6_tellSets_96 (by decide) (fun _ => ?_) (fun c0 => absurd c0 (by decide))
    refine lv_aload_n hx hb dX6_tellSets_236 rfl (lv_at hl 4 rfl) ?_
    refine b_get (ci := 6) (C := RX6) (T := TX6) (Nf := 29) (v := .ref (q 14)) hx hb hts in_X6_tellSets_X6 hown hK hH 0 (by decide) rfl rfl 20 (by decide) (hts (.fieldLink RX6 53 "StationLineModel" "isOne" "[Z") (List.mem_of_getElem? (i := 7) rfl)) rfl dX6_tellSets_237 ?_
    refine lv_iload_n hx hb dX6_tellSets_240 rfl (lv_at hl 2 rfl) ?_
    refine lv_iload_n hx hb dX6_tellSets_241 rfl (lv_at hl 1 rfl) ?_
    refine b_zast hx hb hK hH 14 (by decide) rfl (by unfold vp_in; decide) (upA z5 14 (upd (z5.2.1 14) (0 : Int32).toNatClampNeg (vp_nar .boolean 1))) rfl (enM_A _ _ _ _ _) dX6_tellSets_242 (fun H locs hH => ?_)
    obtain ⟨z9, hz9⟩ : ∃ w : zS, w = upA z5 14 (upd (z5.2.1 14) (0 : Int32).toNatClampNeg (vp_nar .boolean 1)) := ⟨_, rfl⟩
    rw [← hz9] at hH
    have hFz9 : Fm z9 := by rw [hz9]; exact hFz5
    refine lv_iinc (v := 1) (lv' := [(2, .int 1), (4, .int 0), (3, .int 1), (1, .int (z.1 2)), (0, .ref (q 0))]) hx hb dX6_tellSets_243 hl (k := 2) rfl (by decide) (by decide) rfl (fun ls hl => ?_)
    refine lv_goto (tgt := 45) hx hb dX6_tellSets_246 (by decide) ?_
    refine lv_iload_n hx hb dX6_tellSets_45 rfl (lv_at hl 0 rfl) ?_
    refine lv_aload_n hx hb dX6_tellSets_46 rfl (lv_at hl 4 rfl) ?_
    refine b_calli (As := []) (rest := [.int 1]) ⟨hx, hb, hml, hown, hts⟩ 0 6 (c_X6_all_0 l D cy q hH.2.1 z9 hFz9  ) (cwV 0 hts gX6_tellSets_X6_all rfl rfl rfl (by decide +kernel) ⟨Nat.le_of_ble_eq_true rfl, Nat.le_of_ble_eq_true rfl⟩) hK hZ hH (by decide) rfl rfl rfl hl.1 rfl (Nat.le_of_ble_eq_true rfl) ⟨Nat.zero_le _, Nat.zero_le _⟩ dX6_tellSets_47 (fun r10 z10 H locs hp10 hH => ?_)
    obtain ⟨rfl, rfl⟩ := hp10
    refine lv_icmp_gt (tgt := 249) hx hb dX6_tellSets_50 (by decide) (fun _ => ?_) (fun c0 => absurd c0 (by decide))
    exact b_vret hx hb hr hlocks hH (⟨hFz9, (by rw [hz9]; exact (by rw [hz5]; exact (by rw [hz4]; exact p0)))⟩) dX6_tellSets_249
set_option maxHeartbeats 4000000 in
set_option maxRecDepth 100000 in
theorem c_X6_tellWays_0 (l : Launch) (D : va_G) (cy : Nat → ClassId) (q : Nat → Nat) (hq : bJ 23 q) (z : zS) (hF : Fm z)  (bv : Int32) (p0 : z.1 2 = bv)  : bCi l yX6_tellWays wsX6_tellWays ({ frames := 4, cells := 0, slots := 0, locals := 95 }) D cy 23 (enM cy) q z [.ref (q 0)] (fun r z' => Fm z' ∧ z'.2.2 19 0 = 1 ∧ z'.1 2 = bv ∧ (0 : Int32) = r) := by
  intro sz
  refine Met.ofW (cc := cX6_tellWays) (maxL := 7) (ret := (some .int)) (by decide) rfl ?_
  intro p e s m args below meth c s₁ B hml hv
  obtain ⟨rfl, hsz, hP, hK, hZ⟩ := hv
  have hx := B.exec
  have hb := B.bytes
  have hr := B.returns
  have hts := atoms_spec (ws := wsX6_tellWays) B.pre
  have hown : s.vm.findClass RX6 = some m.cls := findClass_of_methodNamed B.named
  have hlocks := B.notSynchronized
  subst hsz
  have hH : bH D 23 (enM cy) q z s.heap s.heap [] := bH_in hq hP
  have hl := lv_entry ([.ref (q 0)]) (n := 7) (Nat.le_of_ble_eq_true rfl)
  rw [lg_entry_eq]
  generalize (lg_sl ([.ref (q 0)]) ++ List.replicate (7 - (lg_sl ([.ref (q 0)])).length) Slot.unset).toArray = ls at hl ⊢
  have hl : lv_has ls 7 [(0, .ref (q 0))] := hl
  refine lv_aload_n hx hb dX6_tellWays_0 rfl (lv_at hl 0 rfl) ?_
  refine b_callv (As := []) (rest := []) ⟨hx, hb, hml, hown, hts⟩ 0 6 (c_X6_tellSets_0 l D cy q hH.2.1 z hF  bv p0 ) (cwV 0 hts gX6_tellWays_X6_tellSets rfl rfl rfl (by decide +kernel) ⟨Nat.le_of_ble_eq_true rfl, Nat.le_of_ble_eq_true rfl⟩) hK hZ hH (by decide) rfl rfl rfl hl.1 rfl (Nat.le_of_ble_eq_true rfl) ⟨Nat.zero_le _, Nat.zero_le _⟩ dX6_tellWays_1 (fun z1 H locs hp1 hH => ?_)
  obtain ⟨hFz1, g1_0⟩ := hp1
  refine lv_iconst (v := 0) hx hb dX6_tellWays_4 (by decide) ?_
  refine lv_istore_n (lv' := [(1, .int 0), (0, .ref (q 0))]) hx hb dX6_tellWays_5 rfl hl (by decide) rfl (fun ls hl => ?_)
  refine lv_iload_n hx hb dX6_tellWays_6 rfl (lv_at hl 0 rfl) ?_
  refine lv_bipush (v := 10) hx hb dX6_tellWays_7 (by decide) ?_
  refine lv_icmp_gt (tgt := 188) hx hb dX6_tellWays_9 (by decide) (fun c0 => absurd c0 (by decide)) (fun _ => ?_)
  refine lv_iconst (v := 0) hx hb dX6_tellWays_12 (by decide) ?_
  refine lv_istore_n (lv' := [(2, .int 0), (1, .int 0), (0, .ref (q 0))]) hx hb dX6_tellWays_13 rfl hl (by decide) rfl (fun ls hl => ?_)
  refine lv_iload_n hx hb dX6_tellWays_14 rfl (lv_at hl 0 rfl) ?_
  refine lv_aload_n hx hb dX6_tellWays_15 rfl (lv_at hl 2 rfl) ?_
  refine b_calli (As := []) (rest := [.int 0]) ⟨hx, hb, hml, hown, hts⟩ 0 6 (c_X6_all_0 l D cy q hH.2.1 z1 hFz1  ) (cwV 0 hts gX6_tellWays_X6_all rfl rfl rfl (by decide +kernel) ⟨Nat.le_of_ble_eq_true rfl, Nat.le_of_ble_eq_true rfl⟩) hK hZ hH (by decide) rfl rfl rfl hl.1 rfl (Nat.le_of_ble_eq_true rfl) ⟨Nat.zero_le _, Nat.zero_le _⟩ dX6_tellWays_16 (fun r2 z2 H locs hp2 hH => ?_)
  obtain ⟨rfl, rfl⟩ := hp2
  refine lv_icmp_gt (tgt := 53) hx hb dX6_tellWays_19 (by decide) (fun c0 => absurd c0 (by decide)) (fun _ => ?_)
  refine lv_aload_n hx hb dX6_tellWays_22 rfl (lv_at hl 2 rfl) ?_
  refine b_get (ci := 6) (C := RX6) (T := TX6) (Nf := 29) (v := .ref (q 19)) hx hb hts in_X6_tellWays_X6 hown hK hH 0 (by decide) rfl rfl 25 (by decide) (hts (.fieldLink RX6 69 "StationLineModel" "ways" "[J") (List.mem_of_getElem? (i := 1) rfl)) rfl dX6_tellWays_23 ?_
  refine lv_sipush (v := 1024) hx hb dX6_tellWays_26 (by decide) ?_
  refine lv_iload_n hx hb dX6_tellWays_29 rfl (lv_at hl 1 rfl) ?_
  refine lv_imul hx hb dX6_tellWays_30 ?_
  refine b_vi (v := 0) (by decide) ?_
  refine lv_iload_n hx hb dX6_tellWays_31 rfl (lv_at hl 0 rfl) ?_
  refine lv_iadd hx hb dX6_tellWays_32 ?_
  refine b_vi (v := 0) (by decide) ?_
  refine lv_iload_n hx hb dX6_tellWays_33 rfl (lv_at hl 1 rfl) ?_
  refine lv_if_ne (tgt := 45) hx hb dX6_tellWays_34 (by decide) (fun c0 => absurd c0 (by decide)) (fun _ => ?_)
  refine lv_iload_n hx hb dX6_tellWays_37 rfl (lv_at hl 0 rfl) ?_
  refine lv_if_ne (tgt := 45) hx hb dX6_tellWays_38 (by decide) (fun c0 => absurd c0 (by decide)) (fun _ => ?_)
  refine lv_lconst (v := 1) hx hb dX6_tellWays_41 (by decide) ?_
  refine lv_goto (tgt := 46) hx hb dX6_tellWays_42 (by decide) ?_
  refine b_last hx hb hK hH 19 (by decide) rfl (by unfold vp_in; decide) (upL z1 19 (vp_updL (z1.2.2 19) (0 : Int32).toNatClampNeg 1)) rfl (enM_L _ _ _ _ _) dX6_tellWays_46 (fun H locs hH => ?_)
  obtain ⟨z3, hz3⟩ : ∃ w : zS, w = upL z1 19 (vp_updL (z1.2.2 19) (0 : Int32).toNatClampNeg 1) := ⟨_, rfl⟩
  rw [← hz3] at hH
  have hFz3 : Fm z3 := by rw [hz3]; exact hFz1
  refine lv_iinc (v := 1) (lv' := [(2, .int 1), (1, .int 0), (0, .ref (q 0))]) hx hb dX6_tellWays_47 hl (k := 0) rfl (by decide) (by decide) rfl (fun ls hl => ?_)
  refine lv_goto (tgt := 14) hx hb dX6_tellWays_50 (by decide) ?_
  refine lv_iload_n hx hb dX6_tellWays_14 rfl (lv_at hl 0 rfl) ?_
  refine lv_aload_n hx hb dX6_tellWays_15 rfl (lv_at hl 2 rfl) ?_
  refine b_calli (As := []) (rest := [.int 1]) ⟨hx, hb, hml, hown, hts⟩ 0 6 (c_X6_all_0 l D cy q hH.2.1 z3 hFz3  ) (cwV 0 hts gX6_tellWays_X6_all rfl rfl rfl (by decide +kernel) ⟨Nat.le_of_ble_eq_true rfl, Nat.le_of_ble_eq_true rfl⟩) hK hZ hH (by decide) rfl rfl rfl hl.1 rfl (Nat.le_of_ble_eq_true rfl) ⟨Nat.zero_le _, Nat.zero_le _⟩ dX6_tellWays_16 (fun r4 z4 H locs hp4 hH => ?_)
  obtain ⟨rfl, rfl⟩ := hp4
  refine lv_icmp_gt (tgt := 53) hx hb dX6_tellWays_19 (by decide) (fun _ => ?_) (fun c0 => absurd c0 (by decide))
  refine lv_iconst (v := 0) hx hb dX6_tellWays_53 (by decide) ?_
  refine lv_istore_n (lv' := [(2, .int 0), (1, .int 0), (0, .ref (q 0))]) hx hb dX6_tellWays_54 rfl hl (by decide) rfl (fun ls hl => ?_)
  refine lv_iload_n hx hb dX6_tellWays_55 rfl (lv_at hl 0 rfl) ?_
  refine lv_aload_n hx hb dX6_tellWays_56 rfl (lv_at hl 2 rfl) ?_
  refine b_calli (As := []) (rest := [.int 0]) ⟨hx, hb, hml, hown, hts⟩ 0 6 (c_X6_all_0 l D cy q hH.2.1 z3 hFz3  ) (cwV 0 hts gX6_tellWays_X6_all rfl rfl rfl (by decide +kernel) ⟨Nat.le_of_ble_eq_true rfl, Nat.le_of_ble_eq_true rfl⟩) hK hZ hH (by decide) rfl rfl rfl hl.1 rfl (Nat.le_of_ble_eq_true rfl) ⟨Nat.zero_le _, Nat.zero_le _⟩ dX6_tellWays_57 (fun r5 z5 H locs hp5 hH => ?_)
  obtain ⟨rfl, rfl⟩ := hp5
  refine lv_icmp_gt (tgt := 160) hx hb dX6_tellWays_60 (by decide) (fun c0 => absurd c0 (by decide)) (fun _ => ?_)
  refine lv_iload_n hx hb dX6_tellWays_63 rfl (lv_at hl 1 rfl) ?_
  refine lv_if_le (tgt := 160) hx hb dX6_tellWays_64 (by decide) (fun _ => ?_) (fun c0 => absurd c0 (by decide))
  refine lv_aload_n hx hb dX6_tellWays_160 rfl (lv_at hl 2 rfl) ?_
  refine b_get (ci := 6) (C := RX6) (T := TX6) (Nf := 29) (v := .ref (q 19)) hx hb hts in_X6_tellWays_X6 hown hK hH 0 (by decide) rfl rfl 25 (by decide) (hts (.fieldLink RX6 69 "StationLineModel" "ways" "[J") (List.mem_of_getElem? (i := 1) rfl)) rfl dX6_tellWays_161 ?_
  refine lv_sipush (v := 1024) hx hb dX6_tellWays_164 (by decide) ?_
  refine lv_iload_n hx hb dX6_tellWays_167 rfl (lv_at hl 1 rfl) ?_
  refine lv_imul hx hb dX6_tellWays_168 ?_
  refine b_vi (v := 0) (by decide) ?_
  refine lv_aload_n hx hb dX6_tellWays_169 rfl (lv_at hl 2 rfl) ?_
  refine b_calli (As := []) (rest := [.int 0, .ref (q 19)]) ⟨hx, hb, hml, hown, hts⟩ 0 6 (c_X6_all_0 l D cy q hH.2.1 z3 hFz3  ) (cwV 0 hts gX6_tellWays_X6_all rfl rfl rfl (by decide +kernel) ⟨Nat.le_of_ble_eq_true rfl, Nat.le_of_ble_eq_true rfl⟩) hK hZ hH (by decide) rfl rfl rfl hl.1 rfl (Nat.le_of_ble_eq_true rfl) ⟨Nat.zero_le _, Nat.zero_le _⟩ dX6_tellWays_170 (fun r6 z6 H locs hp6 hH => ?_)
  obtain ⟨rfl, rfl⟩ := hp6
  refine lv_iadd hx hb dX6_tellWays_173 ?_
  refine b_vi (v := 0) (by decide) ?_
  refine b_lald (v := 1) hx hb hK hH 19 (by decide) rfl (by unfold vp_in; decide) (by rw [hz3]; rfl) dX6_tellWays_174 ?_
  refine lv_lconst (v := 0) hx hb dX6_tellWays_175 (by decide) ?_
  refine W.lcmp hx hb dX6_tellWays_176 ?_
  refine b_vi (v := 1) (by decide) ?_
  refine lv_if_le (tgt := 182) hx hb dX6_tellWays_177 (by decide) (fun c0 => absurd c0 (by decide)) (fun _ => ?_)
  refine lv_iload_n hx hb dX6_tellWays_180 rfl (lv_at hl 1 rfl) ?_
  exact b_iret hx hb hr hlocks hH (⟨hFz3, (by rw [hz3]; rfl), (by rw [hz3]; exact g1_0), (by first | rfl | omega | (exfalso; omega))⟩) dX6_tellWays_181
set_option maxHeartbeats 4000000 in
set_option maxRecDepth 100000 in
theorem c_X6_tellLeast_0 (l : Launch) (D : va_G) (cy : Nat → ClassId) (q : Nat → Nat) (hq : bJ 23 q) (z : zS) (hF : Fm z)    : bCv l yX6_tellLeast wsX6_tellLeast ({ frames := 2, cells := 0, slots := 0, locals := 46 }) D cy 23 (enM cy) q z [.ref (q 0), .int 0] (fun z' => Fm z' ∧ z'.2.2 20 0 = 0) := by
  intro sz
  refine Met.ofW (cc := cX6_tellLeast) (maxL := 10) (ret := none) (by decide) rfl ?_
  intro p e s m args below meth c s₁ B hml hv
  obtain ⟨rfl, hsz, hP, hK, hZ⟩ := hv
  have hx := B.exec
  have hb := B.bytes
  have hr := B.returns
  have hts := atoms_spec (ws := wsX6_tellLeast) B.pre
  have hown : s.vm.findClass RX6 = some m.cls := findClass_of_methodNamed B.named
  have hlocks := B.notSynchronized
  subst hsz
  have hH : bH D 23 (enM cy) q z s.heap s.heap [] := bH_in hq hP
  have hl := lv_entry ([.ref (q 0), .int 0]) (n := 10) (Nat.le_of_ble_eq_true rfl)
  rw [lg_entry_eq]
  generalize (lg_sl ([.ref (q 0), .int 0]) ++ List.replicate (10 - (lg_sl ([.ref (q 0), .int 0])).length) Slot.unset).toArray = ls at hl ⊢
  have hl : lv_has ls 10 [(0, .ref (q 0)), (1, .int 0)] := hl
  refine lv_iload_n hx hb dX6_tellLeast_0 rfl (lv_at hl 1 rfl) ?_
  refine lv_istore_n (lv' := [(2, .int 0), (0, .ref (q 0)), (1, .int 0)]) hx hb dX6_tellLeast_1 rfl hl (by decide) rfl (fun ls hl => ?_)
  refine lv_iload_n hx hb dX6_tellLeast_2 rfl (lv_at hl 0 rfl) ?_
  refine lv_if_lt (tgt := 189) hx hb dX6_tellLeast_3 (by decide) (fun c0 => absurd c0 (by decide)) (fun _ => ?_)
  refine lv_aload_n hx hb dX6_tellLeast_6 rfl (lv_at hl 1 rfl) ?_
  refine b_calli (As := []) (rest := []) ⟨hx, hb, hml, hown, hts⟩ 0 6 (c_X6_all_0 l D cy q hH.2.1 z hF  ) (cwV 0 hts gX6_tellLeast_X6_all rfl rfl rfl (by decide +kernel) ⟨Nat.le_of_ble_eq_true rfl, Nat.le_of_ble_eq_true rfl⟩) hK hZ hH (by decide) rfl rfl rfl hl.1 rfl (Nat.le_of_ble_eq_true rfl) ⟨Nat.zero_le _, Nat.zero_le _⟩ dX6_tellLeast_7 (fun r1 z1 H locs hp1 hH => ?_)
  obtain ⟨rfl, rfl⟩ := hp1
  refine lv_istore_n (lv' := [(3, .int 0), (2, .int 0), (0, .ref (q 0)), (1, .int 0)]) hx hb dX6_tellLeast_10 rfl hl (by decide) rfl (fun ls hl => ?_)
  refine lv_iload_n hx hb dX6_tellLeast_11 rfl (lv_at hl 0 rfl) ?_
  refine lv_if_lt (tgt := 183) hx hb dX6_tellLeast_12 (by decide) (fun c0 => absurd c0 (by decide)) (fun _ => ?_)
  refine lv_iload_n hx hb dX6_tellLeast_15 rfl (lv_at hl 1 rfl) ?_
  refine lv_iload_n hx hb dX6_tellLeast_16 rfl (lv_at hl 3 rfl) ?_
  refine lv_icmp_ne (tgt := 32) hx hb dX6_tellLeast_17 (by decide) (fun c0 => absurd c0 (by decide)) (fun _ => ?_)
  refine lv_iload_n hx hb dX6_tellLeast_20 rfl (lv_at hl 0 rfl) ?_
  refine lv_aload_n hx hb dX6_tellLeast_21 rfl (lv_at hl 2 rfl) ?_
  refine b_calli (As := []) (rest := [.int 0]) ⟨hx, hb, hml, hown, hts⟩ 0 6 (c_X6_all_0 l D cy q hH.2.1 z hF  ) (cwV 0 hts gX6_tellLeast_X6_all rfl rfl rfl (by decide +kernel) ⟨Nat.le_of_ble_eq_true rfl, Nat.le_of_ble_eq_true rfl⟩) hK hZ hH (by decide) rfl rfl rfl hl.1 rfl (Nat.le_of_ble_eq_true rfl) ⟨Nat.zero_le _, Nat.zero_le _⟩ dX6_tellLeast_22 (fun r2 z2 H locs hp2 hH => ?_)
  obtain ⟨rfl, rfl⟩ := hp2
  refine lv_icmp_ne (tgt := 32) hx hb dX6_tellLeast_25 (by decide) (fun c0 => absurd c0 (by decide)) (fun _ => ?_)
  refine lv_lconst (v := 0) hx hb dX6_tellLeast_28 (by decide) ?_
  refine lv_goto (tgt := 35) hx hb dX6_tellLeast_29 (by decide) ?_
  refine lv_lstore (lv' := [(4, .long 0), (3, .int 0), (2, .int 0), (0, .ref (q 0)), (1, .int 0)]) hx hb dX6_tellLeast_35 hl (by decide) rfl (fun ls hl => ?_)
  refine lv_aload_n hx hb dX6_tellLeast_37 rfl (lv_at hl 3 rfl) ?_
  refine b_calli (As := []) (rest := []) ⟨hx, hb, hml, hown, hts⟩ 0 6 (c_X6_all_0 l D cy q hH.2.1 z hF  ) (cwV 0 hts gX6_tellLeast_X6_all rfl rfl rfl (by decide +kernel) ⟨Nat.le_of_ble_eq_true rfl, Nat.le_of_ble_eq_true rfl⟩) hK hZ hH (by decide) rfl rfl rfl hl.1 rfl (Nat.le_of_ble_eq_true rfl) ⟨Nat.zero_le _, Nat.zero_le _⟩ dX6_tellLeast_38 (fun r3 z3 H locs hp3 hH => ?_)
  obtain ⟨rfl, rfl⟩ := hp3
  refine lv_iload_n hx hb dX6_tellLeast_41 rfl (lv_at hl 1 rfl) ?_
  refine lv_iconst (v := (-1)) hx hb dX6_tellLeast_42 (by decide) ?_
  refine lv_ixor hx hb dX6_tellLeast_43 ?_
  refine b_vi (v := (-1)) (by decide) ?_
  refine lv_iand hx hb dX6_tellLeast_44 ?_
  refine b_vi (v := 0) (by decide) ?_
  refine lv_istore (lv' := [(6, .int 0), (4, .long 0), (3, .int 0), (2, .int 0), (0, .ref (q 0)), (1, .int 0)]) hx hb dX6_tellLeast_45 hl (by decide) rfl (fun ls hl => ?_)
  refine lv_iconst (v := 0) hx hb dX6_tellLeast_47 (by decide) ?_
  refine lv_istore (lv' := [(7, .int 0), (6, .int 0), (4, .long 0), (3, .int 0), (2, .int 0), (0, .ref (q 0)), (1, .int 0)]) hx hb dX6_tellLeast_48 hl (by decide) rfl (fun ls hl => ?_)
  refine lv_iload hx hb dX6_tellLeast_50 (lv_at hl 0 rfl) ?_
  refine lv_iload hx hb dX6_tellLeast_52 (lv_at hl 1 rfl) ?_
  refine lv_icmp_gt (tgt := 163) hx hb dX6_tellLeast_54 (by decide) (fun c0 => absurd c0 (by decide)) (fun _ => ?_)
  refine lv_iload_n hx hb dX6_tellLeast_57 rfl (lv_at hl 4 rfl) ?_
  refine lv_iload_n hx hb dX6_tellLeast_58 rfl (lv_at hl 6 rfl) ?_
  refine lv_icmp_ge (tgt := 163) hx hb dX6_tellLeast_59 (by decide) (fun _ => ?_) (fun c0 => absurd c0 (by decide))
  refine lv_aload_n hx hb dX6_tellLeast_163 rfl (lv_at hl 5 rfl) ?_
  refine b_get (ci := 6) (C := RX6) (T := TX6) (Nf := 29) (v := .ref (q 20)) hx hb hts in_X6_tellLeast_X6 hown hK hH 0 (by decide) rfl rfl 26 (by decide) (hts (.fieldLink RX6 73 "StationLineModel" "least" "[J") (List.mem_of_getElem? (i := 2) rfl)) rfl dX6_tellLeast_164 ?_
  refine lv_sipush (v := 1024) hx hb dX6_tellLeast_167 (by decide) ?_
  refine lv_iload_n hx hb dX6_tellLeast_170 rfl (lv_at hl 4 rfl) ?_
  refine lv_imul hx hb dX6_tellLeast_171 ?_
  refine b_vi (v := 0) (by decide) ?_
  refine lv_iload_n hx hb dX6_tellLeast_172 rfl (lv_at hl 3 rfl) ?_
  refine lv_iadd hx hb dX6_tellLeast_173 ?_
  refine b_vi (v := 0) (by decide) ?_
  refine lv_lload hx hb dX6_tellLeast_174 (lv_at hl 2 rfl) ?_
  refine b_last hx hb hK hH 20 (by decide) rfl (by unfold vp_in; decide) (upL z 20 (vp_updL (z.2.2 20) (0 : Int32).toNatClampNeg 0)) rfl (enM_L _ _ _ _ _) dX6_tellLeast_176 (fun H locs hH => ?_)
  obtain ⟨z4, hz4⟩ : ∃ w : zS, w = upL z 20 (vp_updL (z.2.2 20) (0 : Int32).toNatClampNeg 0) := ⟨_, rfl⟩
  rw [← hz4] at hH
  have hFz4 : Fm z4 := by rw [hz4]; exact hF
  refine lv_iinc (v := (-1)) (lv' := [(3, .int (-1)), (7, .int 0), (6, .int 0), (4, .long 0), (2, .int 0), (0, .ref (q 0)), (1, .int 0)]) hx hb dX6_tellLeast_177 hl (k := 3) rfl (by decide) (by decide) rfl (fun ls hl => ?_)
  refine lv_goto (tgt := 11) hx hb dX6_tellLeast_180 (by decide) ?_
  refine lv_iload_n hx hb dX6_tellLeast_11 rfl (lv_at hl 0 rfl) ?_
  refine lv_if_lt (tgt := 183) hx hb dX6_tellLeast_12 (by decide) (fun _ => ?_) (fun c0 => absurd c0 (by decide))
  refine lv_iinc (v := (-1)) (lv' := [(2, .int (-1)), (3, .int (-1)), (7, .int 0), (6, .int 0), (4, .long 0), (0, .ref (q 0)), (1, .int 0)]) hx hb dX6_tellLeast_183 hl (k := 4) rfl (by decide) (by decide) rfl (fun ls hl => ?_)
  refine lv_goto (tgt := 2) hx hb dX6_tellLeast_186 (by decide) ?_
  refine lv_iload_n hx hb dX6_tellLeast_2 rfl (lv_at hl 0 rfl) ?_
  refine lv_if_lt (tgt := 189) hx hb dX6_tellLeast_3 (by decide) (fun _ => ?_) (fun c0 => absurd c0 (by decide))
  exact b_vret hx hb hr hlocks hH (⟨hFz4, (by rw [hz4]; rfl)⟩) dX6_tellLeast_189
set_option maxHeartbeats 4000000 in
set_option maxRecDepth 100000 in
theorem c_X6_byRoom_0 (l : Launch) (D : va_G) (cy : Nat → ClassId) (q : Nat → Nat) (hq : bJ 23 q) (z : zS) (hF : Fm z) (a : Int32) (p0 : z.1 2 = 10)  : bCi l yX6_byRoom wsX6_byRoom ({ frames := 1, cells := 0, slots := 0, locals := 20 }) D cy 23 (enM cy) q z [.ref (q 0), .int a] (fun r z' => Fm z' ∧ z'.1 2 = 10 ∧ ((a + 10 - 1) / 10 : Int32) = r) := by
  intro sz
  refine Met.ofW (cc := cX6_byRoom) (maxL := 2) (ret := (some .int)) (by decide) rfl ?_
  intro p e s m args below meth c s₁ B hml hv
  obtain ⟨rfl, hsz, hP, hK, hZ⟩ := hv
  have hx := B.exec
  have hb := B.bytes
  have hr := B.returns
  have hts := atoms_spec (ws := wsX6_byRoom) B.pre
  have hown : s.vm.findClass RX6 = some m.cls := findClass_of_methodNamed B.named
  have hlocks := B.notSynchronized
  subst hsz
  have hH : bH D 23 (enM cy) q z s.heap s.heap [] := bH_in hq hP
  have hl := lv_entry ([.ref (q 0), .int a]) (n := 2) (Nat.le_of_ble_eq_true rfl)
  rw [lg_entry_eq]
  generalize (lg_sl ([.ref (q 0), .int a]) ++ List.replicate (2 - (lg_sl ([.ref (q 0), .int a])).length) Slot.unset).toArray = ls at hl ⊢
  have hl : lv_has ls 2 [(0, .ref (q 0)), (1, .int a)] := hl
  refine lv_iload_n hx hb dX6_byRoom_0 rfl (lv_at hl 1 rfl) ?_
  refine lv_aload_n hx hb dX6_byRoom_1 rfl (lv_at hl 0 rfl) ?_
  refine b_calli (As := []) (rest := [.int a]) ⟨hx, hb, hml, hown, hts⟩ 0 6 (c_X6_room_0 l D cy q hH.2.1 z hF  ) (cwV 0 hts gX6_byRoom_X6_room rfl rfl rfl (by decide +kernel) ⟨Nat.le_of_ble_eq_true rfl, Nat.le_of_ble_eq_true rfl⟩) hK hZ hH (by decide) rfl rfl rfl hl.1 rfl (Nat.le_of_ble_eq_true rfl) ⟨Nat.zero_le _, Nat.zero_le _⟩ dX6_byRoom_2 (fun r1 z1 H locs hp1 hH => ?_)
  obtain ⟨rfl, rfl⟩ := hp1
  refine b_vi (v := 10) p0 ?_
  refine lv_iadd hx hb dX6_byRoom_5 ?_
  refine lv_iconst (v := 1) hx hb dX6_byRoom_6 (by decide) ?_
  refine lv_isub hx hb dX6_byRoom_7 ?_
  refine lv_aload_n hx hb dX6_byRoom_8 rfl (lv_at hl 0 rfl) ?_
  refine b_calli (As := []) (rest := [.int ((a + 10) - 1)]) ⟨hx, hb, hml, hown, hts⟩ 0 6 (c_X6_room_0 l D cy q hH.2.1 z hF  ) (cwV 0 hts gX6_byRoom_X6_room rfl rfl rfl (by decide +kernel) ⟨Nat.le_of_ble_eq_true rfl, Nat.le_of_ble_eq_true rfl⟩) hK hZ hH (by decide) rfl rfl rfl hl.1 rfl (Nat.le_of_ble_eq_true rfl) ⟨Nat.zero_le _, Nat.zero_le _⟩ dX6_byRoom_9 (fun r2 z2 H locs hp2 hH => ?_)
  obtain ⟨rfl, rfl⟩ := hp2
  refine b_vi (v := 10) p0 ?_
  refine lv_idiv hx hb dX6_byRoom_12 (by decide) ?_
  exact b_iret hx hb hr hlocks hH (⟨hF, p0, (by first | rfl | omega | (exfalso; omega))⟩) dX6_byRoom_13
