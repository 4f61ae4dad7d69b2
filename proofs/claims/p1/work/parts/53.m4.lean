set_option maxHeartbeats 4000000 in
set_option maxRecDepth 100000 in
theorem c_X6_clash_0_in (l : Launch) (D : va_G) (cy : Nat → ClassId) (q : Nat → Nat) (hq : bJ 23 q) (z : zS) (hF : Fm z)  : bCi l yX6_clash wsX6_clash ({ frames := 5, cells := 0, slots := 0, locals := 117 }) D cy 23 (enM cy) q z [.ref (q 0)] (fun r z' => z = z' ∧ (-1 : Int32) = r) := by
  intro sz
  refine Met.ofW (cc := cX6_clash) (maxL := 1) (ret := (some .int)) (by decide) rfl ?_
  intro p e s m args below meth c s₁ B hml hv
  obtain ⟨rfl, hsz, hP, hK, hZ⟩ := hv
  have hx := B.exec
  have hb := B.bytes
  have hr := B.returns
  have hts := atoms_spec (ws := wsX6_clash) B.pre
  have hown : s.vm.findClass RX6 = some m.cls := findClass_of_methodNamed B.named
  have hlocks := B.notSynchronized
  subst hsz
  have hH : bH D 23 (enM cy) q z s.heap s.heap [] := bH_in hq hP
  have hl := lv_entry ([.ref (q 0)]) (n := 1) (Nat.le_of_ble_eq_true rfl)
  rw [lg_entry_eq]
  generalize (lg_sl ([.ref (q 0)]) ++ List.replicate (1 - (lg_sl ([.ref (q 0)])).length) Slot.unset).toArray = ls at hl ⊢
  have hl : lv_has ls 1 [(0, .ref (q 0))] := hl
  refine lv_aload_n hx hb dX6_clash_0 rfl (lv_at hl 0 rfl) ?_
  refine lv_aload_n hx hb dX6_clash_1 rfl (lv_at hl 0 rfl) ?_
  refine b_get (ci := 6) (C := RX6) (T := TX6) (Nf := 29) (v := .ref (q 6)) hx hb hts in_X6_clash_X6 hown hK hH 0 (by decide) rfl rfl 6 (by decide) (hts (.fieldLink RX6 25 "StationLineModel" "hand" "[I") (List.mem_of_getElem? (i := 1) rfl)) rfl dX6_clash_2 ?_
  refine b_calli (As := [.ref (q 6)]) (rest := []) ⟨hx, hb, hml, hown, hts⟩ 0 6 (c_X6_clashIn_0_r6 l D cy q hH.2.1 z hF  ) (cwV 1 hts gX6_clash_X6_clashIn rfl rfl rfl (by decide +kernel) ⟨Nat.le_of_ble_eq_true rfl, Nat.le_of_ble_eq_true rfl⟩) hK hZ hH (by decide) rfl rfl rfl hl.1 rfl (Nat.le_of_ble_eq_true rfl) ⟨Nat.zero_le _, Nat.zero_le _⟩ dX6_clash_5 (fun r1 z1 H locs hp1 hH => ?_)
  obtain ⟨rfl, rfl⟩ := hp1
  refine b_vi (v := (-1)) (by decide) ?_
  exact b_iret hx hb hr hlocks hH (⟨rfl, (by first | rfl | (exfalso; omega))⟩) dX6_clash_8
set_option maxHeartbeats 4000000 in
set_option maxRecDepth 100000 in
theorem c_X6_task (l : Launch) (D : va_G) (cy : Nat → ClassId) (q : Nat → Nat) (hq : bJ 23 q) (z : zS) (hF : Fm z) (h10 : z.1 2 = 10)  : bCi l yX6_task wsX6_task ({ frames := 0, cells := 0, slots := 0, locals := 0 }) D cy 23 (enM cy) q z [.ref (q 0)] (fun r _ => (0 : Int32) = r) := by
  intro sz
  refine Met.ofW (cc := cX6_task) (maxL := 3) (ret := (some .int)) (by decide) rfl ?_
  intro p e s m args below meth c s₁ B hml hv
  obtain ⟨rfl, hsz, hP, hK, hZ⟩ := hv
  have hx := B.exec
  have hb := B.bytes
  have hr := B.returns
  have hts := atoms_spec (ws := wsX6_task) B.pre
  have hown : s.vm.findClass RX6 = some m.cls := findClass_of_methodNamed B.named
  have hlocks := B.notSynchronized
  subst hsz
  have hH : bH D 23 (enM cy) q z s.heap s.heap [] := bH_in hq hP
  have hl := lv_entry ([.ref (q 0)]) (n := 3) (Nat.le_of_ble_eq_true rfl)
  rw [lg_entry_eq]
  generalize (lg_sl ([.ref (q 0)]) ++ List.replicate (3 - (lg_sl ([.ref (q 0)])).length) Slot.unset).toArray = ls at hl ⊢
  have hl : lv_has ls 3 [(0, .ref (q 0))] := hl
  refine lv_aload_n hx hb dX6_task_0 rfl (lv_at hl 0 rfl) ?_
  refine b_get (ci := 6) (C := RX6) (T := TX6) (Nf := 29) (v := .int 0) hx hb hts in_X6_task_X6 hown hK hH 0 (by decide) rfl rfl 0 (by decide) (hts (.fieldLink RX6 85 "StationLineModel" "tasks" "I") (List.mem_of_getElem? (i := 1) rfl)) (congrArg (fun x => some (Value.int x)) (Fm_0 hF)) dX6_task_1 ?_
  refine lv_bipush (v := 10) hx hb dX6_task_4 (by decide) ?_
  refine lv_icmp_ne (tgt := 12) hx hb dX6_task_6 (by decide) (fun _ => ?_) (fun c0 => absurd c0 (by decide))
  refine lv_aload_n hx hb dX6_task_12 rfl (lv_at hl 0 rfl) ?_
  refine b_get (ci := 6) (C := RX6) (T := TX6) (Nf := 29) (v := .int 0) hx hb hts in_X6_task_X6 hown hK hH 0 (by decide) rfl rfl 0 (by decide) (hts (.fieldLink RX6 85 "StationLineModel" "tasks" "I") (List.mem_of_getElem? (i := 1) rfl)) (congrArg (fun x => some (Value.int x)) (Fm_0 hF)) dX6_task_13 ?_
  refine lv_istore_n (lv' := [(1, .int 0), (0, .ref (q 0))]) hx hb dX6_task_16 rfl hl (by decide) rfl (fun ls hl => ?_)
  refine lv_iconst (v := 0) hx hb dX6_task_17 (by decide) ?_
  refine lv_istore_n (lv' := [(2, .int 0), (1, .int 0), (0, .ref (q 0))]) hx hb dX6_task_18 rfl hl (by decide) rfl (fun ls hl => ?_)
  refine lv_iload_n hx hb dX6_task_19 rfl (lv_at hl 0 rfl) ?_
  refine lv_iconst (v := 3) hx hb dX6_task_20 (by decide) ?_
  refine lv_icmp_ge (tgt := 41) hx hb dX6_task_21 (by decide) (fun c0 => absurd c0 (by decide)) (fun _ => ?_)
  refine lv_aload_n hx hb dX6_task_24 rfl (lv_at hl 2 rfl) ?_
  refine b_get (ci := 6) (C := RX6) (T := TX6) (Nf := 29) (v := .ref (q 1)) hx hb hts in_X6_task_X6 hown hK hH 0 (by decide) rfl rfl 1 (by decide) (hts (.fieldLink RX6 7 "StationLineModel" "times" "[I") (List.mem_of_getElem? (i := 2) rfl)) rfl dX6_task_25 ?_
  refine lv_iconst (v := 3) hx hb dX6_task_28 (by decide) ?_
  refine lv_iload_n hx hb dX6_task_29 rfl (lv_at hl 1 rfl) ?_
  refine lv_imul hx hb dX6_task_30 ?_
  refine b_vi (v := 0) (by decide) ?_
  refine lv_iload_n hx hb dX6_task_31 rfl (lv_at hl 0 rfl) ?_
  refine lv_iadd hx hb dX6_task_32 ?_
  refine b_vi (v := 0) (by decide) ?_
  refine lv_iconst (v := 1) hx hb dX6_task_33 (by decide) ?_
  refine b_iast hx hb hK hH 1 (by decide) rfl (by unfold vp_in; decide) (upA z 1 (upd (z.2.1 1) (0 : Int32).toNatClampNeg 1)) rfl (enM_A _ _ _ _ _) dX6_task_34 (fun H locs hH => ?_)
  obtain ⟨z1, hz1⟩ : ∃ w : zS, w = upA z 1 (upd (z.2.1 1) (0 : Int32).toNatClampNeg 1) := ⟨_, rfl⟩
  rw [← hz1] at hH
  have hFz1 : Fm z1 := by rw [hz1]; exact hF
  refine lv_iinc (v := 1) (lv' := [(2, .int 1), (1, .int 0), (0, .ref (q 0))]) hx hb dX6_task_35 hl (k := 0) rfl (by decide) (by decide) rfl (fun ls hl => ?_)
  refine lv_goto (tgt := 19) hx hb dX6_task_38 (by decide) ?_
  refine lv_iload_n hx hb dX6_task_19 rfl (lv_at hl 0 rfl) ?_
  refine lv_iconst (v := 3) hx hb dX6_task_20 (by decide) ?_
  refine lv_icmp_ge (tgt := 41) hx hb dX6_task_21 (by decide) (fun c0 => absurd c0 (by decide)) (fun _ => ?_)
  refine lv_aload_n hx hb dX6_task_24 rfl (lv_at hl 2 rfl) ?_
  refine b_get (ci := 6) (C := RX6) (T := TX6) (Nf := 29) (v := .ref (q 1)) hx hb hts in_X6_task_X6 hown hK hH 0 (by decide) rfl rfl 1 (by decide) (hts (.fieldLink RX6 7 "StationLineModel" "times" "[I") (List.mem_of_getElem? (i := 2) rfl)) rfl dX6_task_25 ?_
  refine lv_iconst (v := 3) hx hb dX6_task_28 (by decide) ?_
  refine lv_iload_n hx hb dX6_task_29 rfl (lv_at hl 1 rfl) ?_
  refine lv_imul hx hb dX6_task_30 ?_
  refine b_vi (v := 0) (by decide) ?_
  refine lv_iload_n hx hb dX6_task_31 rfl (lv_at hl 0 rfl) ?_
  refine lv_iadd hx hb dX6_task_32 ?_
  refine b_vi (v := 1) (by decide) ?_
  refine lv_iconst (v := 1) hx hb dX6_task_33 (by decide) ?_
  refine b_iast hx hb hK hH 1 (by decide) rfl (by unfold vp_in; decide) (upA z1 1 (upd (z1.2.1 1) (1 : Int32).toNatClampNeg 1)) rfl (enM_A _ _ _ _ _) dX6_task_34 (fun H locs hH => ?_)
  obtain ⟨z2, hz2⟩ : ∃ w : zS, w = upA z1 1 (upd (z1.2.1 1) (1 : Int32).toNatClampNeg 1) := ⟨_, rfl⟩
  rw [← hz2] at hH
  have hFz2 : Fm z2 := by rw [hz2]; exact hFz1
  refine lv_iinc (v := 2) (lv' := [(2, .int 2), (1, .int 0), (0, .ref (q 0))]) hx hb dX6_task_35 hl (k := 0) rfl (by decide) (by decide) rfl (fun ls hl => ?_)
  refine lv_goto (tgt := 19) hx hb dX6_task_38 (by decide) ?_
  refine lv_iload_n hx hb dX6_task_19 rfl (lv_at hl 0 rfl) ?_
  refine lv_iconst (v := 3) hx hb dX6_task_20 (by decide) ?_
  refine lv_icmp_ge (tgt := 41) hx hb dX6_task_21 (by decide) (fun c0 => absurd c0 (by decide)) (fun _ => ?_)
  refine lv_aload_n hx hb dX6_task_24 rfl (lv_at hl 2 rfl) ?_
  refine b_get (ci := 6) (C := RX6) (T := TX6) (Nf := 29) (v := .ref (q 1)) hx hb hts in_X6_task_X6 hown hK hH 0 (by decide) rfl rfl 1 (by decide) (hts (.fieldLink RX6 7 "StationLineModel" "times" "[I") (List.mem_of_getElem? (i := 2) rfl)) rfl dX6_task_25 ?_
  refine lv_iconst (v := 3) hx hb dX6_task_28 (by decide) ?_
  refine lv_iload_n hx hb dX6_task_29 rfl (lv_at hl 1 rfl) ?_
  refine lv_imul hx hb dX6_task_30 ?_
  refine b_vi (v := 0) (by decide) ?_
  refine lv_iload_n hx hb dX6_task_31 rfl (lv_at hl 0 rfl) ?_
  refine lv_iadd hx hb dX6_task_32 ?_
  refine b_vi (v := 2) (by decide) ?_
  refine lv_iconst (v := 1) hx hb dX6_task_33 (by decide) ?_
  refine b_iast hx hb hK hH 1 (by decide) rfl (by unfold vp_in; decide) (upA z2 1 (upd (z2.2.1 1) (2 : Int32).toNatClampNeg 1)) rfl (enM_A _ _ _ _ _) dX6_task_34 (fun H locs hH => ?_)
  obtain ⟨z3, hz3⟩ : ∃ w : zS, w = upA z2 1 (upd (z2.2.1 1) (2 : Int32).toNatClampNeg 1) := ⟨_, rfl⟩
  rw [← hz3] at hH
  have hFz3 : Fm z3 := by rw [hz3]; exact hFz2
  refine lv_iinc (v := 3) (lv' := [(2, .int 3), (1, .int 0), (0, .ref (q 0))]) hx hb dX6_task_35 hl (k := 0) rfl (by decide) (by decide) rfl (fun ls hl => ?_)
  refine lv_goto (tgt := 19) hx hb dX6_task_38 (by decide) ?_
  refine lv_iload_n hx hb dX6_task_19 rfl (lv_at hl 0 rfl) ?_
  refine lv_iconst (v := 3) hx hb dX6_task_20 (by decide) ?_
  refine lv_icmp_ge (tgt := 41) hx hb dX6_task_21 (by decide) (fun _ => ?_) (fun c0 => absurd c0 (by decide))
  refine lv_aload_n hx hb dX6_task_41 rfl (lv_at hl 2 rfl) ?_
  refine b_get (ci := 6) (C := RX6) (T := TX6) (Nf := 29) (v := .ref (q 3)) hx hb hts in_X6_task_X6 hown hK hH 0 (by decide) rfl rfl 3 (by decide) (hts (.fieldLink RX6 16 "StationLineModel" "straight" "[I") (List.mem_of_getElem? (i := 3) rfl)) rfl dX6_task_42 ?_
  refine lv_iload_n hx hb dX6_task_45 rfl (lv_at hl 1 rfl) ?_
  refine lv_iconst (v := 0) hx hb dX6_task_46 (by decide) ?_
  refine b_iast hx hb hK hH 3 (by decide) rfl (by unfold vp_in; decide) (upA z3 3 (upd (z3.2.1 3) (0 : Int32).toNatClampNeg 0)) rfl (enM_A _ _ _ _ _) dX6_task_47 (fun H locs hH => ?_)
  obtain ⟨z4, hz4⟩ : ∃ w : zS, w = upA z3 3 (upd (z3.2.1 3) (0 : Int32).toNatClampNeg 0) := ⟨_, rfl⟩
  rw [← hz4] at hH
  have hFz4 : Fm z4 := by rw [hz4]; exact hFz3
  refine lv_aload_n hx hb dX6_task_48 rfl (lv_at hl 2 rfl) ?_
  refine b_get (ci := 6) (C := RX6) (T := TX6) (Nf := 29) (v := .ref (q 5)) hx hb hts in_X6_task_X6 hown hK hH 0 (by decide) rfl rfl 5 (by decide) (hts (.fieldLink RX6 22 "StationLineModel" "held" "[I") (List.mem_of_getElem? (i := 4) rfl)) rfl dX6_task_49 ?_
  refine lv_iload_n hx hb dX6_task_52 rfl (lv_at hl 1 rfl) ?_
  refine lv_iconst (v := 0) hx hb dX6_task_53 (by decide) ?_
  refine b_iast hx hb hK hH 5 (by decide) rfl (by unfold vp_in; decide) (upA z4 5 (upd (z4.2.1 5) (0 : Int32).toNatClampNeg 0)) rfl (enM_A _ _ _ _ _) dX6_task_54 (fun H locs hH => ?_)
  obtain ⟨z5, hz5⟩ : ∃ w : zS, w = upA z4 5 (upd (z4.2.1 5) (0 : Int32).toNatClampNeg 0) := ⟨_, rfl⟩
  rw [← hz5] at hH
  have hFz5 : Fm z5 := by rw [hz5]; exact hFz4
  refine lv_aload_n hx hb dX6_task_55 rfl (lv_at hl 2 rfl) ?_
  refine b_get (ci := 6) (C := RX6) (T := TX6) (Nf := 29) (v := .ref (q 6)) hx hb hts in_X6_task_X6 hown hK hH 0 (by decide) rfl rfl 6 (by decide) (hts (.fieldLink RX6 25 "StationLineModel" "hand" "[I") (List.mem_of_getElem? (i := 5) rfl)) rfl dX6_task_56 ?_
  refine lv_iload_n hx hb dX6_task_59 rfl (lv_at hl 1 rfl) ?_
  refine lv_iconst (v := 0) hx hb dX6_task_60 (by decide) ?_
  refine b_iast hx hb hK hH 6 (by decide) rfl (by unfold vp_in; decide) (upA z5 6 (upd (z5.2.1 6) (0 : Int32).toNatClampNeg 0)) rfl (enM_A _ _ _ _ _) dX6_task_61 (fun H locs hH => ?_)
  obtain ⟨z6, hz6⟩ : ∃ w : zS, w = upA z5 6 (upd (z5.2.1 6) (0 : Int32).toNatClampNeg 0) := ⟨_, rfl⟩
  rw [← hz6] at hH
  have hFz6 : Fm z6 := by rw [hz6]; exact hFz5
  refine lv_iconst (v := 0) hx hb dX6_task_62 (by decide) ?_
  refine lv_istore_n (lv' := [(2, .int 0), (1, .int 0), (0, .ref (q 0))]) hx hb dX6_task_63 rfl hl (by decide) rfl (fun ls hl => ?_)
  refine lv_iload_n hx hb dX6_task_64 rfl (lv_at hl 0 rfl) ?_
  refine lv_bipush (v := 10) hx hb dX6_task_65 (by decide) ?_
  refine lv_icmp_ge (tgt := 100) hx hb dX6_task_67 (by decide) (fun c0 => absurd c0 (by decide)) (fun _ => ?_)
  refine lv_aload_n hx hb dX6_task_70 rfl (lv_at hl 2 rfl) ?_
  refine b_get (ci := 6) (C := RX6) (T := TX6) (Nf := 29) (v := .ref (q 4)) hx hb hts in_X6_task_X6 hown hK hH 0 (by decide) rfl rfl 4 (by decide) (hts (.fieldLink RX6 19 "StationLineModel" "pairs" "[I") (List.mem_of_getElem? (i := 6) rfl)) rfl dX6_task_71 ?_
  refine lv_bipush (v := 10) hx hb dX6_task_74 (by decide) ?_
  refine lv_iload_n hx hb dX6_task_76 rfl (lv_at hl 1 rfl) ?_
  refine lv_imul hx hb dX6_task_77 ?_
  refine b_vi (v := 0) (by decide) ?_
  refine lv_iload_n hx hb dX6_task_78 rfl (lv_at hl 0 rfl) ?_
  refine lv_iadd hx hb dX6_task_79 ?_
  refine b_vi (v := 0) (by decide) ?_
  refine lv_iconst (v := 0) hx hb dX6_task_80 (by decide) ?_
  refine b_iast hx hb hK hH 4 (by decide) rfl (by unfold vp_in; decide) (upA z6 4 (upd (z6.2.1 4) (0 : Int32).toNatClampNeg 0)) rfl (enM_A _ _ _ _ _) dX6_task_81 (fun H locs hH => ?_)
  obtain ⟨z7, hz7⟩ : ∃ w : zS, w = upA z6 4 (upd (z6.2.1 4) (0 : Int32).toNatClampNeg 0) := ⟨_, rfl⟩
  rw [← hz7] at hH
  have hFz7 : Fm z7 := by rw [hz7]; exact hFz6
  refine lv_aload_n hx hb dX6_task_82 rfl (lv_at hl 2 rfl) ?_
  refine b_get (ci := 6) (C := RX6) (T := TX6) (Nf := 29) (v := .ref (q 4)) hx hb hts in_X6_task_X6 hown hK hH 0 (by decide) rfl rfl 4 (by decide) (hts (.fieldLink RX6 19 "StationLineModel" "pairs" "[I") (List.mem_of_getElem? (i := 6) rfl)) rfl dX6_task_83 ?_
  refine lv_bipush (v := 10) hx hb dX6_task_86 (by decide) ?_
  refine lv_iload_n hx hb dX6_task_88 rfl (lv_at hl 0 rfl) ?_
  refine lv_imul hx hb dX6_task_89 ?_
  refine b_vi (v := 0) (by decide) ?_
  refine lv_iload_n hx hb dX6_task_90 rfl (lv_at hl 1 rfl) ?_
  refine lv_iadd hx hb dX6_task_91 ?_
  refine b_vi (v := 0) (by decide) ?_
  refine lv_iconst (v := 0) hx hb dX6_task_92 (by decide) ?_
  refine b_iast hx hb hK hH 4 (by decide) rfl (by unfold vp_in; decide) (upA z7 4 (upd (z7.2.1 4) (0 : Int32).toNatClampNeg 0)) rfl (enM_A _ _ _ _ _) dX6_task_93 (fun H locs hH => ?_)
  obtain ⟨z8, hz8⟩ : ∃ w : zS, w = upA z7 4 (upd (z7.2.1 4) (0 : Int32).toNatClampNeg 0) := ⟨_, rfl⟩
  rw [← hz8] at hH
  have hFz8 : Fm z8 := by rw [hz8]; exact hFz7
  refine lv_iinc (v := 1) (lv' := [(2, .int 1), (1, .int 0), (0, .ref (q 0))]) hx hb dX6_task_94 hl (k := 0) rfl (by decide) (by decide) rfl (fun ls hl => ?_)
  refine lv_goto (tgt := 64) hx hb dX6_task_97 (by decide) ?_
  refine lv_iload_n hx hb dX6_task_64 rfl (lv_at hl 0 rfl) ?_
  refine lv_bipush (v := 10) hx hb dX6_task_65 (by decide) ?_
  refine lv_icmp_ge (tgt := 100) hx hb dX6_task_67 (by decide) (fun c0 => absurd c0 (by decide)) (fun _ => ?_)
  refine lv_aload_n hx hb dX6_task_70 rfl (lv_at hl 2 rfl) ?_
  refine b_get (ci := 6) (C := RX6) (T := TX6) (Nf := 29) (v := .ref (q 4)) hx hb hts in_X6_task_X6 hown hK hH 0 (by decide) rfl rfl 4 (by decide) (hts (.fieldLink RX6 19 "StationLineModel" "pairs" "[I") (List.mem_of_getElem? (i := 6) rfl)) rfl dX6_task_71 ?_
  refine lv_bipush (v := 10) hx hb dX6_task_74 (by decide) ?_
  refine lv_iload_n hx hb dX6_task_76 rfl (lv_at hl 1 rfl) ?_
  refine lv_imul hx hb dX6_task_77 ?_
  refine b_vi (v := 0) (by decide) ?_
  refine lv_iload_n hx hb dX6_task_78 rfl (lv_at hl 0 rfl) ?_
  refine lv_iadd hx hb dX6_task_79 ?_
  refine b_vi (v := 1) (by decide) ?_
  refine lv_iconst (v := 0) hx hb dX6_task_80 (by decide) ?_
  refine b_iast hx hb hK hH 4 (by decide) rfl (by unfold vp_in; decide) (upA z8 4 (upd (z8.2.1 4) (1 : Int32).toNatClampNeg 0)) rfl (enM_A _ _ _ _ _) dX6_task_81 (fun H locs hH => ?_)
  obtain ⟨z9, hz9⟩ : ∃ w : zS, w = upA z8 4 (upd (z8.2.1 4) (1 : Int32).toNatClampNeg 0) := ⟨_, rfl⟩
  rw [← hz9] at hH
  have hFz9 : Fm z9 := by rw [hz9]; exact hFz8
  refine lv_aload_n hx hb dX6_task_82 rfl (lv_at hl 2 rfl) ?_
  refine b_get (ci := 6) (C := RX6) (T := TX6) (Nf := 29) (v := .ref (q 4)) hx hb hts in_X6_task_X6 hown hK hH 0 (by decide) rfl rfl 4 (by decide) (hts (.fieldLink RX6 19 "StationLineModel" "pairs" "[I") (List.mem_of_getElem? (i := 6) rfl)) rfl dX6_task_83 ?_
  refine lv_bipush (v := 10) hx hb dX6_task_86 (by decide) ?_
  refine lv_iload_n hx hb dX6_task_88 rfl (lv_at hl 0 rfl) ?_
  refine lv_imul hx hb dX6_task_89 ?_
  refine b_vi (v := 10) (by decide) ?_
  refine lv_iload_n hx hb dX6_task_90 rfl (lv_at hl 1 rfl) ?_
  refine lv_iadd hx hb dX6_task_91 ?_
  refine b_vi (v := 10) (by decide) ?_
  refine lv_iconst (v := 0) hx hb dX6_task_92 (by decide) ?_
  refine b_iast hx hb hK hH 4 (by decide) rfl (by unfold vp_in; decide) (upA z9 4 (upd (z9.2.1 4) (10 : Int32).toNatClampNeg 0)) rfl (enM_A _ _ _ _ _) dX6_task_93 (fun H locs hH => ?_)
  obtain ⟨z10, hz10⟩ : ∃ w : zS, w = upA z9 4 (upd (z9.2.1 4) (10 : Int32).toNatClampNeg 0) := ⟨_, rfl⟩
  rw [← hz10] at hH
  have hFz10 : Fm z10 := by rw [hz10]; exact hFz9
  refine lv_iinc (v := 2) (lv' := [(2, .int 2), (1, .int 0), (0, .ref (q 0))]) hx hb dX6_task_94 hl (k := 0) rfl (by decide) (by decide) rfl (fun ls hl => ?_)
  refine lv_goto (tgt := 64) hx hb dX6_task_97 (by decide) ?_
  refine lv_iload_n hx hb dX6_task_64 rfl (lv_at hl 0 rfl) ?_
  refine lv_bipush (v := 10) hx hb dX6_task_65 (by decide) ?_
  refine lv_icmp_ge (tgt := 100) hx hb dX6_task_67 (by decide) (fun c0 => absurd c0 (by decide)) (fun _ => ?_)
  refine lv_aload_n hx hb dX6_task_70 rfl (lv_at hl 2 rfl) ?_
  refine b_get (ci := 6) (C := RX6) (T := TX6) (Nf := 29) (v := .ref (q 4)) hx hb hts in_X6_task_X6 hown hK hH 0 (by decide) rfl rfl 4 (by decide) (hts (.fieldLink RX6 19 "StationLineModel" "pairs" "[I") (List.mem_of_getElem? (i := 6) rfl)) rfl dX6_task_71 ?_
  refine lv_bipush (v := 10) hx hb dX6_task_74 (by decide) ?_
  refine lv_iload_n hx hb dX6_task_76 rfl (lv_at hl 1 rfl) ?_
  refine lv_imul hx hb dX6_task_77 ?_
  refine b_vi (v := 0) (by decide) ?_
  refine lv_iload_n hx hb dX6_task_78 rfl (lv_at hl 0 rfl) ?_
  refine lv_iadd hx hb dX6_task_79 ?_
  refine b_vi (v := 2) (by decide) ?_
  refine lv_iconst (v := 0) hx hb dX6_task_80 (by decide) ?_
  refine b_iast hx hb hK hH 4 (by decide) rfl (by unfold vp_in; decide) (upA z10 4 (upd (z10.2.1 4) (2 : Int32).toNatClampNeg 0)) rfl (enM_A _ _ _ _ _) dX6_task_81 (fun H locs hH => ?_)
  obtain ⟨z11, hz11⟩ : ∃ w : zS, w = upA z10 4 (upd (z10.2.1 4) (2 : Int32).toNatClampNeg 0) := ⟨_, rfl⟩
  rw [← hz11] at hH
  have hFz11 : Fm z11 := by rw [hz11]; exact hFz10
  refine lv_aload_n hx hb dX6_task_82 rfl (lv_at hl 2 rfl) ?_
  refine b_get (ci := 6) (C := RX6) (T := TX6) (Nf := 29) (v := .ref (q 4)) hx hb hts in_X6_task_X6 hown hK hH 0 (by decide) rfl rfl 4 (by decide) (hts (.fieldLink RX6 19 "StationLineModel" "pairs" "[I") (List.mem_of_getElem? (i := 6) rfl)) rfl dX6_task_83 ?_
  refine lv_bipush (v := 10) hx hb dX6_task_86 (by decide) ?_
  refine lv_iload_n hx hb dX6_task_88 rfl (lv_at hl 0 rfl) ?_
  refine lv_imul hx hb dX6_task_89 ?_
  refine b_vi (v := 20) (by decide) ?_
  refine lv_iload_n hx hb dX6_task_90 rfl (lv_at hl 1 rfl) ?_
  refine lv_iadd hx hb dX6_task_91 ?_
  refine b_vi (v := 20) (by decide) ?_
  refine lv_iconst (v := 0) hx hb dX6_task_92 (by decide) ?_
  refine b_iast hx hb hK hH 4 (by decide) rfl (by unfold vp_in; decide) (upA z11 4 (upd (z11.2.1 4) (20 : Int32).toNatClampNeg 0)) rfl (enM_A _ _ _ _ _) dX6_task_93 (fun H locs hH => ?_)
  obtain ⟨z12, hz12⟩ : ∃ w : zS, w = upA z11 4 (upd (z11.2.1 4) (20 : Int32).toNatClampNeg 0) := ⟨_, rfl⟩
  rw [← hz12] at hH
  have hFz12 : Fm z12 := by rw [hz12]; exact hFz11
  refine lv_iinc (v := 3) (lv' := [(2, .int 3), (1, .int 0), (0, .ref (q 0))]) hx hb dX6_task_94 hl (k := 0) rfl (by decide) (by decide) rfl (fun ls hl => ?_)
  refine lv_goto (tgt := 64) hx hb dX6_task_97 (by decide) ?_
  refine lv_iload_n hx hb dX6_task_64 rfl (lv_at hl 0 rfl) ?_
  refine lv_bipush (v := 10) hx hb dX6_task_65 (by decide) ?_
  refine lv_icmp_ge (tgt := 100) hx hb dX6_task_67 (by decide) (fun c0 => absurd c0 (by decide)) (fun _ => ?_)
  refine lv_aload_n hx hb dX6_task_70 rfl (lv_at hl 2 rfl) ?_
  refine b_get (ci := 6) (C := RX6) (T := TX6) (Nf := 29) (v := .ref (q 4)) hx hb hts in_X6_task_X6 hown hK hH 0 (by decide) rfl rfl 4 (by decide) (hts (.fieldLink RX6 19 "StationLineModel" "pairs" "[I") (List.mem_of_getElem? (i := 6) rfl)) rfl dX6_task_71 ?_
  refine lv_bipush (v := 10) hx hb dX6_task_74 (by decide) ?_
  refine lv_iload_n hx hb dX6_task_76 rfl (lv_at hl 1 rfl) ?_
  refine lv_imul hx hb dX6_task_77 ?_
  refine b_vi (v := 0) (by decide) ?_
  refine lv_iload_n hx hb dX6_task_78 rfl (lv_at hl 0 rfl) ?_
  refine lv_iadd hx hb dX6_task_79 ?_
  refine b_vi (v := 3) (by decide) ?_
  refine lv_iconst (v := 0) hx hb dX6_task_80 (by decide) ?_
  refine b_iast hx hb hK hH 4 (by decide) rfl (by unfold vp_in; decide) (upA z12 4 (upd (z12.2.1 4) (3 : Int32).toNatClampNeg 0)) rfl (enM_A _ _ _ _ _) dX6_task_81 (fun H locs hH => ?_)
  obtain ⟨z13, hz13⟩ : ∃ w : zS, w = upA z12 4 (upd (z12.2.1 4) (3 : Int32).toNatClampNeg 0) := ⟨_, rfl⟩
  rw [← hz13] at hH
  have hFz13 : Fm z13 := by rw [hz13]; exact hFz12
  refine lv_aload_n hx hb dX6_task_82 rfl (lv_at hl 2 rfl) ?_
  refine b_get (ci := 6) (C := RX6) (T := TX6) (Nf := 29) (v := .ref (q 4)) hx hb hts in_X6_task_X6 hown hK hH 0 (by decide) rfl rfl 4 (by decide) (hts (.fieldLink RX6 19 "StationLineModel" "pairs" "[I") (List.mem_of_getElem? (i := 6) rfl)) rfl dX6_task_83 ?_
  refine lv_bipush (v := 10) hx hb dX6_task_86 (by decide) ?_
  refine lv_iload_n hx hb dX6_task_88 rfl (lv_at hl 0 rfl) ?_
  refine lv_imul hx hb dX6_task_89 ?_
  refine b_vi (v := 30) (by decide) ?_
  refine lv_iload_n hx hb dX6_task_90 rfl (lv_at hl 1 rfl) ?_
  refine lv_iadd hx hb dX6_task_91 ?_
  refine b_vi (v := 30) (by decide) ?_
  refine lv_iconst (v := 0) hx hb dX6_task_92 (by decide) ?_
  refine b_iast hx hb hK hH 4 (by decide) rfl (by unfold vp_in; decide) (upA z13 4 (upd (z13.2.1 4) (30 : Int32).toNatClampNeg 0)) rfl (enM_A _ _ _ _ _) dX6_task_93 (fun H locs hH => ?_)
  obtain ⟨z14, hz14⟩ : ∃ w : zS, w = upA z13 4 (upd (z13.2.1 4) (30 : Int32).toNatClampNeg 0) := ⟨_, rfl⟩
  rw [← hz14] at hH
  have hFz14 : Fm z14 := by rw [hz14]; exact hFz13
  refine lv_iinc (v := 4) (lv' := [(2, .int 4), (1, .int 0), (0, .ref (q 0))]) hx hb dX6_task_94 hl (k := 0) rfl (by decide) (by decide) rfl (fun ls hl => ?_)
  refine lv_goto (tgt := 64) hx hb dX6_task_97 (by decide) ?_
  refine lv_iload_n hx hb dX6_task_64 rfl (lv_at hl 0 rfl) ?_
  refine lv_bipush (v := 10) hx hb dX6_task_65 (by decide) ?_
  refine lv_icmp_ge (tgt := 100) hx hb dX6_task_67 (by decide) (fun c0 => absurd c0 (by decide)) (fun _ => ?_)
  refine lv_aload_n hx hb dX6_task_70 rfl (lv_at hl 2 rfl) ?_
  refine b_get (ci := 6) (C := RX6) (T := TX6) (Nf := 29) (v := .ref (q 4)) hx hb hts in_X6_task_X6 hown hK hH 0 (by decide) rfl rfl 4 (by decide) (hts (.fieldLink RX6 19 "StationLineModel" "pairs" "[I") (List.mem_of_getElem? (i := 6) rfl)) rfl dX6_task_71 ?_
  refine lv_bipush (v := 10) hx hb dX6_task_74 (by decide) ?_
  refine lv_iload_n hx hb dX6_task_76 rfl (lv_at hl 1 rfl) ?_
  refine lv_imul hx hb dX6_task_77 ?_
  refine b_vi (v := 0) (by decide) ?_
  refine lv_iload_n hx hb dX6_task_78 rfl (lv_at hl 0 rfl) ?_
  refine lv_iadd hx hb dX6_task_79 ?_
  refine b_vi (v := 4) (by decide) ?_
  refine lv_iconst (v := 0) hx hb dX6_task_80 (by decide) ?_
  refine b_iast hx hb hK hH 4 (by decide) rfl (by unfold vp_in; decide) (upA z14 4 (upd (z14.2.1 4) (4 : Int32).toNatClampNeg 0)) rfl (enM_A _ _ _ _ _) dX6_task_81 (fun H locs hH => ?_)
  obtain ⟨z15, hz15⟩ : ∃ w : zS, w = upA z14 4 (upd (z14.2.1 4) (4 : Int32).toNatClampNeg 0) := ⟨_, rfl⟩
  rw [← hz15] at hH
  have hFz15 : Fm z15 := by rw [hz15]; exact hFz14
  refine lv_aload_n hx hb dX6_task_82 rfl (lv_at hl 2 rfl) ?_
  refine b_get (ci := 6) (C := RX6) (T := TX6) (Nf := 29) (v := .ref (q 4)) hx hb hts in_X6_task_X6 hown hK hH 0 (by decide) rfl rfl 4 (by decide) (hts (.fieldLink RX6 19 "StationLineModel" "pairs" "[I") (List.mem_of_getElem? (i := 6) rfl)) rfl dX6_task_83 ?_
  refine lv_bipush (v := 10) hx hb dX6_task_86 (by decide) ?_
  refine lv_iload_n hx hb dX6_task_88 rfl (lv_at hl 0 rfl) ?_
  refine lv_imul hx hb dX6_task_89 ?_
  refine b_vi (v := 40) (by decide) ?_
  refine lv_iload_n hx hb dX6_task_90 rfl (lv_at hl 1 rfl) ?_
  refine lv_iadd hx hb dX6_task_91 ?_
  refine b_vi (v := 40) (by decide) ?_
  refine lv_iconst (v := 0) hx hb dX6_task_92 (by decide) ?_
  refine b_iast hx hb hK hH 4 (by decide) rfl (by unfold vp_in; decide) (upA z15 4 (upd (z15.2.1 4) (40 : Int32).toNatClampNeg 0)) rfl (enM_A _ _ _ _ _) dX6_task_93 (fun H locs hH => ?_)
  obtain ⟨z16, hz16⟩ : ∃ w : zS, w = upA z15 4 (upd (z15.2.1 4) (40 : Int32).toNatClampNeg 0) := ⟨_, rfl⟩
  rw [← hz16] at hH
  have hFz16 : Fm z16 := by rw [hz16]; exact hFz15
  refine lv_iinc (v := 5) (lv' := [(2, .int 5), (1, .int 0), (0, .ref (q 0))]) hx hb dX6_task_94 hl (k := 0) rfl (by decide) (by decide) rfl (fun ls hl => ?_)
  refine lv_goto (tgt := 64) hx hb dX6_task_97 (by decide) ?_
  refine lv_iload_n hx hb dX6_task_64 rfl (lv_at hl 0 rfl) ?_
  refine lv_bipush (v := 10) hx hb dX6_task_65 (by decide) ?_
  refine lv_icmp_ge (tgt := 100) hx hb dX6_task_67 (by decide) (fun c0 => absurd c0 (by decide)) (fun _ => ?_)
  refine lv_aload_n hx hb dX6_task_70 rfl (lv_at hl 2 rfl) ?_
  refine b_get (ci := 6) (C := RX6) (T := TX6) (Nf := 29) (v := .ref (q 4)) hx hb hts in_X6_task_X6 hown hK hH 0 (by decide) rfl rfl 4 (by decide) (hts (.fieldLink RX6 19 "StationLineModel" "pairs" "[I") (List.mem_of_getElem? (i := 6) rfl)) rfl dX6_task_71 ?_
  refine lv_bipush (v := 10) hx hb dX6_task_74 (by decide) ?_
  refine lv_iload_n hx hb dX6_task_76 rfl (lv_at hl 1 rfl) ?_
  refine lv_imul hx hb dX6_task_77 ?_
  refine b_vi (v := 0) (by decide) ?_
  refine lv_iload_n hx hb dX6_task_78 rfl (lv_at hl 0 rfl) ?_
  refine lv_iadd hx hb dX6_task_79 ?_
  refine b_vi (v := 5) (by decide) ?_
  refine lv_iconst (v := 0) hx hb dX6_task_80 (by decide) ?_
  refine b_iast hx hb hK hH 4 (by decide) rfl (by unfold vp_in; decide) (upA z16 4 (upd (z16.2.1 4) (5 : Int32).toNatClampNeg 0)) rfl (enM_A _ _ _ _ _) dX6_task_81 (fun H locs hH => ?_)
  obtain ⟨z17, hz17⟩ : ∃ w : zS, w = upA z16 4 (upd (z16.2.1 4) (5 : Int32).toNatClampNeg 0) := ⟨_, rfl⟩
  rw [← hz17] at hH
  have hFz17 : Fm z17 := by rw [hz17]; exact hFz16
  refine lv_aload_n hx hb dX6_task_82 rfl (lv_at hl 2 rfl) ?_
  refine b_get (ci := 6) (C := RX6) (T := TX6) (Nf := 29) (v := .ref (q 4)) hx hb hts in_X6_task_X6 hown hK hH 0 (by decide) rfl rfl 4 (by decide) (hts (.fieldLink RX6 19 "StationLineModel" "pairs" "[I") (List.mem_of_getElem? (i := 6) rfl)) rfl dX6_task_83 ?_
  refine lv_bipush (v := 10) hx hb dX6_task_86 (by decide) ?_
  refine lv_iload_n hx hb dX6_task_88 rfl (lv_at hl 0 rfl) ?_
  refine lv_imul hx hb dX6_task_89 ?_
  refine b_vi (v := 50) (by decide) ?_
  refine lv_iload_n hx hb dX6_task_90 rfl (lv_at hl 1 rfl) ?_
  refine lv_iadd hx hb dX6_task_91 ?_
  refine b_vi (v := 50) (by decide) ?_
  refine lv_iconst (v := 0) hx hb dX6_task_92 (by decide) ?_
  refine b_iast hx hb hK hH 4 (by decide) rfl (by unfold vp_in; decide) (upA z17 4 (upd (z17.2.1 4) (50 : Int32).toNatClampNeg 0)) rfl (enM_A _ _ _ _ _) dX6_task_93 (fun H locs hH => ?_)
  obtain ⟨z18, hz18⟩ : ∃ w : zS, w = upA z17 4 (upd (z17.2.1 4) (50 : Int32).toNatClampNeg 0) := ⟨_, rfl⟩
  rw [← hz18] at hH
  have hFz18 : Fm z18 := by rw [hz18]; exact hFz17
  refine lv_iinc (v := 6) (lv' := [(2, .int 6), (1, .int 0), (0, .ref (q 0))]) hx hb dX6_task_94 hl (k := 0) rfl (by decide) (by decide) rfl (fun ls hl => ?_)
  refine lv_goto (tgt := 64) hx hb dX6_task_97 (by decide) ?_
  refine lv_iload_n hx hb dX6_task_64 rfl (lv_at hl 0 rfl) ?_
  refine lv_bipush (v := 10) hx hb dX6_task_65 (by decide) ?_
  refine lv_icmp_ge (tgt := 100) hx hb dX6_task_67 (by decide) (fun c0 => absurd c0 (by decide)) (fun _ => ?_)
  refine lv_aload_n hx hb dX6_task_70 rfl (lv_at hl 2 rfl) ?_
  refine b_get (ci := 6) (C := RX6) (T := TX6) (Nf := 29) (v := .ref (q 4)) hx hb hts in_X6_task_X6 hown hK hH 0 (by decide) rfl rfl 4 (by decide) (hts (.fieldLink RX6 19 "StationLineModel" "pairs" "[I") (List.mem_of_getElem? (i := 6) rfl)) rfl dX6_task_71 ?_
  refine lv_bipush (v := 10) hx hb dX6_task_74 (by decide) ?_
  refine lv_iload_n hx hb dX6_task_76 rfl (lv_at hl 1 rfl) ?_
  refine lv_imul hx hb dX6_task_77 ?_
  refine b_vi (v := 0) (by decide) ?_
  refine lv_iload_n hx hb dX6_task_78 rfl (lv_at hl 0 rfl) ?_
  refine lv_iadd hx hb dX6_task_79 ?_
  refine b_vi (v := 6) (by decide) ?_
  refine lv_iconst (v := 0) hx hb dX6_task_80 (by decide) ?_
  refine b_iast hx hb hK hH 4 (by decide) rfl (by unfold vp_in; decide) (upA z18 4 (upd (z18.2.1 4) (6 : Int32).toNatClampNeg 0)) rfl (enM_A _ _ _ _ _) dX6_task_81 (fun H locs hH => ?_)
  obtain ⟨z19, hz19⟩ : ∃ w : zS, w = upA z18 4 (upd (z18.2.1 4) (6 : Int32).toNatClampNeg 0) := ⟨_, rfl⟩
  rw [← hz19] at hH
  have hFz19 : Fm z19 := by rw [hz19]; exact hFz18
  refine lv_aload_n hx hb dX6_task_82 rfl (lv_at hl 2 rfl) ?_
  refine b_get (ci := 6) (C := RX6) (T := TX6) (Nf := 29) (v := .ref (q 4)) hx hb hts in_X6_task_X6 hown hK hH 0 (by decide) rfl rfl 4 (by decide) (hts (.fieldLink RX6 19 "StationLineModel" "pairs" "[I") (List.mem_of_getElem? (i := 6) rfl)) rfl dX6_task_83 ?_
  refine lv_bipush (v := 10) hx hb dX6_task_86 (by decide) ?_
  refine lv_iload_n hx hb dX6_task_88 rfl (lv_at hl 0 rfl) ?_
  refine lv_imul hx hb dX6_task_89 ?_
  refine b_vi (v := 60) (by decide) ?_
  refine lv_iload_n hx hb dX6_task_90 rfl (lv_at hl 1 rfl) ?_
  refine lv_iadd hx hb dX6_task_91 ?_
  refine b_vi (v := 60) (by decide) ?_
  refine lv_iconst (v := 0) hx hb dX6_task_92 (by decide) ?_
  refine b_iast hx hb hK hH 4 (by decide) rfl (by unfold vp_in; decide) (upA z19 4 (upd (z19.2.1 4) (60 : Int32).toNatClampNeg 0)) rfl (enM_A _ _ _ _ _) dX6_task_93 (fun H locs hH => ?_)
  obtain ⟨z20, hz20⟩ : ∃ w : zS, w = upA z19 4 (upd (z19.2.1 4) (60 : Int32).toNatClampNeg 0) := ⟨_, rfl⟩
  rw [← hz20] at hH
  have hFz20 : Fm z20 := by rw [hz20]; exact hFz19
  refine lv_iinc (v := 7) (lv' := [(2, .int 7), (1, .int 0), (0, .ref (q 0))]) hx hb dX6_task_94 hl (k := 0) rfl (by decide) (by decide) rfl (fun ls hl => ?_)
  refine lv_goto (tgt := 64) hx hb dX6_task_97 (by decide) ?_
  refine lv_iload_n hx hb dX6_task_64 rfl (lv_at hl 0 rfl) ?_
  refine lv_bipush (v := 10) hx hb dX6_task_65 (by decide) ?_
  refine lv_icmp_ge (tgt := 100) hx hb dX6_task_67 (by decide) (fun c0 => absurd c0 (by decide)) (fun _ => ?_)
  refine lv_aload_n hx hb dX6_task_70 rfl (lv_at hl 2 rfl) ?_
  refine b_get (ci := 6) (C := RX6) (T := TX6) (Nf := 29) (v := .ref (q 4)) hx hb hts in_X6_task_X6 hown hK hH 0 (by decide) rfl rfl 4 (by decide) (hts (.fieldLink RX6 19 "StationLineModel" "pairs" "[I") (List.mem_of_getElem? (i := 6) rfl)) rfl dX6_task_71 ?_
  refine lv_bipush (v := 10) hx hb dX6_task_74 (by decide) ?_
  refine lv_iload_n hx hb dX6_task_76 rfl (lv_at hl 1 rfl) ?_
  refine lv_imul hx hb dX6_task_77 ?_
  refine b_vi (v := 0) (by decide) ?_
  refine lv_iload_n hx hb dX6_task_78 rfl (lv_at hl 0 rfl) ?_
  refine lv_iadd hx hb dX6_task_79 ?_
  refine b_vi (v := 7) (by decide) ?_
  refine lv_iconst (v := 0) hx hb dX6_task_80 (by decide) ?_
  refine b_iast hx hb hK hH 4 (by decide) rfl (by unfold vp_in; decide) (upA z20 4 (upd (z20.2.1 4) (7 : Int32).toNatClampNeg 0)) rfl (enM_A _ _ _ _ _) dX6_task_81 (fun H locs hH => ?_)
  obtain ⟨z21, hz21⟩ : ∃ w : zS, w = upA z20 4 (upd (z20.2.1 4) (7 : Int32).toNatClampNeg 0) := ⟨_, rfl⟩
  rw [← hz21] at hH
  have hFz21 : Fm z21 := by rw [hz21]; exact hFz20
  refine lv_aload_n hx hb dX6_task_82 rfl (lv_at hl 2 rfl) ?_
  refine b_get (ci := 6) (C := RX6) (T := TX6) (Nf := 29) (v := .ref (q 4)) hx hb hts in_X6_task_X6 hown hK hH 0 (by decide) rfl rfl 4 (by decide) (hts (.fieldLink RX6 19 "StationLineModel" "pairs" "[I") (List.mem_of_getElem? (i := 6) rfl)) rfl dX6_task_83 ?_
  refine lv_bipush (v := 10) hx hb dX6_task_86 (by decide) ?_
  refine lv_iload_n hx hb dX6_task_88 rfl (lv_at hl 0 rfl) ?_
  refine lv_imul hx hb dX6_task_89 ?_
  refine b_vi (v := 70) (by decide) ?_
  refine lv_iload_n hx hb dX6_task_90 rfl (lv_at hl 1 rfl) ?_
  refine lv_iadd hx hb dX6_task_91 ?_
  refine b_vi (v := 70) (by decide) ?_
  refine lv_iconst (v := 0) hx hb dX6_task_92 (by decide) ?_
  refine b_iast hx hb hK hH 4 (by decide) rfl (by unfold vp_in; decide) (upA z21 4 (upd (z21.2.1 4) (70 : Int32).toNatClampNeg 0)) rfl (enM_A _ _ _ _ _) dX6_task_93 (fun H locs hH => ?_)
  obtain ⟨z22, hz22⟩ : ∃ w : zS, w = upA z21 4 (upd (z21.2.1 4) (70 : Int32).toNatClampNeg 0) := ⟨_, rfl⟩
  rw [← hz22] at hH
  have hFz22 : Fm z22 := by rw [hz22]; exact hFz21
  refine lv_iinc (v := 8) (lv' := [(2, .int 8), (1, .int 0), (0, .ref (q 0))]) hx hb dX6_task_94 hl (k := 0) rfl (by decide) (by decide) rfl (fun ls hl => ?_)
  refine lv_goto (tgt := 64) hx hb dX6_task_97 (by decide) ?_
  refine lv_iload_n hx hb dX6_task_64 rfl (lv_at hl 0 rfl) ?_
  refine lv_bipush (v := 10) hx hb dX6_task_65 (by decide) ?_
  refine lv_icmp_ge (tgt := 100) hx hb dX6_task_67 (by decide) (fun c0 => absurd c0 (by decide)) (fun _ => ?_)
  refine lv_aload_n hx hb dX6_task_70 rfl (lv_at hl 2 rfl) ?_
  refine b_get (ci := 6) (C := RX6) (T := TX6) (Nf := 29) (v := .ref (q 4)) hx hb hts in_X6_task_X6 hown hK hH 0 (by decide) rfl rfl 4 (by decide) (hts (.fieldLink RX6 19 "StationLineModel" "pairs" "[I") (List.mem_of_getElem? (i := 6) rfl)) rfl dX6_task_71 ?_
  refine lv_bipush (v := 10) hx hb dX6_task_74 (by decide) ?_
  refine lv_iload_n hx hb dX6_task_76 rfl (lv_at hl 1 rfl) ?_
  refine lv_imul hx hb dX6_task_77 ?_
  refine b_vi (v := 0) (by decide) ?_
  refine lv_iload_n hx hb dX6_task_78 rfl (lv_at hl 0 rfl) ?_
  refine lv_iadd hx hb dX6_task_79 ?_
  refine b_vi (v := 8) (by decide) ?_
  refine lv_iconst (v := 0) hx hb dX6_task_80 (by decide) ?_
  refine b_iast hx hb hK hH 4 (by decide) rfl (by unfold vp_in; decide) (upA z22 4 (upd (z22.2.1 4) (8 : Int32).toNatClampNeg 0)) rfl (enM_A _ _ _ _ _) dX6_task_81 (fun H locs hH => ?_)
  obtain ⟨z23, hz23⟩ : ∃ w : zS, w = upA z22 4 (upd (z22.2.1 4) (8 : Int32).toNatClampNeg 0) := ⟨_, rfl⟩
  rw [← hz23] at hH
  have hFz23 : Fm z23 := by rw [hz23]; exact hFz22
  refine lv_aload_n hx hb dX6_task_82 rfl (lv_at hl 2 rfl) ?_
  refine b_get (ci := 6) (C := RX6) (T := TX6) (Nf := 29) (v := .ref (q 4)) hx hb hts in_X6_task_X6 hown hK hH 0 (by decide) rfl rfl 4 (by decide) (hts (.fieldLink RX6 19 "StationLineModel" "pairs" "[I") (List.mem_of_getElem? (i := 6) rfl)) rfl dX6_task_83 ?_
  refine lv_bipush (v := 10) hx hb dX6_task_86 (by decide) ?_
  refine lv_iload_n hx hb dX6_task_88 rfl (lv_at hl 0 rfl) ?_
  refine lv_imul hx hb dX6_task_89 ?_
  refine b_vi (v := 80) (by decide) ?_
  refine lv_iload_n hx hb dX6_task_90 rfl (lv_at hl 1 rfl) ?_
  refine lv_iadd hx hb dX6_task_91 ?_
  refine b_vi (v := 80) (by decide) ?_
  refine lv_iconst (v := 0) hx hb dX6_task_92 (by decide) ?_
  refine b_iast hx hb hK hH 4 (by decide) rfl (by unfold vp_in; decide) (upA z23 4 (upd (z23.2.1 4) (80 : Int32).toNatClampNeg 0)) rfl (enM_A _ _ _ _ _) dX6_task_93 (fun H locs hH => ?_)
  obtain ⟨z24, hz24⟩ : ∃ w : zS, w = upA z23 4 (upd (z23.2.1 4) (80 : Int32).toNatClampNeg 0) := ⟨_, rfl⟩
  rw [← hz24] at hH
  have hFz24 : Fm z24 := by rw [hz24]; exact hFz23
  refine lv_iinc (v := 9) (lv' := [(2, .int 9), (1, .int 0), (0, .ref (q 0))]) hx hb dX6_task_94 hl (k := 0) rfl (by decide) (by decide) rfl (fun ls hl => ?_)
  refine lv_goto (tgt := 64) hx hb dX6_task_97 (by decide) ?_
  refine lv_iload_n hx hb dX6_task_64 rfl (lv_at hl 0 rfl) ?_
  refine lv_bipush (v := 10) hx hb dX6_task_65 (by decide) ?_
  refine lv_icmp_ge (tgt := 100) hx hb dX6_task_67 (by decide) (fun c0 => absurd c0 (by decide)) (fun _ => ?_)
  refine lv_aload_n hx hb dX6_task_70 rfl (lv_at hl 2 rfl) ?_
  refine b_get (ci := 6) (C := RX6) (T := TX6) (Nf := 29) (v := .ref (q 4)) hx hb hts in_X6_task_X6 hown hK hH 0 (by decide) rfl rfl 4 (by decide) (hts (.fieldLink RX6 19 "StationLineModel" "pairs" "[I") (List.mem_of_getElem? (i := 6) rfl)) rfl dX6_task_71 ?_
  refine lv_bipush (v := 10) hx hb dX6_task_74 (by decide) ?_
  refine lv_iload_n hx hb dX6_task_76 rfl (lv_at hl 1 rfl) ?_
  refine lv_imul hx hb dX6_task_77 ?_
  refine b_vi (v := 0) (by decide) ?_
  refine lv_iload_n hx hb dX6_task_78 rfl (lv_at hl 0 rfl) ?_
  refine lv_iadd hx hb dX6_task_79 ?_
  refine b_vi (v := 9) (by decide) ?_
  refine lv_iconst (v := 0) hx hb dX6_task_80 (by decide) ?_
  refine b_iast hx hb hK hH 4 (by decide) rfl (by unfold vp_in; decide) (upA z24 4 (upd (z24.2.1 4) (9 : Int32).toNatClampNeg 0)) rfl (enM_A _ _ _ _ _) dX6_task_81 (fun H locs hH => ?_)
  obtain ⟨z25, hz25⟩ : ∃ w : zS, w = upA z24 4 (upd (z24.2.1 4) (9 : Int32).toNatClampNeg 0) := ⟨_, rfl⟩
  rw [← hz25] at hH
  have hFz25 : Fm z25 := by rw [hz25]; exact hFz24
  refine lv_aload_n hx hb dX6_task_82 rfl (lv_at hl 2 rfl) ?_
  refine b_get (ci := 6) (C := RX6) (T := TX6) (Nf := 29) (v := .ref (q 4)) hx hb hts in_X6_task_X6 hown hK hH 0 (by decide) rfl rfl 4 (by decide) (hts (.fieldLink RX6 19 "StationLineModel" "pairs" "[I") (List.mem_of_getElem? (i := 6) rfl)) rfl dX6_task_83 ?_
  refine lv_bipush (v := 10) hx hb dX6_task_86 (by decide) ?_
  refine lv_iload_n hx hb dX6_task_88 rfl (lv_at hl 0 rfl) ?_
  refine lv_imul hx hb dX6_task_89 ?_
  refine b_vi (v := 90) (by decide) ?_
  refine lv_iload_n hx hb dX6_task_90 rfl (lv_at hl 1 rfl) ?_
  refine lv_iadd hx hb dX6_task_91 ?_
  refine b_vi (v := 90) (by decide) ?_
  refine lv_iconst (v := 0) hx hb dX6_task_92 (by decide) ?_
  refine b_iast hx hb hK hH 4 (by decide) rfl (by unfold vp_in; decide) (upA z25 4 (upd (z25.2.1 4) (90 : Int32).toNatClampNeg 0)) rfl (enM_A _ _ _ _ _) dX6_task_93 (fun H locs hH => ?_)
  obtain ⟨z26, hz26⟩ : ∃ w : zS, w = upA z25 4 (upd (z25.2.1 4) (90 : Int32).toNatClampNeg 0) := ⟨_, rfl⟩
  rw [← hz26] at hH
  have hFz26 : Fm z26 := by rw [hz26]; exact hFz25
  refine lv_iinc (v := 10) (lv' := [(2, .int 10), (1, .int 0), (0, .ref (q 0))]) hx hb dX6_task_94 hl (k := 0) rfl (by decide) (by decide) rfl (fun ls hl => ?_)
  refine lv_goto (tgt := 64) hx hb dX6_task_97 (by decide) ?_
  refine lv_iload_n hx hb dX6_task_64 rfl (lv_at hl 0 rfl) ?_
  refine lv_bipush (v := 10) hx hb dX6_task_65 (by decide) ?_
  refine lv_icmp_ge (tgt := 100) hx hb dX6_task_67 (by decide) (fun _ => ?_) (fun c0 => absurd c0 (by decide))
  refine lv_aload_n hx hb dX6_task_100 rfl (lv_at hl 2 rfl) ?_
  refine lv_dup hx hb dX6_task_101 rfl ?_
  refine b_get (ci := 6) (C := RX6) (T := TX6) (Nf := 29) (v := .int 0) hx hb hts in_X6_task_X6 hown hK hH 0 (by decide) rfl rfl 0 (by decide) (hts (.fieldLink RX6 85 "StationLineModel" "tasks" "I") (List.mem_of_getElem? (i := 1) rfl)) (congrArg (fun x => some (Value.int x)) (Fm_0 hFz26)) dX6_task_102 ?_
  refine lv_iconst (v := 1) hx hb dX6_task_105 (by decide) ?_
  refine lv_iadd hx hb dX6_task_106 ?_
  refine b_vi (v := 1) (by decide) ?_
  refine b_put (ci := 6) (C := RX6) (T := TX6) (Nf := 29) (v := .int 1) (ty := .int) hx hb hts in_X6_task_X6 tyX6 tyX6_ok nmX6 hown hK hH 0 (by decide) rfl rfl 0 (by decide) (hts (.fieldLink RX6 85 "StationLineModel" "tasks" "I") (List.mem_of_getElem? (i := 1) rfl)) rfl (by decide +kernel) rfl rfl (Nat.le_of_ble_eq_true rfl) (upS z26 0 1) rfl (enM_S0 _ _ _ _) dX6_task_107 (fun H locs hH => ?_)
  obtain ⟨z27, hz27⟩ : ∃ w : zS, w = upS z26 0 1 := ⟨_, rfl⟩
  rw [← hz27] at hH
  refine lv_iload_n hx hb dX6_task_110 rfl (lv_at hl 1 rfl) ?_
  exact b_iret hx hb hr hlocks hH ((by first | rfl | ((repeat' split) <;> first | rfl | omega))) dX6_task_111
set_option maxHeartbeats 4000000 in
set_option maxRecDepth 100000 in
theorem c_X6_time (l : Launch) (D : va_G) (cy : Nat → ClassId) (q : Nat → Nat) (hq : bJ 23 q) (z : zS) (hF : Fm z) (h10 : z.1 2 = 10) (x1 : Int32) (x2 : Int32) (x3 : Int32) : bCi l yX6_time wsX6_time ({ frames := 1, cells := 0, slots := 0, locals := 21 }) D cy 23 (enM cy) q z [.ref (q 0), .int x1, .int x2, .int x3] (fun r _ => (-2 : Int32) = r) := by
  intro sz
  refine Met.ofW (cc := cX6_time) (maxL := 5) (ret := (some .int)) (by decide) rfl ?_
  intro p e s m args below meth c s₁ B hml hv
  obtain ⟨rfl, hsz, hP, hK, hZ⟩ := hv
  have hx := B.exec
  have hb := B.bytes
  have hr := B.returns
  have hts := atoms_spec (ws := wsX6_time) B.pre
  have hown : s.vm.findClass RX6 = some m.cls := findClass_of_methodNamed B.named
  have hlocks := B.notSynchronized
  subst hsz
  have hH : bH D 23 (enM cy) q z s.heap s.heap [] := bH_in hq hP
  have hl := lv_entry ([.ref (q 0), .int x1, .int x2, .int x3]) (n := 5) (Nat.le_of_ble_eq_true rfl)
  rw [lg_entry_eq]
  generalize (lg_sl ([.ref (q 0), .int x1, .int x2, .int x3]) ++ List.replicate (5 - (lg_sl ([.ref (q 0), .int x1, .int x2, .int x3])).length) Slot.unset).toArray = ls at hl ⊢
  have hl : lv_has ls 5 [(0, .ref (q 0)), (1, .int x1), (2, .int x2), (3, .int x3)] := hl
  refine lv_aload_n hx hb dX6_time_0 rfl (lv_at hl 0 rfl) ?_
  refine lv_iload_n hx hb dX6_time_1 rfl (lv_at hl 1 rfl) ?_
  refine b_calli (As := [.int x1]) (rest := []) ⟨hx, hb, hml, hown, hts⟩ 0 6 (c_X6_isTask_0 l D cy q hH.2.1 z hF x1 ) (cwV 1 hts gX6_time_X6_isTask rfl rfl rfl (by decide +kernel) ⟨Nat.le_of_ble_eq_true rfl, Nat.le_of_ble_eq_true rfl⟩) hK hZ hH (by decide) rfl rfl rfl hl.1 rfl (Nat.le_of_ble_eq_true rfl) ⟨Nat.zero_le _, Nat.zero_le _⟩ dX6_time_2 (fun r1 z1 H locs hp1 hH => ?_)
  obtain ⟨rfl, rfl⟩ := hp1
  refine lv_if_eq (tgt := 26) hx hb dX6_time_5 (by decide) (fun _ => ?_) (fun c0 => absurd c0 (by decide))
  refine lv_bipush (v := (-2)) hx hb dX6_time_26 (by decide) ?_
  exact b_iret hx hb hr hlocks hH ((by first | rfl | ((repeat' split) <;> first | rfl | omega))) dX6_time_28
set_option maxHeartbeats 4000000 in
set_option maxRecDepth 100000 in
theorem c_X6_share (l : Launch) (D : va_G) (cy : Nat → ClassId) (q : Nat → Nat) (hq : bJ 23 q) (z : zS) (hF : Fm z) (h10 : z.1 2 = 10) (x1 : Int32) (x2 : Int32) : bCi l yX6_share wsX6_share ({ frames := 1, cells := 0, slots := 0, locals := 20 }) D cy 23 (enM cy) q z [.ref (q 0), .int x1, .int x2] (fun r _ => (o_share x1 x2 : Int32) = r) := by
  intro sz
  refine Met.ofW (cc := cX6_share) (maxL := 5) (ret := (some .int)) (by decide) rfl ?_
  intro p e s m args below meth c s₁ B hml hv
  obtain ⟨rfl, hsz, hP, hK, hZ⟩ := hv
  have hx := B.exec
  have hb := B.bytes
  have hr := B.returns
  have hts := atoms_spec (ws := wsX6_share) B.pre
  have hown : s.vm.findClass RX6 = some m.cls := findClass_of_methodNamed B.named
  have hlocks := B.notSynchronized
  subst hsz
  have hH : bH D 23 (enM cy) q z s.heap s.heap [] := bH_in hq hP
  have hl := lv_entry ([.ref (q 0), .int x1, .int x2]) (n := 5) (Nat.le_of_ble_eq_true rfl)
  rw [lg_entry_eq]
  generalize (lg_sl ([.ref (q 0), .int x1, .int x2]) ++ List.replicate (5 - (lg_sl ([.ref (q 0), .int x1, .int x2])).length) Slot.unset).toArray = ls at hl ⊢
  have hl : lv_has ls 5 [(0, .ref (q 0)), (1, .int x1), (2, .int x2)] := hl
  refine lv_iload_n hx hb dX6_share_0 rfl (lv_at hl 1 rfl) ?_
  refine b_stati (As := [.int x1]) (rest := []) ⟨hx, hb, hml, hown, hts⟩ (c_X6_isMake l D cy q hH.2.1 z x1) (va_cwS 1 hts gX6_share_X6_isMake rfl rfl rfl (by decide +kernel) ⟨Nat.le_of_ble_eq_true rfl, Nat.le_of_ble_eq_true rfl⟩) hK hZ hH rfl hl.1 rfl (Nat.le_of_ble_eq_true rfl) ⟨Nat.zero_le _, Nat.zero_le _⟩ dX6_share_1 (fun r1 z1 H locs hp1 hH => ?_)
  rcases hp1 with ⟨rfl, ⟨rfl, a1⟩ | ⟨rfl, a1⟩⟩
  · skip
    refine lv_if_eq (tgt := 17) hx hb dX6_share_4 (by decide) (fun c0 => absurd c0 (by decide)) (fun _ => ?_)
    refine lv_iload_n hx hb dX6_share_7 rfl (lv_at hl 2 rfl) ?_
    refine lv_if_lt (tgt := 17) hx hb dX6_share_8 (by decide) (fun c2 => ?_) (fun c2 => ?_)
    · skip
      refine lv_bipush (v := (-2)) hx hb dX6_share_17 (by decide) ?_
      exact b_iret hx hb hr hlocks hH ((by have e0 : (0 : Int32).toInt = 0 := (by decide); try simp only [b_lt, b_le, b_eq] at c2; first | rfl | (unfold o_share; (repeat' split) <;> first | rfl | omega))) dX6_share_19
    · skip
      refine lv_iload_n hx hb dX6_share_11 rfl (lv_at hl 2 rfl) ?_
      refine lv_bipush (v := 9) hx hb dX6_share_12 (by decide) ?_
      refine lv_icmp_le (tgt := 20) hx hb dX6_share_14 (by decide) (fun c3 => ?_) (fun c3 => ?_)
      · skip
        rcases (show x1 = 0 ∨ x1 = 1 ∨ x1 = 2 by simp only [b_eq]; have k0 : (0 : Int32).toInt = 0 := (by decide); have k1 : (1 : Int32).toInt = 1 := (by decide); have k2 : (2 : Int32).toInt = 2 := (by decide); omega) with rfl | rfl | rfl
        · skip
          have k0 : (0 : Int32).toInt = 0 := by decide
          refine lv_aload_n hx hb dX6_share_20 rfl (lv_at hl 0 rfl) ?_
          refine b_get (ci := 6) (C := RX6) (T := TX6) (Nf := 29) (v := .ref (q 2)) hx hb hts in_X6_share_X6 hown hK hH 0 (by decide) rfl rfl 2 (by decide) (hts (.fieldLink RX6 13 "StationLineModel" "shares" "[I") (List.mem_of_getElem? (i := 1) rfl)) rfl dX6_share_21 ?_
          refine lv_iconst (v := 0) hx hb dX6_share_24 (by decide) ?_
          refine b_iald (v := 1) hx hb hK hH 2 (by decide) rfl (by unfold vp_in; decide) (Fm_6 hF) dX6_share_25 ?_
          refine lv_aload_n hx hb dX6_share_26 rfl (lv_at hl 0 rfl) ?_
          refine b_get (ci := 6) (C := RX6) (T := TX6) (Nf := 29) (v := .ref (q 2)) hx hb hts in_X6_share_X6 hown hK hH 0 (by decide) rfl rfl 2 (by decide) (hts (.fieldLink RX6 13 "StationLineModel" "shares" "[I") (List.mem_of_getElem? (i := 1) rfl)) rfl dX6_share_27 ?_
          refine lv_iconst (v := 1) hx hb dX6_share_30 (by decide) ?_
          refine b_iald (v := 0) hx hb hK hH 2 (by decide) rfl (by unfold vp_in; decide) (Fm_7 hF) dX6_share_31 ?_
          refine lv_iadd hx hb dX6_share_32 ?_
          refine b_vi (v := 1) (by decide) ?_
          refine lv_aload_n hx hb dX6_share_33 rfl (lv_at hl 0 rfl) ?_
          refine b_get (ci := 6) (C := RX6) (T := TX6) (Nf := 29) (v := .ref (q 2)) hx hb hts in_X6_share_X6 hown hK hH 0 (by decide) rfl rfl 2 (by decide) (hts (.fieldLink RX6 13 "StationLineModel" "shares" "[I") (List.mem_of_getElem? (i := 1) rfl)) rfl dX6_share_34 ?_
          refine lv_iconst (v := 2) hx hb dX6_share_37 (by decide) ?_
          refine b_iald (v := 0) hx hb hK hH 2 (by decide) rfl (by unfold vp_in; decide) (Fm_8 hF) dX6_share_38 ?_
          refine lv_iadd hx hb dX6_share_39 ?_
          refine b_vi (v := 1) (by decide) ?_
          refine lv_aload_n hx hb dX6_share_40 rfl (lv_at hl 0 rfl) ?_
          refine b_get (ci := 6) (C := RX6) (T := TX6) (Nf := 29) (v := .ref (q 2)) hx hb hts in_X6_share_X6 hown hK hH 0 (by decide) rfl rfl 2 (by decide) (hts (.fieldLink RX6 13 "StationLineModel" "shares" "[I") (List.mem_of_getElem? (i := 1) rfl)) rfl dX6_share_41 ?_
          refine lv_iload_n hx hb dX6_share_44 rfl (lv_at hl 1 rfl) ?_
          refine b_iald (v := 1) hx hb hK hH 2 (by decide) rfl (by unfold vp_in; decide) (Fm_6 hF) dX6_share_45 ?_
          refine lv_isub hx hb dX6_share_46 ?_
          refine b_vi (v := 0) (by decide) ?_
          refine lv_iload_n hx hb dX6_share_47 rfl (lv_at hl 2 rfl) ?_
          refine lv_iadd hx hb dX6_share_48 ?_
          refine b_vi (v := x2) (by simp) ?_
          refine lv_istore_n (lv' := [(3, .int x2), (0, .ref (q 0)), (1, .int 0), (2, .int x2)]) hx hb dX6_share_49 rfl hl (by decide) rfl (fun ls hl => ?_)
          refine lv_iload_n hx hb dX6_share_50 rfl (lv_at hl 0 rfl) ?_
          refine lv_if_ne (tgt := 57) hx hb dX6_share_51 (by decide) (fun c5 => ?_) (fun c5 => ?_)
          · skip
            refine lv_aload_n hx hb dX6_share_57 rfl (lv_at hl 1 rfl) ?_
            refine b_get (ci := 6) (C := RX6) (T := TX6) (Nf := 29) (v := .ref (q 2)) hx hb hts in_X6_share_X6 hown hK hH 0 (by decide) rfl rfl 2 (by decide) (hts (.fieldLink RX6 13 "StationLineModel" "shares" "[I") (List.mem_of_getElem? (i := 1) rfl)) rfl dX6_share_58 ?_
            refine lv_iload_n hx hb dX6_share_61 rfl (lv_at hl 2 rfl) ?_
            refine b_iald (v := 1) hx hb hK hH 2 (by decide) rfl (by unfold vp_in; decide) (Fm_6 hF) dX6_share_62 ?_
            refine lv_istore (lv' := [(4, .int 1), (3, .int x2), (0, .ref (q 0)), (1, .int 0), (2, .int x2)]) hx hb dX6_share_63 hl (by decide) rfl (fun ls hl => ?_)
            refine lv_aload_n hx hb dX6_share_65 rfl (lv_at hl 2 rfl) ?_
            refine b_get (ci := 6) (C := RX6) (T := TX6) (Nf := 29) (v := .ref (q 2)) hx hb hts in_X6_share_X6 hown hK hH 0 (by decide) rfl rfl 2 (by decide) (hts (.fieldLink RX6 13 "StationLineModel" "shares" "[I") (List.mem_of_getElem? (i := 1) rfl)) rfl dX6_share_66 ?_
            refine lv_iload_n hx hb dX6_share_69 rfl (lv_at hl 3 rfl) ?_
            refine lv_iload_n hx hb dX6_share_70 rfl (lv_at hl 4 rfl) ?_
            refine b_iast hx hb hK hH 2 (by decide) rfl (by unfold vp_in; decide) (upA z 2 (upd (z.2.1 2) (0 : Int32).toNatClampNeg x2)) rfl (enM_A _ _ _ _ _) dX6_share_71 (fun H locs hH => ?_)
            obtain ⟨z6, hz6⟩ : ∃ w : zS, w = upA z 2 (upd (z.2.1 2) (0 : Int32).toNatClampNeg x2) := ⟨_, rfl⟩
            rw [← hz6] at hH
            refine lv_iload hx hb dX6_share_72 (lv_at hl 0 rfl) ?_
            exact b_iret hx hb hr hlocks hH ((by have e0 : (0 : Int32).toInt = 0 := (by decide); have e9 : (9 : Int32).toInt = 9 := (by decide); try simp only [b_lt, b_le, b_eq] at c2 c3 c5; first | rfl | (unfold o_share; (repeat' split) <;> first | rfl | omega))) dX6_share_74
          · skip
            refine lv_bipush (v := (-2)) hx hb dX6_share_54 (by decide) ?_
            exact b_iret hx hb hr hlocks hH ((by have e0 : (0 : Int32).toInt = 0 := (by decide); have e9 : (9 : Int32).toInt = 9 := (by decide); try simp only [b_lt, b_le, b_eq] at c2 c3 c5; first | rfl | (unfold o_share; (repeat' split) <;> first | rfl | omega))) dX6_share_56
        · skip
          have k1 : (1 : Int32).toInt = 1 := by decide
          refine lv_aload_n hx hb dX6_share_20 rfl (lv_at hl 0 rfl) ?_
          refine b_get (ci := 6) (C := RX6) (T := TX6) (Nf := 29) (v := .ref (q 2)) hx hb hts in_X6_share_X6 hown hK hH 0 (by decide) rfl rfl 2 (by decide) (hts (.fieldLink RX6 13 "StationLineModel" "shares" "[I") (List.mem_of_getElem? (i := 1) rfl)) rfl dX6_share_21 ?_
          refine lv_iconst (v := 0) hx hb dX6_share_24 (by decide) ?_
          refine b_iald (v := 1) hx hb hK hH 2 (by decide) rfl (by unfold vp_in; decide) (Fm_6 hF) dX6_share_25 ?_
          refine lv_aload_n hx hb dX6_share_26 rfl (lv_at hl 0 rfl) ?_
          refine b_get (ci := 6) (C := RX6) (T := TX6) (Nf := 29) (v := .ref (q 2)) hx hb hts in_X6_share_X6 hown hK hH 0 (by decide) rfl rfl 2 (by decide) (hts (.fieldLink RX6 13 "StationLineModel" "shares" "[I") (List.mem_of_getElem? (i := 1) rfl)) rfl dX6_share_27 ?_
          refine lv_iconst (v := 1) hx hb dX6_share_30 (by decide) ?_
          refine b_iald (v := 0) hx hb hK hH 2 (by decide) rfl (by unfold vp_in; decide) (Fm_7 hF) dX6_share_31 ?_
          refine lv_iadd hx hb dX6_share_32 ?_
          refine b_vi (v := 1) (by decide) ?_
          refine lv_aload_n hx hb dX6_share_33 rfl (lv_at hl 0 rfl) ?_
          refine b_get (ci := 6) (C := RX6) (T := TX6) (Nf := 29) (v := .ref (q 2)) hx hb hts in_X6_share_X6 hown hK hH 0 (by decide) rfl rfl 2 (by decide) (hts (.fieldLink RX6 13 "StationLineModel" "shares" "[I") (List.mem_of_getElem? (i := 1) rfl)) rfl dX6_share_34 ?_
          refine lv_iconst (v := 2) hx hb dX6_share_37 (by decide) ?_
          refine b_iald (v := 0) hx hb hK hH 2 (by decide) rfl (by unfold vp_in; decide) (Fm_8 hF) dX6_share_38 ?_
          refine lv_iadd hx hb dX6_share_39 ?_
          refine b_vi (v := 1) (by decide) ?_
          refine lv_aload_n hx hb dX6_share_40 rfl (lv_at hl 0 rfl) ?_
          refine b_get (ci := 6) (C := RX6) (T := TX6) (Nf := 29) (v := .ref (q 2)) hx hb hts in_X6_share_X6 hown hK hH 0 (by decide) rfl rfl 2 (by decide) (hts (.fieldLink RX6 13 "StationLineModel" "shares" "[I") (List.mem_of_getElem? (i := 1) rfl)) rfl dX6_share_41 ?_
          refine lv_iload_n hx hb dX6_share_44 rfl (lv_at hl 1 rfl) ?_
          refine b_iald (v := 0) hx hb hK hH 2 (by decide) rfl (by unfold vp_in; decide) (Fm_7 hF) dX6_share_45 ?_
          refine lv_isub hx hb dX6_share_46 ?_
          refine b_vi (v := 1) (by decide) ?_
          refine lv_iload_n hx hb dX6_share_47 rfl (lv_at hl 2 rfl) ?_
          refine lv_iadd hx hb dX6_share_48 ?_
          refine lv_istore_n (lv' := [(3, .int (1 + x2)), (0, .ref (q 0)), (1, .int 1), (2, .int x2)]) hx hb dX6_share_49 rfl hl (by decide) rfl (fun ls hl => ?_)
          refine lv_iload_n hx hb dX6_share_50 rfl (lv_at hl 0 rfl) ?_
          refine lv_if_ne (tgt := 57) hx hb dX6_share_51 (by decide) (fun _ => ?_) (fun c0 => absurd c0 (b_1p (by have e0 : (0 : Int32).toInt = 0 := (by decide); have e9 : (9 : Int32).toInt = 9 := (by decide); try simp only [b_lt, b_le, b_eq] at c2 c3; omega)))
          refine lv_aload_n hx hb dX6_share_57 rfl (lv_at hl 1 rfl) ?_
          refine b_get (ci := 6) (C := RX6) (T := TX6) (Nf := 29) (v := .ref (q 2)) hx hb hts in_X6_share_X6 hown hK hH 0 (by decide) rfl rfl 2 (by decide) (hts (.fieldLink RX6 13 "StationLineModel" "shares" "[I") (List.mem_of_getElem? (i := 1) rfl)) rfl dX6_share_58 ?_
          refine lv_iload_n hx hb dX6_share_61 rfl (lv_at hl 2 rfl) ?_
          refine b_iald (v := 0) hx hb hK hH 2 (by decide) rfl (by unfold vp_in; decide) (Fm_7 hF) dX6_share_62 ?_
          refine lv_istore (lv' := [(4, .int 0), (3, .int (1 + x2)), (0, .ref (q 0)), (1, .int 1), (2, .int x2)]) hx hb dX6_share_63 hl (by decide) rfl (fun ls hl => ?_)
          refine lv_aload_n hx hb dX6_share_65 rfl (lv_at hl 2 rfl) ?_
          refine b_get (ci := 6) (C := RX6) (T := TX6) (Nf := 29) (v := .ref (q 2)) hx hb hts in_X6_share_X6 hown hK hH 0 (by decide) rfl rfl 2 (by decide) (hts (.fieldLink RX6 13 "StationLineModel" "shares" "[I") (List.mem_of_getElem? (i := 1) rfl)) rfl dX6_share_66 ?_
          refine lv_iload_n hx hb dX6_share_69 rfl (lv_at hl 3 rfl) ?_
          refine lv_iload_n hx hb dX6_share_70 rfl (lv_at hl 4 rfl) ?_
          refine b_iast hx hb hK hH 2 (by decide) rfl (by unfold vp_in; decide) (upA z 2 (upd (z.2.1 2) (1 : Int32).toNatClampNeg x2)) rfl (enM_A _ _ _ _ _) dX6_share_71 (fun H locs hH => ?_)
          obtain ⟨z7, hz7⟩ : ∃ w : zS, w = upA z 2 (upd (z.2.1 2) (1 : Int32).toNatClampNeg x2) := ⟨_, rfl⟩
          rw [← hz7] at hH
          refine lv_iload hx hb dX6_share_72 (lv_at hl 0 rfl) ?_
          exact b_iret hx hb hr hlocks hH ((by have e0 : (0 : Int32).toInt = 0 := (by decide); have e9 : (9 : Int32).toInt = 9 := (by decide); try simp only [b_lt, b_le, b_eq] at c2 c3; first | rfl | (unfold o_share; (repeat' split) <;> first | rfl | omega))) dX6_share_74
        · skip
          have k2 : (2 : Int32).toInt = 2 := by decide
          refine lv_aload_n hx hb dX6_share_20 rfl (lv_at hl 0 rfl) ?_
          refine b_get (ci := 6) (C := RX6) (T := TX6) (Nf := 29) (v := .ref (q 2)) hx hb hts in_X6_share_X6 hown hK hH 0 (by decide) rfl rfl 2 (by decide) (hts (.fieldLink RX6 13 "StationLineModel" "shares" "[I") (List.mem_of_getElem? (i := 1) rfl)) rfl dX6_share_21 ?_
          refine lv_iconst (v := 0) hx hb dX6_share_24 (by decide) ?_
          refine b_iald (v := 1) hx hb hK hH 2 (by decide) rfl (by unfold vp_in; decide) (Fm_6 hF) dX6_share_25 ?_
          refine lv_aload_n hx hb dX6_share_26 rfl (lv_at hl 0 rfl) ?_
          refine b_get (ci := 6) (C := RX6) (T := TX6) (Nf := 29) (v := .ref (q 2)) hx hb hts in_X6_share_X6 hown hK hH 0 (by decide) rfl rfl 2 (by decide) (hts (.fieldLink RX6 13 "StationLineModel" "shares" "[I") (List.mem_of_getElem? (i := 1) rfl)) rfl dX6_share_27 ?_
          refine lv_iconst (v := 1) hx hb dX6_share_30 (by decide) ?_
          refine b_iald (v := 0) hx hb hK hH 2 (by decide) rfl (by unfold vp_in; decide) (Fm_7 hF) dX6_share_31 ?_
          refine lv_iadd hx hb dX6_share_32 ?_
          refine b_vi (v := 1) (by decide) ?_
          refine lv_aload_n hx hb dX6_share_33 rfl (lv_at hl 0 rfl) ?_
          refine b_get (ci := 6) (C := RX6) (T := TX6) (Nf := 29) (v := .ref (q 2)) hx hb hts in_X6_share_X6 hown hK hH 0 (by decide) rfl rfl 2 (by decide) (hts (.fieldLink RX6 13 "StationLineModel" "shares" "[I") (List.mem_of_getElem? (i := 1) rfl)) rfl dX6_share_34 ?_
          refine lv_iconst (v := 2) hx hb dX6_share_37 (by decide) ?_
          refine b_iald (v := 0) hx hb hK hH 2 (by decide) rfl (by unfold vp_in; decide) (Fm_8 hF) dX6_share_38 ?_
          refine lv_iadd hx hb dX6_share_39 ?_
          refine b_vi (v := 1) (by decide) ?_
          refine lv_aload_n hx hb dX6_share_40 rfl (lv_at hl 0 rfl) ?_
          refine b_get (ci := 6) (C := RX6) (T := TX6) (Nf := 29) (v := .ref (q 2)) hx hb hts in_X6_share_X6 hown hK hH 0 (by decide) rfl rfl 2 (by decide) (hts (.fieldLink RX6 13 "StationLineModel" "shares" "[I") (List.mem_of_getElem? (i := 1) rfl)) rfl dX6_share_41 ?_
          refine lv_iload_n hx hb dX6_share_44 rfl (lv_at hl 1 rfl) ?_
          refine b_iald (v := 0) hx hb hK hH 2 (by decide) rfl (by unfold vp_in; decide) (Fm_8 hF) dX6_share_45 ?_
          refine lv_isub hx hb dX6_share_46 ?_
          refine b_vi (v := 1) (by decide) ?_
          refine lv_iload_n hx hb dX6_share_47 rfl (lv_at hl 2 rfl) ?_
          refine lv_iadd hx hb dX6_share_48 ?_
          refine lv_istore_n (lv' := [(3, .int (1 + x2)), (0, .ref (q 0)), (1, .int 2), (2, .int x2)]) hx hb dX6_share_49 rfl hl (by decide) rfl (fun ls hl => ?_)
          refine lv_iload_n hx hb dX6_share_50 rfl (lv_at hl 0 rfl) ?_
          refine lv_if_ne (tgt := 57) hx hb dX6_share_51 (by decide) (fun _ => ?_) (fun c0 => absurd c0 (b_1p (by have e0 : (0 : Int32).toInt = 0 := (by decide); have e9 : (9 : Int32).toInt = 9 := (by decide); try simp only [b_lt, b_le, b_eq] at c2 c3; omega)))
          refine lv_aload_n hx hb dX6_share_57 rfl (lv_at hl 1 rfl) ?_
          refine b_get (ci := 6) (C := RX6) (T := TX6) (Nf := 29) (v := .ref (q 2)) hx hb hts in_X6_share_X6 hown hK hH 0 (by decide) rfl rfl 2 (by decide) (hts (.fieldLink RX6 13 "StationLineModel" "shares" "[I") (List.mem_of_getElem? (i := 1) rfl)) rfl dX6_share_58 ?_
          refine lv_iload_n hx hb dX6_share_61 rfl (lv_at hl 2 rfl) ?_
          refine b_iald (v := 0) hx hb hK hH 2 (by decide) rfl (by unfold vp_in; decide) (Fm_8 hF) dX6_share_62 ?_
          refine lv_istore (lv' := [(4, .int 0), (3, .int (1 + x2)), (0, .ref (q 0)), (1, .int 2), (2, .int x2)]) hx hb dX6_share_63 hl (by decide) rfl (fun ls hl => ?_)
          refine lv_aload_n hx hb dX6_share_65 rfl (lv_at hl 2 rfl) ?_
          refine b_get (ci := 6) (C := RX6) (T := TX6) (Nf := 29) (v := .ref (q 2)) hx hb hts in_X6_share_X6 hown hK hH 0 (by decide) rfl rfl 2 (by decide) (hts (.fieldLink RX6 13 "StationLineModel" "shares" "[I") (List.mem_of_getElem? (i := 1) rfl)) rfl dX6_share_66 ?_
          refine lv_iload_n hx hb dX6_share_69 rfl (lv_at hl 3 rfl) ?_
          refine lv_iload_n hx hb dX6_share_70 rfl (lv_at hl 4 rfl) ?_
          refine b_iast hx hb hK hH 2 (by decide) rfl (by unfold vp_in; decide) (upA z 2 (upd (z.2.1 2) (2 : Int32).toNatClampNeg x2)) rfl (enM_A _ _ _ _ _) dX6_share_71 (fun H locs hH => ?_)
          obtain ⟨z8, hz8⟩ : ∃ w : zS, w = upA z 2 (upd (z.2.1 2) (2 : Int32).toNatClampNeg x2) := ⟨_, rfl⟩
          rw [← hz8] at hH
          refine lv_iload hx hb dX6_share_72 (lv_at hl 0 rfl) ?_
          exact b_iret hx hb hr hlocks hH ((by have e0 : (0 : Int32).toInt = 0 := (by decide); have e9 : (9 : Int32).toInt = 9 := (by decide); try simp only [b_lt, b_le, b_eq] at c2 c3; first | rfl | (unfold o_share; (repeat' split) <;> first | rfl | omega))) dX6_share_74
      · skip
        refine lv_bipush (v := (-2)) hx hb dX6_share_17 (by decide) ?_
        exact b_iret hx hb hr hlocks hH ((by have e0 : (0 : Int32).toInt = 0 := (by decide); have e9 : (9 : Int32).toInt = 9 := (by decide); try simp only [b_lt, b_le, b_eq] at c2 c3; first | rfl | (unfold o_share; (repeat' split) <;> first | rfl | omega))) dX6_share_19
  · skip
    refine lv_if_eq (tgt := 17) hx hb dX6_share_4 (by decide) (fun _ => ?_) (fun c0 => absurd c0 (by decide))
    refine lv_bipush (v := (-2)) hx hb dX6_share_17 (by decide) ?_
    exact b_iret hx hb hr hlocks hH ((by first | rfl | (unfold o_share; (repeat' split) <;> first | rfl | omega))) dX6_share_19
set_option maxHeartbeats 4000000 in
set_option maxRecDepth 100000 in
theorem c_X6_ahead (l : Launch) (D : va_G) (cy : Nat → ClassId) (q : Nat → Nat) (hq : bJ 23 q) (z : zS) (hF : Fm z) (h10 : z.1 2 = 10) (x1 : Int32) (x2 : Int32) : bCi l yX6_ahead wsX6_ahead ({ frames := 2, cells := 0, slots := 0, locals := 46 }) D cy 23 (enM cy) q z [.ref (q 0), .int x1, .int x2] (fun r _ => (-2 : Int32) = r) := by
  intro sz
  refine Met.ofW (cc := cX6_ahead) (maxL := 4) (ret := (some .int)) (by decide) rfl ?_
  intro p e s m args below meth c s₁ B hml hv
  obtain ⟨rfl, hsz, hP, hK, hZ⟩ := hv
  have hx := B.exec
  have hb := B.bytes
  have hr := B.returns
  have hts := atoms_spec (ws := wsX6_ahead) B.pre
  have hown : s.vm.findClass RX6 = some m.cls := findClass_of_methodNamed B.named
  have hlocks := B.notSynchronized
  subst hsz
  have hH : bH D 23 (enM cy) q z s.heap s.heap [] := bH_in hq hP
  have hl := lv_entry ([.ref (q 0), .int x1, .int x2]) (n := 4) (Nat.le_of_ble_eq_true rfl)
  rw [lg_entry_eq]
  generalize (lg_sl ([.ref (q 0), .int x1, .int x2]) ++ List.replicate (4 - (lg_sl ([.ref (q 0), .int x1, .int x2])).length) Slot.unset).toArray = ls at hl ⊢
  have hl : lv_has ls 4 [(0, .ref (q 0)), (1, .int x1), (2, .int x2)] := hl
  refine lv_aload_n hx hb dX6_ahead_0 rfl (lv_at hl 0 rfl) ?_
  refine lv_iload_n hx hb dX6_ahead_1 rfl (lv_at hl 1 rfl) ?_
  refine b_calli (As := [.int x1]) (rest := []) ⟨hx, hb, hml, hown, hts⟩ 0 6 (c_X6_isTask_0 l D cy q hH.2.1 z hF x1 ) (cwV 1 hts gX6_ahead_X6_isTask rfl rfl rfl (by decide +kernel) ⟨Nat.le_of_ble_eq_true rfl, Nat.le_of_ble_eq_true rfl⟩) hK hZ hH (by decide) rfl rfl rfl hl.1 rfl (Nat.le_of_ble_eq_true rfl) ⟨Nat.zero_le _, Nat.zero_le _⟩ dX6_ahead_2 (fun r1 z1 H locs hp1 hH => ?_)
  obtain ⟨rfl, rfl⟩ := hp1
  refine lv_if_eq (tgt := 16) hx hb dX6_ahead_5 (by decide) (fun _ => ?_) (fun c0 => absurd c0 (by decide))
  refine lv_bipush (v := (-2)) hx hb dX6_ahead_16 (by decide) ?_
  exact b_iret hx hb hr hlocks hH ((by first | rfl | ((repeat' split) <;> first | rfl | omega))) dX6_ahead_18
set_option maxHeartbeats 4000000 in
set_option maxRecDepth 100000 in
theorem c_X6_free (l : Launch) (D : va_G) (cy : Nat → ClassId) (q : Nat → Nat) (hq : bJ 23 q) (z : zS) (hF : Fm z) (h10 : z.1 2 = 10) (x1 : Int32) (x2 : Int32) : bCi l yX6_free wsX6_free ({ frames := 1, cells := 0, slots := 0, locals := 21 }) D cy 23 (enM cy) q z [.ref (q 0), .int x1, .int x2] (fun r _ => (-2 : Int32) = r) := by
  intro sz
  refine Met.ofW (cc := cX6_free) (maxL := 4) (ret := (some .int)) (by decide) rfl ?_
  intro p e s m args below meth c s₁ B hml hv
  obtain ⟨rfl, hsz, hP, hK, hZ⟩ := hv
  have hx := B.exec
  have hb := B.bytes
  have hr := B.returns
  have hts := atoms_spec (ws := wsX6_free) B.pre
  have hown : s.vm.findClass RX6 = some m.cls := findClass_of_methodNamed B.named
  have hlocks := B.notSynchronized
  subst hsz
  have hH : bH D 23 (enM cy) q z s.heap s.heap [] := bH_in hq hP
  have hl := lv_entry ([.ref (q 0), .int x1, .int x2]) (n := 4) (Nat.le_of_ble_eq_true rfl)
  rw [lg_entry_eq]
  generalize (lg_sl ([.ref (q 0), .int x1, .int x2]) ++ List.replicate (4 - (lg_sl ([.ref (q 0), .int x1, .int x2])).length) Slot.unset).toArray = ls at hl ⊢
  have hl : lv_has ls 4 [(0, .ref (q 0)), (1, .int x1), (2, .int x2)] := hl
  refine lv_aload_n hx hb dX6_free_0 rfl (lv_at hl 0 rfl) ?_
  refine lv_iload_n hx hb dX6_free_1 rfl (lv_at hl 1 rfl) ?_
  refine b_calli (As := [.int x1]) (rest := []) ⟨hx, hb, hml, hown, hts⟩ 0 6 (c_X6_isTask_0 l D cy q hH.2.1 z hF x1 ) (cwV 1 hts gX6_free_X6_isTask rfl rfl rfl (by decide +kernel) ⟨Nat.le_of_ble_eq_true rfl, Nat.le_of_ble_eq_true rfl⟩) hK hZ hH (by decide) rfl rfl rfl hl.1 rfl (Nat.le_of_ble_eq_true rfl) ⟨Nat.zero_le _, Nat.zero_le _⟩ dX6_free_2 (fun r1 z1 H locs hp1 hH => ?_)
  obtain ⟨rfl, rfl⟩ := hp1
  refine lv_if_eq (tgt := 16) hx hb dX6_free_5 (by decide) (fun _ => ?_) (fun c0 => absurd c0 (by decide))
  refine lv_bipush (v := (-2)) hx hb dX6_free_16 (by decide) ?_
  exact b_iret hx hb hr hlocks hH ((by first | rfl | ((repeat' split) <;> first | rfl | omega))) dX6_free_18
set_option maxHeartbeats 4000000 in
set_option maxRecDepth 100000 in
theorem c_X6_ring (l : Launch) (D : va_G) (cy : Nat → ClassId) (q : Nat → Nat) (hq : bJ 23 q) (z : zS) (hF : Fm z) (h10 : z.1 2 = 10) (x1 : Int32) : bCi l yX6_ring wsX6_ring ({ frames := 0, cells := 0, slots := 0, locals := 0 }) D cy 23 (enM cy) q z [.ref (q 0), .int x1] (fun r _ => (-4 : Int32) = r) := by
  intro sz
  refine Met.ofW (cc := cX6_ring) (maxL := 2) (ret := (some .int)) (by decide) rfl ?_
  intro p e s m args below meth c s₁ B hml hv
  obtain ⟨rfl, hsz, hP, hK, hZ⟩ := hv
  have hx := B.exec
  have hb := B.bytes
  have hr := B.returns
  have hts := atoms_spec (ws := wsX6_ring) B.pre
  have hown : s.vm.findClass RX6 = some m.cls := findClass_of_methodNamed B.named
  have hlocks := B.notSynchronized
  subst hsz
  have hH : bH D 23 (enM cy) q z s.heap s.heap [] := bH_in hq hP
  have hl := lv_entry ([.ref (q 0), .int x1]) (n := 2) (Nat.le_of_ble_eq_true rfl)
  rw [lg_entry_eq]
  generalize (lg_sl ([.ref (q 0), .int x1]) ++ List.replicate (2 - (lg_sl ([.ref (q 0), .int x1])).length) Slot.unset).toArray = ls at hl ⊢
  have hl : lv_has ls 2 [(0, .ref (q 0)), (1, .int x1)] := hl
  refine lv_iload_n hx hb dX6_ring_0 rfl (lv_at hl 1 rfl) ?_
  refine lv_if_lt (tgt := 12) hx hb dX6_ring_1 (by decide) (fun c1 => ?_) (fun c1 => ?_)
  · skip
    refine lv_bipush (v := (-4)) hx hb dX6_ring_12 (by decide) ?_
    refine lv_goto (tgt := 23) hx hb dX6_ring_14 (by decide) ?_
    exact b_iret hx hb hr hlocks hH ((by have e0 : (0 : Int32).toInt = 0 := (by decide); try simp only [b_lt, b_le, b_eq] at c1; first | rfl | ((repeat' split) <;> first | rfl | omega))) dX6_ring_23
  · skip
    refine lv_iload_n hx hb dX6_ring_4 rfl (lv_at hl 1 rfl) ?_
    refine lv_aload_n hx hb dX6_ring_5 rfl (lv_at hl 0 rfl) ?_
    refine b_get (ci := 6) (C := RX6) (T := TX6) (Nf := 29) (v := .int 0) hx hb hts in_X6_ring_X6 hown hK hH 0 (by decide) rfl rfl 9 (by decide) (hts (.fieldLink RX6 103 "StationLineModel" "ringMany" "I") (List.mem_of_getElem? (i := 1) rfl)) (congrArg (fun x => some (Value.int x)) (Fm_2 hF)) dX6_ring_6 ?_
    refine lv_icmp_lt (tgt := 17) hx hb dX6_ring_9 (by decide) (fun c2 => ?_) (fun c2 => ?_)
    · skip
      refine lv_aload_n hx hb dX6_ring_17 rfl (lv_at hl 0 rfl) ?_
      refine b_get (ci := 6) (C := RX6) (T := TX6) (Nf := 29) (v := .ref (q 7)) hx hb hts in_X6_ring_X6 hown hK hH 0 (by decide) rfl rfl 10 (by decide) (hts (.fieldLink RX6 32 "StationLineModel" "ring" "[I") (List.mem_of_getElem? (i := 2) rfl)) rfl dX6_ring_18 ?_
      refine lv_iload_n hx hb dX6_ring_21 rfl (lv_at hl 1 rfl) ?_
      refine b_iald (v := (z.2.1 7 x1.toNatClampNeg)) hx hb hK hH 7 (by decide) rfl (by exfalso; have e0 : (0 : Int32).toInt = 0 := (by decide); try simp only [b_lt, b_le, b_eq] at c1 c2; omega) rfl dX6_ring_22 ?_
      exact b_iret hx hb hr hlocks hH ((by have e0 : (0 : Int32).toInt = 0 := (by decide); try simp only [b_lt, b_le, b_eq] at c1 c2; first | rfl | ((repeat' split) <;> first | rfl | omega))) dX6_ring_23
    · skip
      refine lv_bipush (v := (-4)) hx hb dX6_ring_12 (by decide) ?_
      refine lv_goto (tgt := 23) hx hb dX6_ring_14 (by decide) ?_
      exact b_iret hx hb hr hlocks hH ((by have e0 : (0 : Int32).toInt = 0 := (by decide); try simp only [b_lt, b_le, b_eq] at c1 c2; first | rfl | ((repeat' split) <;> first | rfl | omega))) dX6_ring_23
set_option maxHeartbeats 4000000 in
set_option maxRecDepth 100000 in
theorem c_X6_pair (l : Launch) (D : va_G) (cy : Nat → ClassId) (q : Nat → Nat) (hq : bJ 23 q) (z : zS) (hF : Fm z) (h10 : z.1 2 = 10) (x1 : Int32) (x2 : Int32) (x3 : Int32) : bCi l yX6_pair wsX6_pair ({ frames := 1, cells := 0, slots := 0, locals := 21 }) D cy 23 (enM cy) q z [.ref (q 0), .int x1, .int x2, .int x3] (fun r _ => (-2 : Int32) = r) := by
  intro sz
  refine Met.ofW (cc := cX6_pair) (maxL := 5) (ret := (some .int)) (by decide) rfl ?_
  intro p e s m args below meth c s₁ B hml hv
  obtain ⟨rfl, hsz, hP, hK, hZ⟩ := hv
  have hx := B.exec
  have hb := B.bytes
  have hr := B.returns
  have hts := atoms_spec (ws := wsX6_pair) B.pre
  have hown : s.vm.findClass RX6 = some m.cls := findClass_of_methodNamed B.named
  have hlocks := B.notSynchronized
  subst hsz
  have hH : bH D 23 (enM cy) q z s.heap s.heap [] := bH_in hq hP
  have hl := lv_entry ([.ref (q 0), .int x1, .int x2, .int x3]) (n := 5) (Nat.le_of_ble_eq_true rfl)
  rw [lg_entry_eq]
  generalize (lg_sl ([.ref (q 0), .int x1, .int x2, .int x3]) ++ List.replicate (5 - (lg_sl ([.ref (q 0), .int x1, .int x2, .int x3])).length) Slot.unset).toArray = ls at hl ⊢
  have hl : lv_has ls 5 [(0, .ref (q 0)), (1, .int x1), (2, .int x2), (3, .int x3)] := hl
  refine lv_aload_n hx hb dX6_pair_0 rfl (lv_at hl 0 rfl) ?_
  refine lv_iload_n hx hb dX6_pair_1 rfl (lv_at hl 1 rfl) ?_
  refine b_calli (As := [.int x1]) (rest := []) ⟨hx, hb, hml, hown, hts⟩ 0 6 (c_X6_isTask_0 l D cy q hH.2.1 z hF x1 ) (cwV 1 hts gX6_pair_X6_isTask rfl rfl rfl (by decide +kernel) ⟨Nat.le_of_ble_eq_true rfl, Nat.le_of_ble_eq_true rfl⟩) hK hZ hH (by decide) rfl rfl rfl hl.1 rfl (Nat.le_of_ble_eq_true rfl) ⟨Nat.zero_le _, Nat.zero_le _⟩ dX6_pair_2 (fun r1 z1 H locs hp1 hH => ?_)
  obtain ⟨rfl, rfl⟩ := hp1
  refine lv_if_eq (tgt := 30) hx hb dX6_pair_5 (by decide) (fun _ => ?_) (fun c0 => absurd c0 (by decide))
  refine lv_bipush (v := (-2)) hx hb dX6_pair_30 (by decide) ?_
  exact b_iret hx hb hr hlocks hH ((by first | rfl | ((repeat' split) <;> first | rfl | omega))) dX6_pair_32
set_option maxHeartbeats 4000000 in
set_option maxRecDepth 100000 in
theorem c_X6_hold (l : Launch) (D : va_G) (cy : Nat → ClassId) (q : Nat → Nat) (hq : bJ 23 q) (z : zS) (hF : Fm z) (h10 : z.1 2 = 10) (x1 : Int32) (x2 : Int32) : bCi l yX6_hold wsX6_hold ({ frames := 1, cells := 0, slots := 0, locals := 21 }) D cy 23 (enM cy) q z [.ref (q 0), .int x1, .int x2] (fun r _ => (-2 : Int32) = r) := by
  intro sz
  refine Met.ofW (cc := cX6_hold) (maxL := 4) (ret := (some .int)) (by decide) rfl ?_
  intro p e s m args below meth c s₁ B hml hv
  obtain ⟨rfl, hsz, hP, hK, hZ⟩ := hv
  have hx := B.exec
  have hb := B.bytes
  have hr := B.returns
  have hts := atoms_spec (ws := wsX6_hold) B.pre
  have hown : s.vm.findClass RX6 = some m.cls := findClass_of_methodNamed B.named
  have hlocks := B.notSynchronized
  subst hsz
  have hH : bH D 23 (enM cy) q z s.heap s.heap [] := bH_in hq hP
  have hl := lv_entry ([.ref (q 0), .int x1, .int x2]) (n := 4) (Nat.le_of_ble_eq_true rfl)
  rw [lg_entry_eq]
  generalize (lg_sl ([.ref (q 0), .int x1, .int x2]) ++ List.replicate (4 - (lg_sl ([.ref (q 0), .int x1, .int x2])).length) Slot.unset).toArray = ls at hl ⊢
  have hl : lv_has ls 4 [(0, .ref (q 0)), (1, .int x1), (2, .int x2)] := hl
  refine lv_aload_n hx hb dX6_hold_0 rfl (lv_at hl 0 rfl) ?_
  refine lv_iload_n hx hb dX6_hold_1 rfl (lv_at hl 1 rfl) ?_
  refine b_calli (As := [.int x1]) (rest := []) ⟨hx, hb, hml, hown, hts⟩ 0 6 (c_X6_isTask_0 l D cy q hH.2.1 z hF x1 ) (cwV 1 hts gX6_hold_X6_isTask rfl rfl rfl (by decide +kernel) ⟨Nat.le_of_ble_eq_true rfl, Nat.le_of_ble_eq_true rfl⟩) hK hZ hH (by decide) rfl rfl rfl hl.1 rfl (Nat.le_of_ble_eq_true rfl) ⟨Nat.zero_le _, Nat.zero_le _⟩ dX6_hold_2 (fun r1 z1 H locs hp1 hH => ?_)
  obtain ⟨rfl, rfl⟩ := hp1
  refine lv_if_eq (tgt := 15) hx hb dX6_hold_5 (by decide) (fun _ => ?_) (fun c0 => absurd c0 (by decide))
  refine lv_bipush (v := (-2)) hx hb dX6_hold_15 (by decide) ?_
  exact b_iret hx hb hr hlocks hH ((by first | rfl | ((repeat' split) <;> first | rfl | omega))) dX6_hold_17
set_option maxHeartbeats 4000000 in
set_option maxRecDepth 100000 in
theorem c_X6_line (l : Launch) (D : va_G) (cy : Nat → ClassId) (q : Nat → Nat) (hq : bJ 23 q) (z : zS) (hF : Fm z) (h10 : z.1 2 = 10) (x1 : Int32) : bCi l yX6_line wsX6_line ({ frames := 0, cells := 0, slots := 0, locals := 0 }) D cy 23 (enM cy) q z [.ref (q 0), .int x1] (fun r _ => (o_line x1 : Int32) = r) := by
  intro sz
  refine Met.ofW (cc := cX6_line) (maxL := 3) (ret := (some .int)) (by decide) rfl ?_
  intro p e s m args below meth c s₁ B hml hv
  obtain ⟨rfl, hsz, hP, hK, hZ⟩ := hv
  have hx := B.exec
  have hb := B.bytes
  have hr := B.returns
  have hts := atoms_spec (ws := wsX6_line) B.pre
  have hown : s.vm.findClass RX6 = some m.cls := findClass_of_methodNamed B.named
  have hlocks := B.notSynchronized
  subst hsz
  have hH : bH D 23 (enM cy) q z s.heap s.heap [] := bH_in hq hP
  have hl := lv_entry ([.ref (q 0), .int x1]) (n := 3) (Nat.le_of_ble_eq_true rfl)
  rw [lg_entry_eq]
  generalize (lg_sl ([.ref (q 0), .int x1]) ++ List.replicate (3 - (lg_sl ([.ref (q 0), .int x1])).length) Slot.unset).toArray = ls at hl ⊢
  have hl : lv_has ls 3 [(0, .ref (q 0)), (1, .int x1)] := hl
  refine lv_iload_n hx hb dX6_line_0 rfl (lv_at hl 1 rfl) ?_
  refine lv_if_lt (tgt := 9) hx hb dX6_line_1 (by decide) (fun c1 => ?_) (fun c1 => ?_)
  · skip
    refine lv_bipush (v := (-2)) hx hb dX6_line_9 (by decide) ?_
    exact b_iret hx hb hr hlocks hH ((by have e0 : (0 : Int32).toInt = 0 := (by decide); try simp only [b_lt, b_le, b_eq] at c1; first | rfl | (unfold o_line; (repeat' split) <;> first | rfl | omega))) dX6_line_11
  · skip
    refine lv_iload_n hx hb dX6_line_4 rfl (lv_at hl 1 rfl) ?_
    refine lv_iconst (v := 3) hx hb dX6_line_5 (by decide) ?_
    refine lv_icmp_le (tgt := 12) hx hb dX6_line_6 (by decide) (fun c2 => ?_) (fun c2 => ?_)
    · skip
      refine lv_aload_n hx hb dX6_line_12 rfl (lv_at hl 0 rfl) ?_
      refine b_get (ci := 6) (C := RX6) (T := TX6) (Nf := 29) (v := .int 0) hx hb hts in_X6_line_X6 hown hK hH 0 (by decide) rfl rfl 7 (by decide) (hts (.fieldLink RX6 113 "StationLineModel" "kind" "I") (List.mem_of_getElem? (i := 1) rfl)) (congrArg (fun x => some (Value.int x)) (Fm_1 hF)) dX6_line_13 ?_
      refine lv_istore_n (lv' := [(2, .int 0), (0, .ref (q 0)), (1, .int x1)]) hx hb dX6_line_16 rfl hl (by decide) rfl (fun ls hl => ?_)
      refine lv_aload_n hx hb dX6_line_17 rfl (lv_at hl 1 rfl) ?_
      refine lv_iload_n hx hb dX6_line_18 rfl (lv_at hl 2 rfl) ?_
      refine b_put (ci := 6) (C := RX6) (T := TX6) (Nf := 29) (v := .int x1) (ty := .int) hx hb hts in_X6_line_X6 tyX6 tyX6_ok nmX6 hown hK hH 0 (by decide) rfl rfl 7 (by decide) (hts (.fieldLink RX6 113 "StationLineModel" "kind" "I") (List.mem_of_getElem? (i := 1) rfl)) rfl (by decide +kernel) rfl rfl (Nat.le_of_ble_eq_true rfl) (upS z 1 x1) rfl (enM_S1 _ _ _ _) dX6_line_19 (fun H locs hH => ?_)
      obtain ⟨z3, hz3⟩ : ∃ w : zS, w = upS z 1 x1 := ⟨_, rfl⟩
      rw [← hz3] at hH
      refine lv_iload_n hx hb dX6_line_22 rfl (lv_at hl 0 rfl) ?_
      exact b_iret hx hb hr hlocks hH ((by have e0 : (0 : Int32).toInt = 0 := (by decide); have e3 : (3 : Int32).toInt = 3 := (by decide); try simp only [b_lt, b_le, b_eq] at c1 c2; first | rfl | (unfold o_line; (repeat' split) <;> first | rfl | omega))) dX6_line_23
    · skip
      refine lv_bipush (v := (-2)) hx hb dX6_line_9 (by decide) ?_
      exact b_iret hx hb hr hlocks hH ((by have e0 : (0 : Int32).toInt = 0 := (by decide); have e3 : (3 : Int32).toInt = 3 := (by decide); try simp only [b_lt, b_le, b_eq] at c1 c2; first | rfl | (unfold o_line; (repeat' split) <;> first | rfl | omega))) dX6_line_11
set_option maxHeartbeats 4000000 in
set_option maxRecDepth 100000 in
theorem c_X6_beat (l : Launch) (D : va_G) (cy : Nat → ClassId) (q : Nat → Nat) (hq : bJ 23 q) (z : zS) (hF : Fm z) (h10 : z.1 2 = 10) (x1 : Int32) : bCi l yX6_beat wsX6_beat ({ frames := 0, cells := 0, slots := 0, locals := 0 }) D cy 23 (enM cy) q z [.ref (q 0), .int x1] (fun r _ => (o_beat x1 : Int32) = r) := by
  intro sz
  refine Met.ofW (cc := cX6_beat) (maxL := 3) (ret := (some .int)) (by decide) rfl ?_
  intro p e s m args below meth c s₁ B hml hv
  obtain ⟨rfl, hsz, hP, hK, hZ⟩ := hv
  have hx := B.exec
  have hb := B.bytes
  have hr := B.returns
  have hts := atoms_spec (ws := wsX6_beat) B.pre
  have hown : s.vm.findClass RX6 = some m.cls := findClass_of_methodNamed B.named
  have hlocks := B.notSynchronized
  subst hsz
  have hH : bH D 23 (enM cy) q z s.heap s.heap [] := bH_in hq hP
  have hl := lv_entry ([.ref (q 0), .int x1]) (n := 3) (Nat.le_of_ble_eq_true rfl)
  rw [lg_entry_eq]
  generalize (lg_sl ([.ref (q 0), .int x1]) ++ List.replicate (3 - (lg_sl ([.ref (q 0), .int x1])).length) Slot.unset).toArray = ls at hl ⊢
  have hl : lv_has ls 3 [(0, .ref (q 0)), (1, .int x1)] := hl
  refine lv_iload_n hx hb dX6_beat_0 rfl (lv_at hl 1 rfl) ?_
  refine lv_iconst (v := 1) hx hb dX6_beat_1 (by decide) ?_
  refine lv_icmp_lt (tgt := 12) hx hb dX6_beat_2 (by decide) (fun c1 => ?_) (fun c1 => ?_)
  · skip
    refine lv_bipush (v := (-2)) hx hb dX6_beat_12 (by decide) ?_
    exact b_iret hx hb hr hlocks hH ((by have e1 : (1 : Int32).toInt = 1 := (by decide); try simp only [b_lt, b_le, b_eq] at c1; first | rfl | (unfold o_beat; (repeat' split) <;> first | rfl | omega))) dX6_beat_14
  · skip
    refine lv_iload_n hx hb dX6_beat_5 rfl (lv_at hl 1 rfl) ?_
    refine lv_sipush (v := 1000) hx hb dX6_beat_6 (by decide) ?_
    refine lv_icmp_le (tgt := 15) hx hb dX6_beat_9 (by decide) (fun c2 => ?_) (fun c2 => ?_)
    · skip
      refine lv_aload_n hx hb dX6_beat_15 rfl (lv_at hl 0 rfl) ?_
      refine b_get (ci := 6) (C := RX6) (T := TX6) (Nf := 29) (v := .int 10) hx hb hts in_X6_beat_X6 hown hK hH 0 (by decide) rfl rfl 8 (by decide) (hts (.fieldLink RX6 28 "StationLineModel" "beat" "I") (List.mem_of_getElem? (i := 1) rfl)) (congrArg (fun x => some (Value.int x)) h10) dX6_beat_16 ?_
      refine lv_istore_n (lv' := [(2, .int 10), (0, .ref (q 0)), (1, .int x1)]) hx hb dX6_beat_19 rfl hl (by decide) rfl (fun ls hl => ?_)
      refine lv_aload_n hx hb dX6_beat_20 rfl (lv_at hl 1 rfl) ?_
      refine lv_iload_n hx hb dX6_beat_21 rfl (lv_at hl 2 rfl) ?_
      refine b_put (ci := 6) (C := RX6) (T := TX6) (Nf := 29) (v := .int x1) (ty := .int) hx hb hts in_X6_beat_X6 tyX6 tyX6_ok nmX6 hown hK hH 0 (by decide) rfl rfl 8 (by decide) (hts (.fieldLink RX6 28 "StationLineModel" "beat" "I") (List.mem_of_getElem? (i := 1) rfl)) rfl (by decide +kernel) rfl rfl (Nat.le_of_ble_eq_true rfl) (upS z 2 x1) rfl (enM_S2 _ _ _ _) dX6_beat_22 (fun H locs hH => ?_)
      obtain ⟨z3, hz3⟩ : ∃ w : zS, w = upS z 2 x1 := ⟨_, rfl⟩
      rw [← hz3] at hH
      have hFz3 : Fm z3 := by rw [hz3]; exact hF
      refine lv_iload_n hx hb dX6_beat_25 rfl (lv_at hl 0 rfl) ?_
      exact b_iret hx hb hr hlocks hH ((by have e1 : (1 : Int32).toInt = 1 := (by decide); have e1000 : (1000 : Int32).toInt = 1000 := (by decide); try simp only [b_lt, b_le, b_eq] at c1 c2; first | rfl | (unfold o_beat; (repeat' split) <;> first | rfl | omega))) dX6_beat_26
    · skip
      refine lv_bipush (v := (-2)) hx hb dX6_beat_12 (by decide) ?_
      exact b_iret hx hb hr hlocks hH ((by have e1 : (1 : Int32).toInt = 1 := (by decide); have e1000 : (1000 : Int32).toInt = 1000 := (by decide); try simp only [b_lt, b_le, b_eq] at c1 c2; first | rfl | (unfold o_beat; (repeat' split) <;> first | rfl | omega))) dX6_beat_14
set_option maxHeartbeats 4000000 in
set_option maxRecDepth 100000 in
theorem c_X6_of (l : Launch) (D : va_G) (cy : Nat → ClassId) (q : Nat → Nat) (hq : bJ 23 q) (z : zS) (hF : Fm z) (h10 : z.1 2 = 10) (x1 : Int32) (x2 : Int32) : bCi l yX6_of wsX6_of ({ frames := 3, cells := 0, slots := 0, locals := 69 }) D cy 23 (enM cy) q z [.ref (q 0), .int x1, .int x2] (fun r _ => (-2 : Int32) = r) := by
  intro sz
  refine Met.ofW (cc := cX6_of) (maxL := 3) (ret := (some .int)) (by decide) rfl ?_
  intro p e s m args below meth c s₁ B hml hv
  obtain ⟨rfl, hsz, hP, hK, hZ⟩ := hv
  have hx := B.exec
  have hb := B.bytes
  have hr := B.returns
  have hts := atoms_spec (ws := wsX6_of) B.pre
  have hown : s.vm.findClass RX6 = some m.cls := findClass_of_methodNamed B.named
  have hlocks := B.notSynchronized
  subst hsz
  have hH : bH D 23 (enM cy) q z s.heap s.heap [] := bH_in hq hP
  have hl := lv_entry ([.ref (q 0), .int x1, .int x2]) (n := 3) (Nat.le_of_ble_eq_true rfl)
  rw [lg_entry_eq]
  generalize (lg_sl ([.ref (q 0), .int x1, .int x2]) ++ List.replicate (3 - (lg_sl ([.ref (q 0), .int x1, .int x2])).length) Slot.unset).toArray = ls at hl ⊢
  have hl : lv_has ls 3 [(0, .ref (q 0)), (1, .int x1), (2, .int x2)] := hl
  refine lv_aload_n hx hb dX6_of_0 rfl (lv_at hl 0 rfl) ?_
  refine lv_iload_n hx hb dX6_of_1 rfl (lv_at hl 1 rfl) ?_
  refine b_calli (As := [.int x1]) (rest := []) ⟨hx, hb, hml, hown, hts⟩ 0 6 (c_X6_isTask_0 l D cy q hH.2.1 z hF x1 ) (cwV 1 hts gX6_of_X6_isTask rfl rfl rfl (by decide +kernel) ⟨Nat.le_of_ble_eq_true rfl, Nat.le_of_ble_eq_true rfl⟩) hK hZ hH (by decide) rfl rfl rfl hl.1 rfl (Nat.le_of_ble_eq_true rfl) ⟨Nat.zero_le _, Nat.zero_le _⟩ dX6_of_2 (fun r1 z1 H locs hp1 hH => ?_)
  obtain ⟨rfl, rfl⟩ := hp1
  refine lv_if_eq (tgt := 18) hx hb dX6_of_5 (by decide) (fun _ => ?_) (fun c0 => absurd c0 (by decide))
  refine lv_bipush (v := (-2)) hx hb dX6_of_18 (by decide) ?_
  exact b_iret hx hb hr hlocks hH ((by first | rfl | ((repeat' split) <;> first | rfl | omega))) dX6_of_20
set_option maxHeartbeats 4000000 in
set_option maxRecDepth 100000 in
theorem c_X6_put (l : Launch) (D : va_G) (cy : Nat → ClassId) (q : Nat → Nat) (hq : bJ 23 q) (z : zS) (hF : Fm z) (h10 : z.1 2 = 10) (x1 : Int32) (x2 : Int32) : bCi l yX6_put wsX6_put ({ frames := 1, cells := 0, slots := 0, locals := 21 }) D cy 23 (enM cy) q z [.ref (q 0), .int x1, .int x2] (fun r _ => (-2 : Int32) = r) := by
  intro sz
  refine Met.ofW (cc := cX6_put) (maxL := 4) (ret := (some .int)) (by decide) rfl ?_
  intro p e s m args below meth c s₁ B hml hv
  obtain ⟨rfl, hsz, hP, hK, hZ⟩ := hv
  have hx := B.exec
  have hb := B.bytes
  have hr := B.returns
  have hts := atoms_spec (ws := wsX6_put) B.pre
  have hown : s.vm.findClass RX6 = some m.cls := findClass_of_methodNamed B.named
  have hlocks := B.notSynchronized
  subst hsz
  have hH : bH D 23 (enM cy) q z s.heap s.heap [] := bH_in hq hP
  have hl := lv_entry ([.ref (q 0), .int x1, .int x2]) (n := 4) (Nat.le_of_ble_eq_true rfl)
  rw [lg_entry_eq]
  generalize (lg_sl ([.ref (q 0), .int x1, .int x2]) ++ List.replicate (4 - (lg_sl ([.ref (q 0), .int x1, .int x2])).length) Slot.unset).toArray = ls at hl ⊢
  have hl : lv_has ls 4 [(0, .ref (q 0)), (1, .int x1), (2, .int x2)] := hl
  refine lv_aload_n hx hb dX6_put_0 rfl (lv_at hl 0 rfl) ?_
  refine lv_iload_n hx hb dX6_put_1 rfl (lv_at hl 1 rfl) ?_
  refine b_calli (As := [.int x1]) (rest := []) ⟨hx, hb, hml, hown, hts⟩ 0 6 (c_X6_isTask_0 l D cy q hH.2.1 z hF x1 ) (cwV 1 hts gX6_put_X6_isTask rfl rfl rfl (by decide +kernel) ⟨Nat.le_of_ble_eq_true rfl, Nat.le_of_ble_eq_true rfl⟩) hK hZ hH (by decide) rfl rfl rfl hl.1 rfl (Nat.le_of_ble_eq_true rfl) ⟨Nat.zero_le _, Nat.zero_le _⟩ dX6_put_2 (fun r1 z1 H locs hp1 hH => ?_)
  obtain ⟨rfl, rfl⟩ := hp1
  refine lv_if_eq (tgt := 15) hx hb dX6_put_5 (by decide) (fun _ => ?_) (fun c0 => absurd c0 (by decide))
  refine lv_bipush (v := (-2)) hx hb dX6_put_15 (by decide) ?_
  exact b_iret hx hb hr hlocks hH ((by first | rfl | ((repeat' split) <;> first | rfl | omega))) dX6_put_17
set_option maxHeartbeats 4000000 in
set_option maxRecDepth 100000 in
theorem c_X6_cause (l : Launch) (D : va_G) (cy : Nat → ClassId) (q : Nat → Nat) (hq : bJ 23 q) (z : zS) (hF : Fm z) (h10 : z.1 2 = 10) (x1 : Int32) : bCi l yX6_cause wsX6_cause ({ frames := 4, cells := 0, slots := 0, locals := 95 }) D cy 23 (enM cy) q z [.ref (q 0), .int x1] (fun r _ => (-2 : Int32) = r) := by
  intro sz
  refine Met.ofW (cc := cX6_cause) (maxL := 2) (ret := (some .int)) (by decide) rfl ?_
  intro p e s m args below meth c s₁ B hml hv
  obtain ⟨rfl, hsz, hP, hK, hZ⟩ := hv
  have hx := B.exec
  have hb := B.bytes
  have hr := B.returns
  have hts := atoms_spec (ws := wsX6_cause) B.pre
  have hown : s.vm.findClass RX6 = some m.cls := findClass_of_methodNamed B.named
  have hlocks := B.notSynchronized
  subst hsz
  have hH : bH D 23 (enM cy) q z s.heap s.heap [] := bH_in hq hP
  have hl := lv_entry ([.ref (q 0), .int x1]) (n := 2) (Nat.le_of_ble_eq_true rfl)
  rw [lg_entry_eq]
  generalize (lg_sl ([.ref (q 0), .int x1]) ++ List.replicate (2 - (lg_sl ([.ref (q 0), .int x1])).length) Slot.unset).toArray = ls at hl ⊢
  have hl : lv_has ls 2 [(0, .ref (q 0)), (1, .int x1)] := hl
  refine lv_aload_n hx hb dX6_cause_0 rfl (lv_at hl 0 rfl) ?_
  refine lv_iload_n hx hb dX6_cause_1 rfl (lv_at hl 1 rfl) ?_
  refine b_calli (As := [.int x1]) (rest := []) ⟨hx, hb, hml, hown, hts⟩ 0 6 (c_X6_isTask_0 l D cy q hH.2.1 z hF x1 ) (cwV 1 hts gX6_cause_X6_isTask rfl rfl rfl (by decide +kernel) ⟨Nat.le_of_ble_eq_true rfl, Nat.le_of_ble_eq_true rfl⟩) hK hZ hH (by decide) rfl rfl rfl hl.1 rfl (Nat.le_of_ble_eq_true rfl) ⟨Nat.zero_le _, Nat.zero_le _⟩ dX6_cause_2 (fun r1 z1 H locs hp1 hH => ?_)
  obtain ⟨rfl, rfl⟩ := hp1
  refine lv_if_eq (tgt := 20) hx hb dX6_cause_5 (by decide) (fun _ => ?_) (fun c0 => absurd c0 (by decide))
  refine lv_bipush (v := (-2)) hx hb dX6_cause_20 (by decide) ?_
  exact b_iret hx hb hr hlocks hH ((by first | rfl | ((repeat' split) <;> first | rfl | omega))) dX6_cause_22
set_option maxHeartbeats 4000000 in
set_option maxRecDepth 100000 in
theorem c_X6_clash (l : Launch) (D : va_G) (cy : Nat → ClassId) (q : Nat → Nat) (hq : bJ 23 q) (z : zS) (hF : Fm z) (h10 : z.1 2 = 10)  : bCi l yX6_clash wsX6_clash ({ frames := 5, cells := 0, slots := 0, locals := 117 }) D cy 23 (enM cy) q z [.ref (q 0)] (fun r _ => (-1 : Int32) = r) := by
  intro sz
  refine Met.ofW (cc := cX6_clash) (maxL := 1) (ret := (some .int)) (by decide) rfl ?_
  intro p e s m args below meth c s₁ B hml hv
  obtain ⟨rfl, hsz, hP, hK, hZ⟩ := hv
  have hx := B.exec
  have hb := B.bytes
  have hr := B.returns
  have hts := atoms_spec (ws := wsX6_clash) B.pre
  have hown : s.vm.findClass RX6 = some m.cls := findClass_of_methodNamed B.named
  have hlocks := B.notSynchronized
  subst hsz
  have hH : bH D 23 (enM cy) q z s.heap s.heap [] := bH_in hq hP
  have hl := lv_entry ([.ref (q 0)]) (n := 1) (Nat.le_of_ble_eq_true rfl)
  rw [lg_entry_eq]
  generalize (lg_sl ([.ref (q 0)]) ++ List.replicate (1 - (lg_sl ([.ref (q 0)])).length) Slot.unset).toArray = ls at hl ⊢
  have hl : lv_has ls 1 [(0, .ref (q 0))] := hl
  refine lv_aload_n hx hb dX6_clash_0 rfl (lv_at hl 0 rfl) ?_
  refine lv_aload_n hx hb dX6_clash_1 rfl (lv_at hl 0 rfl) ?_
  refine b_get (ci := 6) (C := RX6) (T := TX6) (Nf := 29) (v := .ref (q 6)) hx hb hts in_X6_clash_X6 hown hK hH 0 (by decide) rfl rfl 6 (by decide) (hts (.fieldLink RX6 25 "StationLineModel" "hand" "[I") (List.mem_of_getElem? (i := 1) rfl)) rfl dX6_clash_2 ?_
  refine b_calli (As := [.ref (q 6)]) (rest := []) ⟨hx, hb, hml, hown, hts⟩ 0 6 (c_X6_clashIn_0_r6 l D cy q hH.2.1 z hF  ) (cwV 1 hts gX6_clash_X6_clashIn rfl rfl rfl (by decide +kernel) ⟨Nat.le_of_ble_eq_true rfl, Nat.le_of_ble_eq_true rfl⟩) hK hZ hH (by decide) rfl rfl rfl hl.1 rfl (Nat.le_of_ble_eq_true rfl) ⟨Nat.zero_le _, Nat.zero_le _⟩ dX6_clash_5 (fun r1 z1 H locs hp1 hH => ?_)
  obtain ⟨rfl, rfl⟩ := hp1
  refine b_vi (v := (-1)) (by decide) ?_
  exact b_iret hx hb hr hlocks hH ((by first | rfl | ((repeat' split) <;> first | rfl | omega))) dX6_clash_8
set_option maxHeartbeats 4000000 in
set_option maxRecDepth 100000 in
theorem c_X6_station (l : Launch) (D : va_G) (cy : Nat → ClassId) (q : Nat → Nat) (hq : bJ 23 q) (z : zS) (hF : Fm z) (h10 : z.1 2 = 10) (x1 : Int32) (x2 : Int32) : bCi l yX6_station wsX6_station ({ frames := 3, cells := 0, slots := 0, locals := 69 }) D cy 23 (enM cy) q z [.ref (q 0), .int x1, .int x2] (fun r _ => (o_station x1 x2 : Int32) = r) := by
  intro sz
  refine Met.ofW (cc := cX6_station) (maxL := 4) (ret := (some .int)) (by decide) rfl ?_
  intro p e s m args below meth c s₁ B hml hv
  obtain ⟨rfl, hsz, hP, hK, hZ⟩ := hv
  have hx := B.exec
  have hb := B.bytes
  have hr := B.returns
  have hts := atoms_spec (ws := wsX6_station) B.pre
  have hown : s.vm.findClass RX6 = some m.cls := findClass_of_methodNamed B.named
  have hlocks := B.notSynchronized
  subst hsz
  have hH : bH D 23 (enM cy) q z s.heap s.heap [] := bH_in hq hP
  have hl := lv_entry ([.ref (q 0), .int x1, .int x2]) (n := 4) (Nat.le_of_ble_eq_true rfl)
  rw [lg_entry_eq]
  generalize (lg_sl ([.ref (q 0), .int x1, .int x2]) ++ List.replicate (4 - (lg_sl ([.ref (q 0), .int x1, .int x2])).length) Slot.unset).toArray = ls at hl ⊢
  have hl : lv_has ls 4 [(0, .ref (q 0)), (1, .int x1), (2, .int x2)] := hl
  refine lv_iload_n hx hb dX6_station_0 rfl (lv_at hl 1 rfl) ?_
  refine lv_iconst (v := 1) hx hb dX6_station_1 (by decide) ?_
  refine lv_icmp_lt (tgt := 20) hx hb dX6_station_2 (by decide) (fun c1 => ?_) (fun c1 => ?_)
  · skip
    refine lv_bipush (v := (-2)) hx hb dX6_station_20 (by decide) ?_
    exact b_iret hx hb hr hlocks hH ((by have e1 : (1 : Int32).toInt = 1 := (by decide); try simp only [b_lt, b_le, b_eq] at c1; first | rfl | (unfold o_station; (repeat' split) <;> first | rfl | omega))) dX6_station_22
  · skip
    refine lv_iload_n hx hb dX6_station_5 rfl (lv_at hl 1 rfl) ?_
    refine lv_bipush (v := 10) hx hb dX6_station_6 (by decide) ?_
    refine lv_icmp_gt (tgt := 20) hx hb dX6_station_8 (by decide) (fun c2 => ?_) (fun c2 => ?_)
    · skip
      refine lv_bipush (v := (-2)) hx hb dX6_station_20 (by decide) ?_
      exact b_iret hx hb hr hlocks hH ((by have e1 : (1 : Int32).toInt = 1 := (by decide); have e10 : (10 : Int32).toInt = 10 := (by decide); try simp only [b_lt, b_le, b_eq] at c1 c2; first | rfl | (unfold o_station; (repeat' split) <;> first | rfl | omega))) dX6_station_22
    · skip
      refine lv_iload_n hx hb dX6_station_11 rfl (lv_at hl 2 rfl) ?_
      refine lv_if_lt (tgt := 20) hx hb dX6_station_12 (by decide) (fun c3 => ?_) (fun c3 => ?_)
      · skip
        refine lv_bipush (v := (-2)) hx hb dX6_station_20 (by decide) ?_
        exact b_iret hx hb hr hlocks hH ((by have e0 : (0 : Int32).toInt = 0 := (by decide); have e1 : (1 : Int32).toInt = 1 := (by decide); have e10 : (10 : Int32).toInt = 10 := (by decide); try simp only [b_lt, b_le, b_eq] at c1 c2 c3; first | rfl | (unfold o_station; (repeat' split) <;> first | rfl | omega))) dX6_station_22
      · skip
        refine lv_iload_n hx hb dX6_station_15 rfl (lv_at hl 2 rfl) ?_
        refine lv_iconst (v := 2) hx hb dX6_station_16 (by decide) ?_
        refine lv_icmp_le (tgt := 23) hx hb dX6_station_17 (by decide) (fun c4 => ?_) (fun c4 => ?_)
        · skip
          refine lv_aload_n hx hb dX6_station_23 rfl (lv_at hl 0 rfl) ?_
          refine lv_aload_n hx hb dX6_station_24 rfl (lv_at hl 0 rfl) ?_
          refine b_get (ci := 6) (C := RX6) (T := TX6) (Nf := 29) (v := .ref (q 6)) hx hb hts in_X6_station_X6 hown hK hH 0 (by decide) rfl rfl 6 (by decide) (hts (.fieldLink RX6 25 "StationLineModel" "hand" "[I") (List.mem_of_getElem? (i := 1) rfl)) rfl dX6_station_25 ?_
          refine lv_iload_n hx hb dX6_station_28 rfl (lv_at hl 1 rfl) ?_
          refine b_calli (As := [.ref (q 6), .int x1]) (rest := []) ⟨hx, hb, hml, hown, hts⟩ 0 6 (c_X6_setAt_0_r6 l D cy q hH.2.1 z hF x1 ) (cwV 2 hts gX6_station_X6_setAt rfl rfl rfl (by decide +kernel) ⟨Nat.le_of_ble_eq_true rfl, Nat.le_of_ble_eq_true rfl⟩) hK hZ hH (by decide) rfl rfl rfl hl.1 rfl (Nat.le_of_ble_eq_true rfl) ⟨Nat.zero_le _, Nat.zero_le _⟩ dX6_station_29 (fun r5 z5 H locs hp5 hH => ?_)
          obtain ⟨rfl, rfl⟩ := hp5
          refine lv_istore_n (lv' := [(3, .int 0), (0, .ref (q 0)), (1, .int x1), (2, .int x2)]) hx hb dX6_station_32 rfl hl (by decide) rfl (fun ls hl => ?_)
          refine lv_iload_n hx hb dX6_station_33 rfl (lv_at hl 3 rfl) ?_
          refine lv_if_ne (tgt := 41) hx hb dX6_station_34 (by decide) (fun c6 => ?_) (fun c6 => ?_)
          · skip
            refine lv_iload_n hx hb dX6_station_41 rfl (lv_at hl 3 rfl) ?_
            refine lv_iconst (v := 1) hx hb dX6_station_42 (by decide) ?_
            refine lv_icmp_ne (tgt := 54) hx hb dX6_station_43 (by decide) (fun c7 => ?_) (fun c7 => ?_)
            · skip
              refine lv_aload_n hx hb dX6_station_54 rfl (lv_at hl 1 rfl) ?_
              refine b_calli (As := []) (rest := []) ⟨hx, hb, hml, hown, hts⟩ 0 6 (c_X6_room_0 l D cy q hH.2.1 z hF  ) (cwV 0 hts gX6_station_X6_room rfl rfl rfl (by decide +kernel) ⟨Nat.le_of_ble_eq_true rfl, Nat.le_of_ble_eq_true rfl⟩) hK hZ hH (by decide) rfl rfl rfl hl.1 rfl (Nat.le_of_ble_eq_true rfl) ⟨Nat.zero_le _, Nat.zero_le _⟩ dX6_station_55 (fun r8 z8 H locs hp8 hH => ?_)
              obtain ⟨rfl, rfl⟩ := hp8
              refine b_vi (v := 10) h10 ?_
              refine lv_aload_n hx hb dX6_station_58 rfl (lv_at hl 1 rfl) ?_
              refine lv_iload_n hx hb dX6_station_59 rfl (lv_at hl 0 rfl) ?_
              refine b_calli (As := [.int 0]) (rest := [.int 10]) ⟨hx, hb, hml, hown, hts⟩ 0 6 (c_X6_loadOf_0 l D cy q hH.2.1 z hF 0 ) (cwV 1 hts gX6_station_X6_loadOf rfl rfl rfl (by decide +kernel) ⟨Nat.le_of_ble_eq_true rfl, Nat.le_of_ble_eq_true rfl⟩) hK hZ hH (by decide) rfl rfl rfl hl.1 rfl (Nat.le_of_ble_eq_true rfl) ⟨Nat.zero_le _, Nat.zero_le _⟩ dX6_station_60 (fun r9 z9 H locs hp9 hH => ?_)
              obtain ⟨rfl, rfl⟩ := hp9
              refine lv_isub hx hb dX6_station_63 ?_
              refine b_vi (v := 10) (by decide) ?_
              exact b_iret hx hb hr hlocks hH ((by have e0 : (0 : Int32).toInt = 0 := (by decide); have e1 : (1 : Int32).toInt = 1 := (by decide); have e2 : (2 : Int32).toInt = 2 := (by decide); have e10 : (10 : Int32).toInt = 10 := (by decide); try simp only [b_lt, b_le, b_eq] at c1 c2 c3 c4 c6 c7; first | rfl | (unfold o_station; (repeat' split) <;> first | rfl | omega))) dX6_station_64
            · skip
              refine lv_aload_n hx hb dX6_station_46 rfl (lv_at hl 1 rfl) ?_
              refine lv_iload_n hx hb dX6_station_47 rfl (lv_at hl 0 rfl) ?_
              refine b_calli (As := [.int 0]) (rest := []) ⟨hx, hb, hml, hown, hts⟩ 0 6 (c_X6_loadOf_0 l D cy q hH.2.1 z hF 0 ) (cwV 1 hts gX6_station_X6_loadOf rfl rfl rfl (by decide +kernel) ⟨Nat.le_of_ble_eq_true rfl, Nat.le_of_ble_eq_true rfl⟩) hK hZ hH (by decide) rfl rfl rfl hl.1 rfl (Nat.le_of_ble_eq_true rfl) ⟨Nat.zero_le _, Nat.zero_le _⟩ dX6_station_48 (fun r10 z10 H locs hp10 hH => ?_)
              obtain ⟨rfl, rfl⟩ := hp10
              refine lv_goto (tgt := 64) hx hb dX6_station_51 (by decide) ?_
              exact b_iret hx hb hr hlocks hH ((by have e0 : (0 : Int32).toInt = 0 := (by decide); have e1 : (1 : Int32).toInt = 1 := (by decide); have e2 : (2 : Int32).toInt = 2 := (by decide); have e10 : (10 : Int32).toInt = 10 := (by decide); try simp only [b_lt, b_le, b_eq] at c1 c2 c3 c4 c6 c7; first | rfl | (unfold o_station; (repeat' split) <;> first | rfl | omega))) dX6_station_64
          · skip
            refine lv_iload_n hx hb dX6_station_37 rfl (lv_at hl 0 rfl) ?_
            refine lv_goto (tgt := 64) hx hb dX6_station_38 (by decide) ?_
            exact b_iret hx hb hr hlocks hH ((by have e0 : (0 : Int32).toInt = 0 := (by decide); have e1 : (1 : Int32).toInt = 1 := (by decide); have e2 : (2 : Int32).toInt = 2 := (by decide); have e10 : (10 : Int32).toInt = 10 := (by decide); try simp only [b_lt, b_le, b_eq] at c1 c2 c3 c4 c6; first | rfl | (unfold o_station; (repeat' split) <;> first | rfl | omega))) dX6_station_64
        · skip
          refine lv_bipush (v := (-2)) hx hb dX6_station_20 (by decide) ?_
          exact b_iret hx hb hr hlocks hH ((by have e0 : (0 : Int32).toInt = 0 := (by decide); have e1 : (1 : Int32).toInt = 1 := (by decide); have e2 : (2 : Int32).toInt = 2 := (by decide); have e10 : (10 : Int32).toInt = 10 := (by decide); try simp only [b_lt, b_le, b_eq] at c1 c2 c3 c4; first | rfl | (unfold o_station; (repeat' split) <;> first | rfl | omega))) dX6_station_22
set_option maxHeartbeats 4000000 in
set_option maxRecDepth 100000 in
theorem c_X6_length (l : Launch) (D : va_G) (cy : Nat → ClassId) (q : Nat → Nat) (hq : bJ 23 q) (z : zS) (hF : Fm z) (h10 : z.1 2 = 10)  : bCi l yX6_length wsX6_length ({ frames := 1, cells := 0, slots := 0, locals := 23 }) D cy 23 (enM cy) q z [.ref (q 0)] (fun r _ => (0 : Int32) = r) := by
  intro sz
  refine Met.ofW (cc := cX6_length) (maxL := 1) (ret := (some .int)) (by decide) rfl ?_
  intro p e s m args below meth c s₁ B hml hv
  obtain ⟨rfl, hsz, hP, hK, hZ⟩ := hv
  have hx := B.exec
  have hb := B.bytes
  have hr := B.returns
  have hts := atoms_spec (ws := wsX6_length) B.pre
  have hown : s.vm.findClass RX6 = some m.cls := findClass_of_methodNamed B.named
  have hlocks := B.notSynchronized
  subst hsz
  have hH : bH D 23 (enM cy) q z s.heap s.heap [] := bH_in hq hP
  have hl := lv_entry ([.ref (q 0)]) (n := 1) (Nat.le_of_ble_eq_true rfl)
  rw [lg_entry_eq]
  generalize (lg_sl ([.ref (q 0)]) ++ List.replicate (1 - (lg_sl ([.ref (q 0)])).length) Slot.unset).toArray = ls at hl ⊢
  have hl : lv_has ls 1 [(0, .ref (q 0))] := hl
  refine lv_aload_n hx hb dX6_length_0 rfl (lv_at hl 0 rfl) ?_
  refine lv_aload_n hx hb dX6_length_1 rfl (lv_at hl 0 rfl) ?_
  refine b_get (ci := 6) (C := RX6) (T := TX6) (Nf := 29) (v := .ref (q 6)) hx hb hts in_X6_length_X6 hown hK hH 0 (by decide) rfl rfl 6 (by decide) (hts (.fieldLink RX6 25 "StationLineModel" "hand" "[I") (List.mem_of_getElem? (i := 1) rfl)) rfl dX6_length_2 ?_
  refine b_calli (As := [.ref (q 6)]) (rest := []) ⟨hx, hb, hml, hown, hts⟩ 0 6 (c_X6_lengthOf_0_r6 l D cy q hH.2.1 z hF  ) (cwV 1 hts gX6_length_X6_lengthOf rfl rfl rfl (by decide +kernel) ⟨Nat.le_of_ble_eq_true rfl, Nat.le_of_ble_eq_true rfl⟩) hK hZ hH (by decide) rfl rfl rfl hl.1 rfl (Nat.le_of_ble_eq_true rfl) ⟨Nat.zero_le _, Nat.zero_le _⟩ dX6_length_5 (fun r1 z1 H locs hp1 hH => ?_)
  obtain ⟨rfl, rfl⟩ := hp1
  exact b_iret hx hb hr hlocks hH ((by first | rfl | ((repeat' split) <;> first | rfl | omega))) dX6_length_8
set_option maxHeartbeats 4000000 in
set_option maxRecDepth 100000 in
theorem c_X6_squares (l : Launch) (D : va_G) (cy : Nat → ClassId) (q : Nat → Nat) (hq : bJ 23 q) (z : zS) (hF : Fm z) (h10 : z.1 2 = 10)  : bCl l yX6_squares wsX6_squares ({ frames := 4, cells := 0, slots := 0, locals := 95 }) D cy 23 (enM cy) q z [.ref (q 0)] (fun r _ => (0 : Int64) = r) := by
  intro sz
  refine Met.ofW (cc := cX6_squares) (maxL := 1) (ret := (some .long)) (by decide) rfl ?_
  intro p e s m args below meth c s₁ B hml hv
  obtain ⟨rfl, hsz, hP, hK, hZ⟩ := hv
  have hx := B.exec
  have hb := B.bytes
  have hr := B.returns
  have hts := atoms_spec (ws := wsX6_squares) B.pre
  have hown : s.vm.findClass RX6 = some m.cls := findClass_of_methodNamed B.named
  have hlocks := B.notSynchronized
  subst hsz
  have hH : bH D 23 (enM cy) q z s.heap s.heap [] := bH_in hq hP
  have hl := lv_entry ([.ref (q 0)]) (n := 1) (Nat.le_of_ble_eq_true rfl)
  rw [lg_entry_eq]
  generalize (lg_sl ([.ref (q 0)]) ++ List.replicate (1 - (lg_sl ([.ref (q 0)])).length) Slot.unset).toArray = ls at hl ⊢
  have hl : lv_has ls 1 [(0, .ref (q 0))] := hl
  refine lv_aload_n hx hb dX6_squares_0 rfl (lv_at hl 0 rfl) ?_
  refine lv_aload_n hx hb dX6_squares_1 rfl (lv_at hl 0 rfl) ?_
  refine b_get (ci := 6) (C := RX6) (T := TX6) (Nf := 29) (v := .ref (q 6)) hx hb hts in_X6_squares_X6 hown hK hH 0 (by decide) rfl rfl 6 (by decide) (hts (.fieldLink RX6 25 "StationLineModel" "hand" "[I") (List.mem_of_getElem? (i := 1) rfl)) rfl dX6_squares_2 ?_
  refine b_calll (As := [.ref (q 6)]) (rest := []) ⟨hx, hb, hml, hown, hts⟩ 0 6 (c_X6_squaresOf_0 l D cy q hH.2.1 z hF  ) (cwV 1 hts gX6_squares_X6_squaresOf rfl rfl rfl (by decide +kernel) ⟨Nat.le_of_ble_eq_true rfl, Nat.le_of_ble_eq_true rfl⟩) hK hZ hH (by decide) rfl rfl rfl hl.1 rfl (Nat.le_of_ble_eq_true rfl) ⟨Nat.zero_le _, Nat.zero_le _⟩ dX6_squares_5 (fun r1 z1 H locs hp1 hH => ?_)
  obtain ⟨rfl, rfl⟩ := hp1
  exact b_lret hx hb hr hlocks hH ((by first | rfl | ((repeat' split) <;> first | rfl | omega))) dX6_squares_8
set_option maxHeartbeats 4000000 in
set_option maxRecDepth 100000 in
theorem c_X6_fewest (l : Launch) (D : va_G) (cy : Nat → ClassId) (q : Nat → Nat) (hq : bJ 23 q) (z : zS) (hF : Fm z) (h10 : z.1 2 = 10)  : bCi l yX6_fewest wsX6_fewest ({ frames := 5, cells := 0, slots := 0, locals := 121 }) D cy 23 (enM cy) q z [.ref (q 0)] (fun r _ => (0 : Int32) = r) := by
  intro sz
  refine Met.ofW (cc := cX6_fewest) (maxL := 2) (ret := (some .int)) (by decide) rfl ?_
  intro p e s m args below meth c s₁ B hml hv
  obtain ⟨rfl, hsz, hP, hK, hZ⟩ := hv
  have hx := B.exec
  have hb := B.bytes
  have hr := B.returns
  have hts := atoms_spec (ws := wsX6_fewest) B.pre
  have hown : s.vm.findClass RX6 = some m.cls := findClass_of_methodNamed B.named
  have hlocks := B.notSynchronized
  subst hsz
  have hH : bH D 23 (enM cy) q z s.heap s.heap [] := bH_in hq hP
  have hl := lv_entry ([.ref (q 0)]) (n := 2) (Nat.le_of_ble_eq_true rfl)
  rw [lg_entry_eq]
  generalize (lg_sl ([.ref (q 0)]) ++ List.replicate (2 - (lg_sl ([.ref (q 0)])).length) Slot.unset).toArray = ls at hl ⊢
  have hl : lv_has ls 2 [(0, .ref (q 0))] := hl
  refine lv_aload_n hx hb dX6_fewest_0 rfl (lv_at hl 0 rfl) ?_
  refine b_calli (As := []) (rest := []) ⟨hx, hb, hml, hown, hts⟩ 0 6 (c_X6_tellWays_0 l D cy q hH.2.1 z hF  10 h10 ) (cwV 0 hts gX6_fewest_X6_tellWays rfl rfl rfl (by decide +kernel) ⟨Nat.le_of_ble_eq_true rfl, Nat.le_of_ble_eq_true rfl⟩) hK hZ hH (by decide) rfl rfl rfl hl.1 rfl (Nat.le_of_ble_eq_true rfl) ⟨Nat.zero_le _, Nat.zero_le _⟩ dX6_fewest_1 (fun r1 z1 H locs hp1 hH => ?_)
  obtain ⟨hFz1, g1_0, g1_1, rfl⟩ := hp1
  refine lv_istore_n (lv' := [(1, .int 0), (0, .ref (q 0))]) hx hb dX6_fewest_4 rfl hl (by decide) rfl (fun ls hl => ?_)
  refine lv_iload_n hx hb dX6_fewest_5 rfl (lv_at hl 0 rfl) ?_
  refine lv_if_ge (tgt := 14) hx hb dX6_fewest_6 (by decide) (fun _ => ?_) (fun c0 => absurd c0 (by decide))
  refine lv_iload_n hx hb dX6_fewest_14 rfl (lv_at hl 0 rfl) ?_
  exact b_iret hx hb hr hlocks hH ((by first | rfl | ((repeat' split) <;> first | rfl | omega))) dX6_fewest_15
