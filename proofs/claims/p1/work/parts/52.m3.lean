set_option maxHeartbeats 4000000 in
set_option maxRecDepth 100000 in
/-- carry(row, n, at, false): n numbers of the row at cell k go into 'kept' from place at on -/
theorem c_X6_carry (l : Launch) (D : va_G) (cy : Nat → ClassId) (q : Nat → Nat) (hq : bJ 23 q) (z : zS) (k len n at_ : Nat) (hk : k < 23) (h8 : k ≠ 8) (hu : ∀ w : zS, enM cy q w k = .inl (cy 0, len, .inl (w.2.1 k))) (hn : n ≤ len) (hlen : len < 2 ^ 31) (hat : at_ + n ≤ 180) : bCi l yX6_carry wsX6_carry ({ frames := 0, cells := 0, slots := 0, locals := 0 }) D cy 23 (enM cy) q z [.ref (q 0), .ref (q k), .int (nI n), .int (nI at_), .int 0] (fun r z' => nI (at_ + n) = r ∧ ∃ g, upA z 8 g = z') := by
  intro sz
  refine Met.ofW (cc := cX6_carry) (maxL := 6) (ret := (some .int)) (by decide) rfl ?_
  intro p e s m args below meth c s₁ B hml hv
  obtain ⟨rfl, hsz, hP, hK, hZ⟩ := hv
  have hx := B.exec
  have hb := B.bytes
  have hr := B.returns
  have hts := atoms_spec (ws := wsX6_carry) B.pre
  have hown : s.vm.findClass RX6 = some m.cls := findClass_of_methodNamed B.named
  have hlocks := B.notSynchronized
  subst hsz
  have hH : bH D 23 (enM cy) q z s.heap s.heap [] := bH_in hq hP
  have hl := lv_entry ([.ref (q 0), .ref (q k), .int (nI n), .int (nI at_), .int 0]) (n := 6) (Nat.le_of_ble_eq_true rfl)
  rw [lg_entry_eq]
  generalize (lg_sl ([.ref (q 0), .ref (q k), .int (nI n), .int (nI at_), .int 0]) ++ List.replicate (6 - (lg_sl ([.ref (q 0), .ref (q k), .int (nI n), .int (nI at_), .int 0])).length) Slot.unset).toArray = ls at hl ⊢
  have hl : lv_has ls 6 [(0, .ref (q 0)), (1, .ref (q k)), (2, .int (nI n)), (3, .int (nI at_)), (4, .int 0)] := hl
  refine lv_iconst (v := 0) hx hb dX6_carry_0 (by decide) ?_
  refine lv_istore (lv' := [(5, .int 0), (0, .ref (q 0)), (1, .ref (q k)), (2, .int (nI n)), (3, .int (nI at_)), (4, .int 0)]) hx hb dX6_carry_1 hl (by decide) rfl (fun ls hl => ?_)
  have loop : ∀ (r i : Nat), i + r = n → ∀ (g : Nat → Int32) (H : Heap) (locs : List Loc), bH D 23 (enM cy) q (upA z 8 g) s.heap H locs → ∀ ls : Array Slot, lv_has ls 6 [(5, .int (nI i)), (0, .ref (q 0)), (1, .ref (q k)), (2, .int (nI n)), (3, .int (nI at_)), (4, .int 0)] → W p l e (headSpec wsX6_carry ({ frames := 0, cells := 0, slots := 0, locals := 0 })).room s m ([.ref (q 0), .ref (q k), .int (nI n), .int (nI at_), .int 0] : List Value).toArray below meth c H locs 0 0 (MQ below (va_Qi (fun r z' => nI (at_ + n) = r ∧ ∃ g, upA z 8 g = z') (bPos D 23 (enM cy) q) (bA 23 q s.heap.size)) ([.ref (q 0), .ref (q k), .int (nI n), .int (nI at_), .int 0] : List Value).toArray s 0 0 (bA 23 q s.heap.size)) (F0 m 3 ls []) := by
    intro r
    induction r with
    | zero =>
      intro i hi g H locs hH ls hl
      refine lv_iload hx hb dX6_carry_3 (lv_at hl 0 rfl) ?_
      refine lv_iload_n hx hb dX6_carry_5 rfl (lv_at hl 3 rfl) ?_
      refine lv_icmp_ge (tgt := 49) hx hb dX6_carry_6 (by decide) (fun _ => ?_) (fun c1 => absurd (nI_le (by omega) (by omega)) c1)
      refine lv_iload_n hx hb dX6_carry_49 rfl (lv_at hl 4 rfl) ?_
      refine lv_iload_n hx hb dX6_carry_50 rfl (lv_at hl 3 rfl) ?_
      refine lv_iadd hx hb dX6_carry_51 ?_
      exact b_iret hx hb hr hlocks hH ⟨(nI_add _ _).symm, g, rfl⟩ dX6_carry_52
    | succ r ih =>
      intro i hi g H locs hH ls hl
      refine lv_iload hx hb dX6_carry_3 (lv_at hl 0 rfl) ?_
      refine lv_iload_n hx hb dX6_carry_5 rfl (lv_at hl 3 rfl) ?_
      refine lv_icmp_ge (tgt := 49) hx hb dX6_carry_6 (by decide) (fun c1 => absurd c1 (nI_ge (by omega) (by omega))) (fun _ => ?_)
      refine lv_iload hx hb dX6_carry_9 (lv_at hl 5 rfl) ?_
      refine lv_if_eq (tgt := 30) hx hb dX6_carry_11 (by decide) (fun _ => ?_) (fun c1 => absurd rfl c1)
      refine lv_aload_n hx hb dX6_carry_30 rfl (lv_at hl 1 rfl) ?_
      refine b_get (ci := 6) (C := RX6) (T := TX6) (Nf := 29) (v := .ref (q 8)) hx hb hts in_X6_carry_X6 hown hK hH 0 (by decide) rfl rfl 12 (by decide) (hts (.fieldLink RX6 35 "StationLineModel" "kept" "[I") (by decide +kernel)) rfl dX6_carry_31 ?_
      refine lv_iload_n hx hb dX6_carry_34 rfl (lv_at hl 4 rfl) ?_
      refine lv_iload hx hb dX6_carry_35 (lv_at hl 0 rfl) ?_
      refine lv_iadd hx hb dX6_carry_37 ?_
      refine b_vi (v := nI (at_ + i)) (nI_add _ _) ?_
      refine lv_aload_n hx hb dX6_carry_38 rfl (lv_at hl 2 rfl) ?_
      refine lv_iload hx hb dX6_carry_39 (lv_at hl 0 rfl) ?_
      refine b_iald hx hb hK hH k hk (hu _) (vp_in_nI (by omega) (by omega)) rfl dX6_carry_41 ?_
      refine lv_topi (fun v _ => ?_)
      refine b_iast hx hb hK hH 8 (by decide) rfl (vp_in_nI (by omega) (by omega)) (upA z 8 (upd g (at_ + i) v)) (by show (.inl (cy 0, 180, .inl ((upA z 8 (upd g (at_ + i) v)).2.1 8)) : va_E) = .inl (cy 0, 180, .inl (upd ((upA z 8 g).2.1 8) (nI (at_ + i)).toNatClampNeg v)); rw [upA_at, upA_at, nI_clamp (by omega)]) (fun j h1 h2 => by rw [enM_A cy q z 8 _ j h1 h2, enM_A cy q z 8 _ j h1 h2]) dX6_carry_42 (fun H locs hH => ?_)
      refine lv_iinc (v := nI (i + 1)) (lv' := [(5, .int (nI (i + 1))), (0, .ref (q 0)), (1, .ref (q k)), (2, .int (nI n)), (3, .int (nI at_)), (4, .int 0)]) hx hb dX6_carry_43 hl (k := 0) rfl (nI_succ i).symm (by decide) rfl (fun ls hl => ?_)
      refine lv_goto (tgt := 3) hx hb dX6_carry_46 (by decide) ?_
      exact ih (i + 1) (by omega) (upd g (at_ + i) v) H locs hH ls hl
  exact loop n 0 (by omega) (z.2.1 8) _ _ (by rw [upA_self]; exact hH) ls hl

set_option maxHeartbeats 4000000 in
set_option maxRecDepth 100000 in
theorem c_X6_carryAll_0 (l : Launch) (D : va_G) (cy : Nat → ClassId) (q : Nat → Nat) (hq : bJ 23 q) (z : zS) (hF : Fm z)    : bCv l yX6_carryAll wsX6_carryAll ({ frames := 1, cells := 0, slots := 0, locals := 25 }) D cy 23 (enM cy) q z [.ref (q 0), .int 0] (fun z' => Fm z') := by
  intro sz
  refine Met.ofW (cc := cX6_carryAll) (maxL := 3) (ret := none) (by decide) rfl ?_
  intro p e s m args below meth c s₁ B hml hv
  obtain ⟨rfl, hsz, hP, hK, hZ⟩ := hv
  have hx := B.exec
  have hb := B.bytes
  have hr := B.returns
  have hts := atoms_spec (ws := wsX6_carryAll) B.pre
  have hown : s.vm.findClass RX6 = some m.cls := findClass_of_methodNamed B.named
  have hlocks := B.notSynchronized
  subst hsz
  have hH : bH D 23 (enM cy) q z s.heap s.heap [] := bH_in hq hP
  have hl := lv_entry ([.ref (q 0), .int 0]) (n := 3) (Nat.le_of_ble_eq_true rfl)
  rw [lg_entry_eq]
  generalize (lg_sl ([.ref (q 0), .int 0]) ++ List.replicate (3 - (lg_sl ([.ref (q 0), .int 0])).length) Slot.unset).toArray = ls at hl ⊢
  have hl : lv_has ls 3 [(0, .ref (q 0)), (1, .int 0)] := hl
  refine lv_aload_n hx hb dX6_carryAll_0 rfl (lv_at hl 0 rfl) ?_
  refine b_get (ci := 6) (C := RX6) (T := TX6) (Nf := 29) (v := .ref (q 22)) hx hb hts in_X6_carryAll_X6 hown hK hH 0 (by decide) rfl rfl 28 (by decide) (hts (.fieldLink RX6 79 "StationLineModel" "some" "[I") (List.mem_of_getElem? (i := 1) rfl)) rfl dX6_carryAll_1 ?_
  refine lv_iconst (v := 0) hx hb dX6_carryAll_4 (by decide) ?_
  refine lv_aload_n hx hb dX6_carryAll_5 rfl (lv_at hl 0 rfl) ?_
  refine b_get (ci := 6) (C := RX6) (T := TX6) (Nf := 29) (v := .int 0) hx hb hts in_X6_carryAll_X6 hown hK hH 0 (by decide) rfl rfl 0 (by decide) (hts (.fieldLink RX6 85 "StationLineModel" "tasks" "I") (List.mem_of_getElem? (i := 2) rfl)) (congrArg (fun x => some (Value.int x)) (Fm_0 hF)) dX6_carryAll_6 ?_
  refine b_iast hx hb hK hH 22 (by decide) rfl (by unfold vp_in; decide) (upA z 22 (upd (z.2.1 22) (0 : Int32).toNatClampNeg 0)) rfl (enM_A _ _ _ _ _) dX6_carryAll_9 (fun H locs hH => ?_)
  obtain ⟨z1, hz1⟩ : ∃ w : zS, w = upA z 22 (upd (z.2.1 22) (0 : Int32).toNatClampNeg 0) := ⟨_, rfl⟩
  rw [← hz1] at hH
  have hFz1 : Fm z1 := by rw [hz1]; exact hF
  refine lv_aload_n hx hb dX6_carryAll_10 rfl (lv_at hl 0 rfl) ?_
  refine b_get (ci := 6) (C := RX6) (T := TX6) (Nf := 29) (v := .ref (q 22)) hx hb hts in_X6_carryAll_X6 hown hK hH 0 (by decide) rfl rfl 28 (by decide) (hts (.fieldLink RX6 79 "StationLineModel" "some" "[I") (List.mem_of_getElem? (i := 1) rfl)) rfl dX6_carryAll_11 ?_
  refine lv_iconst (v := 1) hx hb dX6_carryAll_14 (by decide) ?_
  refine lv_aload_n hx hb dX6_carryAll_15 rfl (lv_at hl 0 rfl) ?_
  refine b_get (ci := 6) (C := RX6) (T := TX6) (Nf := 29) (v := .int 0) hx hb hts in_X6_carryAll_X6 hown hK hH 0 (by decide) rfl rfl 7 (by decide) (hts (.fieldLink RX6 113 "StationLineModel" "kind" "I") (List.mem_of_getElem? (i := 3) rfl)) (congrArg (fun x => some (Value.int x)) (Fm_1 hFz1)) dX6_carryAll_16 ?_
  refine b_iast hx hb hK hH 22 (by decide) rfl (by unfold vp_in; decide) (upA z1 22 (upd (z1.2.1 22) (1 : Int32).toNatClampNeg 0)) rfl (enM_A _ _ _ _ _) dX6_carryAll_19 (fun H locs hH => ?_)
  obtain ⟨z2, hz2⟩ : ∃ w : zS, w = upA z1 22 (upd (z1.2.1 22) (1 : Int32).toNatClampNeg 0) := ⟨_, rfl⟩
  rw [← hz2] at hH
  have hFz2 : Fm z2 := by rw [hz2]; exact hFz1
  refine lv_aload_n hx hb dX6_carryAll_20 rfl (lv_at hl 0 rfl) ?_
  refine b_get (ci := 6) (C := RX6) (T := TX6) (Nf := 29) (v := .ref (q 22)) hx hb hts in_X6_carryAll_X6 hown hK hH 0 (by decide) rfl rfl 28 (by decide) (hts (.fieldLink RX6 79 "StationLineModel" "some" "[I") (List.mem_of_getElem? (i := 1) rfl)) rfl dX6_carryAll_21 ?_
  refine lv_iconst (v := 2) hx hb dX6_carryAll_24 (by decide) ?_
  refine lv_aload_n hx hb dX6_carryAll_25 rfl (lv_at hl 0 rfl) ?_
  refine b_get (ci := 6) (C := RX6) (T := TX6) (Nf := 29) (v := .int (z2.1 2)) hx hb hts in_X6_carryAll_X6 hown hK hH 0 (by decide) rfl rfl 8 (by decide) (hts (.fieldLink RX6 28 "StationLineModel" "beat" "I") (List.mem_of_getElem? (i := 4) rfl)) rfl dX6_carryAll_26 ?_
  refine b_iast hx hb hK hH 22 (by decide) rfl (by unfold vp_in; decide) (upA z2 22 (upd (z2.2.1 22) (2 : Int32).toNatClampNeg (z2.1 2))) rfl (enM_A _ _ _ _ _) dX6_carryAll_29 (fun H locs hH => ?_)
  obtain ⟨z3, hz3⟩ : ∃ w : zS, w = upA z2 22 (upd (z2.2.1 22) (2 : Int32).toNatClampNeg (z2.1 2)) := ⟨_, rfl⟩
  rw [← hz3] at hH
  have hFz3 : Fm z3 := by rw [hz3]; exact hFz2
  refine lv_aload_n hx hb dX6_carryAll_30 rfl (lv_at hl 0 rfl) ?_
  refine lv_aload_n hx hb dX6_carryAll_31 rfl (lv_at hl 0 rfl) ?_
  refine b_get (ci := 6) (C := RX6) (T := TX6) (Nf := 29) (v := .ref (q 22)) hx hb hts in_X6_carryAll_X6 hown hK hH 0 (by decide) rfl rfl 28 (by decide) (hts (.fieldLink RX6 79 "StationLineModel" "some" "[I") (List.mem_of_getElem? (i := 1) rfl)) rfl dX6_carryAll_32 ?_
  refine lv_iconst (v := 3) hx hb dX6_carryAll_35 (by decide) ?_
  refine lv_iconst (v := 0) hx hb dX6_carryAll_36 (by decide) ?_
  refine lv_iload_n hx hb dX6_carryAll_37 rfl (lv_at hl 1 rfl) ?_
  refine b_calli (As := [.ref (q 22), .int 3, .int 0, .int 0]) (rest := []) ⟨hx, hb, hml, hown, hts⟩ 0 6 (c_X6_carry l D cy q hH.2.1 z3 22 3 3 0 (by decide) (by decide) (fun _ => rfl) (by decide) (by decide) (by decide)) (cwV 4 hts gX6_carryAll_X6_carry rfl rfl rfl (by decide +kernel) ⟨Nat.le_of_ble_eq_true rfl, Nat.le_of_ble_eq_true rfl⟩) hK hZ hH (by decide) rfl rfl rfl hl.1 rfl (Nat.le_of_ble_eq_true rfl) ⟨Nat.zero_le _, Nat.zero_le _⟩ dX6_carryAll_38 (fun r4 z4 H locs hp4 hH => ?_)
  obtain ⟨rfl, g4, hz4⟩ := hp4
  have hz4 := hz4.symm
  have hFz4 : Fm z4 := by rw [hz4]; exact hFz3
  refine b_vi (v := 3) (by rfl) ?_
  refine lv_istore_n (lv' := [(2, .int 3), (0, .ref (q 0)), (1, .int 0)]) hx hb dX6_carryAll_41 rfl hl (by decide) rfl (fun ls hl => ?_)
  refine lv_aload_n hx hb dX6_carryAll_42 rfl (lv_at hl 1 rfl) ?_
  refine lv_aload_n hx hb dX6_carryAll_43 rfl (lv_at hl 1 rfl) ?_
  refine b_get (ci := 6) (C := RX6) (T := TX6) (Nf := 29) (v := .ref (q 1)) hx hb hts in_X6_carryAll_X6 hown hK hH 0 (by decide) rfl rfl 1 (by decide) (hts (.fieldLink RX6 7 "StationLineModel" "times" "[I") (List.mem_of_getElem? (i := 5) rfl)) rfl dX6_carryAll_44 ?_
  refine lv_bipush (v := 30) hx hb dX6_carryAll_47 (by decide) ?_
  refine lv_iload_n hx hb dX6_carryAll_49 rfl (lv_at hl 0 rfl) ?_
  refine lv_iload_n hx hb dX6_carryAll_50 rfl (lv_at hl 2 rfl) ?_
  refine b_calli (As := [.ref (q 1), .int 30, .int 3, .int 0]) (rest := []) ⟨hx, hb, hml, hown, hts⟩ 0 6 (c_X6_carry l D cy q hH.2.1 z4 1 30 30 3 (by decide) (by decide) (fun _ => rfl) (by decide) (by decide) (by decide)) (cwV 4 hts gX6_carryAll_X6_carry rfl rfl rfl (by decide +kernel) ⟨Nat.le_of_ble_eq_true rfl, Nat.le_of_ble_eq_true rfl⟩) hK hZ hH (by decide) rfl rfl rfl hl.1 rfl (Nat.le_of_ble_eq_true rfl) ⟨Nat.zero_le _, Nat.zero_le _⟩ dX6_carryAll_51 (fun r5 z5 H locs hp5 hH => ?_)
  obtain ⟨rfl, g5, hz5⟩ := hp5
  have hz5 := hz5.symm
  have hFz5 : Fm z5 := by rw [hz5]; exact hFz4
  refine b_vi (v := 33) (by rfl) ?_
  refine lv_istore_n (lv' := [(2, .int 33), (0, .ref (q 0)), (1, .int 0)]) hx hb dX6_carryAll_54 rfl hl (by decide) rfl (fun ls hl => ?_)
  refine lv_aload_n hx hb dX6_carryAll_55 rfl (lv_at hl 1 rfl) ?_
  refine lv_aload_n hx hb dX6_carryAll_56 rfl (lv_at hl 1 rfl) ?_
  refine b_get (ci := 6) (C := RX6) (T := TX6) (Nf := 29) (v := .ref (q 2)) hx hb hts in_X6_carryAll_X6 hown hK hH 0 (by decide) rfl rfl 2 (by decide) (hts (.fieldLink RX6 13 "StationLineModel" "shares" "[I") (List.mem_of_getElem? (i := 6) rfl)) rfl dX6_carryAll_57 ?_
  refine lv_iconst (v := 3) hx hb dX6_carryAll_60 (by decide) ?_
  refine lv_iload_n hx hb dX6_carryAll_61 rfl (lv_at hl 0 rfl) ?_
  refine lv_iload_n hx hb dX6_carryAll_62 rfl (lv_at hl 2 rfl) ?_
  refine b_calli (As := [.ref (q 2), .int 3, .int 33, .int 0]) (rest := []) ⟨hx, hb, hml, hown, hts⟩ 0 6 (c_X6_carry l D cy q hH.2.1 z5 2 3 3 33 (by decide) (by decide) (fun _ => rfl) (by decide) (by decide) (by decide)) (cwV 4 hts gX6_carryAll_X6_carry rfl rfl rfl (by decide +kernel) ⟨Nat.le_of_ble_eq_true rfl, Nat.le_of_ble_eq_true rfl⟩) hK hZ hH (by decide) rfl rfl rfl hl.1 rfl (Nat.le_of_ble_eq_true rfl) ⟨Nat.zero_le _, Nat.zero_le _⟩ dX6_carryAll_63 (fun r6 z6 H locs hp6 hH => ?_)
  obtain ⟨rfl, g6, hz6⟩ := hp6
  have hz6 := hz6.symm
  have hFz6 : Fm z6 := by rw [hz6]; exact hFz5
  refine b_vi (v := 36) (by rfl) ?_
  refine lv_istore_n (lv' := [(2, .int 36), (0, .ref (q 0)), (1, .int 0)]) hx hb dX6_carryAll_66 rfl hl (by decide) rfl (fun ls hl => ?_)
  refine lv_aload_n hx hb dX6_carryAll_67 rfl (lv_at hl 1 rfl) ?_
  refine lv_aload_n hx hb dX6_carryAll_68 rfl (lv_at hl 1 rfl) ?_
  refine b_get (ci := 6) (C := RX6) (T := TX6) (Nf := 29) (v := .ref (q 3)) hx hb hts in_X6_carryAll_X6 hown hK hH 0 (by decide) rfl rfl 3 (by decide) (hts (.fieldLink RX6 16 "StationLineModel" "straight" "[I") (List.mem_of_getElem? (i := 7) rfl)) rfl dX6_carryAll_69 ?_
  refine lv_bipush (v := 10) hx hb dX6_carryAll_72 (by decide) ?_
  refine lv_iload_n hx hb dX6_carryAll_74 rfl (lv_at hl 0 rfl) ?_
  refine lv_iload_n hx hb dX6_carryAll_75 rfl (lv_at hl 2 rfl) ?_
  refine b_calli (As := [.ref (q 3), .int 10, .int 36, .int 0]) (rest := []) ⟨hx, hb, hml, hown, hts⟩ 0 6 (c_X6_carry l D cy q hH.2.1 z6 3 10 10 36 (by decide) (by decide) (fun _ => rfl) (by decide) (by decide) (by decide)) (cwV 4 hts gX6_carryAll_X6_carry rfl rfl rfl (by decide +kernel) ⟨Nat.le_of_ble_eq_true rfl, Nat.le_of_ble_eq_true rfl⟩) hK hZ hH (by decide) rfl rfl rfl hl.1 rfl (Nat.le_of_ble_eq_true rfl) ⟨Nat.zero_le _, Nat.zero_le _⟩ dX6_carryAll_76 (fun r7 z7 H locs hp7 hH => ?_)
  obtain ⟨rfl, g7, hz7⟩ := hp7
  have hz7 := hz7.symm
  have hFz7 : Fm z7 := by rw [hz7]; exact hFz6
  refine b_vi (v := 46) (by rfl) ?_
  refine lv_istore_n (lv' := [(2, .int 46), (0, .ref (q 0)), (1, .int 0)]) hx hb dX6_carryAll_79 rfl hl (by decide) rfl (fun ls hl => ?_)
  refine lv_aload_n hx hb dX6_carryAll_80 rfl (lv_at hl 1 rfl) ?_
  refine lv_aload_n hx hb dX6_carryAll_81 rfl (lv_at hl 1 rfl) ?_
  refine b_get (ci := 6) (C := RX6) (T := TX6) (Nf := 29) (v := .ref (q 4)) hx hb hts in_X6_carryAll_X6 hown hK hH 0 (by decide) rfl rfl 4 (by decide) (hts (.fieldLink RX6 19 "StationLineModel" "pairs" "[I") (List.mem_of_getElem? (i := 8) rfl)) rfl dX6_carryAll_82 ?_
  refine lv_bipush (v := 100) hx hb dX6_carryAll_85 (by decide) ?_
  refine lv_iload_n hx hb dX6_carryAll_87 rfl (lv_at hl 0 rfl) ?_
  refine lv_iload_n hx hb dX6_carryAll_88 rfl (lv_at hl 2 rfl) ?_
  refine b_calli (As := [.ref (q 4), .int 100, .int 46, .int 0]) (rest := []) ⟨hx, hb, hml, hown, hts⟩ 0 6 (c_X6_carry l D cy q hH.2.1 z7 4 100 100 46 (by decide) (by decide) (fun _ => rfl) (by decide) (by decide) (by decide)) (cwV 4 hts gX6_carryAll_X6_carry rfl rfl rfl (by decide +kernel) ⟨Nat.le_of_ble_eq_true rfl, Nat.le_of_ble_eq_true rfl⟩) hK hZ hH (by decide) rfl rfl rfl hl.1 rfl (Nat.le_of_ble_eq_true rfl) ⟨Nat.zero_le _, Nat.zero_le _⟩ dX6_carryAll_89 (fun r8 z8 H locs hp8 hH => ?_)
  obtain ⟨rfl, g8, hz8⟩ := hp8
  have hz8 := hz8.symm
  have hFz8 : Fm z8 := by rw [hz8]; exact hFz7
  refine b_vi (v := 146) (by rfl) ?_
  refine lv_istore_n (lv' := [(2, .int 146), (0, .ref (q 0)), (1, .int 0)]) hx hb dX6_carryAll_92 rfl hl (by decide) rfl (fun ls hl => ?_)
  refine lv_aload_n hx hb dX6_carryAll_93 rfl (lv_at hl 1 rfl) ?_
  refine lv_aload_n hx hb dX6_carryAll_94 rfl (lv_at hl 1 rfl) ?_
  refine b_get (ci := 6) (C := RX6) (T := TX6) (Nf := 29) (v := .ref (q 5)) hx hb hts in_X6_carryAll_X6 hown hK hH 0 (by decide) rfl rfl 5 (by decide) (hts (.fieldLink RX6 22 "StationLineModel" "held" "[I") (List.mem_of_getElem? (i := 9) rfl)) rfl dX6_carryAll_95 ?_
  refine lv_bipush (v := 10) hx hb dX6_carryAll_98 (by decide) ?_
  refine lv_iload_n hx hb dX6_carryAll_100 rfl (lv_at hl 0 rfl) ?_
  refine lv_iload_n hx hb dX6_carryAll_101 rfl (lv_at hl 2 rfl) ?_
  refine b_calli (As := [.ref (q 5), .int 10, .int 146, .int 0]) (rest := []) ⟨hx, hb, hml, hown, hts⟩ 0 6 (c_X6_carry l D cy q hH.2.1 z8 5 10 10 146 (by decide) (by decide) (fun _ => rfl) (by decide) (by decide) (by decide)) (cwV 4 hts gX6_carryAll_X6_carry rfl rfl rfl (by decide +kernel) ⟨Nat.le_of_ble_eq_true rfl, Nat.le_of_ble_eq_true rfl⟩) hK hZ hH (by decide) rfl rfl rfl hl.1 rfl (Nat.le_of_ble_eq_true rfl) ⟨Nat.zero_le _, Nat.zero_le _⟩ dX6_carryAll_102 (fun r9 z9 H locs hp9 hH => ?_)
  obtain ⟨rfl, g9, hz9⟩ := hp9
  have hz9 := hz9.symm
  have hFz9 : Fm z9 := by rw [hz9]; exact hFz8
  refine b_vi (v := 156) (by rfl) ?_
  refine lv_istore_n (lv' := [(2, .int 156), (0, .ref (q 0)), (1, .int 0)]) hx hb dX6_carryAll_105 rfl hl (by decide) rfl (fun ls hl => ?_)
  refine lv_aload_n hx hb dX6_carryAll_106 rfl (lv_at hl 1 rfl) ?_
  refine lv_aload_n hx hb dX6_carryAll_107 rfl (lv_at hl 1 rfl) ?_
  refine b_get (ci := 6) (C := RX6) (T := TX6) (Nf := 29) (v := .ref (q 6)) hx hb hts in_X6_carryAll_X6 hown hK hH 0 (by decide) rfl rfl 6 (by decide) (hts (.fieldLink RX6 25 "StationLineModel" "hand" "[I") (List.mem_of_getElem? (i := 10) rfl)) rfl dX6_carryAll_108 ?_
  refine lv_bipush (v := 10) hx hb dX6_carryAll_111 (by decide) ?_
  refine lv_iload_n hx hb dX6_carryAll_113 rfl (lv_at hl 0 rfl) ?_
  refine lv_iload_n hx hb dX6_carryAll_114 rfl (lv_at hl 2 rfl) ?_
  refine b_calli (As := [.ref (q 6), .int 10, .int 156, .int 0]) (rest := []) ⟨hx, hb, hml, hown, hts⟩ 0 6 (c_X6_carry l D cy q hH.2.1 z9 6 10 10 156 (by decide) (by decide) (fun _ => rfl) (by decide) (by decide) (by decide)) (cwV 4 hts gX6_carryAll_X6_carry rfl rfl rfl (by decide +kernel) ⟨Nat.le_of_ble_eq_true rfl, Nat.le_of_ble_eq_true rfl⟩) hK hZ hH (by decide) rfl rfl rfl hl.1 rfl (Nat.le_of_ble_eq_true rfl) ⟨Nat.zero_le _, Nat.zero_le _⟩ dX6_carryAll_115 (fun r10 z10 H locs hp10 hH => ?_)
  obtain ⟨rfl, g10, hz10⟩ := hp10
  have hz10 := hz10.symm
  have hFz10 : Fm z10 := by rw [hz10]; exact hFz9
  refine b_vi (v := 166) (by rfl) ?_
  refine lv_istore_n (lv' := [(2, .int 166), (0, .ref (q 0)), (1, .int 0)]) hx hb dX6_carryAll_118 rfl hl (by decide) rfl (fun ls hl => ?_)
  refine lv_aload_n hx hb dX6_carryAll_119 rfl (lv_at hl 1 rfl) ?_
  refine lv_aload_n hx hb dX6_carryAll_120 rfl (lv_at hl 1 rfl) ?_
  refine b_get (ci := 6) (C := RX6) (T := TX6) (Nf := 29) (v := .ref (q 22)) hx hb hts in_X6_carryAll_X6 hown hK hH 0 (by decide) rfl rfl 28 (by decide) (hts (.fieldLink RX6 79 "StationLineModel" "some" "[I") (List.mem_of_getElem? (i := 1) rfl)) rfl dX6_carryAll_121 ?_
  refine lv_iconst (v := 0) hx hb dX6_carryAll_124 (by decide) ?_
  refine b_iald (v := 0) hx hb hK hH 22 (by decide) rfl (by unfold vp_in; decide) (by rw [hz10]; exact (by rw [hz9]; exact (by rw [hz8]; exact (by rw [hz7]; exact (by rw [hz6]; exact (by rw [hz5]; exact (by rw [hz4]; exact (by rw [hz3]; exact (by rw [hz2]; exact (by rw [hz1]; rfl)))))))))) dX6_carryAll_125 ?_
  refine b_put (ci := 6) (C := RX6) (T := TX6) (Nf := 29) (v := .int 0) (ty := .int) hx hb hts in_X6_carryAll_X6 tyX6 tyX6_ok nmX6 hown hK hH 0 (by decide) rfl rfl 0 (by decide) (hts (.fieldLink RX6 85 "StationLineModel" "tasks" "I") (List.mem_of_getElem? (i := 2) rfl)) rfl (by decide +kernel) rfl rfl (Nat.le_of_ble_eq_true rfl) (upS z10 0 0) rfl (enM_S0 _ _ _ _) dX6_carryAll_126 (fun H locs hH => ?_)
  obtain ⟨z11, hz11⟩ : ∃ w : zS, w = upS z10 0 0 := ⟨_, rfl⟩
  rw [← hz11] at hH
  have hFz11 : Fm z11 := by rw [hz11]; exact ⟨rfl, Fm_1 (z := z10) hFz10, Fm_2 (z := z10) hFz10, Fm_3 (z := z10) hFz10, Fm_4 (z := z10) hFz10, Fm_5 (z := z10) hFz10, Fm_6 (z := z10) hFz10, Fm_7 (z := z10) hFz10, Fm_8 (z := z10) hFz10, Fm_9 (z := z10) hFz10⟩
  refine lv_aload_n hx hb dX6_carryAll_129 rfl (lv_at hl 1 rfl) ?_
  refine lv_aload_n hx hb dX6_carryAll_130 rfl (lv_at hl 1 rfl) ?_
  refine b_get (ci := 6) (C := RX6) (T := TX6) (Nf := 29) (v := .ref (q 22)) hx hb hts in_X6_carryAll_X6 hown hK hH 0 (by decide) rfl rfl 28 (by decide) (hts (.fieldLink RX6 79 "StationLineModel" "some" "[I") (List.mem_of_getElem? (i := 1) rfl)) rfl dX6_carryAll_131 ?_
  refine lv_iconst (v := 1) hx hb dX6_carryAll_134 (by decide) ?_
  refine b_iald (v := 0) hx hb hK hH 22 (by decide) rfl (by unfold vp_in; decide) (by rw [hz11]; exact (by rw [hz10]; exact (by rw [hz9]; exact (by rw [hz8]; exact (by rw [hz7]; exact (by rw [hz6]; exact (by rw [hz5]; exact (by rw [hz4]; exact (by rw [hz3]; exact (by rw [hz2]; rfl)))))))))) dX6_carryAll_135 ?_
  refine b_put (ci := 6) (C := RX6) (T := TX6) (Nf := 29) (v := .int 0) (ty := .int) hx hb hts in_X6_carryAll_X6 tyX6 tyX6_ok nmX6 hown hK hH 0 (by decide) rfl rfl 7 (by decide) (hts (.fieldLink RX6 113 "StationLineModel" "kind" "I") (List.mem_of_getElem? (i := 3) rfl)) rfl (by decide +kernel) rfl rfl (Nat.le_of_ble_eq_true rfl) (upS z11 1 0) rfl (enM_S1 _ _ _ _) dX6_carryAll_136 (fun H locs hH => ?_)
  obtain ⟨z12, hz12⟩ : ∃ w : zS, w = upS z11 1 0 := ⟨_, rfl⟩
  rw [← hz12] at hH
  have hFz12 : Fm z12 := by rw [hz12]; exact ⟨Fm_0 (z := z11) hFz11, rfl, Fm_2 (z := z11) hFz11, Fm_3 (z := z11) hFz11, Fm_4 (z := z11) hFz11, Fm_5 (z := z11) hFz11, Fm_6 (z := z11) hFz11, Fm_7 (z := z11) hFz11, Fm_8 (z := z11) hFz11, Fm_9 (z := z11) hFz11⟩
  refine lv_aload_n hx hb dX6_carryAll_139 rfl (lv_at hl 1 rfl) ?_
  refine lv_aload_n hx hb dX6_carryAll_140 rfl (lv_at hl 1 rfl) ?_
  refine b_get (ci := 6) (C := RX6) (T := TX6) (Nf := 29) (v := .ref (q 22)) hx hb hts in_X6_carryAll_X6 hown hK hH 0 (by decide) rfl rfl 28 (by decide) (hts (.fieldLink RX6 79 "StationLineModel" "some" "[I") (List.mem_of_getElem? (i := 1) rfl)) rfl dX6_carryAll_141 ?_
  refine lv_iconst (v := 2) hx hb dX6_carryAll_144 (by decide) ?_
  refine b_iald (v := (z2.1 2)) hx hb hK hH 22 (by decide) rfl (by unfold vp_in; decide) (by rw [hz12]; exact (by rw [hz11]; exact (by rw [hz10]; exact (by rw [hz9]; exact (by rw [hz8]; exact (by rw [hz7]; exact (by rw [hz6]; exact (by rw [hz5]; exact (by rw [hz4]; exact (by rw [hz3]; rfl)))))))))) dX6_carryAll_145 ?_
  refine b_put (ci := 6) (C := RX6) (T := TX6) (Nf := 29) (v := .int (z2.1 2)) (ty := .int) hx hb hts in_X6_carryAll_X6 tyX6 tyX6_ok nmX6 hown hK hH 0 (by decide) rfl rfl 8 (by decide) (hts (.fieldLink RX6 28 "StationLineModel" "beat" "I") (List.mem_of_getElem? (i := 4) rfl)) rfl (by decide +kernel) rfl rfl (Nat.le_of_ble_eq_true rfl) (upS z12 2 (z2.1 2)) rfl (enM_S2 _ _ _ _) dX6_carryAll_146 (fun H locs hH => ?_)
  obtain ⟨z13, hz13⟩ : ∃ w : zS, w = upS z12 2 (z2.1 2) := ⟨_, rfl⟩
  rw [← hz13] at hH
  have hFz13 : Fm z13 := by rw [hz13]; exact hFz12
  exact b_vret hx hb hr hlocks hH (hFz13) dX6_carryAll_149
