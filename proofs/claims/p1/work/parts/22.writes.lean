set_option maxHeartbeats 4000000 in
set_option maxRecDepth 100000 in
theorem c_X1_copyRow_27 (l : Launch) (D : va_G) (cy : Nat → ClassId) (q : Nat → Nat) (hq : bJ 66 q) (z : zS) (hF : Fr z)    : bCv l yX1_copyRow wsX1_copyRow ({ frames := 1, cells := 0, slots := 0, locals := 40 }) D cy 66 (enC cy) q z [.ref (q 27), .ref (q 13)] (fun z' => Fr z') := by
  intro sz
  refine Met.ofW (cc := cX1_copyRow) (maxL := 2) (ret := none) (by decide) rfl ?_
  intro p e s m args below meth c s₁ B hml hv
  obtain ⟨rfl, hsz, hP, hK, hZ⟩ := hv
  have hx := B.exec
  have hb := B.bytes
  have hr := B.returns
  have hts := atoms_spec (ws := wsX1_copyRow) B.pre
  have hown : s.vm.findClass RX1 = some m.cls := findClass_of_methodNamed B.named
  have hlocks := B.notSynchronized
  subst hsz
  have hH : bH D 66 (enC cy) q z s.heap s.heap [] := bH_in hq hP
  have hl := lv_entry ([.ref (q 27), .ref (q 13)]) (n := 2) (Nat.le_of_ble_eq_true rfl)
  rw [lg_entry_eq]
  generalize (lg_sl ([.ref (q 27), .ref (q 13)]) ++ List.replicate (2 - (lg_sl ([.ref (q 27), .ref (q 13)])).length) Slot.unset).toArray = ls at hl ⊢
  have hl : lv_has ls 2 [(0, .ref (q 27)), (1, .ref (q 13))] := hl
  refine lv_aload_n hx hb dX1_copyRow_0 rfl (lv_at hl 1 rfl) ?_
  refine b_get (ci := 1) (C := RX1) (T := TX1) (Nf := 2) (v := .ref (q 14)) hx hb hts in_X1_copyRow_X1 hown hK hH 13 (by decide) rfl rfl 1 (by decide) (hts (.fieldLink RX1 9 "StationLine$Putting" "row" "[I") (List.mem_of_getElem? (i := 1) rfl)) rfl dX1_copyRow_1 ?_
  refine lv_iconst (v := 0) hx hb dX1_copyRow_4 (by decide) ?_
  refine lv_aload_n hx hb dX1_copyRow_5 rfl (lv_at hl 0 rfl) ?_
  refine b_get (ci := 1) (C := RX1) (T := TX1) (Nf := 2) (v := .ref (q 28)) hx hb hts in_X1_copyRow_X1 hown hK hH 27 (by decide) rfl rfl 1 (by decide) (hts (.fieldLink RX1 9 "StationLine$Putting" "row" "[I") (List.mem_of_getElem? (i := 1) rfl)) rfl dX1_copyRow_6 ?_
  refine lv_iconst (v := 0) hx hb dX1_copyRow_9 (by decide) ?_
  refine lv_bipush (v := 10) hx hb dX1_copyRow_10 (by decide) ?_
  refine b_copyi hx hb (by rw [hml]; exact hl.1.symm) hown (hts (.methodLink RX1 19 arraycopyName) (List.mem_of_getElem? (i := 2) rfl)) (hts (.native arraycopyName) (List.mem_of_getElem? (i := 3) rfl)) (hts (.static arraycopyName) (List.mem_of_getElem? (i := 4) rfl)) (hts (.initialized "java/lang/System") (List.mem_of_getElem? (i := 5) rfl)) hK hH 14 28 (by decide) (by decide) rfl rfl (by decide) (by decide) (by decide) (by decide) (by decide) (Nat.le_of_ble_eq_true rfl) (Nat.le_of_ble_eq_true rfl) (upA z 28 (va_cpy (z.2.1 14) (z.2.1 28) (0 : Int32).toNatClampNeg (0 : Int32).toNatClampNeg (10 : Int32).toNatClampNeg)) rfl (enC_A _ _ _ _ _) dX1_copyRow_12 (fun H locs hH => ?_)
  obtain ⟨z1, hz1⟩ : ∃ w : zS, w = upA z 28 (va_cpy (z.2.1 14) (z.2.1 28) (0 : Int32).toNatClampNeg (0 : Int32).toNatClampNeg (10 : Int32).toNatClampNeg) := ⟨_, rfl⟩
  rw [← hz1] at hH
  have hFz1 : Fr z1 := by rw [hz1]; exact hF
  exact b_vret hx hb hr hlocks hH (hFz1) dX1_copyRow_15
set_option maxHeartbeats 4000000 in
set_option maxRecDepth 100000 in
theorem c_X1_copyRow_13 (l : Launch) (D : va_G) (cy : Nat → ClassId) (q : Nat → Nat) (hq : bJ 66 q) (z : zS) (hF : Fr z)    : bCv l yX1_copyRow wsX1_copyRow ({ frames := 1, cells := 0, slots := 0, locals := 40 }) D cy 66 (enC cy) q z [.ref (q 13), .ref (q 55)] (fun z' => Fr z') := by
  intro sz
  refine Met.ofW (cc := cX1_copyRow) (maxL := 2) (ret := none) (by decide) rfl ?_
  intro p e s m args below meth c s₁ B hml hv
  obtain ⟨rfl, hsz, hP, hK, hZ⟩ := hv
  have hx := B.exec
  have hb := B.bytes
  have hr := B.returns
  have hts := atoms_spec (ws := wsX1_copyRow) B.pre
  have hown : s.vm.findClass RX1 = some m.cls := findClass_of_methodNamed B.named
  have hlocks := B.notSynchronized
  subst hsz
  have hH : bH D 66 (enC cy) q z s.heap s.heap [] := bH_in hq hP
  have hl := lv_entry ([.ref (q 13), .ref (q 55)]) (n := 2) (Nat.le_of_ble_eq_true rfl)
  rw [lg_entry_eq]
  generalize (lg_sl ([.ref (q 13), .ref (q 55)]) ++ List.replicate (2 - (lg_sl ([.ref (q 13), .ref (q 55)])).length) Slot.unset).toArray = ls at hl ⊢
  have hl : lv_has ls 2 [(0, .ref (q 13)), (1, .ref (q 55))] := hl
  refine lv_aload_n hx hb dX1_copyRow_0 rfl (lv_at hl 1 rfl) ?_
  refine b_get (ci := 1) (C := RX1) (T := TX1) (Nf := 2) (v := .ref (q 56)) hx hb hts in_X1_copyRow_X1 hown hK hH 55 (by decide) rfl rfl 1 (by decide) (hts (.fieldLink RX1 9 "StationLine$Putting" "row" "[I") (List.mem_of_getElem? (i := 1) rfl)) rfl dX1_copyRow_1 ?_
  refine lv_iconst (v := 0) hx hb dX1_copyRow_4 (by decide) ?_
  refine lv_aload_n hx hb dX1_copyRow_5 rfl (lv_at hl 0 rfl) ?_
  refine b_get (ci := 1) (C := RX1) (T := TX1) (Nf := 2) (v := .ref (q 14)) hx hb hts in_X1_copyRow_X1 hown hK hH 13 (by decide) rfl rfl 1 (by decide) (hts (.fieldLink RX1 9 "StationLine$Putting" "row" "[I") (List.mem_of_getElem? (i := 1) rfl)) rfl dX1_copyRow_6 ?_
  refine lv_iconst (v := 0) hx hb dX1_copyRow_9 (by decide) ?_
  refine lv_bipush (v := 10) hx hb dX1_copyRow_10 (by decide) ?_
  refine b_copyi hx hb (by rw [hml]; exact hl.1.symm) hown (hts (.methodLink RX1 19 arraycopyName) (List.mem_of_getElem? (i := 2) rfl)) (hts (.native arraycopyName) (List.mem_of_getElem? (i := 3) rfl)) (hts (.static arraycopyName) (List.mem_of_getElem? (i := 4) rfl)) (hts (.initialized "java/lang/System") (List.mem_of_getElem? (i := 5) rfl)) hK hH 56 14 (by decide) (by decide) rfl rfl (by decide) (by decide) (by decide) (by decide) (by decide) (Nat.le_of_ble_eq_true rfl) (Nat.le_of_ble_eq_true rfl) (upA z 14 (va_cpy (z.2.1 56) (z.2.1 14) (0 : Int32).toNatClampNeg (0 : Int32).toNatClampNeg (10 : Int32).toNatClampNeg)) rfl (enC_A _ _ _ _ _) dX1_copyRow_12 (fun H locs hH => ?_)
  obtain ⟨z1, hz1⟩ : ∃ w : zS, w = upA z 14 (va_cpy (z.2.1 56) (z.2.1 14) (0 : Int32).toNatClampNeg (0 : Int32).toNatClampNeg (10 : Int32).toNatClampNeg) := ⟨_, rfl⟩
  rw [← hz1] at hH
  have hFz1 : Fr z1 := by rw [hz1]; exact hF
  exact b_vret hx hb hr hlocks hH (hFz1) dX1_copyRow_15
set_option maxHeartbeats 4000000 in
set_option maxRecDepth 100000 in
theorem c_X1_putByRule_55 (l : Launch) (D : va_G) (cy : Nat → ClassId) (q : Nat → Nat) (hq : bJ 66 q) (z : zS) (hF : Fr z) (w : Int32)   : bCi l yX1_putByRule wsX1_putByRule ({ frames := 5, cells := 0, slots := 0, locals := 124 }) D cy 66 (enC cy) q z [.ref (q 55), .int w] (fun r z' => Fr z' ∧ (1 : Int32) = r) := by
  intro sz
  refine Met.ofW (cc := cX1_putByRule) (maxL := 7) (ret := (some .boolean)) (by decide) rfl ?_
  intro p e s m args below meth c s₁ B hml hv
  obtain ⟨rfl, hsz, hP, hK, hZ⟩ := hv
  have hx := B.exec
  have hb := B.bytes
  have hr := B.returns
  have hts := atoms_spec (ws := wsX1_putByRule) B.pre
  have hown : s.vm.findClass RX1 = some m.cls := findClass_of_methodNamed B.named
  have hlocks := B.notSynchronized
  subst hsz
  have hH : bH D 66 (enC cy) q z s.heap s.heap [] := bH_in hq hP
  have hl := lv_entry ([.ref (q 55), .int w]) (n := 7) (Nat.le_of_ble_eq_true rfl)
  rw [lg_entry_eq]
  generalize (lg_sl ([.ref (q 55), .int w]) ++ List.replicate (7 - (lg_sl ([.ref (q 55), .int w])).length) Slot.unset).toArray = ls at hl ⊢
  have hl : lv_has ls 7 [(0, .ref (q 55)), (1, .int w)] := hl
  refine lv_aload_n hx hb dX1_putByRule_0 rfl (lv_at hl 0 rfl) ?_
  refine b_calli (As := []) (rest := []) ⟨hx, hb, hml, hown, hts⟩ 55 1 (c_X1_someTaskIsTooMuch_55 l D cy q hH.2.1 z hF  ) (cwV 0 hts gX1_putByRule_X1_someTaskIsTooMuch rfl rfl rfl (by decide +kernel) ⟨Nat.le_of_ble_eq_true rfl, Nat.le_of_ble_eq_true rfl⟩) hK hZ hH (by decide) rfl rfl rfl hl.1 rfl (Nat.le_of_ble_eq_true rfl) ⟨Nat.zero_le _, Nat.zero_le _⟩ dX1_putByRule_1 (fun r1 z1 H locs hp1 hH => ?_)
  obtain ⟨rfl, rfl⟩ := hp1
  refine lv_if_eq (tgt := 9) hx hb dX1_putByRule_4 (by decide) (fun _ => ?_) (fun c0 => absurd c0 (by decide))
  refine lv_aload_n hx hb dX1_putByRule_9 rfl (lv_at hl 0 rfl) ?_
  refine b_get (ci := 1) (C := RX1) (T := TX1) (Nf := 2) (v := .ref (q 56)) hx hb hts in_X1_putByRule_X1 hown hK hH 55 (by decide) rfl rfl 1 (by decide) (hts (.fieldLink RX1 9 "StationLine$Putting" "row" "[I") (List.mem_of_getElem? (i := 1) rfl)) rfl dX1_putByRule_10 ?_
  refine lv_iconst (v := 0) hx hb dX1_putByRule_13 (by decide) ?_
  refine b_statv (As := [.ref (q 56), .int 0]) (rest := []) ⟨hx, hb, hml, hown, hts⟩ (c_fill l D cy 66 (enC cy) q hH.2.1 z 56 10 0 (by decide) (by decide) (fun _ => rfl) (fun w f => enC_A _ _ _ _ _)) (va_cwS 2 hts gX1_putByRule_J7_fill_53178 rfl rfl rfl (by decide +kernel) ⟨Nat.le_of_ble_eq_true rfl, Nat.le_of_ble_eq_true rfl⟩) hK hZ hH rfl hl.1 rfl (Nat.le_of_ble_eq_true rfl) ⟨Nat.zero_le _, Nat.zero_le _⟩ dX1_putByRule_14 (fun z2 H locs hp2 hH => ?_)
  obtain ⟨f2, hz2, hf2⟩ := hp2
  have hz2 := hz2.symm
  have hFz2 : Fr z2 := by rw [hz2]; exact hF
  refine lv_iconst (v := 0) hx hb dX1_putByRule_17 (by decide) ?_
  refine lv_istore_n (lv' := [(2, .int 0), (0, .ref (q 55)), (1, .int w)]) hx hb dX1_putByRule_18 rfl hl (by decide) rfl (fun ls hl => ?_)
  refine lv_iconst (v := 0) hx hb dX1_putByRule_19 (by decide) ?_
  refine lv_istore_n (lv' := [(3, .int 0), (2, .int 0), (0, .ref (q 55)), (1, .int w)]) hx hb dX1_putByRule_20 rfl hl (by decide) rfl (fun ls hl => ?_)
  refine lv_iconst (v := 1) hx hb dX1_putByRule_21 (by decide) ?_
  refine lv_istore (lv' := [(4, .int 1), (3, .int 0), (2, .int 0), (0, .ref (q 55)), (1, .int w)]) hx hb dX1_putByRule_22 hl (by decide) rfl (fun ls hl => ?_)
  refine lv_iconst (v := 0) hx hb dX1_putByRule_24 (by decide) ?_
  refine lv_istore (lv' := [(5, .int 0), (4, .int 1), (3, .int 0), (2, .int 0), (0, .ref (q 55)), (1, .int w)]) hx hb dX1_putByRule_25 hl (by decide) rfl (fun ls hl => ?_)
  refine lv_iload hx hb dX1_putByRule_27 (lv_at hl 0 rfl) ?_
  refine lv_bipush (v := 20) hx hb dX1_putByRule_29 (by decide) ?_
  refine lv_icmp_ge (tgt := 108) hx hb dX1_putByRule_31 (by decide) (fun c0 => absurd c0 (by decide)) (fun _ => ?_)
  refine lv_iload_n hx hb dX1_putByRule_34 rfl (lv_at hl 3 rfl) ?_
  refine lv_aload_n hx hb dX1_putByRule_35 rfl (lv_at hl 4 rfl) ?_
  refine b_get (ci := 1) (C := RX1) (T := TX1) (Nf := 2) (v := .ref (q 1)) hx hb hts in_X1_putByRule_X1 hown hK hH 55 (by decide) rfl rfl 0 (by decide) (hts (.fieldLink RX1 15 "StationLine$Putting" "bench" "LStationLine$Bench;") (List.mem_of_getElem? (i := 2) rfl)) rfl dX1_putByRule_36 ?_
  refine b_calli (As := []) (rest := [.int 0]) ⟨hx, hb, hml, hown, hts⟩ 1 0 (c_X0_all_1 l D cy q hH.2.1 z2 hFz2  ) (cwV 0 hts gX1_putByRule_X0_all rfl rfl rfl (by decide +kernel) ⟨Nat.le_of_ble_eq_true rfl, Nat.le_of_ble_eq_true rfl⟩) hK hZ hH (by decide) rfl rfl rfl hl.1 rfl (Nat.le_of_ble_eq_true rfl) ⟨Nat.zero_le _, Nat.zero_le _⟩ dX1_putByRule_39 (fun r3 z3 H locs hp3 hH => ?_)
  obtain ⟨rfl, rfl⟩ := hp3
  refine lv_icmp_eq (tgt := 108) hx hb dX1_putByRule_42 (by decide) (fun _ => ?_) (fun c0 => absurd c0 (by decide))
  refine lv_iload_n hx hb dX1_putByRule_108 rfl (lv_at hl 3 rfl) ?_
  refine lv_aload_n hx hb dX1_putByRule_109 rfl (lv_at hl 4 rfl) ?_
  refine b_get (ci := 1) (C := RX1) (T := TX1) (Nf := 2) (v := .ref (q 1)) hx hb hts in_X1_putByRule_X1 hown hK hH 55 (by decide) rfl rfl 0 (by decide) (hts (.fieldLink RX1 15 "StationLine$Putting" "bench" "LStationLine$Bench;") (List.mem_of_getElem? (i := 2) rfl)) rfl dX1_putByRule_110 ?_
  refine b_calli (As := []) (rest := [.int 0]) ⟨hx, hb, hml, hown, hts⟩ 1 0 (c_X0_all_1 l D cy q hH.2.1 z2 hFz2  ) (cwV 0 hts gX1_putByRule_X0_all rfl rfl rfl (by decide +kernel) ⟨Nat.le_of_ble_eq_true rfl, Nat.le_of_ble_eq_true rfl⟩) hK hZ hH (by decide) rfl rfl rfl hl.1 rfl (Nat.le_of_ble_eq_true rfl) ⟨Nat.zero_le _, Nat.zero_le _⟩ dX1_putByRule_113 (fun r4 z4 H locs hp4 hH => ?_)
  obtain ⟨rfl, rfl⟩ := hp4
  refine lv_icmp_ne (tgt := 123) hx hb dX1_putByRule_116 (by decide) (fun c0 => absurd c0 (by decide)) (fun _ => ?_)
  refine lv_iconst (v := 1) hx hb dX1_putByRule_119 (by decide) ?_
  refine lv_goto (tgt := 124) hx hb dX1_putByRule_120 (by decide) ?_
  exact b_zret hx hb hr hlocks (by decide) hH (⟨hFz2, (by first | rfl | omega | (exfalso; omega))⟩) dX1_putByRule_124
set_option maxHeartbeats 4000000 in
set_option maxRecDepth 100000 in
theorem c_X0_become_15 (l : Launch) (D : va_G) (cy : Nat → ClassId) (q : Nat → Nat) (hq : bJ 66 q) (z : zS) (hF : Fr z)    : bCv l yX0_become wsX0_become ({ frames := 1, cells := 0, slots := 0, locals := 40 }) D cy 66 (enC cy) q z [.ref (q 15), .ref (q 1)] (fun z' => Fr z') := by
  intro sz
  refine Met.ofW (cc := cX0_become) (maxL := 3) (ret := none) (by decide) rfl ?_
  intro p e s m args below meth c s₁ B hml hv
  obtain ⟨rfl, hsz, hP, hK, hZ⟩ := hv
  have hx := B.exec
  have hb := B.bytes
  have hr := B.returns
  have hts := atoms_spec (ws := wsX0_become) B.pre
  have hown : s.vm.findClass RX0 = some m.cls := findClass_of_methodNamed B.named
  have hlocks := B.notSynchronized
  subst hsz
  have hH : bH D 66 (enC cy) q z s.heap s.heap [] := bH_in hq hP
  have hl := lv_entry ([.ref (q 15), .ref (q 1)]) (n := 3) (Nat.le_of_ble_eq_true rfl)
  rw [lg_entry_eq]
  generalize (lg_sl ([.ref (q 15), .ref (q 1)]) ++ List.replicate (3 - (lg_sl ([.ref (q 15), .ref (q 1)])).length) Slot.unset).toArray = ls at hl ⊢
  have hl : lv_has ls 3 [(0, .ref (q 15)), (1, .ref (q 1))] := hl
  refine lv_aload_n hx hb dX0_become_0 rfl (lv_at hl 0 rfl) ?_
  refine lv_aload_n hx hb dX0_become_1 rfl (lv_at hl 1 rfl) ?_
  refine b_get (ci := 0) (C := RX0) (T := TX0) (Nf := 11) (v := .int 0) hx hb hts in_X0_become_X0 hown hK hH 1 (by decide) rfl rfl 0 (by decide) (hts (.fieldLink RX0 9 "StationLine$Bench" "size" "I") (List.mem_of_getElem? (i := 1) rfl)) (congrArg (fun x => some (Value.int x)) (Fr_0 hF)) dX0_become_2 ?_
  refine b_put (ci := 0) (C := RX0) (T := TX0) (Nf := 11) (v := .int 0) (ty := .int) hx hb hts in_X0_become_X0 tyX0 tyX0_ok nmX0 hown hK hH 15 (by decide) rfl rfl 0 (by decide) (hts (.fieldLink RX0 9 "StationLine$Bench" "size" "I") (List.mem_of_getElem? (i := 1) rfl)) rfl (by decide +kernel) rfl rfl (Nat.le_of_ble_eq_true rfl) (upS z 3 0) rfl (enC_S3 _ _ _ _) dX0_become_5 (fun H locs hH => ?_)
  obtain ⟨z1, hz1⟩ : ∃ w : zS, w = upS z 3 0 := ⟨_, rfl⟩
  rw [← hz1] at hH
  have hFz1 : Fr z1 := by rw [hz1]; exact hF
  refine lv_aload_n hx hb dX0_become_8 rfl (lv_at hl 0 rfl) ?_
  refine lv_aload_n hx hb dX0_become_9 rfl (lv_at hl 1 rfl) ?_
  refine b_get (ci := 0) (C := RX0) (T := TX0) (Nf := 11) (v := .int 0) hx hb hts in_X0_become_X0 hown hK hH 1 (by decide) rfl rfl 1 (by decide) (hts (.fieldLink RX0 15 "StationLine$Bench" "kind" "I") (List.mem_of_getElem? (i := 2) rfl)) (congrArg (fun x => some (Value.int x)) (Fr_1 hFz1)) dX0_become_10 ?_
  refine b_put (ci := 0) (C := RX0) (T := TX0) (Nf := 11) (v := .int 0) (ty := .int) hx hb hts in_X0_become_X0 tyX0 tyX0_ok nmX0 hown hK hH 15 (by decide) rfl rfl 1 (by decide) (hts (.fieldLink RX0 15 "StationLine$Bench" "kind" "I") (List.mem_of_getElem? (i := 2) rfl)) rfl (by decide +kernel) rfl rfl (Nat.le_of_ble_eq_true rfl) (upS z1 4 0) rfl (enC_S4 _ _ _ _) dX0_become_13 (fun H locs hH => ?_)
  obtain ⟨z2, hz2⟩ : ∃ w : zS, w = upS z1 4 0 := ⟨_, rfl⟩
  rw [← hz2] at hH
  have hFz2 : Fr z2 := by rw [hz2]; exact hFz1
  refine lv_aload_n hx hb dX0_become_16 rfl (lv_at hl 0 rfl) ?_
  refine lv_aload_n hx hb dX0_become_17 rfl (lv_at hl 1 rfl) ?_
  refine b_get (ci := 0) (C := RX0) (T := TX0) (Nf := 11) (v := .int 10) hx hb hts in_X0_become_X0 hown hK hH 1 (by decide) rfl rfl 2 (by decide) (hts (.fieldLink RX0 18 "StationLine$Bench" "beat" "I") (List.mem_of_getElem? (i := 3) rfl)) (congrArg (fun x => some (Value.int x)) (Fr_2 hFz2)) dX0_become_18 ?_
  refine b_put (ci := 0) (C := RX0) (T := TX0) (Nf := 11) (v := .int 10) (ty := .int) hx hb hts in_X0_become_X0 tyX0 tyX0_ok nmX0 hown hK hH 15 (by decide) rfl rfl 2 (by decide) (hts (.fieldLink RX0 18 "StationLine$Bench" "beat" "I") (List.mem_of_getElem? (i := 3) rfl)) rfl (by decide +kernel) rfl rfl (Nat.le_of_ble_eq_true rfl) (upS z2 5 10) rfl (enC_S5 _ _ _ _) dX0_become_21 (fun H locs hH => ?_)
  obtain ⟨z3, hz3⟩ : ∃ w : zS, w = upS z2 5 10 := ⟨_, rfl⟩
  rw [← hz3] at hH
  have hFz3 : Fr z3 := by rw [hz3]; exact hFz2
  refine lv_iconst (v := 0) hx hb dX0_become_24 (by decide) ?_
  refine lv_istore_n (lv' := [(2, .int 0), (0, .ref (q 15)), (1, .ref (q 1))]) hx hb dX0_become_25 rfl hl (by decide) rfl (fun ls hl => ?_)
  refine lv_iload_n hx hb dX0_become_26 rfl (lv_at hl 0 rfl) ?_
  refine lv_iconst (v := 3) hx hb dX0_become_27 (by decide) ?_
  refine lv_icmp_ge (tgt := 56) hx hb dX0_become_28 (by decide) (fun c0 => absurd c0 (by decide)) (fun _ => ?_)
  refine lv_aload_n hx hb dX0_become_31 rfl (lv_at hl 2 rfl) ?_
  refine b_get (ci := 0) (C := RX0) (T := TX0) (Nf := 11) (v := .ref (q 3)) hx hb hts in_X0_become_X0 hown hK hH 1 (by decide) rfl rfl 4 (by decide) (hts (.fieldLink RX0 27 "StationLine$Bench" "times" "[[I") (List.mem_of_getElem? (i := 4) rfl)) rfl dX0_become_32 ?_
  refine lv_iload_n hx hb dX0_become_35 rfl (lv_at hl 0 rfl) ?_
  refine b_aald (a := q 4) hx hb hK hH 3 3 (by decide) rfl rfl (by unfold vp_in; decide) rfl dX0_become_36 ?_
  refine lv_iconst (v := 0) hx hb dX0_become_37 (by decide) ?_
  refine lv_aload_n hx hb dX0_become_38 rfl (lv_at hl 1 rfl) ?_
  refine b_get (ci := 0) (C := RX0) (T := TX0) (Nf := 11) (v := .ref (q 17)) hx hb hts in_X0_become_X0 hown hK hH 15 (by decide) rfl rfl 4 (by decide) (hts (.fieldLink RX0 27 "StationLine$Bench" "times" "[[I") (List.mem_of_getElem? (i := 4) rfl)) rfl dX0_become_39 ?_
  refine lv_iload_n hx hb dX0_become_42 rfl (lv_at hl 0 rfl) ?_
  refine b_aald (a := q 18) hx hb hK hH 17 3 (by decide) rfl rfl (by unfold vp_in; decide) rfl dX0_become_43 ?_
  refine lv_iconst (v := 0) hx hb dX0_become_44 (by decide) ?_
  refine lv_bipush (v := 10) hx hb dX0_become_45 (by decide) ?_
  refine b_copyi hx hb (by rw [hml]; exact hl.1.symm) hown (hts (.methodLink RX0 51 arraycopyName) (List.mem_of_getElem? (i := 5) rfl)) (hts (.native arraycopyName) (List.mem_of_getElem? (i := 6) rfl)) (hts (.static arraycopyName) (List.mem_of_getElem? (i := 7) rfl)) (hts (.initialized "java/lang/System") (List.mem_of_getElem? (i := 8) rfl)) hK hH 4 18 (by decide) (by decide) rfl rfl (by decide) (by decide) (by decide) (by decide) (by decide) (Nat.le_of_ble_eq_true rfl) (Nat.le_of_ble_eq_true rfl) (upA z3 18 (va_cpy (z3.2.1 4) (z3.2.1 18) (0 : Int32).toNatClampNeg (0 : Int32).toNatClampNeg (10 : Int32).toNatClampNeg)) rfl (enC_A _ _ _ _ _) dX0_become_47 (fun H locs hH => ?_)
  obtain ⟨z4, hz4⟩ : ∃ w : zS, w = upA z3 18 (va_cpy (z3.2.1 4) (z3.2.1 18) (0 : Int32).toNatClampNeg (0 : Int32).toNatClampNeg (10 : Int32).toNatClampNeg) := ⟨_, rfl⟩
  rw [← hz4] at hH
  have hFz4 : Fr z4 := by rw [hz4]; exact hFz3
  refine lv_iinc (v := 1) (lv' := [(2, .int 1), (0, .ref (q 15)), (1, .ref (q 1))]) hx hb dX0_become_50 hl (k := 0) rfl (by decide) (by decide) rfl (fun ls hl => ?_)
  refine lv_goto (tgt := 26) hx hb dX0_become_53 (by decide) ?_
  refine lv_iload_n hx hb dX0_become_26 rfl (lv_at hl 0 rfl) ?_
  refine lv_iconst (v := 3) hx hb dX0_become_27 (by decide) ?_
  refine lv_icmp_ge (tgt := 56) hx hb dX0_become_28 (by decide) (fun c0 => absurd c0 (by decide)) (fun _ => ?_)
  refine lv_aload_n hx hb dX0_become_31 rfl (lv_at hl 2 rfl) ?_
  refine b_get (ci := 0) (C := RX0) (T := TX0) (Nf := 11) (v := .ref (q 3)) hx hb hts in_X0_become_X0 hown hK hH 1 (by decide) rfl rfl 4 (by decide) (hts (.fieldLink RX0 27 "StationLine$Bench" "times" "[[I") (List.mem_of_getElem? (i := 4) rfl)) rfl dX0_become_32 ?_
  refine lv_iload_n hx hb dX0_become_35 rfl (lv_at hl 0 rfl) ?_
  refine b_aald (a := q 5) hx hb hK hH 3 3 (by decide) rfl rfl (by unfold vp_in; decide) rfl dX0_become_36 ?_
  refine lv_iconst (v := 0) hx hb dX0_become_37 (by decide) ?_
  refine lv_aload_n hx hb dX0_become_38 rfl (lv_at hl 1 rfl) ?_
  refine b_get (ci := 0) (C := RX0) (T := TX0) (Nf := 11) (v := .ref (q 17)) hx hb hts in_X0_become_X0 hown hK hH 15 (by decide) rfl rfl 4 (by decide) (hts (.fieldLink RX0 27 "StationLine$Bench" "times" "[[I") (List.mem_of_getElem? (i := 4) rfl)) rfl dX0_become_39 ?_
  refine lv_iload_n hx hb dX0_become_42 rfl (lv_at hl 0 rfl) ?_
  refine b_aald (a := q 19) hx hb hK hH 17 3 (by decide) rfl rfl (by unfold vp_in; decide) rfl dX0_become_43 ?_
  refine lv_iconst (v := 0) hx hb dX0_become_44 (by decide) ?_
  refine lv_bipush (v := 10) hx hb dX0_become_45 (by decide) ?_
  refine b_copyi hx hb (by rw [hml]; exact hl.1.symm) hown (hts (.methodLink RX0 51 arraycopyName) (List.mem_of_getElem? (i := 5) rfl)) (hts (.native arraycopyName) (List.mem_of_getElem? (i := 6) rfl)) (hts (.static arraycopyName) (List.mem_of_getElem? (i := 7) rfl)) (hts (.initialized "java/lang/System") (List.mem_of_getElem? (i := 8) rfl)) hK hH 5 19 (by decide) (by decide) rfl rfl (by decide) (by decide) (by decide) (by decide) (by decide) (Nat.le_of_ble_eq_true rfl) (Nat.le_of_ble_eq_true rfl) (upA z4 19 (va_cpy (z4.2.1 5) (z4.2.1 19) (0 : Int32).toNatClampNeg (0 : Int32).toNatClampNeg (10 : Int32).toNatClampNeg)) rfl (enC_A _ _ _ _ _) dX0_become_47 (fun H locs hH => ?_)
  obtain ⟨z5, hz5⟩ : ∃ w : zS, w = upA z4 19 (va_cpy (z4.2.1 5) (z4.2.1 19) (0 : Int32).toNatClampNeg (0 : Int32).toNatClampNeg (10 : Int32).toNatClampNeg) := ⟨_, rfl⟩
  rw [← hz5] at hH
  have hFz5 : Fr z5 := by rw [hz5]; exact hFz4
  refine lv_iinc (v := 2) (lv' := [(2, .int 2), (0, .ref (q 15)), (1, .ref (q 1))]) hx hb dX0_become_50 hl (k := 0) rfl (by decide) (by decide) rfl (fun ls hl => ?_)
  refine lv_goto (tgt := 26) hx hb dX0_become_53 (by decide) ?_
  refine lv_iload_n hx hb dX0_become_26 rfl (lv_at hl 0 rfl) ?_
  refine lv_iconst (v := 3) hx hb dX0_become_27 (by decide) ?_
  refine lv_icmp_ge (tgt := 56) hx hb dX0_become_28 (by decide) (fun c0 => absurd c0 (by decide)) (fun _ => ?_)
  refine lv_aload_n hx hb dX0_become_31 rfl (lv_at hl 2 rfl) ?_
  refine b_get (ci := 0) (C := RX0) (T := TX0) (Nf := 11) (v := .ref (q 3)) hx hb hts in_X0_become_X0 hown hK hH 1 (by decide) rfl rfl 4 (by decide) (hts (.fieldLink RX0 27 "StationLine$Bench" "times" "[[I") (List.mem_of_getElem? (i := 4) rfl)) rfl dX0_become_32 ?_
  refine lv_iload_n hx hb dX0_become_35 rfl (lv_at hl 0 rfl) ?_
  refine b_aald (a := q 6) hx hb hK hH 3 3 (by decide) rfl rfl (by unfold vp_in; decide) rfl dX0_become_36 ?_
  refine lv_iconst (v := 0) hx hb dX0_become_37 (by decide) ?_
  refine lv_aload_n hx hb dX0_become_38 rfl (lv_at hl 1 rfl) ?_
  refine b_get (ci := 0) (C := RX0) (T := TX0) (Nf := 11) (v := .ref (q 17)) hx hb hts in_X0_become_X0 hown hK hH 15 (by decide) rfl rfl 4 (by decide) (hts (.fieldLink RX0 27 "StationLine$Bench" "times" "[[I") (List.mem_of_getElem? (i := 4) rfl)) rfl dX0_become_39 ?_
  refine lv_iload_n hx hb dX0_become_42 rfl (lv_at hl 0 rfl) ?_
  refine b_aald (a := q 20) hx hb hK hH 17 3 (by decide) rfl rfl (by unfold vp_in; decide) rfl dX0_become_43 ?_
  refine lv_iconst (v := 0) hx hb dX0_become_44 (by decide) ?_
  refine lv_bipush (v := 10) hx hb dX0_become_45 (by decide) ?_
  refine b_copyi hx hb (by rw [hml]; exact hl.1.symm) hown (hts (.methodLink RX0 51 arraycopyName) (List.mem_of_getElem? (i := 5) rfl)) (hts (.native arraycopyName) (List.mem_of_getElem? (i := 6) rfl)) (hts (.static arraycopyName) (List.mem_of_getElem? (i := 7) rfl)) (hts (.initialized "java/lang/System") (List.mem_of_getElem? (i := 8) rfl)) hK hH 6 20 (by decide) (by decide) rfl rfl (by decide) (by decide) (by decide) (by decide) (by decide) (Nat.le_of_ble_eq_true rfl) (Nat.le_of_ble_eq_true rfl) (upA z5 20 (va_cpy (z5.2.1 6) (z5.2.1 20) (0 : Int32).toNatClampNeg (0 : Int32).toNatClampNeg (10 : Int32).toNatClampNeg)) rfl (enC_A _ _ _ _ _) dX0_become_47 (fun H locs hH => ?_)
  obtain ⟨z6, hz6⟩ : ∃ w : zS, w = upA z5 20 (va_cpy (z5.2.1 6) (z5.2.1 20) (0 : Int32).toNatClampNeg (0 : Int32).toNatClampNeg (10 : Int32).toNatClampNeg) := ⟨_, rfl⟩
  rw [← hz6] at hH
  have hFz6 : Fr z6 := by rw [hz6]; exact hFz5
  refine lv_iinc (v := 3) (lv' := [(2, .int 3), (0, .ref (q 15)), (1, .ref (q 1))]) hx hb dX0_become_50 hl (k := 0) rfl (by decide) (by decide) rfl (fun ls hl => ?_)
  refine lv_goto (tgt := 26) hx hb dX0_become_53 (by decide) ?_
  refine lv_iload_n hx hb dX0_become_26 rfl (lv_at hl 0 rfl) ?_
  refine lv_iconst (v := 3) hx hb dX0_become_27 (by decide) ?_
  refine lv_icmp_ge (tgt := 56) hx hb dX0_become_28 (by decide) (fun _ => ?_) (fun c0 => absurd c0 (by decide))
  refine lv_aload_n hx hb dX0_become_56 rfl (lv_at hl 2 rfl) ?_
  refine b_get (ci := 0) (C := RX0) (T := TX0) (Nf := 11) (v := .ref (q 7)) hx hb hts in_X0_become_X0 hown hK hH 1 (by decide) rfl rfl 5 (by decide) (hts (.fieldLink RX0 30 "StationLine$Bench" "before" "[I") (List.mem_of_getElem? (i := 9) rfl)) rfl dX0_become_57 ?_
  refine lv_iconst (v := 0) hx hb dX0_become_60 (by decide) ?_
  refine lv_aload_n hx hb dX0_become_61 rfl (lv_at hl 1 rfl) ?_
  refine b_get (ci := 0) (C := RX0) (T := TX0) (Nf := 11) (v := .ref (q 21)) hx hb hts in_X0_become_X0 hown hK hH 15 (by decide) rfl rfl 5 (by decide) (hts (.fieldLink RX0 30 "StationLine$Bench" "before" "[I") (List.mem_of_getElem? (i := 9) rfl)) rfl dX0_become_62 ?_
  refine lv_iconst (v := 0) hx hb dX0_become_65 (by decide) ?_
  refine lv_bipush (v := 10) hx hb dX0_become_66 (by decide) ?_
  refine b_copyi hx hb (by rw [hml]; exact hl.1.symm) hown (hts (.methodLink RX0 51 arraycopyName) (List.mem_of_getElem? (i := 5) rfl)) (hts (.native arraycopyName) (List.mem_of_getElem? (i := 6) rfl)) (hts (.static arraycopyName) (List.mem_of_getElem? (i := 7) rfl)) (hts (.initialized "java/lang/System") (List.mem_of_getElem? (i := 8) rfl)) hK hH 7 21 (by decide) (by decide) rfl rfl (by decide) (by decide) (by decide) (by decide) (by decide) (Nat.le_of_ble_eq_true rfl) (Nat.le_of_ble_eq_true rfl) (upA z6 21 (va_cpy (z6.2.1 7) (z6.2.1 21) (0 : Int32).toNatClampNeg (0 : Int32).toNatClampNeg (10 : Int32).toNatClampNeg)) rfl (enC_A _ _ _ _ _) dX0_become_68 (fun H locs hH => ?_)
  obtain ⟨z7, hz7⟩ : ∃ w : zS, w = upA z6 21 (va_cpy (z6.2.1 7) (z6.2.1 21) (0 : Int32).toNatClampNeg (0 : Int32).toNatClampNeg (10 : Int32).toNatClampNeg) := ⟨_, rfl⟩
  rw [← hz7] at hH
  have hFz7 : Fr z7 := by rw [hz7]; exact hFz6
  refine lv_aload_n hx hb dX0_become_71 rfl (lv_at hl 2 rfl) ?_
  refine b_get (ci := 0) (C := RX0) (T := TX0) (Nf := 11) (v := .ref (q 8)) hx hb hts in_X0_become_X0 hown hK hH 1 (by decide) rfl rfl 6 (by decide) (hts (.fieldLink RX0 33 "StationLine$Bench" "leading" "[I") (List.mem_of_getElem? (i := 10) rfl)) rfl dX0_become_72 ?_
  refine lv_iconst (v := 0) hx hb dX0_become_75 (by decide) ?_
  refine lv_aload_n hx hb dX0_become_76 rfl (lv_at hl 1 rfl) ?_
  refine b_get (ci := 0) (C := RX0) (T := TX0) (Nf := 11) (v := .ref (q 22)) hx hb hts in_X0_become_X0 hown hK hH 15 (by decide) rfl rfl 6 (by decide) (hts (.fieldLink RX0 33 "StationLine$Bench" "leading" "[I") (List.mem_of_getElem? (i := 10) rfl)) rfl dX0_become_77 ?_
  refine lv_iconst (v := 0) hx hb dX0_become_80 (by decide) ?_
  refine lv_bipush (v := 10) hx hb dX0_become_81 (by decide) ?_
  refine b_copyi hx hb (by rw [hml]; exact hl.1.symm) hown (hts (.methodLink RX0 51 arraycopyName) (List.mem_of_getElem? (i := 5) rfl)) (hts (.native arraycopyName) (List.mem_of_getElem? (i := 6) rfl)) (hts (.static arraycopyName) (List.mem_of_getElem? (i := 7) rfl)) (hts (.initialized "java/lang/System") (List.mem_of_getElem? (i := 8) rfl)) hK hH 8 22 (by decide) (by decide) rfl rfl (by decide) (by decide) (by decide) (by decide) (by decide) (Nat.le_of_ble_eq_true rfl) (Nat.le_of_ble_eq_true rfl) (upA z7 22 (va_cpy (z7.2.1 8) (z7.2.1 22) (0 : Int32).toNatClampNeg (0 : Int32).toNatClampNeg (10 : Int32).toNatClampNeg)) rfl (enC_A _ _ _ _ _) dX0_become_83 (fun H locs hH => ?_)
  obtain ⟨z8, hz8⟩ : ∃ w : zS, w = upA z7 22 (va_cpy (z7.2.1 8) (z7.2.1 22) (0 : Int32).toNatClampNeg (0 : Int32).toNatClampNeg (10 : Int32).toNatClampNeg) := ⟨_, rfl⟩
  rw [← hz8] at hH
  have hFz8 : Fr z8 := by rw [hz8]; exact hFz7
  refine lv_aload_n hx hb dX0_become_86 rfl (lv_at hl 2 rfl) ?_
  refine b_get (ci := 0) (C := RX0) (T := TX0) (Nf := 11) (v := .ref (q 9)) hx hb hts in_X0_become_X0 hown hK hH 1 (by decide) rfl rfl 7 (by decide) (hts (.fieldLink RX0 36 "StationLine$Bench" "following" "[I") (List.mem_of_getElem? (i := 11) rfl)) rfl dX0_become_87 ?_
  refine lv_iconst (v := 0) hx hb dX0_become_90 (by decide) ?_
  refine lv_aload_n hx hb dX0_become_91 rfl (lv_at hl 1 rfl) ?_
  refine b_get (ci := 0) (C := RX0) (T := TX0) (Nf := 11) (v := .ref (q 23)) hx hb hts in_X0_become_X0 hown hK hH 15 (by decide) rfl rfl 7 (by decide) (hts (.fieldLink RX0 36 "StationLine$Bench" "following" "[I") (List.mem_of_getElem? (i := 11) rfl)) rfl dX0_become_92 ?_
  refine lv_iconst (v := 0) hx hb dX0_become_95 (by decide) ?_
  refine lv_bipush (v := 10) hx hb dX0_become_96 (by decide) ?_
  refine b_copyi hx hb (by rw [hml]; exact hl.1.symm) hown (hts (.methodLink RX0 51 arraycopyName) (List.mem_of_getElem? (i := 5) rfl)) (hts (.native arraycopyName) (List.mem_of_getElem? (i := 6) rfl)) (hts (.static arraycopyName) (List.mem_of_getElem? (i := 7) rfl)) (hts (.initialized "java/lang/System") (List.mem_of_getElem? (i := 8) rfl)) hK hH 9 23 (by decide) (by decide) rfl rfl (by decide) (by decide) (by decide) (by decide) (by decide) (Nat.le_of_ble_eq_true rfl) (Nat.le_of_ble_eq_true rfl) (upA z8 23 (va_cpy (z8.2.1 9) (z8.2.1 23) (0 : Int32).toNatClampNeg (0 : Int32).toNatClampNeg (10 : Int32).toNatClampNeg)) rfl (enC_A _ _ _ _ _) dX0_become_98 (fun H locs hH => ?_)
  obtain ⟨z9, hz9⟩ : ∃ w : zS, w = upA z8 23 (va_cpy (z8.2.1 9) (z8.2.1 23) (0 : Int32).toNatClampNeg (0 : Int32).toNatClampNeg (10 : Int32).toNatClampNeg) := ⟨_, rfl⟩
  rw [← hz9] at hH
  have hFz9 : Fr z9 := by rw [hz9]; exact hFz8
  refine lv_aload_n hx hb dX0_become_101 rfl (lv_at hl 2 rfl) ?_
  refine b_get (ci := 0) (C := RX0) (T := TX0) (Nf := 11) (v := .ref (q 10)) hx hb hts in_X0_become_X0 hown hK hH 1 (by decide) rfl rfl 8 (by decide) (hts (.fieldLink RX0 39 "StationLine$Bench" "together" "[I") (List.mem_of_getElem? (i := 12) rfl)) rfl dX0_become_102 ?_
  refine lv_iconst (v := 0) hx hb dX0_become_105 (by decide) ?_
  refine lv_aload_n hx hb dX0_become_106 rfl (lv_at hl 1 rfl) ?_
  refine b_get (ci := 0) (C := RX0) (T := TX0) (Nf := 11) (v := .ref (q 24)) hx hb hts in_X0_become_X0 hown hK hH 15 (by decide) rfl rfl 8 (by decide) (hts (.fieldLink RX0 39 "StationLine$Bench" "together" "[I") (List.mem_of_getElem? (i := 12) rfl)) rfl dX0_become_107 ?_
  refine lv_iconst (v := 0) hx hb dX0_become_110 (by decide) ?_
  refine lv_bipush (v := 10) hx hb dX0_become_111 (by decide) ?_
  refine b_copyi hx hb (by rw [hml]; exact hl.1.symm) hown (hts (.methodLink RX0 51 arraycopyName) (List.mem_of_getElem? (i := 5) rfl)) (hts (.native arraycopyName) (List.mem_of_getElem? (i := 6) rfl)) (hts (.static arraycopyName) (List.mem_of_getElem? (i := 7) rfl)) (hts (.initialized "java/lang/System") (List.mem_of_getElem? (i := 8) rfl)) hK hH 10 24 (by decide) (by decide) rfl rfl (by decide) (by decide) (by decide) (by decide) (by decide) (Nat.le_of_ble_eq_true rfl) (Nat.le_of_ble_eq_true rfl) (upA z9 24 (va_cpy (z9.2.1 10) (z9.2.1 24) (0 : Int32).toNatClampNeg (0 : Int32).toNatClampNeg (10 : Int32).toNatClampNeg)) rfl (enC_A _ _ _ _ _) dX0_become_113 (fun H locs hH => ?_)
  obtain ⟨z10, hz10⟩ : ∃ w : zS, w = upA z9 24 (va_cpy (z9.2.1 10) (z9.2.1 24) (0 : Int32).toNatClampNeg (0 : Int32).toNatClampNeg (10 : Int32).toNatClampNeg) := ⟨_, rfl⟩
  rw [← hz10] at hH
  have hFz10 : Fr z10 := by rw [hz10]; exact hFz9
  refine lv_aload_n hx hb dX0_become_116 rfl (lv_at hl 2 rfl) ?_
  refine b_get (ci := 0) (C := RX0) (T := TX0) (Nf := 11) (v := .ref (q 11)) hx hb hts in_X0_become_X0 hown hK hH 1 (by decide) rfl rfl 9 (by decide) (hts (.fieldLink RX0 42 "StationLine$Bench" "apart" "[I") (List.mem_of_getElem? (i := 13) rfl)) rfl dX0_become_117 ?_
  refine lv_iconst (v := 0) hx hb dX0_become_120 (by decide) ?_
  refine lv_aload_n hx hb dX0_become_121 rfl (lv_at hl 1 rfl) ?_
  refine b_get (ci := 0) (C := RX0) (T := TX0) (Nf := 11) (v := .ref (q 25)) hx hb hts in_X0_become_X0 hown hK hH 15 (by decide) rfl rfl 9 (by decide) (hts (.fieldLink RX0 42 "StationLine$Bench" "apart" "[I") (List.mem_of_getElem? (i := 13) rfl)) rfl dX0_become_122 ?_
  refine lv_iconst (v := 0) hx hb dX0_become_125 (by decide) ?_
  refine lv_bipush (v := 10) hx hb dX0_become_126 (by decide) ?_
  refine b_copyi hx hb (by rw [hml]; exact hl.1.symm) hown (hts (.methodLink RX0 51 arraycopyName) (List.mem_of_getElem? (i := 5) rfl)) (hts (.native arraycopyName) (List.mem_of_getElem? (i := 6) rfl)) (hts (.static arraycopyName) (List.mem_of_getElem? (i := 7) rfl)) (hts (.initialized "java/lang/System") (List.mem_of_getElem? (i := 8) rfl)) hK hH 11 25 (by decide) (by decide) rfl rfl (by decide) (by decide) (by decide) (by decide) (by decide) (Nat.le_of_ble_eq_true rfl) (Nat.le_of_ble_eq_true rfl) (upA z10 25 (va_cpy (z10.2.1 11) (z10.2.1 25) (0 : Int32).toNatClampNeg (0 : Int32).toNatClampNeg (10 : Int32).toNatClampNeg)) rfl (enC_A _ _ _ _ _) dX0_become_128 (fun H locs hH => ?_)
  obtain ⟨z11, hz11⟩ : ∃ w : zS, w = upA z10 25 (va_cpy (z10.2.1 11) (z10.2.1 25) (0 : Int32).toNatClampNeg (0 : Int32).toNatClampNeg (10 : Int32).toNatClampNeg) := ⟨_, rfl⟩
  rw [← hz11] at hH
  have hFz11 : Fr z11 := by rw [hz11]; exact hFz10
  refine lv_aload_n hx hb dX0_become_131 rfl (lv_at hl 2 rfl) ?_
  refine b_get (ci := 0) (C := RX0) (T := TX0) (Nf := 11) (v := .ref (q 12)) hx hb hts in_X0_become_X0 hown hK hH 1 (by decide) rfl rfl 10 (by decide) (hts (.fieldLink RX0 45 "StationLine$Bench" "held" "[I") (List.mem_of_getElem? (i := 14) rfl)) rfl dX0_become_132 ?_
  refine lv_iconst (v := 0) hx hb dX0_become_135 (by decide) ?_
  refine lv_aload_n hx hb dX0_become_136 rfl (lv_at hl 1 rfl) ?_
  refine b_get (ci := 0) (C := RX0) (T := TX0) (Nf := 11) (v := .ref (q 26)) hx hb hts in_X0_become_X0 hown hK hH 15 (by decide) rfl rfl 10 (by decide) (hts (.fieldLink RX0 45 "StationLine$Bench" "held" "[I") (List.mem_of_getElem? (i := 14) rfl)) rfl dX0_become_137 ?_
  refine lv_iconst (v := 0) hx hb dX0_become_140 (by decide) ?_
  refine lv_bipush (v := 10) hx hb dX0_become_141 (by decide) ?_
  refine b_copyi hx hb (by rw [hml]; exact hl.1.symm) hown (hts (.methodLink RX0 51 arraycopyName) (List.mem_of_getElem? (i := 5) rfl)) (hts (.native arraycopyName) (List.mem_of_getElem? (i := 6) rfl)) (hts (.static arraycopyName) (List.mem_of_getElem? (i := 7) rfl)) (hts (.initialized "java/lang/System") (List.mem_of_getElem? (i := 8) rfl)) hK hH 12 26 (by decide) (by decide) rfl rfl (by decide) (by decide) (by decide) (by decide) (by decide) (Nat.le_of_ble_eq_true rfl) (Nat.le_of_ble_eq_true rfl) (upA z11 26 (va_cpy (z11.2.1 12) (z11.2.1 26) (0 : Int32).toNatClampNeg (0 : Int32).toNatClampNeg (10 : Int32).toNatClampNeg)) rfl (enC_A _ _ _ _ _) dX0_become_143 (fun H locs hH => ?_)
  obtain ⟨z12, hz12⟩ : ∃ w : zS, w = upA z11 26 (va_cpy (z11.2.1 12) (z11.2.1 26) (0 : Int32).toNatClampNeg (0 : Int32).toNatClampNeg (10 : Int32).toNatClampNeg) := ⟨_, rfl⟩
  rw [← hz12] at hH
  have hFz12 : Fr z12 := by rw [hz12]; exact hFz11
  exact b_vret hx hb hr hlocks hH (hFz12) dX0_become_146
set_option maxHeartbeats 4000000 in
set_option maxRecDepth 100000 in
theorem c_X0_add_1 (l : Launch) (D : va_G) (cy : Nat → ClassId) (q : Nat → Nat) (hq : bJ 66 q) (z : zS) (hF : Fr z)    : bCi l yX0_add wsX0_add ({ frames := 0, cells := 0, slots := 0, locals := 0 }) D cy 66 (enC cy) q z [.ref (q 1)] (fun r z' => (0 : Int32) = r) := by
  intro sz
  refine Met.ofW (cc := cX0_add) (maxL := 3) (ret := (some .int)) (by decide) rfl ?_
  intro p e s m args below meth c s₁ B hml hv
  obtain ⟨rfl, hsz, hP, hK, hZ⟩ := hv
  have hx := B.exec
  have hb := B.bytes
  have hr := B.returns
  have hts := atoms_spec (ws := wsX0_add) B.pre
  have hown : s.vm.findClass RX0 = some m.cls := findClass_of_methodNamed B.named
  have hlocks := B.notSynchronized
  subst hsz
  have hH : bH D 66 (enC cy) q z s.heap s.heap [] := bH_in hq hP
  have hl := lv_entry ([.ref (q 1)]) (n := 3) (Nat.le_of_ble_eq_true rfl)
  rw [lg_entry_eq]
  generalize (lg_sl ([.ref (q 1)]) ++ List.replicate (3 - (lg_sl ([.ref (q 1)])).length) Slot.unset).toArray = ls at hl ⊢
  have hl : lv_has ls 3 [(0, .ref (q 1))] := hl
  refine lv_aload_n hx hb dX0_add_0 rfl (lv_at hl 0 rfl) ?_
  refine b_get (ci := 0) (C := RX0) (T := TX0) (Nf := 11) (v := .int 0) hx hb hts in_X0_add_X0 hown hK hH 1 (by decide) rfl rfl 0 (by decide) (hts (.fieldLink RX0 9 "StationLine$Bench" "size" "I") (List.mem_of_getElem? (i := 1) rfl)) (congrArg (fun x => some (Value.int x)) (Fr_0 hF)) dX0_add_1 ?_
  refine lv_istore_n (lv' := [(1, .int 0), (0, .ref (q 1))]) hx hb dX0_add_4 rfl hl (by decide) rfl (fun ls hl => ?_)
  refine lv_iconst (v := 0) hx hb dX0_add_5 (by decide) ?_
  refine lv_istore_n (lv' := [(2, .int 0), (1, .int 0), (0, .ref (q 1))]) hx hb dX0_add_6 rfl hl (by decide) rfl (fun ls hl => ?_)
  refine lv_iload_n hx hb dX0_add_7 rfl (lv_at hl 0 rfl) ?_
  refine lv_iconst (v := 3) hx hb dX0_add_8 (by decide) ?_
  refine lv_icmp_ge (tgt := 27) hx hb dX0_add_9 (by decide) (fun c0 => absurd c0 (by decide)) (fun _ => ?_)
  refine lv_aload_n hx hb dX0_add_12 rfl (lv_at hl 2 rfl) ?_
  refine b_get (ci := 0) (C := RX0) (T := TX0) (Nf := 11) (v := .ref (q 3)) hx hb hts in_X0_add_X0 hown hK hH 1 (by decide) rfl rfl 4 (by decide) (hts (.fieldLink RX0 27 "StationLine$Bench" "times" "[[I") (List.mem_of_getElem? (i := 2) rfl)) rfl dX0_add_13 ?_
  refine lv_iload_n hx hb dX0_add_16 rfl (lv_at hl 0 rfl) ?_
  refine b_aald (a := q 4) hx hb hK hH 3 3 (by decide) rfl rfl (by unfold vp_in; decide) rfl dX0_add_17 ?_
  refine lv_iload_n hx hb dX0_add_18 rfl (lv_at hl 1 rfl) ?_
  refine lv_iconst (v := 1) hx hb dX0_add_19 (by decide) ?_
  refine b_iast hx hb hK hH 4 (by decide) rfl (by unfold vp_in; decide) (upA z 4 (upd (z.2.1 4) (0 : Int32).toNatClampNeg 1)) rfl (enC_A _ _ _ _ _) dX0_add_20 (fun H locs hH => ?_)
  obtain ⟨z1, hz1⟩ : ∃ w : zS, w = upA z 4 (upd (z.2.1 4) (0 : Int32).toNatClampNeg 1) := ⟨_, rfl⟩
  rw [← hz1] at hH
  have hFz1 : Fr z1 := by rw [hz1]; exact hF
  refine lv_iinc (v := 1) (lv' := [(2, .int 1), (1, .int 0), (0, .ref (q 1))]) hx hb dX0_add_21 hl (k := 0) rfl (by decide) (by decide) rfl (fun ls hl => ?_)
  refine lv_goto (tgt := 7) hx hb dX0_add_24 (by decide) ?_
  refine lv_iload_n hx hb dX0_add_7 rfl (lv_at hl 0 rfl) ?_
  refine lv_iconst (v := 3) hx hb dX0_add_8 (by decide) ?_
  refine lv_icmp_ge (tgt := 27) hx hb dX0_add_9 (by decide) (fun c0 => absurd c0 (by decide)) (fun _ => ?_)
  refine lv_aload_n hx hb dX0_add_12 rfl (lv_at hl 2 rfl) ?_
  refine b_get (ci := 0) (C := RX0) (T := TX0) (Nf := 11) (v := .ref (q 3)) hx hb hts in_X0_add_X0 hown hK hH 1 (by decide) rfl rfl 4 (by decide) (hts (.fieldLink RX0 27 "StationLine$Bench" "times" "[[I") (List.mem_of_getElem? (i := 2) rfl)) rfl dX0_add_13 ?_
  refine lv_iload_n hx hb dX0_add_16 rfl (lv_at hl 0 rfl) ?_
  refine b_aald (a := q 5) hx hb hK hH 3 3 (by decide) rfl rfl (by unfold vp_in; decide) rfl dX0_add_17 ?_
  refine lv_iload_n hx hb dX0_add_18 rfl (lv_at hl 1 rfl) ?_
  refine lv_iconst (v := 1) hx hb dX0_add_19 (by decide) ?_
  refine b_iast hx hb hK hH 5 (by decide) rfl (by unfold vp_in; decide) (upA z1 5 (upd (z1.2.1 5) (0 : Int32).toNatClampNeg 1)) rfl (enC_A _ _ _ _ _) dX0_add_20 (fun H locs hH => ?_)
  obtain ⟨z2, hz2⟩ : ∃ w : zS, w = upA z1 5 (upd (z1.2.1 5) (0 : Int32).toNatClampNeg 1) := ⟨_, rfl⟩
  rw [← hz2] at hH
  have hFz2 : Fr z2 := by rw [hz2]; exact hFz1
  refine lv_iinc (v := 2) (lv' := [(2, .int 2), (1, .int 0), (0, .ref (q 1))]) hx hb dX0_add_21 hl (k := 0) rfl (by decide) (by decide) rfl (fun ls hl => ?_)
  refine lv_goto (tgt := 7) hx hb dX0_add_24 (by decide) ?_
  refine lv_iload_n hx hb dX0_add_7 rfl (lv_at hl 0 rfl) ?_
  refine lv_iconst (v := 3) hx hb dX0_add_8 (by decide) ?_
  refine lv_icmp_ge (tgt := 27) hx hb dX0_add_9 (by decide) (fun c0 => absurd c0 (by decide)) (fun _ => ?_)
  refine lv_aload_n hx hb dX0_add_12 rfl (lv_at hl 2 rfl) ?_
  refine b_get (ci := 0) (C := RX0) (T := TX0) (Nf := 11) (v := .ref (q 3)) hx hb hts in_X0_add_X0 hown hK hH 1 (by decide) rfl rfl 4 (by decide) (hts (.fieldLink RX0 27 "StationLine$Bench" "times" "[[I") (List.mem_of_getElem? (i := 2) rfl)) rfl dX0_add_13 ?_
  refine lv_iload_n hx hb dX0_add_16 rfl (lv_at hl 0 rfl) ?_
  refine b_aald (a := q 6) hx hb hK hH 3 3 (by decide) rfl rfl (by unfold vp_in; decide) rfl dX0_add_17 ?_
  refine lv_iload_n hx hb dX0_add_18 rfl (lv_at hl 1 rfl) ?_
  refine lv_iconst (v := 1) hx hb dX0_add_19 (by decide) ?_
  refine b_iast hx hb hK hH 6 (by decide) rfl (by unfold vp_in; decide) (upA z2 6 (upd (z2.2.1 6) (0 : Int32).toNatClampNeg 1)) rfl (enC_A _ _ _ _ _) dX0_add_20 (fun H locs hH => ?_)
  obtain ⟨z3, hz3⟩ : ∃ w : zS, w = upA z2 6 (upd (z2.2.1 6) (0 : Int32).toNatClampNeg 1) := ⟨_, rfl⟩
  rw [← hz3] at hH
  have hFz3 : Fr z3 := by rw [hz3]; exact hFz2
  refine lv_iinc (v := 3) (lv' := [(2, .int 3), (1, .int 0), (0, .ref (q 1))]) hx hb dX0_add_21 hl (k := 0) rfl (by decide) (by decide) rfl (fun ls hl => ?_)
  refine lv_goto (tgt := 7) hx hb dX0_add_24 (by decide) ?_
  refine lv_iload_n hx hb dX0_add_7 rfl (lv_at hl 0 rfl) ?_
  refine lv_iconst (v := 3) hx hb dX0_add_8 (by decide) ?_
  refine lv_icmp_ge (tgt := 27) hx hb dX0_add_9 (by decide) (fun _ => ?_) (fun c0 => absurd c0 (by decide))
  refine lv_aload_n hx hb dX0_add_27 rfl (lv_at hl 2 rfl) ?_
  refine b_get (ci := 0) (C := RX0) (T := TX0) (Nf := 11) (v := .ref (q 7)) hx hb hts in_X0_add_X0 hown hK hH 1 (by decide) rfl rfl 5 (by decide) (hts (.fieldLink RX0 30 "StationLine$Bench" "before" "[I") (List.mem_of_getElem? (i := 3) rfl)) rfl dX0_add_28 ?_
  refine lv_iload_n hx hb dX0_add_31 rfl (lv_at hl 1 rfl) ?_
  refine lv_iconst (v := 0) hx hb dX0_add_32 (by decide) ?_
  refine b_iast hx hb hK hH 7 (by decide) rfl (by unfold vp_in; decide) (upA z3 7 (upd (z3.2.1 7) (0 : Int32).toNatClampNeg 0)) rfl (enC_A _ _ _ _ _) dX0_add_33 (fun H locs hH => ?_)
  obtain ⟨z4, hz4⟩ : ∃ w : zS, w = upA z3 7 (upd (z3.2.1 7) (0 : Int32).toNatClampNeg 0) := ⟨_, rfl⟩
  rw [← hz4] at hH
  have hFz4 : Fr z4 := by rw [hz4]; exact hFz3
  refine lv_aload_n hx hb dX0_add_34 rfl (lv_at hl 2 rfl) ?_
  refine b_get (ci := 0) (C := RX0) (T := TX0) (Nf := 11) (v := .ref (q 8)) hx hb hts in_X0_add_X0 hown hK hH 1 (by decide) rfl rfl 6 (by decide) (hts (.fieldLink RX0 33 "StationLine$Bench" "leading" "[I") (List.mem_of_getElem? (i := 4) rfl)) rfl dX0_add_35 ?_
  refine lv_iload_n hx hb dX0_add_38 rfl (lv_at hl 1 rfl) ?_
  refine lv_iconst (v := 0) hx hb dX0_add_39 (by decide) ?_
  refine b_iast hx hb hK hH 8 (by decide) rfl (by unfold vp_in; decide) (upA z4 8 (upd (z4.2.1 8) (0 : Int32).toNatClampNeg 0)) rfl (enC_A _ _ _ _ _) dX0_add_40 (fun H locs hH => ?_)
  obtain ⟨z5, hz5⟩ : ∃ w : zS, w = upA z4 8 (upd (z4.2.1 8) (0 : Int32).toNatClampNeg 0) := ⟨_, rfl⟩
  rw [← hz5] at hH
  have hFz5 : Fr z5 := by rw [hz5]; exact hFz4
  refine lv_aload_n hx hb dX0_add_41 rfl (lv_at hl 2 rfl) ?_
  refine b_get (ci := 0) (C := RX0) (T := TX0) (Nf := 11) (v := .ref (q 9)) hx hb hts in_X0_add_X0 hown hK hH 1 (by decide) rfl rfl 7 (by decide) (hts (.fieldLink RX0 36 "StationLine$Bench" "following" "[I") (List.mem_of_getElem? (i := 5) rfl)) rfl dX0_add_42 ?_
  refine lv_iload_n hx hb dX0_add_45 rfl (lv_at hl 1 rfl) ?_
  refine lv_iconst (v := 0) hx hb dX0_add_46 (by decide) ?_
  refine b_iast hx hb hK hH 9 (by decide) rfl (by unfold vp_in; decide) (upA z5 9 (upd (z5.2.1 9) (0 : Int32).toNatClampNeg 0)) rfl (enC_A _ _ _ _ _) dX0_add_47 (fun H locs hH => ?_)
  obtain ⟨z6, hz6⟩ : ∃ w : zS, w = upA z5 9 (upd (z5.2.1 9) (0 : Int32).toNatClampNeg 0) := ⟨_, rfl⟩
  rw [← hz6] at hH
  have hFz6 : Fr z6 := by rw [hz6]; exact hFz5
  refine lv_aload_n hx hb dX0_add_48 rfl (lv_at hl 2 rfl) ?_
  refine b_get (ci := 0) (C := RX0) (T := TX0) (Nf := 11) (v := .ref (q 10)) hx hb hts in_X0_add_X0 hown hK hH 1 (by decide) rfl rfl 8 (by decide) (hts (.fieldLink RX0 39 "StationLine$Bench" "together" "[I") (List.mem_of_getElem? (i := 6) rfl)) rfl dX0_add_49 ?_
  refine lv_iload_n hx hb dX0_add_52 rfl (lv_at hl 1 rfl) ?_
  refine lv_iconst (v := 0) hx hb dX0_add_53 (by decide) ?_
  refine b_iast hx hb hK hH 10 (by decide) rfl (by unfold vp_in; decide) (upA z6 10 (upd (z6.2.1 10) (0 : Int32).toNatClampNeg 0)) rfl (enC_A _ _ _ _ _) dX0_add_54 (fun H locs hH => ?_)
  obtain ⟨z7, hz7⟩ : ∃ w : zS, w = upA z6 10 (upd (z6.2.1 10) (0 : Int32).toNatClampNeg 0) := ⟨_, rfl⟩
  rw [← hz7] at hH
  have hFz7 : Fr z7 := by rw [hz7]; exact hFz6
  refine lv_aload_n hx hb dX0_add_55 rfl (lv_at hl 2 rfl) ?_
  refine b_get (ci := 0) (C := RX0) (T := TX0) (Nf := 11) (v := .ref (q 11)) hx hb hts in_X0_add_X0 hown hK hH 1 (by decide) rfl rfl 9 (by decide) (hts (.fieldLink RX0 42 "StationLine$Bench" "apart" "[I") (List.mem_of_getElem? (i := 7) rfl)) rfl dX0_add_56 ?_
  refine lv_iload_n hx hb dX0_add_59 rfl (lv_at hl 1 rfl) ?_
  refine lv_iconst (v := 0) hx hb dX0_add_60 (by decide) ?_
  refine b_iast hx hb hK hH 11 (by decide) rfl (by unfold vp_in; decide) (upA z7 11 (upd (z7.2.1 11) (0 : Int32).toNatClampNeg 0)) rfl (enC_A _ _ _ _ _) dX0_add_61 (fun H locs hH => ?_)
  obtain ⟨z8, hz8⟩ : ∃ w : zS, w = upA z7 11 (upd (z7.2.1 11) (0 : Int32).toNatClampNeg 0) := ⟨_, rfl⟩
  rw [← hz8] at hH
  have hFz8 : Fr z8 := by rw [hz8]; exact hFz7
  refine lv_aload_n hx hb dX0_add_62 rfl (lv_at hl 2 rfl) ?_
  refine b_get (ci := 0) (C := RX0) (T := TX0) (Nf := 11) (v := .ref (q 12)) hx hb hts in_X0_add_X0 hown hK hH 1 (by decide) rfl rfl 10 (by decide) (hts (.fieldLink RX0 45 "StationLine$Bench" "held" "[I") (List.mem_of_getElem? (i := 8) rfl)) rfl dX0_add_63 ?_
  refine lv_iload_n hx hb dX0_add_66 rfl (lv_at hl 1 rfl) ?_
  refine lv_iconst (v := 0) hx hb dX0_add_67 (by decide) ?_
  refine b_iast hx hb hK hH 12 (by decide) rfl (by unfold vp_in; decide) (upA z8 12 (upd (z8.2.1 12) (0 : Int32).toNatClampNeg 0)) rfl (enC_A _ _ _ _ _) dX0_add_68 (fun H locs hH => ?_)
  obtain ⟨z9, hz9⟩ : ∃ w : zS, w = upA z8 12 (upd (z8.2.1 12) (0 : Int32).toNatClampNeg 0) := ⟨_, rfl⟩
  rw [← hz9] at hH
  have hFz9 : Fr z9 := by rw [hz9]; exact hFz8
  refine lv_aload_n hx hb dX0_add_69 rfl (lv_at hl 2 rfl) ?_
  refine lv_dup hx hb dX0_add_70 rfl ?_
  refine b_get (ci := 0) (C := RX0) (T := TX0) (Nf := 11) (v := .int 0) hx hb hts in_X0_add_X0 hown hK hH 1 (by decide) rfl rfl 0 (by decide) (hts (.fieldLink RX0 9 "StationLine$Bench" "size" "I") (List.mem_of_getElem? (i := 1) rfl)) (congrArg (fun x => some (Value.int x)) (Fr_0 hFz9)) dX0_add_71 ?_
  refine lv_iconst (v := 1) hx hb dX0_add_74 (by decide) ?_
  refine lv_iadd hx hb dX0_add_75 ?_
  refine b_vi (v := 1) (by decide) ?_
  refine b_put (ci := 0) (C := RX0) (T := TX0) (Nf := 11) (v := .int 1) (ty := .int) hx hb hts in_X0_add_X0 tyX0 tyX0_ok nmX0 hown hK hH 1 (by decide) rfl rfl 0 (by decide) (hts (.fieldLink RX0 9 "StationLine$Bench" "size" "I") (List.mem_of_getElem? (i := 1) rfl)) rfl (by decide +kernel) rfl rfl (Nat.le_of_ble_eq_true rfl) (upS z9 0 1) rfl (enC_S0 _ _ _ _) dX0_add_76 (fun H locs hH => ?_)
  obtain ⟨z10, hz10⟩ : ∃ w : zS, w = upS z9 0 1 := ⟨_, rfl⟩
  rw [← hz10] at hH
  refine lv_iload_n hx hb dX0_add_79 rfl (lv_at hl 1 rfl) ?_
  exact b_iret hx hb hr hlocks hH ((by first | rfl | omega | (exfalso; omega))) dX0_add_80
