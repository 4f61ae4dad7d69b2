set_option maxHeartbeats 4000000 in
set_option maxRecDepth 100000 in
theorem c_X4_isMissing_57 (l : Launch) (D : va_G) (cy : Nat → ClassId) (q : Nat → Nat) (hq : bJ 66 q) (z : zS) (hF : Fr z) (s0 : Int32)  (hs : vp_in s0 4) : bCi l yX4_isMissing wsX4_isMissing ({ frames := 0, cells := 0, slots := 0, locals := 0 }) D cy 66 (enC cy) q z [.ref (q 57), .int s0] (fun r z' => Fr z' ∧ (1 : Int32) = r) := by
  intro sz
  refine Met.ofW (cc := cX4_isMissing) (maxL := 2) (ret := (some .boolean)) (by decide) rfl ?_
  intro p e s m args below meth c s₁ B hml hv
  obtain ⟨rfl, hsz, hP, hK, hZ⟩ := hv
  have hx := B.exec
  have hb := B.bytes
  have hr := B.returns
  have hts := atoms_spec (ws := wsX4_isMissing) B.pre
  have hown : s.vm.findClass RX4 = some m.cls := findClass_of_methodNamed B.named
  have hlocks := B.notSynchronized
  subst hsz
  have hH : bH D 66 (enC cy) q z s.heap s.heap [] := bH_in hq hP
  have hl := lv_entry ([.ref (q 57), .int s0]) (n := 2) (Nat.le_of_ble_eq_true rfl)
  rw [lg_entry_eq]
  generalize (lg_sl ([.ref (q 57), .int s0]) ++ List.replicate (2 - (lg_sl ([.ref (q 57), .int s0])).length) Slot.unset).toArray = ls at hl ⊢
  have hl : lv_has ls 2 [(0, .ref (q 57)), (1, .int s0)] := hl
  refine lv_aload_n hx hb dX4_isMissing_0 rfl (lv_at hl 0 rfl) ?_
  refine b_get (ci := 4) (C := RX4) (T := TX4) (Nf := 3) (v := .ref (q 59)) hx hb hts in_X4_isMissing_X4 hown hK hH 57 (by decide) rfl rfl 1 (by decide) (hts (.fieldLink RX4 15 "StationLine$Sheets" "sizes" "[I") (List.mem_of_getElem? (i := 1) rfl)) rfl dX4_isMissing_1 ?_
  refine lv_iload_n hx hb dX4_isMissing_4 rfl (lv_at hl 1 rfl) ?_
  refine b_iald (v := (-1)) hx hb hK hH 59 (by decide) rfl hs (Fr_10 hF _ (b_inlt hs)) dX4_isMissing_5 ?_
  refine lv_iconst (v := (-1)) hx hb dX4_isMissing_6 (by decide) ?_
  refine lv_icmp_ne (tgt := 14) hx hb dX4_isMissing_7 (by decide) (fun c0 => absurd c0 (by decide)) (fun _ => ?_)
  refine lv_iconst (v := 1) hx hb dX4_isMissing_10 (by decide) ?_
  refine lv_goto (tgt := 15) hx hb dX4_isMissing_11 (by decide) ?_
  exact b_zret hx hb hr hlocks (by decide) hH (⟨hF, (by first | rfl | omega | (exfalso; omega))⟩) dX4_isMissing_15
set_option maxHeartbeats 4000000 in
set_option maxRecDepth 100000 in
theorem c_X4_drop_57 (l : Launch) (D : va_G) (cy : Nat → ClassId) (q : Nat → Nat) (hq : bJ 66 q) (z : zS) (hF : Fr z) (s0 : Int32)  (hs : vp_in s0 4) : bCv l yX4_drop wsX4_drop ({ frames := 0, cells := 0, slots := 0, locals := 0 }) D cy 66 (enC cy) q z [.ref (q 57), .int s0] (fun z' => True) := by
  intro sz
  refine Met.ofW (cc := cX4_drop) (maxL := 2) (ret := none) (by decide) rfl ?_
  intro p e s m args below meth c s₁ B hml hv
  obtain ⟨rfl, hsz, hP, hK, hZ⟩ := hv
  have hx := B.exec
  have hb := B.bytes
  have hr := B.returns
  have hts := atoms_spec (ws := wsX4_drop) B.pre
  have hown : s.vm.findClass RX4 = some m.cls := findClass_of_methodNamed B.named
  have hlocks := B.notSynchronized
  subst hsz
  have hH : bH D 66 (enC cy) q z s.heap s.heap [] := bH_in hq hP
  have hl := lv_entry ([.ref (q 57), .int s0]) (n := 2) (Nat.le_of_ble_eq_true rfl)
  rw [lg_entry_eq]
  generalize (lg_sl ([.ref (q 57), .int s0]) ++ List.replicate (2 - (lg_sl ([.ref (q 57), .int s0])).length) Slot.unset).toArray = ls at hl ⊢
  have hl : lv_has ls 2 [(0, .ref (q 57)), (1, .int s0)] := hl
  refine lv_aload_n hx hb dX4_drop_0 rfl (lv_at hl 0 rfl) ?_
  refine b_get (ci := 4) (C := RX4) (T := TX4) (Nf := 3) (v := .ref (q 59)) hx hb hts in_X4_drop_X4 hown hK hH 57 (by decide) rfl rfl 1 (by decide) (hts (.fieldLink RX4 15 "StationLine$Sheets" "sizes" "[I") (List.mem_of_getElem? (i := 1) rfl)) rfl dX4_drop_1 ?_
  refine lv_iload_n hx hb dX4_drop_4 rfl (lv_at hl 1 rfl) ?_
  refine lv_iconst (v := (-1)) hx hb dX4_drop_5 (by decide) ?_
  refine b_iast hx hb hK hH 59 (by decide) rfl hs (upA z 59 (upd (z.2.1 59) (s0 : Int32).toNatClampNeg (-1))) rfl (enC_A _ _ _ _ _) dX4_drop_6 (fun H locs hH => ?_)
  obtain ⟨z1, hz1⟩ : ∃ w : zS, w = upA z 59 (upd (z.2.1 59) (s0 : Int32).toNatClampNeg (-1)) := ⟨_, rfl⟩
  rw [← hz1] at hH
  exact b_vret hx hb hr hlocks hH (trivial) dX4_drop_7
set_option maxHeartbeats 4000000 in
set_option maxRecDepth 100000 in
theorem c_X4_lay_57_0 (l : Launch) (D : va_G) (cy : Nat → ClassId) (q : Nat → Nat) (hq : bJ 66 q) (z : zS) (hF : Fr z) (so : Int32) (n : Int32)   : bCv l yX4_lay wsX4_lay ({ frames := 1, cells := 0, slots := 0, locals := 23 }) D cy 66 (enC cy) q z [.ref (q 57), .int 0, .int so, .int n] (fun z' => True) := by
  intro sz
  refine Met.ofW (cc := cX4_lay) (maxL := 4) (ret := none) (by decide) rfl ?_
  intro p e s m args below meth c s₁ B hml hv
  obtain ⟨rfl, hsz, hP, hK, hZ⟩ := hv
  have hx := B.exec
  have hb := B.bytes
  have hr := B.returns
  have hts := atoms_spec (ws := wsX4_lay) B.pre
  have hown : s.vm.findClass RX4 = some m.cls := findClass_of_methodNamed B.named
  have hlocks := B.notSynchronized
  subst hsz
  have hH : bH D 66 (enC cy) q z s.heap s.heap [] := bH_in hq hP
  have hl := lv_entry ([.ref (q 57), .int 0, .int so, .int n]) (n := 4) (Nat.le_of_ble_eq_true rfl)
  rw [lg_entry_eq]
  generalize (lg_sl ([.ref (q 57), .int 0, .int so, .int n]) ++ List.replicate (4 - (lg_sl ([.ref (q 57), .int 0, .int so, .int n])).length) Slot.unset).toArray = ls at hl ⊢
  have hl : lv_has ls 4 [(0, .ref (q 57)), (1, .int 0), (2, .int so), (3, .int n)] := hl
  refine lv_aload_n hx hb dX4_lay_0 rfl (lv_at hl 0 rfl) ?_
  refine b_get (ci := 4) (C := RX4) (T := TX4) (Nf := 3) (v := .ref (q 58)) hx hb hts in_X4_lay_X4 hown hK hH 57 (by decide) rfl rfl 0 (by decide) (hts (.fieldLink RX4 9 "StationLine$Sheets" "sorts" "[I") (List.mem_of_getElem? (i := 1) rfl)) rfl dX4_lay_1 ?_
  refine lv_iload_n hx hb dX4_lay_4 rfl (lv_at hl 1 rfl) ?_
  refine lv_iload_n hx hb dX4_lay_5 rfl (lv_at hl 2 rfl) ?_
  refine b_iast hx hb hK hH 58 (by decide) rfl (by unfold vp_in; decide) (upA z 58 (upd (z.2.1 58) (0 : Int32).toNatClampNeg so)) rfl (enC_A _ _ _ _ _) dX4_lay_6 (fun H locs hH => ?_)
  obtain ⟨z1, hz1⟩ : ∃ w : zS, w = upA z 58 (upd (z.2.1 58) (0 : Int32).toNatClampNeg so) := ⟨_, rfl⟩
  rw [← hz1] at hH
  have hFz1 : Fr z1 := by rw [hz1]; exact hF
  refine lv_aload_n hx hb dX4_lay_7 rfl (lv_at hl 0 rfl) ?_
  refine b_get (ci := 4) (C := RX4) (T := TX4) (Nf := 3) (v := .ref (q 59)) hx hb hts in_X4_lay_X4 hown hK hH 57 (by decide) rfl rfl 1 (by decide) (hts (.fieldLink RX4 15 "StationLine$Sheets" "sizes" "[I") (List.mem_of_getElem? (i := 2) rfl)) rfl dX4_lay_8 ?_
  refine lv_iload_n hx hb dX4_lay_11 rfl (lv_at hl 1 rfl) ?_
  refine lv_iload_n hx hb dX4_lay_12 rfl (lv_at hl 3 rfl) ?_
  refine b_iast hx hb hK hH 59 (by decide) rfl (by unfold vp_in; decide) (upA z1 59 (upd (z1.2.1 59) (0 : Int32).toNatClampNeg n)) rfl (enC_A _ _ _ _ _) dX4_lay_13 (fun H locs hH => ?_)
  obtain ⟨z2, hz2⟩ : ∃ w : zS, w = upA z1 59 (upd (z1.2.1 59) (0 : Int32).toNatClampNeg n) := ⟨_, rfl⟩
  rw [← hz2] at hH
  refine lv_aload_n hx hb dX4_lay_14 rfl (lv_at hl 0 rfl) ?_
  refine b_get (ci := 4) (C := RX4) (T := TX4) (Nf := 3) (v := .ref (q 60)) hx hb hts in_X4_lay_X4 hown hK hH 57 (by decide) rfl rfl 2 (by decide) (hts (.fieldLink RX4 20 "StationLine$Sheets" "rows" "[[I") (List.mem_of_getElem? (i := 3) rfl)) rfl dX4_lay_15 ?_
  refine lv_iload_n hx hb dX4_lay_18 rfl (lv_at hl 1 rfl) ?_
  refine b_aald (a := q 61) hx hb hK hH 60 3 (by decide) rfl rfl (by unfold vp_in; decide) rfl dX4_lay_19 ?_
  refine lv_iconst (v := 0) hx hb dX4_lay_20 (by decide) ?_
  refine b_statv (As := [.ref (q 61), .int 0]) (rest := []) ⟨hx, hb, hml, hown, hts⟩ (c_fill l D cy 66 (enC cy) q hH.2.1 z2 61 40 0 (by decide) (by decide) (fun _ => rfl) (fun w f => enC_A _ _ _ _ _)) (va_cwS 2 hts gX4_lay_J7_fill_53178 rfl rfl rfl (by decide +kernel) ⟨Nat.le_of_ble_eq_true rfl, Nat.le_of_ble_eq_true rfl⟩) hK hZ hH rfl hl.1 rfl (Nat.le_of_ble_eq_true rfl) ⟨Nat.zero_le _, Nat.zero_le _⟩ dX4_lay_21 (fun z3 H locs hp3 hH => ?_)
  obtain ⟨f3, hz3, hf3⟩ := hp3
  have hz3 := hz3.symm
  exact b_vret hx hb hr hlocks hH (trivial) dX4_lay_24
set_option maxHeartbeats 4000000 in
set_option maxRecDepth 100000 in
theorem c_X4_lay_57_1 (l : Launch) (D : va_G) (cy : Nat → ClassId) (q : Nat → Nat) (hq : bJ 66 q) (z : zS) (hF : Fr z) (so : Int32) (n : Int32)   : bCv l yX4_lay wsX4_lay ({ frames := 1, cells := 0, slots := 0, locals := 23 }) D cy 66 (enC cy) q z [.ref (q 57), .int 1, .int so, .int n] (fun z' => True) := by
  intro sz
  refine Met.ofW (cc := cX4_lay) (maxL := 4) (ret := none) (by decide) rfl ?_
  intro p e s m args below meth c s₁ B hml hv
  obtain ⟨rfl, hsz, hP, hK, hZ⟩ := hv
  have hx := B.exec
  have hb := B.bytes
  have hr := B.returns
  have hts := atoms_spec (ws := wsX4_lay) B.pre
  have hown : s.vm.findClass RX4 = some m.cls := findClass_of_methodNamed B.named
  have hlocks := B.notSynchronized
  subst hsz
  have hH : bH D 66 (enC cy) q z s.heap s.heap [] := bH_in hq hP
  have hl := lv_entry ([.ref (q 57), .int 1, .int so, .int n]) (n := 4) (Nat.le_of_ble_eq_true rfl)
  rw [lg_entry_eq]
  generalize (lg_sl ([.ref (q 57), .int 1, .int so, .int n]) ++ List.replicate (4 - (lg_sl ([.ref (q 57), .int 1, .int so, .int n])).length) Slot.unset).toArray = ls at hl ⊢
  have hl : lv_has ls 4 [(0, .ref (q 57)), (1, .int 1), (2, .int so), (3, .int n)] := hl
  refine lv_aload_n hx hb dX4_lay_0 rfl (lv_at hl 0 rfl) ?_
  refine b_get (ci := 4) (C := RX4) (T := TX4) (Nf := 3) (v := .ref (q 58)) hx hb hts in_X4_lay_X4 hown hK hH 57 (by decide) rfl rfl 0 (by decide) (hts (.fieldLink RX4 9 "StationLine$Sheets" "sorts" "[I") (List.mem_of_getElem? (i := 1) rfl)) rfl dX4_lay_1 ?_
  refine lv_iload_n hx hb dX4_lay_4 rfl (lv_at hl 1 rfl) ?_
  refine lv_iload_n hx hb dX4_lay_5 rfl (lv_at hl 2 rfl) ?_
  refine b_iast hx hb hK hH 58 (by decide) rfl (by unfold vp_in; decide) (upA z 58 (upd (z.2.1 58) (1 : Int32).toNatClampNeg so)) rfl (enC_A _ _ _ _ _) dX4_lay_6 (fun H locs hH => ?_)
  obtain ⟨z1, hz1⟩ : ∃ w : zS, w = upA z 58 (upd (z.2.1 58) (1 : Int32).toNatClampNeg so) := ⟨_, rfl⟩
  rw [← hz1] at hH
  have hFz1 : Fr z1 := by rw [hz1]; exact hF
  refine lv_aload_n hx hb dX4_lay_7 rfl (lv_at hl 0 rfl) ?_
  refine b_get (ci := 4) (C := RX4) (T := TX4) (Nf := 3) (v := .ref (q 59)) hx hb hts in_X4_lay_X4 hown hK hH 57 (by decide) rfl rfl 1 (by decide) (hts (.fieldLink RX4 15 "StationLine$Sheets" "sizes" "[I") (List.mem_of_getElem? (i := 2) rfl)) rfl dX4_lay_8 ?_
  refine lv_iload_n hx hb dX4_lay_11 rfl (lv_at hl 1 rfl) ?_
  refine lv_iload_n hx hb dX4_lay_12 rfl (lv_at hl 3 rfl) ?_
  refine b_iast hx hb hK hH 59 (by decide) rfl (by unfold vp_in; decide) (upA z1 59 (upd (z1.2.1 59) (1 : Int32).toNatClampNeg n)) rfl (enC_A _ _ _ _ _) dX4_lay_13 (fun H locs hH => ?_)
  obtain ⟨z2, hz2⟩ : ∃ w : zS, w = upA z1 59 (upd (z1.2.1 59) (1 : Int32).toNatClampNeg n) := ⟨_, rfl⟩
  rw [← hz2] at hH
  refine lv_aload_n hx hb dX4_lay_14 rfl (lv_at hl 0 rfl) ?_
  refine b_get (ci := 4) (C := RX4) (T := TX4) (Nf := 3) (v := .ref (q 60)) hx hb hts in_X4_lay_X4 hown hK hH 57 (by decide) rfl rfl 2 (by decide) (hts (.fieldLink RX4 20 "StationLine$Sheets" "rows" "[[I") (List.mem_of_getElem? (i := 3) rfl)) rfl dX4_lay_15 ?_
  refine lv_iload_n hx hb dX4_lay_18 rfl (lv_at hl 1 rfl) ?_
  refine b_aald (a := q 62) hx hb hK hH 60 3 (by decide) rfl rfl (by unfold vp_in; decide) rfl dX4_lay_19 ?_
  refine lv_iconst (v := 0) hx hb dX4_lay_20 (by decide) ?_
  refine b_statv (As := [.ref (q 62), .int 0]) (rest := []) ⟨hx, hb, hml, hown, hts⟩ (c_fill l D cy 66 (enC cy) q hH.2.1 z2 62 40 0 (by decide) (by decide) (fun _ => rfl) (fun w f => enC_A _ _ _ _ _)) (va_cwS 2 hts gX4_lay_J7_fill_53178 rfl rfl rfl (by decide +kernel) ⟨Nat.le_of_ble_eq_true rfl, Nat.le_of_ble_eq_true rfl⟩) hK hZ hH rfl hl.1 rfl (Nat.le_of_ble_eq_true rfl) ⟨Nat.zero_le _, Nat.zero_le _⟩ dX4_lay_21 (fun z3 H locs hp3 hH => ?_)
  obtain ⟨f3, hz3, hf3⟩ := hp3
  have hz3 := hz3.symm
  exact b_vret hx hb hr hlocks hH (trivial) dX4_lay_24
set_option maxHeartbeats 4000000 in
set_option maxRecDepth 100000 in
theorem c_X4_lay_57_2 (l : Launch) (D : va_G) (cy : Nat → ClassId) (q : Nat → Nat) (hq : bJ 66 q) (z : zS) (hF : Fr z) (so : Int32) (n : Int32)   : bCv l yX4_lay wsX4_lay ({ frames := 1, cells := 0, slots := 0, locals := 23 }) D cy 66 (enC cy) q z [.ref (q 57), .int 2, .int so, .int n] (fun z' => True) := by
  intro sz
  refine Met.ofW (cc := cX4_lay) (maxL := 4) (ret := none) (by decide) rfl ?_
  intro p e s m args below meth c s₁ B hml hv
  obtain ⟨rfl, hsz, hP, hK, hZ⟩ := hv
  have hx := B.exec
  have hb := B.bytes
  have hr := B.returns
  have hts := atoms_spec (ws := wsX4_lay) B.pre
  have hown : s.vm.findClass RX4 = some m.cls := findClass_of_methodNamed B.named
  have hlocks := B.notSynchronized
  subst hsz
  have hH : bH D 66 (enC cy) q z s.heap s.heap [] := bH_in hq hP
  have hl := lv_entry ([.ref (q 57), .int 2, .int so, .int n]) (n := 4) (Nat.le_of_ble_eq_true rfl)
  rw [lg_entry_eq]
  generalize (lg_sl ([.ref (q 57), .int 2, .int so, .int n]) ++ List.replicate (4 - (lg_sl ([.ref (q 57), .int 2, .int so, .int n])).length) Slot.unset).toArray = ls at hl ⊢
  have hl : lv_has ls 4 [(0, .ref (q 57)), (1, .int 2), (2, .int so), (3, .int n)] := hl
  refine lv_aload_n hx hb dX4_lay_0 rfl (lv_at hl 0 rfl) ?_
  refine b_get (ci := 4) (C := RX4) (T := TX4) (Nf := 3) (v := .ref (q 58)) hx hb hts in_X4_lay_X4 hown hK hH 57 (by decide) rfl rfl 0 (by decide) (hts (.fieldLink RX4 9 "StationLine$Sheets" "sorts" "[I") (List.mem_of_getElem? (i := 1) rfl)) rfl dX4_lay_1 ?_
  refine lv_iload_n hx hb dX4_lay_4 rfl (lv_at hl 1 rfl) ?_
  refine lv_iload_n hx hb dX4_lay_5 rfl (lv_at hl 2 rfl) ?_
  refine b_iast hx hb hK hH 58 (by decide) rfl (by unfold vp_in; decide) (upA z 58 (upd (z.2.1 58) (2 : Int32).toNatClampNeg so)) rfl (enC_A _ _ _ _ _) dX4_lay_6 (fun H locs hH => ?_)
  obtain ⟨z1, hz1⟩ : ∃ w : zS, w = upA z 58 (upd (z.2.1 58) (2 : Int32).toNatClampNeg so) := ⟨_, rfl⟩
  rw [← hz1] at hH
  have hFz1 : Fr z1 := by rw [hz1]; exact hF
  refine lv_aload_n hx hb dX4_lay_7 rfl (lv_at hl 0 rfl) ?_
  refine b_get (ci := 4) (C := RX4) (T := TX4) (Nf := 3) (v := .ref (q 59)) hx hb hts in_X4_lay_X4 hown hK hH 57 (by decide) rfl rfl 1 (by decide) (hts (.fieldLink RX4 15 "StationLine$Sheets" "sizes" "[I") (List.mem_of_getElem? (i := 2) rfl)) rfl dX4_lay_8 ?_
  refine lv_iload_n hx hb dX4_lay_11 rfl (lv_at hl 1 rfl) ?_
  refine lv_iload_n hx hb dX4_lay_12 rfl (lv_at hl 3 rfl) ?_
  refine b_iast hx hb hK hH 59 (by decide) rfl (by unfold vp_in; decide) (upA z1 59 (upd (z1.2.1 59) (2 : Int32).toNatClampNeg n)) rfl (enC_A _ _ _ _ _) dX4_lay_13 (fun H locs hH => ?_)
  obtain ⟨z2, hz2⟩ : ∃ w : zS, w = upA z1 59 (upd (z1.2.1 59) (2 : Int32).toNatClampNeg n) := ⟨_, rfl⟩
  rw [← hz2] at hH
  refine lv_aload_n hx hb dX4_lay_14 rfl (lv_at hl 0 rfl) ?_
  refine b_get (ci := 4) (C := RX4) (T := TX4) (Nf := 3) (v := .ref (q 60)) hx hb hts in_X4_lay_X4 hown hK hH 57 (by decide) rfl rfl 2 (by decide) (hts (.fieldLink RX4 20 "StationLine$Sheets" "rows" "[[I") (List.mem_of_getElem? (i := 3) rfl)) rfl dX4_lay_15 ?_
  refine lv_iload_n hx hb dX4_lay_18 rfl (lv_at hl 1 rfl) ?_
  refine b_aald (a := q 63) hx hb hK hH 60 3 (by decide) rfl rfl (by unfold vp_in; decide) rfl dX4_lay_19 ?_
  refine lv_iconst (v := 0) hx hb dX4_lay_20 (by decide) ?_
  refine b_statv (As := [.ref (q 63), .int 0]) (rest := []) ⟨hx, hb, hml, hown, hts⟩ (c_fill l D cy 66 (enC cy) q hH.2.1 z2 63 40 0 (by decide) (by decide) (fun _ => rfl) (fun w f => enC_A _ _ _ _ _)) (va_cwS 2 hts gX4_lay_J7_fill_53178 rfl rfl rfl (by decide +kernel) ⟨Nat.le_of_ble_eq_true rfl, Nat.le_of_ble_eq_true rfl⟩) hK hZ hH rfl hl.1 rfl (Nat.le_of_ble_eq_true rfl) ⟨Nat.zero_le _, Nat.zero_le _⟩ dX4_lay_21 (fun z3 H locs hp3 hH => ?_)
  obtain ⟨f3, hz3, hf3⟩ := hp3
  have hz3 := hz3.symm
  exact b_vret hx hb hr hlocks hH (trivial) dX4_lay_24
set_option maxHeartbeats 4000000 in
set_option maxRecDepth 100000 in
theorem c_X4_lay_57_3 (l : Launch) (D : va_G) (cy : Nat → ClassId) (q : Nat → Nat) (hq : bJ 66 q) (z : zS) (hF : Fr z) (so : Int32) (n : Int32)   : bCv l yX4_lay wsX4_lay ({ frames := 1, cells := 0, slots := 0, locals := 23 }) D cy 66 (enC cy) q z [.ref (q 57), .int 3, .int so, .int n] (fun z' => True) := by
  intro sz
  refine Met.ofW (cc := cX4_lay) (maxL := 4) (ret := none) (by decide) rfl ?_
  intro p e s m args below meth c s₁ B hml hv
  obtain ⟨rfl, hsz, hP, hK, hZ⟩ := hv
  have hx := B.exec
  have hb := B.bytes
  have hr := B.returns
  have hts := atoms_spec (ws := wsX4_lay) B.pre
  have hown : s.vm.findClass RX4 = some m.cls := findClass_of_methodNamed B.named
  have hlocks := B.notSynchronized
  subst hsz
  have hH : bH D 66 (enC cy) q z s.heap s.heap [] := bH_in hq hP
  have hl := lv_entry ([.ref (q 57), .int 3, .int so, .int n]) (n := 4) (Nat.le_of_ble_eq_true rfl)
  rw [lg_entry_eq]
  generalize (lg_sl ([.ref (q 57), .int 3, .int so, .int n]) ++ List.replicate (4 - (lg_sl ([.ref (q 57), .int 3, .int so, .int n])).length) Slot.unset).toArray = ls at hl ⊢
  have hl : lv_has ls 4 [(0, .ref (q 57)), (1, .int 3), (2, .int so), (3, .int n)] := hl
  refine lv_aload_n hx hb dX4_lay_0 rfl (lv_at hl 0 rfl) ?_
  refine b_get (ci := 4) (C := RX4) (T := TX4) (Nf := 3) (v := .ref (q 58)) hx hb hts in_X4_lay_X4 hown hK hH 57 (by decide) rfl rfl 0 (by decide) (hts (.fieldLink RX4 9 "StationLine$Sheets" "sorts" "[I") (List.mem_of_getElem? (i := 1) rfl)) rfl dX4_lay_1 ?_
  refine lv_iload_n hx hb dX4_lay_4 rfl (lv_at hl 1 rfl) ?_
  refine lv_iload_n hx hb dX4_lay_5 rfl (lv_at hl 2 rfl) ?_
  refine b_iast hx hb hK hH 58 (by decide) rfl (by unfold vp_in; decide) (upA z 58 (upd (z.2.1 58) (3 : Int32).toNatClampNeg so)) rfl (enC_A _ _ _ _ _) dX4_lay_6 (fun H locs hH => ?_)
  obtain ⟨z1, hz1⟩ : ∃ w : zS, w = upA z 58 (upd (z.2.1 58) (3 : Int32).toNatClampNeg so) := ⟨_, rfl⟩
  rw [← hz1] at hH
  have hFz1 : Fr z1 := by rw [hz1]; exact hF
  refine lv_aload_n hx hb dX4_lay_7 rfl (lv_at hl 0 rfl) ?_
  refine b_get (ci := 4) (C := RX4) (T := TX4) (Nf := 3) (v := .ref (q 59)) hx hb hts in_X4_lay_X4 hown hK hH 57 (by decide) rfl rfl 1 (by decide) (hts (.fieldLink RX4 15 "StationLine$Sheets" "sizes" "[I") (List.mem_of_getElem? (i := 2) rfl)) rfl dX4_lay_8 ?_
  refine lv_iload_n hx hb dX4_lay_11 rfl (lv_at hl 1 rfl) ?_
  refine lv_iload_n hx hb dX4_lay_12 rfl (lv_at hl 3 rfl) ?_
  refine b_iast hx hb hK hH 59 (by decide) rfl (by unfold vp_in; decide) (upA z1 59 (upd (z1.2.1 59) (3 : Int32).toNatClampNeg n)) rfl (enC_A _ _ _ _ _) dX4_lay_13 (fun H locs hH => ?_)
  obtain ⟨z2, hz2⟩ : ∃ w : zS, w = upA z1 59 (upd (z1.2.1 59) (3 : Int32).toNatClampNeg n) := ⟨_, rfl⟩
  rw [← hz2] at hH
  refine lv_aload_n hx hb dX4_lay_14 rfl (lv_at hl 0 rfl) ?_
  refine b_get (ci := 4) (C := RX4) (T := TX4) (Nf := 3) (v := .ref (q 60)) hx hb hts in_X4_lay_X4 hown hK hH 57 (by decide) rfl rfl 2 (by decide) (hts (.fieldLink RX4 20 "StationLine$Sheets" "rows" "[[I") (List.mem_of_getElem? (i := 3) rfl)) rfl dX4_lay_15 ?_
  refine lv_iload_n hx hb dX4_lay_18 rfl (lv_at hl 1 rfl) ?_
  refine b_aald (a := q 64) hx hb hK hH 60 3 (by decide) rfl rfl (by unfold vp_in; decide) rfl dX4_lay_19 ?_
  refine lv_iconst (v := 0) hx hb dX4_lay_20 (by decide) ?_
  refine b_statv (As := [.ref (q 64), .int 0]) (rest := []) ⟨hx, hb, hml, hown, hts⟩ (c_fill l D cy 66 (enC cy) q hH.2.1 z2 64 40 0 (by decide) (by decide) (fun _ => rfl) (fun w f => enC_A _ _ _ _ _)) (va_cwS 2 hts gX4_lay_J7_fill_53178 rfl rfl rfl (by decide +kernel) ⟨Nat.le_of_ble_eq_true rfl, Nat.le_of_ble_eq_true rfl⟩) hK hZ hH rfl hl.1 rfl (Nat.le_of_ble_eq_true rfl) ⟨Nat.zero_le _, Nat.zero_le _⟩ dX4_lay_21 (fun z3 H locs hp3 hH => ?_)
  obtain ⟨f3, hz3, hf3⟩ := hp3
  have hz3 := hz3.symm
  exact b_vret hx hb hr hlocks hH (trivial) dX4_lay_24
