set_option maxHeartbeats 4000000 in
set_option maxRecDepth 100000 in
theorem c_X1_setAt_13 (l : Launch) (D : va_G) (cy : Nat → ClassId) (q : Nat → Nat) (hq : bJ 66 q) (z : zS) (hF : Fr z) (k : Int32) : bCi l yX1_setAt wsX1_setAt ({ frames := 0, cells := 0, slots := 0, locals := 0 }) D cy 66 (enC cy) q z [.ref (q 13), .int k] (fun r z' => z = z' ∧ (0 : Int32) = r) := by
  intro sz
  refine Met.ofW (cc := cX1_setAt) (maxL := 4) (ret := (some .int)) (by decide) rfl ?_
  intro p e s m args below meth c s₁ B hml hv
  obtain ⟨rfl, hsz, hP, hK, hZ⟩ := hv
  have hx := B.exec
  have hb := B.bytes
  have hr := B.returns
  have hts := atoms_spec (ws := wsX1_setAt) B.pre
  have hown : s.vm.findClass RX1 = some m.cls := findClass_of_methodNamed B.named
  have hlocks := B.notSynchronized
  subst hsz
  have hH : bH D 66 (enC cy) q z s.heap s.heap [] := bH_in hq hP
  have hl := lv_entry ([.ref (q 13), .int k]) (n := 4) (Nat.le_of_ble_eq_true rfl)
  rw [lg_entry_eq]
  generalize (lg_sl ([.ref (q 13), .int k]) ++ List.replicate (4 - (lg_sl ([.ref (q 13), .int k])).length) Slot.unset).toArray = ls at hl ⊢
  have hl : lv_has ls 4 [(0, .ref (q 13)), (1, .int k)] := hl
  refine lv_iconst (v := 0) hx hb dX1_setAt_0 (by decide) ?_
  refine lv_istore_n (lv' := [(2, .int 0), (0, .ref (q 13)), (1, .int k)]) hx hb dX1_setAt_1 rfl hl (by decide) rfl (fun ls hl => ?_)
  refine lv_iconst (v := 0) hx hb dX1_setAt_2 (by decide) ?_
  refine lv_istore_n (lv' := [(3, .int 0), (2, .int 0), (0, .ref (q 13)), (1, .int k)]) hx hb dX1_setAt_3 rfl hl (by decide) rfl (fun ls hl => ?_)
  refine lv_iload_n hx hb dX1_setAt_4 rfl (lv_at hl 0 rfl) ?_
  refine lv_aload_n hx hb dX1_setAt_5 rfl (lv_at hl 2 rfl) ?_
  refine b_get (ci := 1) (C := RX1) (T := TX1) (Nf := 2) (v := .ref (q 1)) hx hb hts in_X1_setAt_X1 hown hK hH 13 (by decide) rfl rfl 0 (by decide) (hts (.fieldLink RX1 15 "StationLine$Putting" "bench" "LStationLine$Bench;") (List.mem_of_getElem? (i := 1) rfl)) rfl dX1_setAt_6 ?_
  refine b_get (ci := 0) (C := RX0) (T := TX0) (Nf := 11) (v := .int 0) hx hb hts in_X1_setAt_X0 hown hK hH 1 (by decide) rfl rfl 0 (by decide) (hts (.fieldLink RX1 25 "StationLine$Bench" "size" "I") (List.mem_of_getElem? (i := 2) rfl)) (congrArg (fun x => some (Value.int x)) (Fr_0 hF)) dX1_setAt_9 ?_
  refine lv_icmp_ge (tgt := 37) hx hb dX1_setAt_12 (by decide) (fun _ => ?_) (fun c0 => absurd c0 (by decide))
  refine lv_iload_n hx hb dX1_setAt_37 rfl (lv_at hl 1 rfl) ?_
  exact b_iret hx hb hr hlocks hH (⟨rfl, (by first | rfl | (exfalso; omega))⟩) dX1_setAt_38
set_option maxHeartbeats 4000000 in
set_option maxRecDepth 100000 in
theorem c_X1_greatest_13 (l : Launch) (D : va_G) (cy : Nat → ClassId) (q : Nat → Nat) (hq : bJ 66 q) (z : zS) (hF : Fr z)  : bCi l yX1_greatest wsX1_greatest ({ frames := 1, cells := 0, slots := 0, locals := 28 }) D cy 66 (enC cy) q z [.ref (q 13)] (fun r z' => z = z' ∧ (0 : Int32) = r) := by
  intro sz
  refine Met.ofW (cc := cX1_greatest) (maxL := 3) (ret := (some .int)) (by decide) rfl ?_
  intro p e s m args below meth c s₁ B hml hv
  obtain ⟨rfl, hsz, hP, hK, hZ⟩ := hv
  have hx := B.exec
  have hb := B.bytes
  have hr := B.returns
  have hts := atoms_spec (ws := wsX1_greatest) B.pre
  have hown : s.vm.findClass RX1 = some m.cls := findClass_of_methodNamed B.named
  have hlocks := B.notSynchronized
  subst hsz
  have hH : bH D 66 (enC cy) q z s.heap s.heap [] := bH_in hq hP
  have hl := lv_entry ([.ref (q 13)]) (n := 3) (Nat.le_of_ble_eq_true rfl)
  rw [lg_entry_eq]
  generalize (lg_sl ([.ref (q 13)]) ++ List.replicate (3 - (lg_sl ([.ref (q 13)])).length) Slot.unset).toArray = ls at hl ⊢
  have hl : lv_has ls 3 [(0, .ref (q 13))] := hl
  refine lv_iconst (v := 0) hx hb dX1_greatest_0 (by decide) ?_
  refine lv_istore_n (lv' := [(1, .int 0), (0, .ref (q 13))]) hx hb dX1_greatest_1 rfl hl (by decide) rfl (fun ls hl => ?_)
  refine lv_iconst (v := 0) hx hb dX1_greatest_2 (by decide) ?_
  refine lv_istore_n (lv' := [(2, .int 0), (1, .int 0), (0, .ref (q 13))]) hx hb dX1_greatest_3 rfl hl (by decide) rfl (fun ls hl => ?_)
  refine lv_iload_n hx hb dX1_greatest_4 rfl (lv_at hl 0 rfl) ?_
  refine lv_aload_n hx hb dX1_greatest_5 rfl (lv_at hl 2 rfl) ?_
  refine b_get (ci := 1) (C := RX1) (T := TX1) (Nf := 2) (v := .ref (q 1)) hx hb hts in_X1_greatest_X1 hown hK hH 13 (by decide) rfl rfl 0 (by decide) (hts (.fieldLink RX1 15 "StationLine$Putting" "bench" "LStationLine$Bench;") (List.mem_of_getElem? (i := 1) rfl)) rfl dX1_greatest_6 ?_
  refine b_get (ci := 0) (C := RX0) (T := TX0) (Nf := 11) (v := .int 0) hx hb hts in_X1_greatest_X0 hown hK hH 1 (by decide) rfl rfl 0 (by decide) (hts (.fieldLink RX1 25 "StationLine$Bench" "size" "I") (List.mem_of_getElem? (i := 2) rfl)) (congrArg (fun x => some (Value.int x)) (Fr_0 hF)) dX1_greatest_9 ?_
  refine lv_icmp_ge (tgt := 32) hx hb dX1_greatest_12 (by decide) (fun _ => ?_) (fun c0 => absurd c0 (by decide))
  refine lv_iload_n hx hb dX1_greatest_32 rfl (lv_at hl 1 rfl) ?_
  exact b_iret hx hb hr hlocks hH (⟨rfl, (by first | rfl | (exfalso; omega))⟩) dX1_greatest_33
set_option maxHeartbeats 4000000 in
set_option maxRecDepth 100000 in
theorem c_X1_firstClash_13 (l : Launch) (D : va_G) (cy : Nat → ClassId) (q : Nat → Nat) (hq : bJ 66 q) (z : zS) (hF : Fr z)  : bCi l yX1_firstClash wsX1_firstClash ({ frames := 4, cells := 0, slots := 0, locals := 97 }) D cy 66 (enC cy) q z [.ref (q 13)] (fun r z' => z = z' ∧ (-1 : Int32) = r) := by
  intro sz
  refine Met.ofW (cc := cX1_firstClash) (maxL := 2) (ret := (some .int)) (by decide) rfl ?_
  intro p e s m args below meth c s₁ B hml hv
  obtain ⟨rfl, hsz, hP, hK, hZ⟩ := hv
  have hx := B.exec
  have hb := B.bytes
  have hr := B.returns
  have hts := atoms_spec (ws := wsX1_firstClash) B.pre
  have hown : s.vm.findClass RX1 = some m.cls := findClass_of_methodNamed B.named
  have hlocks := B.notSynchronized
  subst hsz
  have hH : bH D 66 (enC cy) q z s.heap s.heap [] := bH_in hq hP
  have hl := lv_entry ([.ref (q 13)]) (n := 2) (Nat.le_of_ble_eq_true rfl)
  rw [lg_entry_eq]
  generalize (lg_sl ([.ref (q 13)]) ++ List.replicate (2 - (lg_sl ([.ref (q 13)])).length) Slot.unset).toArray = ls at hl ⊢
  have hl : lv_has ls 2 [(0, .ref (q 13))] := hl
  refine lv_iconst (v := 0) hx hb dX1_firstClash_0 (by decide) ?_
  refine lv_istore_n (lv' := [(1, .int 0), (0, .ref (q 13))]) hx hb dX1_firstClash_1 rfl hl (by decide) rfl (fun ls hl => ?_)
  refine lv_iload_n hx hb dX1_firstClash_2 rfl (lv_at hl 0 rfl) ?_
  refine lv_aload_n hx hb dX1_firstClash_3 rfl (lv_at hl 1 rfl) ?_
  refine b_get (ci := 1) (C := RX1) (T := TX1) (Nf := 2) (v := .ref (q 1)) hx hb hts in_X1_firstClash_X1 hown hK hH 13 (by decide) rfl rfl 0 (by decide) (hts (.fieldLink RX1 15 "StationLine$Putting" "bench" "LStationLine$Bench;") (List.mem_of_getElem? (i := 1) rfl)) rfl dX1_firstClash_4 ?_
  refine b_get (ci := 0) (C := RX0) (T := TX0) (Nf := 11) (v := .int 0) hx hb hts in_X1_firstClash_X0 hown hK hH 1 (by decide) rfl rfl 0 (by decide) (hts (.fieldLink RX1 25 "StationLine$Bench" "size" "I") (List.mem_of_getElem? (i := 2) rfl)) (congrArg (fun x => some (Value.int x)) (Fr_0 hF)) dX1_firstClash_7 ?_
  refine lv_icmp_ge (tgt := 29) hx hb dX1_firstClash_10 (by decide) (fun _ => ?_) (fun c0 => absurd c0 (by decide))
  refine lv_iconst (v := (-1)) hx hb dX1_firstClash_29 (by decide) ?_
  exact b_iret hx hb hr hlocks hH (⟨rfl, (by first | rfl | (exfalso; omega))⟩) dX1_firstClash_30
set_option maxHeartbeats 4000000 in
set_option maxRecDepth 100000 in
theorem c_X1_setAt_55 (l : Launch) (D : va_G) (cy : Nat → ClassId) (q : Nat → Nat) (hq : bJ 66 q) (z : zS) (hF : Fr z) (k : Int32) : bCi l yX1_setAt wsX1_setAt ({ frames := 0, cells := 0, slots := 0, locals := 0 }) D cy 66 (enC cy) q z [.ref (q 55), .int k] (fun r z' => z = z' ∧ (0 : Int32) = r) := by
  intro sz
  refine Met.ofW (cc := cX1_setAt) (maxL := 4) (ret := (some .int)) (by decide) rfl ?_
  intro p e s m args below meth c s₁ B hml hv
  obtain ⟨rfl, hsz, hP, hK, hZ⟩ := hv
  have hx := B.exec
  have hb := B.bytes
  have hr := B.returns
  have hts := atoms_spec (ws := wsX1_setAt) B.pre
  have hown : s.vm.findClass RX1 = some m.cls := findClass_of_methodNamed B.named
  have hlocks := B.notSynchronized
  subst hsz
  have hH : bH D 66 (enC cy) q z s.heap s.heap [] := bH_in hq hP
  have hl := lv_entry ([.ref (q 55), .int k]) (n := 4) (Nat.le_of_ble_eq_true rfl)
  rw [lg_entry_eq]
  generalize (lg_sl ([.ref (q 55), .int k]) ++ List.replicate (4 - (lg_sl ([.ref (q 55), .int k])).length) Slot.unset).toArray = ls at hl ⊢
  have hl : lv_has ls 4 [(0, .ref (q 55)), (1, .int k)] := hl
  refine lv_iconst (v := 0) hx hb dX1_setAt_0 (by decide) ?_
  refine lv_istore_n (lv' := [(2, .int 0), (0, .ref (q 55)), (1, .int k)]) hx hb dX1_setAt_1 rfl hl (by decide) rfl (fun ls hl => ?_)
  refine lv_iconst (v := 0) hx hb dX1_setAt_2 (by decide) ?_
  refine lv_istore_n (lv' := [(3, .int 0), (2, .int 0), (0, .ref (q 55)), (1, .int k)]) hx hb dX1_setAt_3 rfl hl (by decide) rfl (fun ls hl => ?_)
  refine lv_iload_n hx hb dX1_setAt_4 rfl (lv_at hl 0 rfl) ?_
  refine lv_aload_n hx hb dX1_setAt_5 rfl (lv_at hl 2 rfl) ?_
  refine b_get (ci := 1) (C := RX1) (T := TX1) (Nf := 2) (v := .ref (q 1)) hx hb hts in_X1_setAt_X1 hown hK hH 55 (by decide) rfl rfl 0 (by decide) (hts (.fieldLink RX1 15 "StationLine$Putting" "bench" "LStationLine$Bench;") (List.mem_of_getElem? (i := 1) rfl)) rfl dX1_setAt_6 ?_
  refine b_get (ci := 0) (C := RX0) (T := TX0) (Nf := 11) (v := .int 0) hx hb hts in_X1_setAt_X0 hown hK hH 1 (by decide) rfl rfl 0 (by decide) (hts (.fieldLink RX1 25 "StationLine$Bench" "size" "I") (List.mem_of_getElem? (i := 2) rfl)) (congrArg (fun x => some (Value.int x)) (Fr_0 hF)) dX1_setAt_9 ?_
  refine lv_icmp_ge (tgt := 37) hx hb dX1_setAt_12 (by decide) (fun _ => ?_) (fun c0 => absurd c0 (by decide))
  refine lv_iload_n hx hb dX1_setAt_37 rfl (lv_at hl 1 rfl) ?_
  exact b_iret hx hb hr hlocks hH (⟨rfl, (by first | rfl | (exfalso; omega))⟩) dX1_setAt_38
set_option maxHeartbeats 4000000 in
set_option maxRecDepth 100000 in
theorem c_X1_greatest_55 (l : Launch) (D : va_G) (cy : Nat → ClassId) (q : Nat → Nat) (hq : bJ 66 q) (z : zS) (hF : Fr z)  : bCi l yX1_greatest wsX1_greatest ({ frames := 1, cells := 0, slots := 0, locals := 28 }) D cy 66 (enC cy) q z [.ref (q 55)] (fun r z' => z = z' ∧ (0 : Int32) = r) := by
  intro sz
  refine Met.ofW (cc := cX1_greatest) (maxL := 3) (ret := (some .int)) (by decide) rfl ?_
  intro p e s m args below meth c s₁ B hml hv
  obtain ⟨rfl, hsz, hP, hK, hZ⟩ := hv
  have hx := B.exec
  have hb := B.bytes
  have hr := B.returns
  have hts := atoms_spec (ws := wsX1_greatest) B.pre
  have hown : s.vm.findClass RX1 = some m.cls := findClass_of_methodNamed B.named
  have hlocks := B.notSynchronized
  subst hsz
  have hH : bH D 66 (enC cy) q z s.heap s.heap [] := bH_in hq hP
  have hl := lv_entry ([.ref (q 55)]) (n := 3) (Nat.le_of_ble_eq_true rfl)
  rw [lg_entry_eq]
  generalize (lg_sl ([.ref (q 55)]) ++ List.replicate (3 - (lg_sl ([.ref (q 55)])).length) Slot.unset).toArray = ls at hl ⊢
  have hl : lv_has ls 3 [(0, .ref (q 55))] := hl
  refine lv_iconst (v := 0) hx hb dX1_greatest_0 (by decide) ?_
  refine lv_istore_n (lv' := [(1, .int 0), (0, .ref (q 55))]) hx hb dX1_greatest_1 rfl hl (by decide) rfl (fun ls hl => ?_)
  refine lv_iconst (v := 0) hx hb dX1_greatest_2 (by decide) ?_
  refine lv_istore_n (lv' := [(2, .int 0), (1, .int 0), (0, .ref (q 55))]) hx hb dX1_greatest_3 rfl hl (by decide) rfl (fun ls hl => ?_)
  refine lv_iload_n hx hb dX1_greatest_4 rfl (lv_at hl 0 rfl) ?_
  refine lv_aload_n hx hb dX1_greatest_5 rfl (lv_at hl 2 rfl) ?_
  refine b_get (ci := 1) (C := RX1) (T := TX1) (Nf := 2) (v := .ref (q 1)) hx hb hts in_X1_greatest_X1 hown hK hH 55 (by decide) rfl rfl 0 (by decide) (hts (.fieldLink RX1 15 "StationLine$Putting" "bench" "LStationLine$Bench;") (List.mem_of_getElem? (i := 1) rfl)) rfl dX1_greatest_6 ?_
  refine b_get (ci := 0) (C := RX0) (T := TX0) (Nf := 11) (v := .int 0) hx hb hts in_X1_greatest_X0 hown hK hH 1 (by decide) rfl rfl 0 (by decide) (hts (.fieldLink RX1 25 "StationLine$Bench" "size" "I") (List.mem_of_getElem? (i := 2) rfl)) (congrArg (fun x => some (Value.int x)) (Fr_0 hF)) dX1_greatest_9 ?_
  refine lv_icmp_ge (tgt := 32) hx hb dX1_greatest_12 (by decide) (fun _ => ?_) (fun c0 => absurd c0 (by decide))
  refine lv_iload_n hx hb dX1_greatest_32 rfl (lv_at hl 1 rfl) ?_
  exact b_iret hx hb hr hlocks hH (⟨rfl, (by first | rfl | (exfalso; omega))⟩) dX1_greatest_33
set_option maxHeartbeats 4000000 in
set_option maxRecDepth 100000 in
theorem c_X1_firstClash_55 (l : Launch) (D : va_G) (cy : Nat → ClassId) (q : Nat → Nat) (hq : bJ 66 q) (z : zS) (hF : Fr z)  : bCi l yX1_firstClash wsX1_firstClash ({ frames := 4, cells := 0, slots := 0, locals := 97 }) D cy 66 (enC cy) q z [.ref (q 55)] (fun r z' => z = z' ∧ (-1 : Int32) = r) := by
  intro sz
  refine Met.ofW (cc := cX1_firstClash) (maxL := 2) (ret := (some .int)) (by decide) rfl ?_
  intro p e s m args below meth c s₁ B hml hv
  obtain ⟨rfl, hsz, hP, hK, hZ⟩ := hv
  have hx := B.exec
  have hb := B.bytes
  have hr := B.returns
  have hts := atoms_spec (ws := wsX1_firstClash) B.pre
  have hown : s.vm.findClass RX1 = some m.cls := findClass_of_methodNamed B.named
  have hlocks := B.notSynchronized
  subst hsz
  have hH : bH D 66 (enC cy) q z s.heap s.heap [] := bH_in hq hP
  have hl := lv_entry ([.ref (q 55)]) (n := 2) (Nat.le_of_ble_eq_true rfl)
  rw [lg_entry_eq]
  generalize (lg_sl ([.ref (q 55)]) ++ List.replicate (2 - (lg_sl ([.ref (q 55)])).length) Slot.unset).toArray = ls at hl ⊢
  have hl : lv_has ls 2 [(0, .ref (q 55))] := hl
  refine lv_iconst (v := 0) hx hb dX1_firstClash_0 (by decide) ?_
  refine lv_istore_n (lv' := [(1, .int 0), (0, .ref (q 55))]) hx hb dX1_firstClash_1 rfl hl (by decide) rfl (fun ls hl => ?_)
  refine lv_iload_n hx hb dX1_firstClash_2 rfl (lv_at hl 0 rfl) ?_
  refine lv_aload_n hx hb dX1_firstClash_3 rfl (lv_at hl 1 rfl) ?_
  refine b_get (ci := 1) (C := RX1) (T := TX1) (Nf := 2) (v := .ref (q 1)) hx hb hts in_X1_firstClash_X1 hown hK hH 55 (by decide) rfl rfl 0 (by decide) (hts (.fieldLink RX1 15 "StationLine$Putting" "bench" "LStationLine$Bench;") (List.mem_of_getElem? (i := 1) rfl)) rfl dX1_firstClash_4 ?_
  refine b_get (ci := 0) (C := RX0) (T := TX0) (Nf := 11) (v := .int 0) hx hb hts in_X1_firstClash_X0 hown hK hH 1 (by decide) rfl rfl 0 (by decide) (hts (.fieldLink RX1 25 "StationLine$Bench" "size" "I") (List.mem_of_getElem? (i := 2) rfl)) (congrArg (fun x => some (Value.int x)) (Fr_0 hF)) dX1_firstClash_7 ?_
  refine lv_icmp_ge (tgt := 29) hx hb dX1_firstClash_10 (by decide) (fun _ => ?_) (fun c0 => absurd c0 (by decide))
  refine lv_iconst (v := (-1)) hx hb dX1_firstClash_29 (by decide) ?_
  exact b_iret hx hb hr hlocks hH (⟨rfl, (by first | rfl | (exfalso; omega))⟩) dX1_firstClash_30
set_option maxHeartbeats 4000000 in
set_option maxRecDepth 100000 in
theorem c_X1_squareAt_13 (l : Launch) (D : va_G) (cy : Nat → ClassId) (q : Nat → Nat) (hq : bJ 66 q) (z : zS) (hF : Fr z) (k : Int32) : bCl l yX1_squareAt wsX1_squareAt ({ frames := 3, cells := 0, slots := 0, locals := 74 }) D cy 66 (enC cy) q z [.ref (q 13), .int k] (fun r z' => z = z' ∧ (0 : Int64) = r) := by
  intro sz
  refine Met.ofW (cc := cX1_squareAt) (maxL := 4) (ret := (some .long)) (by decide) rfl ?_
  intro p e s m args below meth c s₁ B hml hv
  obtain ⟨rfl, hsz, hP, hK, hZ⟩ := hv
  have hx := B.exec
  have hb := B.bytes
  have hr := B.returns
  have hts := atoms_spec (ws := wsX1_squareAt) B.pre
  have hown : s.vm.findClass RX1 = some m.cls := findClass_of_methodNamed B.named
  have hlocks := B.notSynchronized
  subst hsz
  have hH : bH D 66 (enC cy) q z s.heap s.heap [] := bH_in hq hP
  have hl := lv_entry ([.ref (q 13), .int k]) (n := 4) (Nat.le_of_ble_eq_true rfl)
  rw [lg_entry_eq]
  generalize (lg_sl ([.ref (q 13), .int k]) ++ List.replicate (4 - (lg_sl ([.ref (q 13), .int k])).length) Slot.unset).toArray = ls at hl ⊢
  have hl : lv_has ls 4 [(0, .ref (q 13)), (1, .int k)] := hl
  refine lv_aload_n hx hb dX1_squareAt_0 rfl (lv_at hl 0 rfl) ?_
  refine b_get (ci := 1) (C := RX1) (T := TX1) (Nf := 2) (v := .ref (q 1)) hx hb hts in_X1_squareAt_X1 hown hK hH 13 (by decide) rfl rfl 0 (by decide) (hts (.fieldLink RX1 15 "StationLine$Putting" "bench" "LStationLine$Bench;") (List.mem_of_getElem? (i := 1) rfl)) rfl dX1_squareAt_1 ?_
  refine lv_aload_n hx hb dX1_squareAt_4 rfl (lv_at hl 0 rfl) ?_
  refine lv_iload_n hx hb dX1_squareAt_5 rfl (lv_at hl 1 rfl) ?_
  refine b_calli (As := [.int k]) (rest := [.ref (q 1)]) ⟨hx, hb, hml, hown, hts⟩ 13 1 (c_X1_setAt_13 l D cy q hH.2.1 z hF k ) (cwV 1 hts gX1_squareAt_X1_setAt rfl rfl rfl (by decide +kernel) ⟨Nat.le_of_ble_eq_true rfl, Nat.le_of_ble_eq_true rfl⟩) hK hZ hH (by decide) rfl rfl rfl hl.1 rfl (Nat.le_of_ble_eq_true rfl) ⟨Nat.zero_le _, Nat.zero_le _⟩ dX1_squareAt_6 (fun r1 z1 H locs hp1 hH => ?_)
  obtain ⟨rfl, rfl⟩ := hp1
  refine b_calli (As := [.int 0]) (rest := []) ⟨hx, hb, hml, hown, hts⟩ 1 0 (c_X0_loadOf_1 l D cy q hH.2.1 z hF 0 ) (cwV 1 hts gX1_squareAt_X0_loadOf rfl rfl rfl (by decide +kernel) ⟨Nat.le_of_ble_eq_true rfl, Nat.le_of_ble_eq_true rfl⟩) hK hZ hH (by decide) rfl rfl rfl hl.1 rfl (Nat.le_of_ble_eq_true rfl) ⟨Nat.zero_le _, Nat.zero_le _⟩ dX1_squareAt_9 (fun r2 z2 H locs hp2 hH => ?_)
  obtain ⟨rfl, rfl⟩ := hp2
  refine lv_i2l (v := 0) hx hb dX1_squareAt_12 (by decide) ?_
  refine lv_lstore_n (lv' := [(2, .long 0), (0, .ref (q 13)), (1, .int k)]) hx hb dX1_squareAt_13 rfl hl (by decide) rfl (fun ls hl => ?_)
  refine lv_lload_n hx hb dX1_squareAt_14 rfl (lv_at hl 0 rfl) ?_
  refine lv_lload_n hx hb dX1_squareAt_15 rfl (lv_at hl 0 rfl) ?_
  refine lv_lmul hx hb dX1_squareAt_16 ?_
  refine b_vl (v := 0) (by decide) ?_
  exact b_lret hx hb hr hlocks hH (⟨rfl, (by first | rfl | (exfalso; omega))⟩) dX1_squareAt_17
set_option maxHeartbeats 4000000 in
set_option maxRecDepth 100000 in
theorem c_X1_squareSum_13 (l : Launch) (D : va_G) (cy : Nat → ClassId) (q : Nat → Nat) (hq : bJ 66 q) (z : zS) (hF : Fr z)  : bCl l yX1_squareSum wsX1_squareSum ({ frames := 4, cells := 0, slots := 0, locals := 97 }) D cy 66 (enC cy) q z [.ref (q 13)] (fun r z' => z = z' ∧ (0 : Int64) = r) := by
  intro sz
  refine Met.ofW (cc := cX1_squareSum) (maxL := 4) (ret := (some .long)) (by decide) rfl ?_
  intro p e s m args below meth c s₁ B hml hv
  obtain ⟨rfl, hsz, hP, hK, hZ⟩ := hv
  have hx := B.exec
  have hb := B.bytes
  have hr := B.returns
  have hts := atoms_spec (ws := wsX1_squareSum) B.pre
  have hown : s.vm.findClass RX1 = some m.cls := findClass_of_methodNamed B.named
  have hlocks := B.notSynchronized
  subst hsz
  have hH : bH D 66 (enC cy) q z s.heap s.heap [] := bH_in hq hP
  have hl := lv_entry ([.ref (q 13)]) (n := 4) (Nat.le_of_ble_eq_true rfl)
  rw [lg_entry_eq]
  generalize (lg_sl ([.ref (q 13)]) ++ List.replicate (4 - (lg_sl ([.ref (q 13)])).length) Slot.unset).toArray = ls at hl ⊢
  have hl : lv_has ls 4 [(0, .ref (q 13))] := hl
  refine lv_lconst (v := 0) hx hb dX1_squareSum_0 (by decide) ?_
  refine lv_lstore_n (lv' := [(1, .long 0), (0, .ref (q 13))]) hx hb dX1_squareSum_1 rfl hl (by decide) rfl (fun ls hl => ?_)
  refine lv_iconst (v := 1) hx hb dX1_squareSum_2 (by decide) ?_
  refine lv_istore_n (lv' := [(3, .int 1), (1, .long 0), (0, .ref (q 13))]) hx hb dX1_squareSum_3 rfl hl (by decide) rfl (fun ls hl => ?_)
  refine lv_iload_n hx hb dX1_squareSum_4 rfl (lv_at hl 0 rfl) ?_
  refine lv_bipush (v := 10) hx hb dX1_squareSum_5 (by decide) ?_
  refine lv_icmp_gt (tgt := 24) hx hb dX1_squareSum_7 (by decide) (fun c0 => absurd c0 (by decide)) (fun _ => ?_)
  refine lv_lload_n hx hb dX1_squareSum_10 rfl (lv_at hl 1 rfl) ?_
  refine lv_aload_n hx hb dX1_squareSum_11 rfl (lv_at hl 2 rfl) ?_
  refine lv_iload_n hx hb dX1_squareSum_12 rfl (lv_at hl 0 rfl) ?_
  refine b_calll (As := [.int 1]) (rest := [.long 0]) ⟨hx, hb, hml, hown, hts⟩ 13 1 (c_X1_squareAt_13 l D cy q hH.2.1 z hF 1 ) (cwV 1 hts gX1_squareSum_X1_squareAt rfl rfl rfl (by decide +kernel) ⟨Nat.le_of_ble_eq_true rfl, Nat.le_of_ble_eq_true rfl⟩) hK hZ hH (by decide) rfl rfl rfl hl.1 rfl (Nat.le_of_ble_eq_true rfl) ⟨Nat.zero_le _, Nat.zero_le _⟩ dX1_squareSum_13 (fun r1 z1 H locs hp1 hH => ?_)
  obtain ⟨rfl, rfl⟩ := hp1
  refine lv_ladd hx hb dX1_squareSum_16 ?_
  refine b_vl (v := 0) (by decide) ?_
  refine lv_lstore_n (lv' := [(1, .long 0), (3, .int 1), (0, .ref (q 13))]) hx hb dX1_squareSum_17 rfl hl (by decide) rfl (fun ls hl => ?_)
  refine lv_iinc (v := 2) (lv' := [(3, .int 2), (1, .long 0), (0, .ref (q 13))]) hx hb dX1_squareSum_18 hl (k := 1) rfl (by decide) (by decide) rfl (fun ls hl => ?_)
  refine lv_goto (tgt := 4) hx hb dX1_squareSum_21 (by decide) ?_
  refine lv_iload_n hx hb dX1_squareSum_4 rfl (lv_at hl 0 rfl) ?_
  refine lv_bipush (v := 10) hx hb dX1_squareSum_5 (by decide) ?_
  refine lv_icmp_gt (tgt := 24) hx hb dX1_squareSum_7 (by decide) (fun c0 => absurd c0 (by decide)) (fun _ => ?_)
  refine lv_lload_n hx hb dX1_squareSum_10 rfl (lv_at hl 1 rfl) ?_
  refine lv_aload_n hx hb dX1_squareSum_11 rfl (lv_at hl 2 rfl) ?_
  refine lv_iload_n hx hb dX1_squareSum_12 rfl (lv_at hl 0 rfl) ?_
  refine b_calll (As := [.int 2]) (rest := [.long 0]) ⟨hx, hb, hml, hown, hts⟩ 13 1 (c_X1_squareAt_13 l D cy q hH.2.1 z hF 2 ) (cwV 1 hts gX1_squareSum_X1_squareAt rfl rfl rfl (by decide +kernel) ⟨Nat.le_of_ble_eq_true rfl, Nat.le_of_ble_eq_true rfl⟩) hK hZ hH (by decide) rfl rfl rfl hl.1 rfl (Nat.le_of_ble_eq_true rfl) ⟨Nat.zero_le _, Nat.zero_le _⟩ dX1_squareSum_13 (fun r2 z2 H locs hp2 hH => ?_)
  obtain ⟨rfl, rfl⟩ := hp2
  refine lv_ladd hx hb dX1_squareSum_16 ?_
  refine b_vl (v := 0) (by decide) ?_
  refine lv_lstore_n (lv' := [(1, .long 0), (3, .int 2), (0, .ref (q 13))]) hx hb dX1_squareSum_17 rfl hl (by decide) rfl (fun ls hl => ?_)
  refine lv_iinc (v := 3) (lv' := [(3, .int 3), (1, .long 0), (0, .ref (q 13))]) hx hb dX1_squareSum_18 hl (k := 1) rfl (by decide) (by decide) rfl (fun ls hl => ?_)
  refine lv_goto (tgt := 4) hx hb dX1_squareSum_21 (by decide) ?_
  refine lv_iload_n hx hb dX1_squareSum_4 rfl (lv_at hl 0 rfl) ?_
  refine lv_bipush (v := 10) hx hb dX1_squareSum_5 (by decide) ?_
  refine lv_icmp_gt (tgt := 24) hx hb dX1_squareSum_7 (by decide) (fun c0 => absurd c0 (by decide)) (fun _ => ?_)
  refine lv_lload_n hx hb dX1_squareSum_10 rfl (lv_at hl 1 rfl) ?_
  refine lv_aload_n hx hb dX1_squareSum_11 rfl (lv_at hl 2 rfl) ?_
  refine lv_iload_n hx hb dX1_squareSum_12 rfl (lv_at hl 0 rfl) ?_
  refine b_calll (As := [.int 3]) (rest := [.long 0]) ⟨hx, hb, hml, hown, hts⟩ 13 1 (c_X1_squareAt_13 l D cy q hH.2.1 z hF 3 ) (cwV 1 hts gX1_squareSum_X1_squareAt rfl rfl rfl (by decide +kernel) ⟨Nat.le_of_ble_eq_true rfl, Nat.le_of_ble_eq_true rfl⟩) hK hZ hH (by decide) rfl rfl rfl hl.1 rfl (Nat.le_of_ble_eq_true rfl) ⟨Nat.zero_le _, Nat.zero_le _⟩ dX1_squareSum_13 (fun r3 z3 H locs hp3 hH => ?_)
  obtain ⟨rfl, rfl⟩ := hp3
  refine lv_ladd hx hb dX1_squareSum_16 ?_
  refine b_vl (v := 0) (by decide) ?_
  refine lv_lstore_n (lv' := [(1, .long 0), (3, .int 3), (0, .ref (q 13))]) hx hb dX1_squareSum_17 rfl hl (by decide) rfl (fun ls hl => ?_)
  refine lv_iinc (v := 4) (lv' := [(3, .int 4), (1, .long 0), (0, .ref (q 13))]) hx hb dX1_squareSum_18 hl (k := 1) rfl (by decide) (by decide) rfl (fun ls hl => ?_)
  refine lv_goto (tgt := 4) hx hb dX1_squareSum_21 (by decide) ?_
  refine lv_iload_n hx hb dX1_squareSum_4 rfl (lv_at hl 0 rfl) ?_
  refine lv_bipush (v := 10) hx hb dX1_squareSum_5 (by decide) ?_
  refine lv_icmp_gt (tgt := 24) hx hb dX1_squareSum_7 (by decide) (fun c0 => absurd c0 (by decide)) (fun _ => ?_)
  refine lv_lload_n hx hb dX1_squareSum_10 rfl (lv_at hl 1 rfl) ?_
  refine lv_aload_n hx hb dX1_squareSum_11 rfl (lv_at hl 2 rfl) ?_
  refine lv_iload_n hx hb dX1_squareSum_12 rfl (lv_at hl 0 rfl) ?_
  refine b_calll (As := [.int 4]) (rest := [.long 0]) ⟨hx, hb, hml, hown, hts⟩ 13 1 (c_X1_squareAt_13 l D cy q hH.2.1 z hF 4 ) (cwV 1 hts gX1_squareSum_X1_squareAt rfl rfl rfl (by decide +kernel) ⟨Nat.le_of_ble_eq_true rfl, Nat.le_of_ble_eq_true rfl⟩) hK hZ hH (by decide) rfl rfl rfl hl.1 rfl (Nat.le_of_ble_eq_true rfl) ⟨Nat.zero_le _, Nat.zero_le _⟩ dX1_squareSum_13 (fun r4 z4 H locs hp4 hH => ?_)
  obtain ⟨rfl, rfl⟩ := hp4
  refine lv_ladd hx hb dX1_squareSum_16 ?_
  refine b_vl (v := 0) (by decide) ?_
  refine lv_lstore_n (lv' := [(1, .long 0), (3, .int 4), (0, .ref (q 13))]) hx hb dX1_squareSum_17 rfl hl (by decide) rfl (fun ls hl => ?_)
  refine lv_iinc (v := 5) (lv' := [(3, .int 5), (1, .long 0), (0, .ref (q 13))]) hx hb dX1_squareSum_18 hl (k := 1) rfl (by decide) (by decide) rfl (fun ls hl => ?_)
  refine lv_goto (tgt := 4) hx hb dX1_squareSum_21 (by decide) ?_
  refine lv_iload_n hx hb dX1_squareSum_4 rfl (lv_at hl 0 rfl) ?_
  refine lv_bipush (v := 10) hx hb dX1_squareSum_5 (by decide) ?_
  refine lv_icmp_gt (tgt := 24) hx hb dX1_squareSum_7 (by decide) (fun c0 => absurd c0 (by decide)) (fun _ => ?_)
  refine lv_lload_n hx hb dX1_squareSum_10 rfl (lv_at hl 1 rfl) ?_
  refine lv_aload_n hx hb dX1_squareSum_11 rfl (lv_at hl 2 rfl) ?_
  refine lv_iload_n hx hb dX1_squareSum_12 rfl (lv_at hl 0 rfl) ?_
  refine b_calll (As := [.int 5]) (rest := [.long 0]) ⟨hx, hb, hml, hown, hts⟩ 13 1 (c_X1_squareAt_13 l D cy q hH.2.1 z hF 5 ) (cwV 1 hts gX1_squareSum_X1_squareAt rfl rfl rfl (by decide +kernel) ⟨Nat.le_of_ble_eq_true rfl, Nat.le_of_ble_eq_true rfl⟩) hK hZ hH (by decide) rfl rfl rfl hl.1 rfl (Nat.le_of_ble_eq_true rfl) ⟨Nat.zero_le _, Nat.zero_le _⟩ dX1_squareSum_13 (fun r5 z5 H locs hp5 hH => ?_)
  obtain ⟨rfl, rfl⟩ := hp5
  refine lv_ladd hx hb dX1_squareSum_16 ?_
  refine b_vl (v := 0) (by decide) ?_
  refine lv_lstore_n (lv' := [(1, .long 0), (3, .int 5), (0, .ref (q 13))]) hx hb dX1_squareSum_17 rfl hl (by decide) rfl (fun ls hl => ?_)
  refine lv_iinc (v := 6) (lv' := [(3, .int 6), (1, .long 0), (0, .ref (q 13))]) hx hb dX1_squareSum_18 hl (k := 1) rfl (by decide) (by decide) rfl (fun ls hl => ?_)
  refine lv_goto (tgt := 4) hx hb dX1_squareSum_21 (by decide) ?_
  refine lv_iload_n hx hb dX1_squareSum_4 rfl (lv_at hl 0 rfl) ?_
  refine lv_bipush (v := 10) hx hb dX1_squareSum_5 (by decide) ?_
  refine lv_icmp_gt (tgt := 24) hx hb dX1_squareSum_7 (by decide) (fun c0 => absurd c0 (by decide)) (fun _ => ?_)
  refine lv_lload_n hx hb dX1_squareSum_10 rfl (lv_at hl 1 rfl) ?_
  refine lv_aload_n hx hb dX1_squareSum_11 rfl (lv_at hl 2 rfl) ?_
  refine lv_iload_n hx hb dX1_squareSum_12 rfl (lv_at hl 0 rfl) ?_
  refine b_calll (As := [.int 6]) (rest := [.long 0]) ⟨hx, hb, hml, hown, hts⟩ 13 1 (c_X1_squareAt_13 l D cy q hH.2.1 z hF 6 ) (cwV 1 hts gX1_squareSum_X1_squareAt rfl rfl rfl (by decide +kernel) ⟨Nat.le_of_ble_eq_true rfl, Nat.le_of_ble_eq_true rfl⟩) hK hZ hH (by decide) rfl rfl rfl hl.1 rfl (Nat.le_of_ble_eq_true rfl) ⟨Nat.zero_le _, Nat.zero_le _⟩ dX1_squareSum_13 (fun r6 z6 H locs hp6 hH => ?_)
  obtain ⟨rfl, rfl⟩ := hp6
  refine lv_ladd hx hb dX1_squareSum_16 ?_
  refine b_vl (v := 0) (by decide) ?_
  refine lv_lstore_n (lv' := [(1, .long 0), (3, .int 6), (0, .ref (q 13))]) hx hb dX1_squareSum_17 rfl hl (by decide) rfl (fun ls hl => ?_)
  refine lv_iinc (v := 7) (lv' := [(3, .int 7), (1, .long 0), (0, .ref (q 13))]) hx hb dX1_squareSum_18 hl (k := 1) rfl (by decide) (by decide) rfl (fun ls hl => ?_)
  refine lv_goto (tgt := 4) hx hb dX1_squareSum_21 (by decide) ?_
  refine lv_iload_n hx hb dX1_squareSum_4 rfl (lv_at hl 0 rfl) ?_
  refine lv_bipush (v := 10) hx hb dX1_squareSum_5 (by decide) ?_
  refine lv_icmp_gt (tgt := 24) hx hb dX1_squareSum_7 (by decide) (fun c0 => absurd c0 (by decide)) (fun _ => ?_)
  refine lv_lload_n hx hb dX1_squareSum_10 rfl (lv_at hl 1 rfl) ?_
  refine lv_aload_n hx hb dX1_squareSum_11 rfl (lv_at hl 2 rfl) ?_
  refine lv_iload_n hx hb dX1_squareSum_12 rfl (lv_at hl 0 rfl) ?_
  refine b_calll (As := [.int 7]) (rest := [.long 0]) ⟨hx, hb, hml, hown, hts⟩ 13 1 (c_X1_squareAt_13 l D cy q hH.2.1 z hF 7 ) (cwV 1 hts gX1_squareSum_X1_squareAt rfl rfl rfl (by decide +kernel) ⟨Nat.le_of_ble_eq_true rfl, Nat.le_of_ble_eq_true rfl⟩) hK hZ hH (by decide) rfl rfl rfl hl.1 rfl (Nat.le_of_ble_eq_true rfl) ⟨Nat.zero_le _, Nat.zero_le _⟩ dX1_squareSum_13 (fun r7 z7 H locs hp7 hH => ?_)
  obtain ⟨rfl, rfl⟩ := hp7
  refine lv_ladd hx hb dX1_squareSum_16 ?_
  refine b_vl (v := 0) (by decide) ?_
  refine lv_lstore_n (lv' := [(1, .long 0), (3, .int 7), (0, .ref (q 13))]) hx hb dX1_squareSum_17 rfl hl (by decide) rfl (fun ls hl => ?_)
  refine lv_iinc (v := 8) (lv' := [(3, .int 8), (1, .long 0), (0, .ref (q 13))]) hx hb dX1_squareSum_18 hl (k := 1) rfl (by decide) (by decide) rfl (fun ls hl => ?_)
  refine lv_goto (tgt := 4) hx hb dX1_squareSum_21 (by decide) ?_
  refine lv_iload_n hx hb dX1_squareSum_4 rfl (lv_at hl 0 rfl) ?_
  refine lv_bipush (v := 10) hx hb dX1_squareSum_5 (by decide) ?_
  refine lv_icmp_gt (tgt := 24) hx hb dX1_squareSum_7 (by decide) (fun c0 => absurd c0 (by decide)) (fun _ => ?_)
  refine lv_lload_n hx hb dX1_squareSum_10 rfl (lv_at hl 1 rfl) ?_
  refine lv_aload_n hx hb dX1_squareSum_11 rfl (lv_at hl 2 rfl) ?_
  refine lv_iload_n hx hb dX1_squareSum_12 rfl (lv_at hl 0 rfl) ?_
  refine b_calll (As := [.int 8]) (rest := [.long 0]) ⟨hx, hb, hml, hown, hts⟩ 13 1 (c_X1_squareAt_13 l D cy q hH.2.1 z hF 8 ) (cwV 1 hts gX1_squareSum_X1_squareAt rfl rfl rfl (by decide +kernel) ⟨Nat.le_of_ble_eq_true rfl, Nat.le_of_ble_eq_true rfl⟩) hK hZ hH (by decide) rfl rfl rfl hl.1 rfl (Nat.le_of_ble_eq_true rfl) ⟨Nat.zero_le _, Nat.zero_le _⟩ dX1_squareSum_13 (fun r8 z8 H locs hp8 hH => ?_)
  obtain ⟨rfl, rfl⟩ := hp8
  refine lv_ladd hx hb dX1_squareSum_16 ?_
  refine b_vl (v := 0) (by decide) ?_
  refine lv_lstore_n (lv' := [(1, .long 0), (3, .int 8), (0, .ref (q 13))]) hx hb dX1_squareSum_17 rfl hl (by decide) rfl (fun ls hl => ?_)
  refine lv_iinc (v := 9) (lv' := [(3, .int 9), (1, .long 0), (0, .ref (q 13))]) hx hb dX1_squareSum_18 hl (k := 1) rfl (by decide) (by decide) rfl (fun ls hl => ?_)
  refine lv_goto (tgt := 4) hx hb dX1_squareSum_21 (by decide) ?_
  refine lv_iload_n hx hb dX1_squareSum_4 rfl (lv_at hl 0 rfl) ?_
  refine lv_bipush (v := 10) hx hb dX1_squareSum_5 (by decide) ?_
  refine lv_icmp_gt (tgt := 24) hx hb dX1_squareSum_7 (by decide) (fun c0 => absurd c0 (by decide)) (fun _ => ?_)
  refine lv_lload_n hx hb dX1_squareSum_10 rfl (lv_at hl 1 rfl) ?_
  refine lv_aload_n hx hb dX1_squareSum_11 rfl (lv_at hl 2 rfl) ?_
  refine lv_iload_n hx hb dX1_squareSum_12 rfl (lv_at hl 0 rfl) ?_
  refine b_calll (As := [.int 9]) (rest := [.long 0]) ⟨hx, hb, hml, hown, hts⟩ 13 1 (c_X1_squareAt_13 l D cy q hH.2.1 z hF 9 ) (cwV 1 hts gX1_squareSum_X1_squareAt rfl rfl rfl (by decide +kernel) ⟨Nat.le_of_ble_eq_true rfl, Nat.le_of_ble_eq_true rfl⟩) hK hZ hH (by decide) rfl rfl rfl hl.1 rfl (Nat.le_of_ble_eq_true rfl) ⟨Nat.zero_le _, Nat.zero_le _⟩ dX1_squareSum_13 (fun r9 z9 H locs hp9 hH => ?_)
  obtain ⟨rfl, rfl⟩ := hp9
  refine lv_ladd hx hb dX1_squareSum_16 ?_
  refine b_vl (v := 0) (by decide) ?_
  refine lv_lstore_n (lv' := [(1, .long 0), (3, .int 9), (0, .ref (q 13))]) hx hb dX1_squareSum_17 rfl hl (by decide) rfl (fun ls hl => ?_)
  refine lv_iinc (v := 10) (lv' := [(3, .int 10), (1, .long 0), (0, .ref (q 13))]) hx hb dX1_squareSum_18 hl (k := 1) rfl (by decide) (by decide) rfl (fun ls hl => ?_)
  refine lv_goto (tgt := 4) hx hb dX1_squareSum_21 (by decide) ?_
  refine lv_iload_n hx hb dX1_squareSum_4 rfl (lv_at hl 0 rfl) ?_
  refine lv_bipush (v := 10) hx hb dX1_squareSum_5 (by decide) ?_
  refine lv_icmp_gt (tgt := 24) hx hb dX1_squareSum_7 (by decide) (fun c0 => absurd c0 (by decide)) (fun _ => ?_)
  refine lv_lload_n hx hb dX1_squareSum_10 rfl (lv_at hl 1 rfl) ?_
  refine lv_aload_n hx hb dX1_squareSum_11 rfl (lv_at hl 2 rfl) ?_
  refine lv_iload_n hx hb dX1_squareSum_12 rfl (lv_at hl 0 rfl) ?_
  refine b_calll (As := [.int 10]) (rest := [.long 0]) ⟨hx, hb, hml, hown, hts⟩ 13 1 (c_X1_squareAt_13 l D cy q hH.2.1 z hF 10 ) (cwV 1 hts gX1_squareSum_X1_squareAt rfl rfl rfl (by decide +kernel) ⟨Nat.le_of_ble_eq_true rfl, Nat.le_of_ble_eq_true rfl⟩) hK hZ hH (by decide) rfl rfl rfl hl.1 rfl (Nat.le_of_ble_eq_true rfl) ⟨Nat.zero_le _, Nat.zero_le _⟩ dX1_squareSum_13 (fun r10 z10 H locs hp10 hH => ?_)
  obtain ⟨rfl, rfl⟩ := hp10
  refine lv_ladd hx hb dX1_squareSum_16 ?_
  refine b_vl (v := 0) (by decide) ?_
  refine lv_lstore_n (lv' := [(1, .long 0), (3, .int 10), (0, .ref (q 13))]) hx hb dX1_squareSum_17 rfl hl (by decide) rfl (fun ls hl => ?_)
  refine lv_iinc (v := 11) (lv' := [(3, .int 11), (1, .long 0), (0, .ref (q 13))]) hx hb dX1_squareSum_18 hl (k := 1) rfl (by decide) (by decide) rfl (fun ls hl => ?_)
  refine lv_goto (tgt := 4) hx hb dX1_squareSum_21 (by decide) ?_
  refine lv_iload_n hx hb dX1_squareSum_4 rfl (lv_at hl 0 rfl) ?_
  refine lv_bipush (v := 10) hx hb dX1_squareSum_5 (by decide) ?_
  refine lv_icmp_gt (tgt := 24) hx hb dX1_squareSum_7 (by decide) (fun _ => ?_) (fun c0 => absurd c0 (by decide))
  refine lv_lload_n hx hb dX1_squareSum_24 rfl (lv_at hl 1 rfl) ?_
  exact b_lret hx hb hr hlocks hH (⟨rfl, (by first | rfl | (exfalso; omega))⟩) dX1_squareSum_25
set_option maxHeartbeats 4000000 in
set_option maxRecDepth 100000 in
theorem c_X1_moveOnce_13 (l : Launch) (D : va_G) (cy : Nat → ClassId) (q : Nat → Nat) (hq : bJ 66 q) (z : zS) (hF : Fr z)  : bCi l yX1_moveOnce wsX1_moveOnce ({ frames := 6, cells := 0, slots := 0, locals := 145 }) D cy 66 (enC cy) q z [.ref (q 13)] (fun r z' => z = z' ∧ (0 : Int32) = r) := by
  intro sz
  refine Met.ofW (cc := cX1_moveOnce) (maxL := 4) (ret := (some .boolean)) (by decide) rfl ?_
  intro p e s m args below meth c s₁ B hml hv
  obtain ⟨rfl, hsz, hP, hK, hZ⟩ := hv
  have hx := B.exec
  have hb := B.bytes
  have hr := B.returns
  have hts := atoms_spec (ws := wsX1_moveOnce) B.pre
  have hown : s.vm.findClass RX1 = some m.cls := findClass_of_methodNamed B.named
  have hlocks := B.notSynchronized
  subst hsz
  have hH : bH D 66 (enC cy) q z s.heap s.heap [] := bH_in hq hP
  have hl := lv_entry ([.ref (q 13)]) (n := 4) (Nat.le_of_ble_eq_true rfl)
  rw [lg_entry_eq]
  generalize (lg_sl ([.ref (q 13)]) ++ List.replicate (4 - (lg_sl ([.ref (q 13)])).length) Slot.unset).toArray = ls at hl ⊢
  have hl : lv_has ls 4 [(0, .ref (q 13))] := hl
  refine lv_aload_n hx hb dX1_moveOnce_0 rfl (lv_at hl 0 rfl) ?_
  refine b_calli (As := []) (rest := []) ⟨hx, hb, hml, hown, hts⟩ 13 1 (c_X1_greatest_13 l D cy q hH.2.1 z hF  ) (cwV 0 hts gX1_moveOnce_X1_greatest rfl rfl rfl (by decide +kernel) ⟨Nat.le_of_ble_eq_true rfl, Nat.le_of_ble_eq_true rfl⟩) hK hZ hH (by decide) rfl rfl rfl hl.1 rfl (Nat.le_of_ble_eq_true rfl) ⟨Nat.zero_le _, Nat.zero_le _⟩ dX1_moveOnce_1 (fun r1 z1 H locs hp1 hH => ?_)
  obtain ⟨rfl, rfl⟩ := hp1
  refine lv_istore_n (lv' := [(1, .int 0), (0, .ref (q 13))]) hx hb dX1_moveOnce_4 rfl hl (by decide) rfl (fun ls hl => ?_)
  refine lv_iconst (v := 0) hx hb dX1_moveOnce_5 (by decide) ?_
  refine lv_istore_n (lv' := [(2, .int 0), (1, .int 0), (0, .ref (q 13))]) hx hb dX1_moveOnce_6 rfl hl (by decide) rfl (fun ls hl => ?_)
  refine lv_iload_n hx hb dX1_moveOnce_7 rfl (lv_at hl 0 rfl) ?_
  refine lv_aload_n hx hb dX1_moveOnce_8 rfl (lv_at hl 2 rfl) ?_
  refine b_get (ci := 1) (C := RX1) (T := TX1) (Nf := 2) (v := .ref (q 1)) hx hb hts in_X1_moveOnce_X1 hown hK hH 13 (by decide) rfl rfl 0 (by decide) (hts (.fieldLink RX1 15 "StationLine$Putting" "bench" "LStationLine$Bench;") (List.mem_of_getElem? (i := 1) rfl)) rfl dX1_moveOnce_9 ?_
  refine b_get (ci := 0) (C := RX0) (T := TX0) (Nf := 11) (v := .int 0) hx hb hts in_X1_moveOnce_X0 hown hK hH 1 (by decide) rfl rfl 0 (by decide) (hts (.fieldLink RX1 25 "StationLine$Bench" "size" "I") (List.mem_of_getElem? (i := 2) rfl)) (congrArg (fun x => some (Value.int x)) (Fr_0 hF)) dX1_moveOnce_12 ?_
  refine lv_icmp_ge (tgt := 58) hx hb dX1_moveOnce_15 (by decide) (fun _ => ?_) (fun c0 => absurd c0 (by decide))
  refine lv_iconst (v := 0) hx hb dX1_moveOnce_58 (by decide) ?_
  exact b_zret hx hb hr hlocks (by decide) hH (⟨rfl, (by first | rfl | (exfalso; omega))⟩) dX1_moveOnce_59
set_option maxHeartbeats 4000000 in
set_option maxRecDepth 100000 in
theorem c_X1_someTaskIsTooMuch_55 (l : Launch) (D : va_G) (cy : Nat → ClassId) (q : Nat → Nat) (hq : bJ 66 q) (z : zS) (hF : Fr z)  : bCi l yX1_someTaskIsTooMuch wsX1_someTaskIsTooMuch ({ frames := 3, cells := 0, slots := 0, locals := 74 }) D cy 66 (enC cy) q z [.ref (q 55)] (fun r z' => z = z' ∧ (0 : Int32) = r) := by
  intro sz
  refine Met.ofW (cc := cX1_someTaskIsTooMuch) (maxL := 2) (ret := (some .boolean)) (by decide) rfl ?_
  intro p e s m args below meth c s₁ B hml hv
  obtain ⟨rfl, hsz, hP, hK, hZ⟩ := hv
  have hx := B.exec
  have hb := B.bytes
  have hr := B.returns
  have hts := atoms_spec (ws := wsX1_someTaskIsTooMuch) B.pre
  have hown : s.vm.findClass RX1 = some m.cls := findClass_of_methodNamed B.named
  have hlocks := B.notSynchronized
  subst hsz
  have hH : bH D 66 (enC cy) q z s.heap s.heap [] := bH_in hq hP
  have hl := lv_entry ([.ref (q 55)]) (n := 2) (Nat.le_of_ble_eq_true rfl)
  rw [lg_entry_eq]
  generalize (lg_sl ([.ref (q 55)]) ++ List.replicate (2 - (lg_sl ([.ref (q 55)])).length) Slot.unset).toArray = ls at hl ⊢
  have hl : lv_has ls 2 [(0, .ref (q 55))] := hl
  refine lv_iconst (v := 0) hx hb dX1_someTaskIsTooMuch_0 (by decide) ?_
  refine lv_istore_n (lv' := [(1, .int 0), (0, .ref (q 55))]) hx hb dX1_someTaskIsTooMuch_1 rfl hl (by decide) rfl (fun ls hl => ?_)
  refine lv_iload_n hx hb dX1_someTaskIsTooMuch_2 rfl (lv_at hl 0 rfl) ?_
  refine lv_aload_n hx hb dX1_someTaskIsTooMuch_3 rfl (lv_at hl 1 rfl) ?_
  refine b_get (ci := 1) (C := RX1) (T := TX1) (Nf := 2) (v := .ref (q 1)) hx hb hts in_X1_someTaskIsTooMuch_X1 hown hK hH 55 (by decide) rfl rfl 0 (by decide) (hts (.fieldLink RX1 15 "StationLine$Putting" "bench" "LStationLine$Bench;") (List.mem_of_getElem? (i := 1) rfl)) rfl dX1_someTaskIsTooMuch_4 ?_
  refine b_get (ci := 0) (C := RX0) (T := TX0) (Nf := 11) (v := .int 0) hx hb hts in_X1_someTaskIsTooMuch_X0 hown hK hH 1 (by decide) rfl rfl 0 (by decide) (hts (.fieldLink RX1 25 "StationLine$Bench" "size" "I") (List.mem_of_getElem? (i := 2) rfl)) (congrArg (fun x => some (Value.int x)) (Fr_0 hF)) dX1_someTaskIsTooMuch_7 ?_
  refine lv_icmp_ge (tgt := 41) hx hb dX1_someTaskIsTooMuch_10 (by decide) (fun _ => ?_) (fun c0 => absurd c0 (by decide))
  refine lv_iconst (v := 0) hx hb dX1_someTaskIsTooMuch_41 (by decide) ?_
  exact b_zret hx hb hr hlocks (by decide) hH (⟨rfl, (by first | rfl | (exfalso; omega))⟩) dX1_someTaskIsTooMuch_42
