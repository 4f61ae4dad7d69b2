set_option maxHeartbeats 4000000 in
set_option maxRecDepth 100000 in
theorem c_X6_isTask_0 (l : Launch) (D : va_G) (cy : Nat → ClassId) (q : Nat → Nat) (hq : bJ 23 q) (z : zS) (hF : Fm z) (t : Int32) : bCi l yX6_isTask wsX6_isTask ({ frames := 0, cells := 0, slots := 0, locals := 0 }) D cy 23 (enM cy) q z [.ref (q 0), .int t] (fun r z' => z = z' ∧ (0 : Int32) = r) := by
  intro sz
  refine Met.ofW (cc := cX6_isTask) (maxL := 2) (ret := (some .boolean)) (by decide) rfl ?_
  intro p e s m args below meth c s₁ B hml hv
  obtain ⟨rfl, hsz, hP, hK, hZ⟩ := hv
  have hx := B.exec
  have hb := B.bytes
  have hr := B.returns
  have hts := atoms_spec (ws := wsX6_isTask) B.pre
  have hown : s.vm.findClass RX6 = some m.cls := findClass_of_methodNamed B.named
  have hlocks := B.notSynchronized
  subst hsz
  have hH : bH D 23 (enM cy) q z s.heap s.heap [] := bH_in hq hP
  have hl := lv_entry ([.ref (q 0), .int t]) (n := 2) (Nat.le_of_ble_eq_true rfl)
  rw [lg_entry_eq]
  generalize (lg_sl ([.ref (q 0), .int t]) ++ List.replicate (2 - (lg_sl ([.ref (q 0), .int t])).length) Slot.unset).toArray = ls at hl ⊢
  have hl : lv_has ls 2 [(0, .ref (q 0)), (1, .int t)] := hl
  refine lv_iload_n hx hb dX6_isTask_0 rfl (lv_at hl 1 rfl) ?_
  refine lv_if_lt (tgt := 16) hx hb dX6_isTask_1 (by decide) (fun c1 => ?_) (fun c1 => ?_)
  · skip
    refine lv_iconst (v := 0) hx hb dX6_isTask_16 (by decide) ?_
    exact b_zret hx hb hr hlocks (by decide) hH (⟨rfl, (by first | rfl | (exfalso; have e0 : (0 : Int32).toInt = 0 := (by decide); try simp only [b_lt, b_le, b_eq] at c1; omega))⟩) dX6_isTask_17
  · skip
    refine lv_iload_n hx hb dX6_isTask_4 rfl (lv_at hl 1 rfl) ?_
    refine lv_aload_n hx hb dX6_isTask_5 rfl (lv_at hl 0 rfl) ?_
    refine b_get (ci := 6) (C := RX6) (T := TX6) (Nf := 29) (v := .int 0) hx hb hts in_X6_isTask_X6 hown hK hH 0 (by decide) rfl rfl 0 (by decide) (hts (.fieldLink RX6 85 "StationLineModel" "tasks" "I") (List.mem_of_getElem? (i := 1) rfl)) (congrArg (fun x => some (Value.int x)) (Fm_0 hF)) dX6_isTask_6 ?_
    refine lv_icmp_ge (tgt := 16) hx hb dX6_isTask_9 (by decide) (fun c2 => ?_) (fun c2 => ?_)
    · skip
      refine lv_iconst (v := 0) hx hb dX6_isTask_16 (by decide) ?_
      exact b_zret hx hb hr hlocks (by decide) hH (⟨rfl, (by first | rfl | (exfalso; have e0 : (0 : Int32).toInt = 0 := (by decide); try simp only [b_lt, b_le, b_eq] at c1 c2; omega))⟩) dX6_isTask_17
    · skip
      refine lv_iconst (v := 1) hx hb dX6_isTask_12 (by decide) ?_
      refine lv_goto (tgt := 17) hx hb dX6_isTask_13 (by decide) ?_
      exact b_zret hx hb hr hlocks (by decide) hH (⟨rfl, (by first | rfl | (exfalso; have e0 : (0 : Int32).toInt = 0 := (by decide); try simp only [b_lt, b_le, b_eq] at c1 c2; omega))⟩) dX6_isTask_17
set_option maxHeartbeats 4000000 in
set_option maxRecDepth 100000 in
theorem c_X6_all_0 (l : Launch) (D : va_G) (cy : Nat → ClassId) (q : Nat → Nat) (hq : bJ 23 q) (z : zS) (hF : Fm z)  : bCi l yX6_all wsX6_all ({ frames := 0, cells := 0, slots := 0, locals := 0 }) D cy 23 (enM cy) q z [.ref (q 0)] (fun r z' => z = z' ∧ (0 : Int32) = r) := by
  intro sz
  refine Met.ofW (cc := cX6_all) (maxL := 1) (ret := (some .int)) (by decide) rfl ?_
  intro p e s m args below meth c s₁ B hml hv
  obtain ⟨rfl, hsz, hP, hK, hZ⟩ := hv
  have hx := B.exec
  have hb := B.bytes
  have hr := B.returns
  have hts := atoms_spec (ws := wsX6_all) B.pre
  have hown : s.vm.findClass RX6 = some m.cls := findClass_of_methodNamed B.named
  have hlocks := B.notSynchronized
  subst hsz
  have hH : bH D 23 (enM cy) q z s.heap s.heap [] := bH_in hq hP
  have hl := lv_entry ([.ref (q 0)]) (n := 1) (Nat.le_of_ble_eq_true rfl)
  rw [lg_entry_eq]
  generalize (lg_sl ([.ref (q 0)]) ++ List.replicate (1 - (lg_sl ([.ref (q 0)])).length) Slot.unset).toArray = ls at hl ⊢
  have hl : lv_has ls 1 [(0, .ref (q 0))] := hl
  refine lv_iconst (v := 1) hx hb dX6_all_0 (by decide) ?_
  refine lv_aload_n hx hb dX6_all_1 rfl (lv_at hl 0 rfl) ?_
  refine b_get (ci := 6) (C := RX6) (T := TX6) (Nf := 29) (v := .int 0) hx hb hts in_X6_all_X6 hown hK hH 0 (by decide) rfl rfl 0 (by decide) (hts (.fieldLink RX6 85 "StationLineModel" "tasks" "I") (List.mem_of_getElem? (i := 1) rfl)) (congrArg (fun x => some (Value.int x)) (Fm_0 hF)) dX6_all_2 ?_
  refine lv_ishl hx hb dX6_all_5 ?_
  refine b_vi (v := 1) (by decide) ?_
  refine lv_iconst (v := 1) hx hb dX6_all_6 (by decide) ?_
  refine lv_isub hx hb dX6_all_7 ?_
  refine b_vi (v := 0) (by decide) ?_
  exact b_iret hx hb hr hlocks hH (⟨rfl, (by first | rfl | (exfalso; omega))⟩) dX6_all_8
set_option maxHeartbeats 4000000 in
set_option maxRecDepth 100000 in
theorem c_X6_isMake (l : Launch) (D : va_G) (cy : Nat → ClassId) (q : Nat → Nat) (hq : bJ 23 q) (z : zS) (a : Int32) : bCi l yX6_isMake wsX6_isMake ({ frames := 0, cells := 0, slots := 0, locals := 0 }) D cy 23 (enM cy) q z [.int a] (fun r z' => z = z' ∧ ((r = 1 ∧ (0 ≤ a.toInt ∧ a.toInt ≤ 2)) ∨ (r = 0 ∧ ¬ (0 ≤ a.toInt ∧ a.toInt ≤ 2)))) := by
  intro sz
  refine Met.ofW (cc := cX6_isMake) (maxL := 1) (ret := (some .boolean)) (by decide) rfl ?_
  intro p e s m args below meth c s₁ B hml hv
  obtain ⟨rfl, hsz, hP, hK, hZ⟩ := hv
  have hx := B.exec
  have hb := B.bytes
  have hr := B.returns
  have hts := atoms_spec (ws := wsX6_isMake) B.pre
  have hown : s.vm.findClass RX6 = some m.cls := findClass_of_methodNamed B.named
  have hlocks := B.notSynchronized
  subst hsz
  have hH : bH D 23 (enM cy) q z s.heap s.heap [] := bH_in hq hP
  have hl := lv_entry ([.int a]) (n := 1) (Nat.le_of_ble_eq_true rfl)
  rw [lg_entry_eq]
  generalize (lg_sl ([.int a]) ++ List.replicate (1 - (lg_sl ([.int a])).length) Slot.unset).toArray = ls at hl ⊢
  have hl : lv_has ls 1 [(0, .int a)] := hl
  refine lv_iload_n hx hb dX6_isMake_0 rfl (lv_at hl 0 rfl) ?_
  refine lv_if_lt (tgt := 13) hx hb dX6_isMake_1 (by decide) (fun c1 => ?_) (fun c1 => ?_)
  · skip
    refine lv_iconst (v := 0) hx hb dX6_isMake_13 (by decide) ?_
    exact b_zret hx hb hr hlocks (by decide) hH (⟨rfl, Or.inr (⟨rfl, (by have e0 : (0 : Int32).toInt = 0 := (by decide); try simp only [b_lt, b_le, b_eq] at c1; omega)⟩)⟩) dX6_isMake_14
  · skip
    refine lv_iload_n hx hb dX6_isMake_4 rfl (lv_at hl 0 rfl) ?_
    refine lv_iconst (v := 3) hx hb dX6_isMake_5 (by decide) ?_
    refine lv_icmp_ge (tgt := 13) hx hb dX6_isMake_6 (by decide) (fun c2 => ?_) (fun c2 => ?_)
    · skip
      refine lv_iconst (v := 0) hx hb dX6_isMake_13 (by decide) ?_
      exact b_zret hx hb hr hlocks (by decide) hH (⟨rfl, Or.inr (⟨rfl, (by have e0 : (0 : Int32).toInt = 0 := (by decide); have e3 : (3 : Int32).toInt = 3 := (by decide); try simp only [b_lt, b_le, b_eq] at c1 c2; omega)⟩)⟩) dX6_isMake_14
    · skip
      refine lv_iconst (v := 1) hx hb dX6_isMake_9 (by decide) ?_
      refine lv_goto (tgt := 14) hx hb dX6_isMake_10 (by decide) ?_
      exact b_zret hx hb hr hlocks (by decide) hH (⟨rfl, Or.inl ⟨rfl, (by have e0 : (0 : Int32).toInt = 0 := (by decide); have e3 : (3 : Int32).toInt = 3 := (by decide); try simp only [b_lt, b_le, b_eq] at c1 c2; omega)⟩⟩) dX6_isMake_14
set_option maxHeartbeats 4000000 in
set_option maxRecDepth 100000 in
theorem c_X6_isStation (l : Launch) (D : va_G) (cy : Nat → ClassId) (q : Nat → Nat) (hq : bJ 23 q) (z : zS) (a : Int32) : bCi l yX6_isStation wsX6_isStation ({ frames := 0, cells := 0, slots := 0, locals := 0 }) D cy 23 (enM cy) q z [.int a] (fun r z' => z = z' ∧ ((r = 1 ∧ (0 ≤ a.toInt ∧ a.toInt ≤ 10)) ∨ (r = 0 ∧ ¬ (0 ≤ a.toInt ∧ a.toInt ≤ 10)))) := by
  intro sz
  refine Met.ofW (cc := cX6_isStation) (maxL := 1) (ret := (some .boolean)) (by decide) rfl ?_
  intro p e s m args below meth c s₁ B hml hv
  obtain ⟨rfl, hsz, hP, hK, hZ⟩ := hv
  have hx := B.exec
  have hb := B.bytes
  have hr := B.returns
  have hts := atoms_spec (ws := wsX6_isStation) B.pre
  have hown : s.vm.findClass RX6 = some m.cls := findClass_of_methodNamed B.named
  have hlocks := B.notSynchronized
  subst hsz
  have hH : bH D 23 (enM cy) q z s.heap s.heap [] := bH_in hq hP
  have hl := lv_entry ([.int a]) (n := 1) (Nat.le_of_ble_eq_true rfl)
  rw [lg_entry_eq]
  generalize (lg_sl ([.int a]) ++ List.replicate (1 - (lg_sl ([.int a])).length) Slot.unset).toArray = ls at hl ⊢
  have hl : lv_has ls 1 [(0, .int a)] := hl
  refine lv_iload_n hx hb dX6_isStation_0 rfl (lv_at hl 0 rfl) ?_
  refine lv_if_lt (tgt := 14) hx hb dX6_isStation_1 (by decide) (fun c1 => ?_) (fun c1 => ?_)
  · skip
    refine lv_iconst (v := 0) hx hb dX6_isStation_14 (by decide) ?_
    exact b_zret hx hb hr hlocks (by decide) hH (⟨rfl, Or.inr (⟨rfl, (by have e0 : (0 : Int32).toInt = 0 := (by decide); try simp only [b_lt, b_le, b_eq] at c1; omega)⟩)⟩) dX6_isStation_15
  · skip
    refine lv_iload_n hx hb dX6_isStation_4 rfl (lv_at hl 0 rfl) ?_
    refine lv_bipush (v := 10) hx hb dX6_isStation_5 (by decide) ?_
    refine lv_icmp_gt (tgt := 14) hx hb dX6_isStation_7 (by decide) (fun c2 => ?_) (fun c2 => ?_)
    · skip
      refine lv_iconst (v := 0) hx hb dX6_isStation_14 (by decide) ?_
      exact b_zret hx hb hr hlocks (by decide) hH (⟨rfl, Or.inr (⟨rfl, (by have e0 : (0 : Int32).toInt = 0 := (by decide); have e10 : (10 : Int32).toInt = 10 := (by decide); try simp only [b_lt, b_le, b_eq] at c1 c2; omega)⟩)⟩) dX6_isStation_15
    · skip
      refine lv_iconst (v := 1) hx hb dX6_isStation_10 (by decide) ?_
      refine lv_goto (tgt := 15) hx hb dX6_isStation_11 (by decide) ?_
      exact b_zret hx hb hr hlocks (by decide) hH (⟨rfl, Or.inl ⟨rfl, (by have e0 : (0 : Int32).toInt = 0 := (by decide); have e10 : (10 : Int32).toInt = 10 := (by decide); try simp only [b_lt, b_le, b_eq] at c1 c2; omega)⟩⟩) dX6_isStation_15
set_option maxHeartbeats 4000000 in
set_option maxRecDepth 100000 in
theorem c_X6_isSheet (l : Launch) (D : va_G) (cy : Nat → ClassId) (q : Nat → Nat) (hq : bJ 23 q) (z : zS) (a : Int32) : bCi l yX6_isSheet wsX6_isSheet ({ frames := 0, cells := 0, slots := 0, locals := 0 }) D cy 23 (enM cy) q z [.int a] (fun r z' => z = z' ∧ ((r = 1 ∧ (0 ≤ a.toInt ∧ a.toInt ≤ 3)) ∨ (r = 0 ∧ ¬ (0 ≤ a.toInt ∧ a.toInt ≤ 3)))) := by
  intro sz
  refine Met.ofW (cc := cX6_isSheet) (maxL := 1) (ret := (some .boolean)) (by decide) rfl ?_
  intro p e s m args below meth c s₁ B hml hv
  obtain ⟨rfl, hsz, hP, hK, hZ⟩ := hv
  have hx := B.exec
  have hb := B.bytes
  have hr := B.returns
  have hts := atoms_spec (ws := wsX6_isSheet) B.pre
  have hown : s.vm.findClass RX6 = some m.cls := findClass_of_methodNamed B.named
  have hlocks := B.notSynchronized
  subst hsz
  have hH : bH D 23 (enM cy) q z s.heap s.heap [] := bH_in hq hP
  have hl := lv_entry ([.int a]) (n := 1) (Nat.le_of_ble_eq_true rfl)
  rw [lg_entry_eq]
  generalize (lg_sl ([.int a]) ++ List.replicate (1 - (lg_sl ([.int a])).length) Slot.unset).toArray = ls at hl ⊢
  have hl : lv_has ls 1 [(0, .int a)] := hl
  refine lv_iload_n hx hb dX6_isSheet_0 rfl (lv_at hl 0 rfl) ?_
  refine lv_if_lt (tgt := 13) hx hb dX6_isSheet_1 (by decide) (fun c1 => ?_) (fun c1 => ?_)
  · skip
    refine lv_iconst (v := 0) hx hb dX6_isSheet_13 (by decide) ?_
    exact b_zret hx hb hr hlocks (by decide) hH (⟨rfl, Or.inr (⟨rfl, (by have e0 : (0 : Int32).toInt = 0 := (by decide); try simp only [b_lt, b_le, b_eq] at c1; omega)⟩)⟩) dX6_isSheet_14
  · skip
    refine lv_iload_n hx hb dX6_isSheet_4 rfl (lv_at hl 0 rfl) ?_
    refine lv_iconst (v := 4) hx hb dX6_isSheet_5 (by decide) ?_
    refine lv_icmp_ge (tgt := 13) hx hb dX6_isSheet_6 (by decide) (fun c2 => ?_) (fun c2 => ?_)
    · skip
      refine lv_iconst (v := 0) hx hb dX6_isSheet_13 (by decide) ?_
      exact b_zret hx hb hr hlocks (by decide) hH (⟨rfl, Or.inr (⟨rfl, (by have e0 : (0 : Int32).toInt = 0 := (by decide); have e4 : (4 : Int32).toInt = 4 := (by decide); try simp only [b_lt, b_le, b_eq] at c1 c2; omega)⟩)⟩) dX6_isSheet_14
    · skip
      refine lv_iconst (v := 1) hx hb dX6_isSheet_9 (by decide) ?_
      refine lv_goto (tgt := 14) hx hb dX6_isSheet_10 (by decide) ?_
      exact b_zret hx hb hr hlocks (by decide) hH (⟨rfl, Or.inl ⟨rfl, (by have e0 : (0 : Int32).toInt = 0 := (by decide); have e4 : (4 : Int32).toInt = 4 := (by decide); try simp only [b_lt, b_le, b_eq] at c1 c2; omega)⟩⟩) dX6_isSheet_14
set_option maxHeartbeats 4000000 in
set_option maxRecDepth 100000 in
theorem c_X6_meet_0 (l : Launch) (D : va_G) (cy : Nat → ClassId) (q : Nat → Nat) (hq : bJ 23 q) (z : zS) (hF : Fm z) (a : Int32)   : bCi l yX6_meet wsX6_meet ({ frames := 0, cells := 0, slots := 0, locals := 0 }) D cy 23 (enM cy) q z [.ref (q 0), .int a] (fun r z' => (a : Int32) = r) := by
  intro sz
  refine Met.ofW (cc := cX6_meet) (maxL := 2) (ret := (some .int)) (by decide) rfl ?_
  intro p e s m args below meth c s₁ B hml hv
  obtain ⟨rfl, hsz, hP, hK, hZ⟩ := hv
  have hx := B.exec
  have hb := B.bytes
  have hr := B.returns
  have hts := atoms_spec (ws := wsX6_meet) B.pre
  have hown : s.vm.findClass RX6 = some m.cls := findClass_of_methodNamed B.named
  have hlocks := B.notSynchronized
  subst hsz
  have hH : bH D 23 (enM cy) q z s.heap s.heap [] := bH_in hq hP
  have hl := lv_entry ([.ref (q 0), .int a]) (n := 2) (Nat.le_of_ble_eq_true rfl)
  rw [lg_entry_eq]
  generalize (lg_sl ([.ref (q 0), .int a]) ++ List.replicate (2 - (lg_sl ([.ref (q 0), .int a])).length) Slot.unset).toArray = ls at hl ⊢
  have hl : lv_has ls 2 [(0, .ref (q 0)), (1, .int a)] := hl
  refine lv_aload_n hx hb dX6_meet_0 rfl (lv_at hl 0 rfl) ?_
  refine lv_dup hx hb dX6_meet_1 rfl ?_
  refine b_get (ci := 6) (C := RX6) (T := TX6) (Nf := 29) (v := .int 0) hx hb hts in_X6_meet_X6 hown hK hH 0 (by decide) rfl rfl 18 (by decide) (hts (.fieldLink RX6 82 "StationLineModel" "met" "I") (List.mem_of_getElem? (i := 1) rfl)) (congrArg (fun x => some (Value.int x)) (Fm_5 hF)) dX6_meet_2 ?_
  refine lv_iconst (v := 1) hx hb dX6_meet_5 (by decide) ?_
  refine lv_iadd hx hb dX6_meet_6 ?_
  refine b_vi (v := 1) (by decide) ?_
  refine b_put (ci := 6) (C := RX6) (T := TX6) (Nf := 29) (v := .int 1) (ty := .int) hx hb hts in_X6_meet_X6 tyX6 tyX6_ok nmX6 hown hK hH 0 (by decide) rfl rfl 18 (by decide) (hts (.fieldLink RX6 82 "StationLineModel" "met" "I") (List.mem_of_getElem? (i := 1) rfl)) rfl (by decide +kernel) rfl rfl (Nat.le_of_ble_eq_true rfl) (upS z 6 1) rfl (enM_S6 _ _ _ _) dX6_meet_7 (fun H locs hH => ?_)
  obtain ⟨z1, hz1⟩ : ∃ w : zS, w = upS z 6 1 := ⟨_, rfl⟩
  rw [← hz1] at hH
  refine lv_iload_n hx hb dX6_meet_10 rfl (lv_at hl 1 rfl) ?_
  exact b_iret hx hb hr hlocks hH ((by first | rfl | omega | (exfalso; omega))) dX6_meet_11
set_option maxHeartbeats 4000000 in
set_option maxRecDepth 100000 in
theorem c_X6_room_0 (l : Launch) (D : va_G) (cy : Nat → ClassId) (q : Nat → Nat) (hq : bJ 23 q) (z : zS) (hF : Fm z)  : bCi l yX6_room wsX6_room ({ frames := 0, cells := 0, slots := 0, locals := 0 }) D cy 23 (enM cy) q z [.ref (q 0)] (fun r z' => z = z' ∧ (z.1 2 : Int32) = r) := by
  intro sz
  refine Met.ofW (cc := cX6_room) (maxL := 1) (ret := (some .int)) (by decide) rfl ?_
  intro p e s m args below meth c s₁ B hml hv
  obtain ⟨rfl, hsz, hP, hK, hZ⟩ := hv
  have hx := B.exec
  have hb := B.bytes
  have hr := B.returns
  have hts := atoms_spec (ws := wsX6_room) B.pre
  have hown : s.vm.findClass RX6 = some m.cls := findClass_of_methodNamed B.named
  have hlocks := B.notSynchronized
  subst hsz
  have hH : bH D 23 (enM cy) q z s.heap s.heap [] := bH_in hq hP
  have hl := lv_entry ([.ref (q 0)]) (n := 1) (Nat.le_of_ble_eq_true rfl)
  rw [lg_entry_eq]
  generalize (lg_sl ([.ref (q 0)]) ++ List.replicate (1 - (lg_sl ([.ref (q 0)])).length) Slot.unset).toArray = ls at hl ⊢
  have hl : lv_has ls 1 [(0, .ref (q 0))] := hl
  refine lv_aload_n hx hb dX6_room_0 rfl (lv_at hl 0 rfl) ?_
  refine b_get (ci := 6) (C := RX6) (T := TX6) (Nf := 29) (v := .int 0) hx hb hts in_X6_room_X6 hown hK hH 0 (by decide) rfl rfl 7 (by decide) (hts (.fieldLink RX6 113 "StationLineModel" "kind" "I") (List.mem_of_getElem? (i := 1) rfl)) (congrArg (fun x => some (Value.int x)) (Fm_1 hF)) dX6_room_1 ?_
  refine lv_iconst (v := 2) hx hb dX6_room_4 (by decide) ?_
  refine lv_icmp_ne (tgt := 36) hx hb dX6_room_5 (by decide) (fun _ => ?_) (fun c0 => absurd c0 (by decide))
  refine lv_aload_n hx hb dX6_room_36 rfl (lv_at hl 0 rfl) ?_
  refine b_get (ci := 6) (C := RX6) (T := TX6) (Nf := 29) (v := .int (z.1 2)) hx hb hts in_X6_room_X6 hown hK hH 0 (by decide) rfl rfl 8 (by decide) (hts (.fieldLink RX6 28 "StationLineModel" "beat" "I") (List.mem_of_getElem? (i := 2) rfl)) rfl dX6_room_37 ?_
  exact b_iret hx hb hr hlocks hH (⟨rfl, (by first | rfl | (exfalso; omega))⟩) dX6_room_40
set_option maxHeartbeats 4000000 in
set_option maxRecDepth 100000 in
theorem c_X6_sumOf_0 (l : Launch) (D : va_G) (cy : Nat → ClassId) (q : Nat → Nat) (hq : bJ 23 q) (z : zS) (hF : Fm z) (a : Int32) (b : Int32) : bCi l yX6_sumOf wsX6_sumOf ({ frames := 1, cells := 0, slots := 0, locals := 21 }) D cy 23 (enM cy) q z [.ref (q 0), .int a, .int b] (fun r z' => z = z' ∧ (0 : Int32) = r) := by
  intro sz
  refine Met.ofW (cc := cX6_sumOf) (maxL := 5) (ret := (some .int)) (by decide) rfl ?_
  intro p e s m args below meth c s₁ B hml hv
  obtain ⟨rfl, hsz, hP, hK, hZ⟩ := hv
  have hx := B.exec
  have hb := B.bytes
  have hr := B.returns
  have hts := atoms_spec (ws := wsX6_sumOf) B.pre
  have hown : s.vm.findClass RX6 = some m.cls := findClass_of_methodNamed B.named
  have hlocks := B.notSynchronized
  subst hsz
  have hH : bH D 23 (enM cy) q z s.heap s.heap [] := bH_in hq hP
  have hl := lv_entry ([.ref (q 0), .int a, .int b]) (n := 5) (Nat.le_of_ble_eq_true rfl)
  rw [lg_entry_eq]
  generalize (lg_sl ([.ref (q 0), .int a, .int b]) ++ List.replicate (5 - (lg_sl ([.ref (q 0), .int a, .int b])).length) Slot.unset).toArray = ls at hl ⊢
  have hl : lv_has ls 5 [(0, .ref (q 0)), (1, .int a), (2, .int b)] := hl
  refine lv_iconst (v := 0) hx hb dX6_sumOf_0 (by decide) ?_
  refine lv_istore_n (lv' := [(3, .int 0), (0, .ref (q 0)), (1, .int a), (2, .int b)]) hx hb dX6_sumOf_1 rfl hl (by decide) rfl (fun ls hl => ?_)
  refine lv_iconst (v := 0) hx hb dX6_sumOf_2 (by decide) ?_
  refine lv_istore (lv' := [(4, .int 0), (3, .int 0), (0, .ref (q 0)), (1, .int a), (2, .int b)]) hx hb dX6_sumOf_3 hl (by decide) rfl (fun ls hl => ?_)
  refine lv_iload hx hb dX6_sumOf_5 (lv_at hl 0 rfl) ?_
  refine lv_aload_n hx hb dX6_sumOf_7 rfl (lv_at hl 2 rfl) ?_
  refine b_get (ci := 6) (C := RX6) (T := TX6) (Nf := 29) (v := .int 0) hx hb hts in_X6_sumOf_X6 hown hK hH 0 (by decide) rfl rfl 0 (by decide) (hts (.fieldLink RX6 85 "StationLineModel" "tasks" "I") (List.mem_of_getElem? (i := 1) rfl)) (congrArg (fun x => some (Value.int x)) (Fm_0 hF)) dX6_sumOf_8 ?_
  refine lv_icmp_ge (tgt := 47) hx hb dX6_sumOf_11 (by decide) (fun _ => ?_) (fun c0 => absurd c0 (by decide))
  refine lv_iload_n hx hb dX6_sumOf_47 rfl (lv_at hl 1 rfl) ?_
  exact b_iret hx hb hr hlocks hH (⟨rfl, (by first | rfl | (exfalso; omega))⟩) dX6_sumOf_48
set_option maxHeartbeats 4000000 in
set_option maxRecDepth 100000 in
theorem c_X6_loadOf_0 (l : Launch) (D : va_G) (cy : Nat → ClassId) (q : Nat → Nat) (hq : bJ 23 q) (z : zS) (hF : Fm z) (a : Int32) : bCi l yX6_loadOf wsX6_loadOf ({ frames := 2, cells := 0, slots := 0, locals := 45 }) D cy 23 (enM cy) q z [.ref (q 0), .int a] (fun r z' => z = z' ∧ (0 : Int32) = r) := by
  intro sz
  refine Met.ofW (cc := cX6_loadOf) (maxL := 5) (ret := (some .int)) (by decide) rfl ?_
  intro p e s m args below meth c s₁ B hml hv
  obtain ⟨rfl, hsz, hP, hK, hZ⟩ := hv
  have hx := B.exec
  have hb := B.bytes
  have hr := B.returns
  have hts := atoms_spec (ws := wsX6_loadOf) B.pre
  have hown : s.vm.findClass RX6 = some m.cls := findClass_of_methodNamed B.named
  have hlocks := B.notSynchronized
  subst hsz
  have hH : bH D 23 (enM cy) q z s.heap s.heap [] := bH_in hq hP
  have hl := lv_entry ([.ref (q 0), .int a]) (n := 5) (Nat.le_of_ble_eq_true rfl)
  rw [lg_entry_eq]
  generalize (lg_sl ([.ref (q 0), .int a]) ++ List.replicate (5 - (lg_sl ([.ref (q 0), .int a])).length) Slot.unset).toArray = ls at hl ⊢
  have hl : lv_has ls 5 [(0, .ref (q 0)), (1, .int a)] := hl
  refine lv_aload_n hx hb dX6_loadOf_0 rfl (lv_at hl 0 rfl) ?_
  refine b_get (ci := 6) (C := RX6) (T := TX6) (Nf := 29) (v := .int 0) hx hb hts in_X6_loadOf_X6 hown hK hH 0 (by decide) rfl rfl 7 (by decide) (hts (.fieldLink RX6 113 "StationLineModel" "kind" "I") (List.mem_of_getElem? (i := 1) rfl)) (congrArg (fun x => some (Value.int x)) (Fm_1 hF)) dX6_loadOf_1 ?_
  refine lv_iconst (v := 2) hx hb dX6_loadOf_4 (by decide) ?_
  refine lv_icmp_ge (tgt := 15) hx hb dX6_loadOf_5 (by decide) (fun c0 => absurd c0 (by decide)) (fun _ => ?_)
  refine lv_aload_n hx hb dX6_loadOf_8 rfl (lv_at hl 0 rfl) ?_
  refine lv_iload_n hx hb dX6_loadOf_9 rfl (lv_at hl 1 rfl) ?_
  refine lv_iconst (v := 0) hx hb dX6_loadOf_10 (by decide) ?_
  refine b_calli (As := [.int a, .int 0]) (rest := []) ⟨hx, hb, hml, hown, hts⟩ 0 6 (c_X6_sumOf_0 l D cy q hH.2.1 z hF a 0 ) (cwV 2 hts gX6_loadOf_X6_sumOf rfl rfl rfl (by decide +kernel) ⟨Nat.le_of_ble_eq_true rfl, Nat.le_of_ble_eq_true rfl⟩) hK hZ hH (by decide) rfl rfl rfl hl.1 rfl (Nat.le_of_ble_eq_true rfl) ⟨Nat.zero_le _, Nat.zero_le _⟩ dX6_loadOf_11 (fun r1 z1 H locs hp1 hH => ?_)
  obtain ⟨rfl, rfl⟩ := hp1
  exact b_iret hx hb hr hlocks hH (⟨rfl, (by first | rfl | (exfalso; omega))⟩) dX6_loadOf_14
set_option maxHeartbeats 4000000 in
set_option maxRecDepth 100000 in
theorem c_X6_setAt_0_r6 (l : Launch) (D : va_G) (cy : Nat → ClassId) (q : Nat → Nat) (hq : bJ 23 q) (z : zS) (hF : Fm z) (k : Int32) : bCi l yX6_setAt wsX6_setAt ({ frames := 0, cells := 0, slots := 0, locals := 0 }) D cy 23 (enM cy) q z [.ref (q 0), .ref (q 6), .int k] (fun r z' => z = z' ∧ (0 : Int32) = r) := by
  intro sz
  refine Met.ofW (cc := cX6_setAt) (maxL := 5) (ret := (some .int)) (by decide) rfl ?_
  intro p e s m args below meth c s₁ B hml hv
  obtain ⟨rfl, hsz, hP, hK, hZ⟩ := hv
  have hx := B.exec
  have hb := B.bytes
  have hr := B.returns
  have hts := atoms_spec (ws := wsX6_setAt) B.pre
  have hown : s.vm.findClass RX6 = some m.cls := findClass_of_methodNamed B.named
  have hlocks := B.notSynchronized
  subst hsz
  have hH : bH D 23 (enM cy) q z s.heap s.heap [] := bH_in hq hP
  have hl := lv_entry ([.ref (q 0), .ref (q 6), .int k]) (n := 5) (Nat.le_of_ble_eq_true rfl)
  rw [lg_entry_eq]
  generalize (lg_sl ([.ref (q 0), .ref (q 6), .int k]) ++ List.replicate (5 - (lg_sl ([.ref (q 0), .ref (q 6), .int k])).length) Slot.unset).toArray = ls at hl ⊢
  have hl : lv_has ls 5 [(0, .ref (q 0)), (1, .ref (q 6)), (2, .int k)] := hl
  refine lv_iconst (v := 0) hx hb dX6_setAt_0 (by decide) ?_
  refine lv_istore_n (lv' := [(3, .int 0), (0, .ref (q 0)), (1, .ref (q 6)), (2, .int k)]) hx hb dX6_setAt_1 rfl hl (by decide) rfl (fun ls hl => ?_)
  refine lv_iconst (v := 0) hx hb dX6_setAt_2 (by decide) ?_
  refine lv_istore (lv' := [(4, .int 0), (3, .int 0), (0, .ref (q 0)), (1, .ref (q 6)), (2, .int k)]) hx hb dX6_setAt_3 hl (by decide) rfl (fun ls hl => ?_)
  refine lv_iload hx hb dX6_setAt_5 (lv_at hl 0 rfl) ?_
  refine lv_aload_n hx hb dX6_setAt_7 rfl (lv_at hl 2 rfl) ?_
  refine b_get (ci := 6) (C := RX6) (T := TX6) (Nf := 29) (v := .int 0) hx hb hts in_X6_setAt_X6 hown hK hH 0 (by decide) rfl rfl 0 (by decide) (hts (.fieldLink RX6 85 "StationLineModel" "tasks" "I") (List.mem_of_getElem? (i := 1) rfl)) (congrArg (fun x => some (Value.int x)) (Fm_0 hF)) dX6_setAt_8 ?_
  refine lv_icmp_ge (tgt := 39) hx hb dX6_setAt_11 (by decide) (fun _ => ?_) (fun c0 => absurd c0 (by decide))
  refine lv_iload_n hx hb dX6_setAt_39 rfl (lv_at hl 1 rfl) ?_
  exact b_iret hx hb hr hlocks hH (⟨rfl, (by first | rfl | (exfalso; omega))⟩) dX6_setAt_40
set_option maxHeartbeats 4000000 in
set_option maxRecDepth 100000 in
theorem c_X6_lengthOf_0_r6 (l : Launch) (D : va_G) (cy : Nat → ClassId) (q : Nat → Nat) (hq : bJ 23 q) (z : zS) (hF : Fm z)  : bCi l yX6_lengthOf wsX6_lengthOf ({ frames := 0, cells := 0, slots := 0, locals := 0 }) D cy 23 (enM cy) q z [.ref (q 0), .ref (q 6)] (fun r z' => z = z' ∧ (0 : Int32) = r) := by
  intro sz
  refine Met.ofW (cc := cX6_lengthOf) (maxL := 4) (ret := (some .int)) (by decide) rfl ?_
  intro p e s m args below meth c s₁ B hml hv
  obtain ⟨rfl, hsz, hP, hK, hZ⟩ := hv
  have hx := B.exec
  have hb := B.bytes
  have hr := B.returns
  have hts := atoms_spec (ws := wsX6_lengthOf) B.pre
  have hown : s.vm.findClass RX6 = some m.cls := findClass_of_methodNamed B.named
  have hlocks := B.notSynchronized
  subst hsz
  have hH : bH D 23 (enM cy) q z s.heap s.heap [] := bH_in hq hP
  have hl := lv_entry ([.ref (q 0), .ref (q 6)]) (n := 4) (Nat.le_of_ble_eq_true rfl)
  rw [lg_entry_eq]
  generalize (lg_sl ([.ref (q 0), .ref (q 6)]) ++ List.replicate (4 - (lg_sl ([.ref (q 0), .ref (q 6)])).length) Slot.unset).toArray = ls at hl ⊢
  have hl : lv_has ls 4 [(0, .ref (q 0)), (1, .ref (q 6))] := hl
  refine lv_iconst (v := 0) hx hb dX6_lengthOf_0 (by decide) ?_
  refine lv_istore_n (lv' := [(2, .int 0), (0, .ref (q 0)), (1, .ref (q 6))]) hx hb dX6_lengthOf_1 rfl hl (by decide) rfl (fun ls hl => ?_)
  refine lv_iconst (v := 0) hx hb dX6_lengthOf_2 (by decide) ?_
  refine lv_istore_n (lv' := [(3, .int 0), (2, .int 0), (0, .ref (q 0)), (1, .ref (q 6))]) hx hb dX6_lengthOf_3 rfl hl (by decide) rfl (fun ls hl => ?_)
  refine lv_iload_n hx hb dX6_lengthOf_4 rfl (lv_at hl 0 rfl) ?_
  refine lv_aload_n hx hb dX6_lengthOf_5 rfl (lv_at hl 2 rfl) ?_
  refine b_get (ci := 6) (C := RX6) (T := TX6) (Nf := 29) (v := .int 0) hx hb hts in_X6_lengthOf_X6 hown hK hH 0 (by decide) rfl rfl 0 (by decide) (hts (.fieldLink RX6 85 "StationLineModel" "tasks" "I") (List.mem_of_getElem? (i := 1) rfl)) (congrArg (fun x => some (Value.int x)) (Fm_0 hF)) dX6_lengthOf_6 ?_
  refine lv_icmp_ge (tgt := 33) hx hb dX6_lengthOf_9 (by decide) (fun _ => ?_) (fun c0 => absurd c0 (by decide))
  refine lv_iload_n hx hb dX6_lengthOf_33 rfl (lv_at hl 1 rfl) ?_
  exact b_iret hx hb hr hlocks hH (⟨rfl, (by first | rfl | (exfalso; omega))⟩) dX6_lengthOf_34
set_option maxHeartbeats 4000000 in
set_option maxRecDepth 100000 in
theorem c_X6_clashIn_0_r6 (l : Launch) (D : va_G) (cy : Nat → ClassId) (q : Nat → Nat) (hq : bJ 23 q) (z : zS) (hF : Fm z)  : bCi l yX6_clashIn wsX6_clashIn ({ frames := 4, cells := 0, slots := 0, locals := 95 }) D cy 23 (enM cy) q z [.ref (q 0), .ref (q 6)] (fun r z' => z = z' ∧ (-1 : Int32) = r) := by
  intro sz
  refine Met.ofW (cc := cX6_clashIn) (maxL := 3) (ret := (some .int)) (by decide) rfl ?_
  intro p e s m args below meth c s₁ B hml hv
  obtain ⟨rfl, hsz, hP, hK, hZ⟩ := hv
  have hx := B.exec
  have hb := B.bytes
  have hr := B.returns
  have hts := atoms_spec (ws := wsX6_clashIn) B.pre
  have hown : s.vm.findClass RX6 = some m.cls := findClass_of_methodNamed B.named
  have hlocks := B.notSynchronized
  subst hsz
  have hH : bH D 23 (enM cy) q z s.heap s.heap [] := bH_in hq hP
  have hl := lv_entry ([.ref (q 0), .ref (q 6)]) (n := 3) (Nat.le_of_ble_eq_true rfl)
  rw [lg_entry_eq]
  generalize (lg_sl ([.ref (q 0), .ref (q 6)]) ++ List.replicate (3 - (lg_sl ([.ref (q 0), .ref (q 6)])).length) Slot.unset).toArray = ls at hl ⊢
  have hl : lv_has ls 3 [(0, .ref (q 0)), (1, .ref (q 6))] := hl
  refine lv_iconst (v := 0) hx hb dX6_clashIn_0 (by decide) ?_
  refine lv_istore_n (lv' := [(2, .int 0), (0, .ref (q 0)), (1, .ref (q 6))]) hx hb dX6_clashIn_1 rfl hl (by decide) rfl (fun ls hl => ?_)
  refine lv_iload_n hx hb dX6_clashIn_2 rfl (lv_at hl 0 rfl) ?_
  refine lv_aload_n hx hb dX6_clashIn_3 rfl (lv_at hl 1 rfl) ?_
  refine b_get (ci := 6) (C := RX6) (T := TX6) (Nf := 29) (v := .int 0) hx hb hts in_X6_clashIn_X6 hown hK hH 0 (by decide) rfl rfl 0 (by decide) (hts (.fieldLink RX6 85 "StationLineModel" "tasks" "I") (List.mem_of_getElem? (i := 1) rfl)) (congrArg (fun x => some (Value.int x)) (Fm_0 hF)) dX6_clashIn_4 ?_
  refine lv_icmp_ge (tgt := 27) hx hb dX6_clashIn_7 (by decide) (fun _ => ?_) (fun c0 => absurd c0 (by decide))
  refine lv_iconst (v := (-1)) hx hb dX6_clashIn_27 (by decide) ?_
  exact b_iret hx hb hr hlocks hH (⟨rfl, (by first | rfl | (exfalso; omega))⟩) dX6_clashIn_28
set_option maxHeartbeats 4000000 in
set_option maxRecDepth 100000 in
theorem c_X6_setAt_0_r21 (l : Launch) (D : va_G) (cy : Nat → ClassId) (q : Nat → Nat) (hq : bJ 23 q) (z : zS) (hF : Fm z) (k : Int32) : bCi l yX6_setAt wsX6_setAt ({ frames := 0, cells := 0, slots := 0, locals := 0 }) D cy 23 (enM cy) q z [.ref (q 0), .ref (q 21), .int k] (fun r z' => z = z' ∧ (0 : Int32) = r) := by
  intro sz
  refine Met.ofW (cc := cX6_setAt) (maxL := 5) (ret := (some .int)) (by decide) rfl ?_
  intro p e s m args below meth c s₁ B hml hv
  obtain ⟨rfl, hsz, hP, hK, hZ⟩ := hv
  have hx := B.exec
  have hb := B.bytes
  have hr := B.returns
  have hts := atoms_spec (ws := wsX6_setAt) B.pre
  have hown : s.vm.findClass RX6 = some m.cls := findClass_of_methodNamed B.named
  have hlocks := B.notSynchronized
  subst hsz
  have hH : bH D 23 (enM cy) q z s.heap s.heap [] := bH_in hq hP
  have hl := lv_entry ([.ref (q 0), .ref (q 21), .int k]) (n := 5) (Nat.le_of_ble_eq_true rfl)
  rw [lg_entry_eq]
  generalize (lg_sl ([.ref (q 0), .ref (q 21), .int k]) ++ List.replicate (5 - (lg_sl ([.ref (q 0), .ref (q 21), .int k])).length) Slot.unset).toArray = ls at hl ⊢
  have hl : lv_has ls 5 [(0, .ref (q 0)), (1, .ref (q 21)), (2, .int k)] := hl
  refine lv_iconst (v := 0) hx hb dX6_setAt_0 (by decide) ?_
  refine lv_istore_n (lv' := [(3, .int 0), (0, .ref (q 0)), (1, .ref (q 21)), (2, .int k)]) hx hb dX6_setAt_1 rfl hl (by decide) rfl (fun ls hl => ?_)
  refine lv_iconst (v := 0) hx hb dX6_setAt_2 (by decide) ?_
  refine lv_istore (lv' := [(4, .int 0), (3, .int 0), (0, .ref (q 0)), (1, .ref (q 21)), (2, .int k)]) hx hb dX6_setAt_3 hl (by decide) rfl (fun ls hl => ?_)
  refine lv_iload hx hb dX6_setAt_5 (lv_at hl 0 rfl) ?_
  refine lv_aload_n hx hb dX6_setAt_7 rfl (lv_at hl 2 rfl) ?_
  refine b_get (ci := 6) (C := RX6) (T := TX6) (Nf := 29) (v := .int 0) hx hb hts in_X6_setAt_X6 hown hK hH 0 (by decide) rfl rfl 0 (by decide) (hts (.fieldLink RX6 85 "StationLineModel" "tasks" "I") (List.mem_of_getElem? (i := 1) rfl)) (congrArg (fun x => some (Value.int x)) (Fm_0 hF)) dX6_setAt_8 ?_
  refine lv_icmp_ge (tgt := 39) hx hb dX6_setAt_11 (by decide) (fun _ => ?_) (fun c0 => absurd c0 (by decide))
  refine lv_iload_n hx hb dX6_setAt_39 rfl (lv_at hl 1 rfl) ?_
  exact b_iret hx hb hr hlocks hH (⟨rfl, (by first | rfl | (exfalso; omega))⟩) dX6_setAt_40
set_option maxHeartbeats 4000000 in
set_option maxRecDepth 100000 in
theorem c_X6_lengthOf_0_r21 (l : Launch) (D : va_G) (cy : Nat → ClassId) (q : Nat → Nat) (hq : bJ 23 q) (z : zS) (hF : Fm z)  : bCi l yX6_lengthOf wsX6_lengthOf ({ frames := 0, cells := 0, slots := 0, locals := 0 }) D cy 23 (enM cy) q z [.ref (q 0), .ref (q 21)] (fun r z' => z = z' ∧ (0 : Int32) = r) := by
  intro sz
  refine Met.ofW (cc := cX6_lengthOf) (maxL := 4) (ret := (some .int)) (by decide) rfl ?_
  intro p e s m args below meth c s₁ B hml hv
  obtain ⟨rfl, hsz, hP, hK, hZ⟩ := hv
  have hx := B.exec
  have hb := B.bytes
  have hr := B.returns
  have hts := atoms_spec (ws := wsX6_lengthOf) B.pre
  have hown : s.vm.findClass RX6 = some m.cls := findClass_of_methodNamed B.named
  have hlocks := B.notSynchronized
  subst hsz
  have hH : bH D 23 (enM cy) q z s.heap s.heap [] := bH_in hq hP
  have hl := lv_entry ([.ref (q 0), .ref (q 21)]) (n := 4) (Nat.le_of_ble_eq_true rfl)
  rw [lg_entry_eq]
  generalize (lg_sl ([.ref (q 0), .ref (q 21)]) ++ List.replicate (4 - (lg_sl ([.ref (q 0), .ref (q 21)])).length) Slot.unset).toArray = ls at hl ⊢
  have hl : lv_has ls 4 [(0, .ref (q 0)), (1, .ref (q 21))] := hl
  refine lv_iconst (v := 0) hx hb dX6_lengthOf_0 (by decide) ?_
  refine lv_istore_n (lv' := [(2, .int 0), (0, .ref (q 0)), (1, .ref (q 21))]) hx hb dX6_lengthOf_1 rfl hl (by decide) rfl (fun ls hl => ?_)
  refine lv_iconst (v := 0) hx hb dX6_lengthOf_2 (by decide) ?_
  refine lv_istore_n (lv' := [(3, .int 0), (2, .int 0), (0, .ref (q 0)), (1, .ref (q 21))]) hx hb dX6_lengthOf_3 rfl hl (by decide) rfl (fun ls hl => ?_)
  refine lv_iload_n hx hb dX6_lengthOf_4 rfl (lv_at hl 0 rfl) ?_
  refine lv_aload_n hx hb dX6_lengthOf_5 rfl (lv_at hl 2 rfl) ?_
  refine b_get (ci := 6) (C := RX6) (T := TX6) (Nf := 29) (v := .int 0) hx hb hts in_X6_lengthOf_X6 hown hK hH 0 (by decide) rfl rfl 0 (by decide) (hts (.fieldLink RX6 85 "StationLineModel" "tasks" "I") (List.mem_of_getElem? (i := 1) rfl)) (congrArg (fun x => some (Value.int x)) (Fm_0 hF)) dX6_lengthOf_6 ?_
  refine lv_icmp_ge (tgt := 33) hx hb dX6_lengthOf_9 (by decide) (fun _ => ?_) (fun c0 => absurd c0 (by decide))
  refine lv_iload_n hx hb dX6_lengthOf_33 rfl (lv_at hl 1 rfl) ?_
  exact b_iret hx hb hr hlocks hH (⟨rfl, (by first | rfl | (exfalso; omega))⟩) dX6_lengthOf_34
set_option maxHeartbeats 4000000 in
set_option maxRecDepth 100000 in
theorem c_X6_clashIn_0_r21 (l : Launch) (D : va_G) (cy : Nat → ClassId) (q : Nat → Nat) (hq : bJ 23 q) (z : zS) (hF : Fm z)  : bCi l yX6_clashIn wsX6_clashIn ({ frames := 4, cells := 0, slots := 0, locals := 95 }) D cy 23 (enM cy) q z [.ref (q 0), .ref (q 21)] (fun r z' => z = z' ∧ (-1 : Int32) = r) := by
  intro sz
  refine Met.ofW (cc := cX6_clashIn) (maxL := 3) (ret := (some .int)) (by decide) rfl ?_
  intro p e s m args below meth c s₁ B hml hv
  obtain ⟨rfl, hsz, hP, hK, hZ⟩ := hv
  have hx := B.exec
  have hb := B.bytes
  have hr := B.returns
  have hts := atoms_spec (ws := wsX6_clashIn) B.pre
  have hown : s.vm.findClass RX6 = some m.cls := findClass_of_methodNamed B.named
  have hlocks := B.notSynchronized
  subst hsz
  have hH : bH D 23 (enM cy) q z s.heap s.heap [] := bH_in hq hP
  have hl := lv_entry ([.ref (q 0), .ref (q 21)]) (n := 3) (Nat.le_of_ble_eq_true rfl)
  rw [lg_entry_eq]
  generalize (lg_sl ([.ref (q 0), .ref (q 21)]) ++ List.replicate (3 - (lg_sl ([.ref (q 0), .ref (q 21)])).length) Slot.unset).toArray = ls at hl ⊢
  have hl : lv_has ls 3 [(0, .ref (q 0)), (1, .ref (q 21))] := hl
  refine lv_iconst (v := 0) hx hb dX6_clashIn_0 (by decide) ?_
  refine lv_istore_n (lv' := [(2, .int 0), (0, .ref (q 0)), (1, .ref (q 21))]) hx hb dX6_clashIn_1 rfl hl (by decide) rfl (fun ls hl => ?_)
  refine lv_iload_n hx hb dX6_clashIn_2 rfl (lv_at hl 0 rfl) ?_
  refine lv_aload_n hx hb dX6_clashIn_3 rfl (lv_at hl 1 rfl) ?_
  refine b_get (ci := 6) (C := RX6) (T := TX6) (Nf := 29) (v := .int 0) hx hb hts in_X6_clashIn_X6 hown hK hH 0 (by decide) rfl rfl 0 (by decide) (hts (.fieldLink RX6 85 "StationLineModel" "tasks" "I") (List.mem_of_getElem? (i := 1) rfl)) (congrArg (fun x => some (Value.int x)) (Fm_0 hF)) dX6_clashIn_4 ?_
  refine lv_icmp_ge (tgt := 27) hx hb dX6_clashIn_7 (by decide) (fun _ => ?_) (fun c0 => absurd c0 (by decide))
  refine lv_iconst (v := (-1)) hx hb dX6_clashIn_27 (by decide) ?_
  exact b_iret hx hb hr hlocks hH (⟨rfl, (by first | rfl | (exfalso; omega))⟩) dX6_clashIn_28
set_option maxHeartbeats 4000000 in
set_option maxRecDepth 100000 in
theorem c_X6_squaresOf_0 (l : Launch) (D : va_G) (cy : Nat → ClassId) (q : Nat → Nat) (hq : bJ 23 q) (z : zS) (hF : Fm z)  : bCl l yX6_squaresOf wsX6_squaresOf ({ frames := 3, cells := 0, slots := 0, locals := 69 }) D cy 23 (enM cy) q z [.ref (q 0), .ref (q 6)] (fun r z' => z = z' ∧ (0 : Int64) = r) := by
  intro sz
  refine Met.ofW (cc := cX6_squaresOf) (maxL := 7) (ret := (some .long)) (by decide) rfl ?_
  intro p e s m args below meth c s₁ B hml hv
  obtain ⟨rfl, hsz, hP, hK, hZ⟩ := hv
  have hx := B.exec
  have hb := B.bytes
  have hr := B.returns
  have hts := atoms_spec (ws := wsX6_squaresOf) B.pre
  have hown : s.vm.findClass RX6 = some m.cls := findClass_of_methodNamed B.named
  have hlocks := B.notSynchronized
  subst hsz
  have hH : bH D 23 (enM cy) q z s.heap s.heap [] := bH_in hq hP
  have hl := lv_entry ([.ref (q 0), .ref (q 6)]) (n := 7) (Nat.le_of_ble_eq_true rfl)
  rw [lg_entry_eq]
  generalize (lg_sl ([.ref (q 0), .ref (q 6)]) ++ List.replicate (7 - (lg_sl ([.ref (q 0), .ref (q 6)])).length) Slot.unset).toArray = ls at hl ⊢
  have hl : lv_has ls 7 [(0, .ref (q 0)), (1, .ref (q 6))] := hl
  refine lv_lconst (v := 0) hx hb dX6_squaresOf_0 (by decide) ?_
  refine lv_lstore_n (lv' := [(2, .long 0), (0, .ref (q 0)), (1, .ref (q 6))]) hx hb dX6_squaresOf_1 rfl hl (by decide) rfl (fun ls hl => ?_)
  refine lv_iconst (v := 1) hx hb dX6_squaresOf_2 (by decide) ?_
  refine lv_istore (lv' := [(4, .int 1), (2, .long 0), (0, .ref (q 0)), (1, .ref (q 6))]) hx hb dX6_squaresOf_3 hl (by decide) rfl (fun ls hl => ?_)
  refine lv_iload hx hb dX6_squaresOf_5 (lv_at hl 0 rfl) ?_
  refine lv_bipush (v := 10) hx hb dX6_squaresOf_7 (by decide) ?_
  refine lv_icmp_gt (tgt := 40) hx hb dX6_squaresOf_9 (by decide) (fun c0 => absurd c0 (by decide)) (fun _ => ?_)
  refine lv_aload_n hx hb dX6_squaresOf_12 rfl (lv_at hl 2 rfl) ?_
  refine lv_aload_n hx hb dX6_squaresOf_13 rfl (lv_at hl 2 rfl) ?_
  refine lv_aload_n hx hb dX6_squaresOf_14 rfl (lv_at hl 3 rfl) ?_
  refine lv_iload hx hb dX6_squaresOf_15 (lv_at hl 0 rfl) ?_
  refine b_calli (As := [.ref (q 6), .int 1]) (rest := [.ref (q 0)]) ⟨hx, hb, hml, hown, hts⟩ 0 6 (c_X6_setAt_0_r6 l D cy q hH.2.1 z hF 1 ) (cwV 2 hts gX6_squaresOf_X6_setAt rfl rfl rfl (by decide +kernel) ⟨Nat.le_of_ble_eq_true rfl, Nat.le_of_ble_eq_true rfl⟩) hK hZ hH (by decide) rfl rfl rfl hl.1 rfl (Nat.le_of_ble_eq_true rfl) ⟨Nat.zero_le _, Nat.zero_le _⟩ dX6_squaresOf_17 (fun r1 z1 H locs hp1 hH => ?_)
  obtain ⟨rfl, rfl⟩ := hp1
  refine b_calli (As := [.int 0]) (rest := []) ⟨hx, hb, hml, hown, hts⟩ 0 6 (c_X6_loadOf_0 l D cy q hH.2.1 z hF 0 ) (cwV 1 hts gX6_squaresOf_X6_loadOf rfl rfl rfl (by decide +kernel) ⟨Nat.le_of_ble_eq_true rfl, Nat.le_of_ble_eq_true rfl⟩) hK hZ hH (by decide) rfl rfl rfl hl.1 rfl (Nat.le_of_ble_eq_true rfl) ⟨Nat.zero_le _, Nat.zero_le _⟩ dX6_squaresOf_20 (fun r2 z2 H locs hp2 hH => ?_)
  obtain ⟨rfl, rfl⟩ := hp2
  refine lv_i2l (v := 0) hx hb dX6_squaresOf_23 (by decide) ?_
  refine lv_lstore (lv' := [(5, .long 0), (4, .int 1), (2, .long 0), (0, .ref (q 0)), (1, .ref (q 6))]) hx hb dX6_squaresOf_24 hl (by decide) rfl (fun ls hl => ?_)
  refine lv_lload_n hx hb dX6_squaresOf_26 rfl (lv_at hl 2 rfl) ?_
  refine lv_lload hx hb dX6_squaresOf_27 (lv_at hl 0 rfl) ?_
  refine lv_lload hx hb dX6_squaresOf_29 (lv_at hl 0 rfl) ?_
  refine lv_lmul hx hb dX6_squaresOf_31 ?_
  refine b_vl (v := 0) (by decide) ?_
  refine lv_ladd hx hb dX6_squaresOf_32 ?_
  refine b_vl (v := 0) (by decide) ?_
  refine lv_lstore_n (lv' := [(2, .long 0), (5, .long 0), (4, .int 1), (0, .ref (q 0)), (1, .ref (q 6))]) hx hb dX6_squaresOf_33 rfl hl (by decide) rfl (fun ls hl => ?_)
  refine lv_iinc (v := 2) (lv' := [(4, .int 2), (2, .long 0), (5, .long 0), (0, .ref (q 0)), (1, .ref (q 6))]) hx hb dX6_squaresOf_34 hl (k := 2) rfl (by decide) (by decide) rfl (fun ls hl => ?_)
  refine lv_goto (tgt := 5) hx hb dX6_squaresOf_37 (by decide) ?_
  refine lv_iload hx hb dX6_squaresOf_5 (lv_at hl 0 rfl) ?_
  refine lv_bipush (v := 10) hx hb dX6_squaresOf_7 (by decide) ?_
  refine lv_icmp_gt (tgt := 40) hx hb dX6_squaresOf_9 (by decide) (fun c0 => absurd c0 (by decide)) (fun _ => ?_)
  refine lv_aload_n hx hb dX6_squaresOf_12 rfl (lv_at hl 3 rfl) ?_
  refine lv_aload_n hx hb dX6_squaresOf_13 rfl (lv_at hl 3 rfl) ?_
  refine lv_aload_n hx hb dX6_squaresOf_14 rfl (lv_at hl 4 rfl) ?_
  refine lv_iload hx hb dX6_squaresOf_15 (lv_at hl 0 rfl) ?_
  refine b_calli (As := [.ref (q 6), .int 2]) (rest := [.ref (q 0)]) ⟨hx, hb, hml, hown, hts⟩ 0 6 (c_X6_setAt_0_r6 l D cy q hH.2.1 z hF 2 ) (cwV 2 hts gX6_squaresOf_X6_setAt rfl rfl rfl (by decide +kernel) ⟨Nat.le_of_ble_eq_true rfl, Nat.le_of_ble_eq_true rfl⟩) hK hZ hH (by decide) rfl rfl rfl hl.1 rfl (Nat.le_of_ble_eq_true rfl) ⟨Nat.zero_le _, Nat.zero_le _⟩ dX6_squaresOf_17 (fun r3 z3 H locs hp3 hH => ?_)
  obtain ⟨rfl, rfl⟩ := hp3
  refine b_calli (As := [.int 0]) (rest := []) ⟨hx, hb, hml, hown, hts⟩ 0 6 (c_X6_loadOf_0 l D cy q hH.2.1 z hF 0 ) (cwV 1 hts gX6_squaresOf_X6_loadOf rfl rfl rfl (by decide +kernel) ⟨Nat.le_of_ble_eq_true rfl, Nat.le_of_ble_eq_true rfl⟩) hK hZ hH (by decide) rfl rfl rfl hl.1 rfl (Nat.le_of_ble_eq_true rfl) ⟨Nat.zero_le _, Nat.zero_le _⟩ dX6_squaresOf_20 (fun r4 z4 H locs hp4 hH => ?_)
  obtain ⟨rfl, rfl⟩ := hp4
  refine lv_i2l (v := 0) hx hb dX6_squaresOf_23 (by decide) ?_
  refine lv_lstore (lv' := [(5, .long 0), (4, .int 2), (2, .long 0), (0, .ref (q 0)), (1, .ref (q 6))]) hx hb dX6_squaresOf_24 hl (by decide) rfl (fun ls hl => ?_)
  refine lv_lload_n hx hb dX6_squaresOf_26 rfl (lv_at hl 2 rfl) ?_
  refine lv_lload hx hb dX6_squaresOf_27 (lv_at hl 0 rfl) ?_
  refine lv_lload hx hb dX6_squaresOf_29 (lv_at hl 0 rfl) ?_
  refine lv_lmul hx hb dX6_squaresOf_31 ?_
  refine b_vl (v := 0) (by decide) ?_
  refine lv_ladd hx hb dX6_squaresOf_32 ?_
  refine b_vl (v := 0) (by decide) ?_
  refine lv_lstore_n (lv' := [(2, .long 0), (5, .long 0), (4, .int 2), (0, .ref (q 0)), (1, .ref (q 6))]) hx hb dX6_squaresOf_33 rfl hl (by decide) rfl (fun ls hl => ?_)
  refine lv_iinc (v := 3) (lv' := [(4, .int 3), (2, .long 0), (5, .long 0), (0, .ref (q 0)), (1, .ref (q 6))]) hx hb dX6_squaresOf_34 hl (k := 2) rfl (by decide) (by decide) rfl (fun ls hl => ?_)
  refine lv_goto (tgt := 5) hx hb dX6_squaresOf_37 (by decide) ?_
  refine lv_iload hx hb dX6_squaresOf_5 (lv_at hl 0 rfl) ?_
  refine lv_bipush (v := 10) hx hb dX6_squaresOf_7 (by decide) ?_
  refine lv_icmp_gt (tgt := 40) hx hb dX6_squaresOf_9 (by decide) (fun c0 => absurd c0 (by decide)) (fun _ => ?_)
  refine lv_aload_n hx hb dX6_squaresOf_12 rfl (lv_at hl 3 rfl) ?_
  refine lv_aload_n hx hb dX6_squaresOf_13 rfl (lv_at hl 3 rfl) ?_
  refine lv_aload_n hx hb dX6_squaresOf_14 rfl (lv_at hl 4 rfl) ?_
  refine lv_iload hx hb dX6_squaresOf_15 (lv_at hl 0 rfl) ?_
  refine b_calli (As := [.ref (q 6), .int 3]) (rest := [.ref (q 0)]) ⟨hx, hb, hml, hown, hts⟩ 0 6 (c_X6_setAt_0_r6 l D cy q hH.2.1 z hF 3 ) (cwV 2 hts gX6_squaresOf_X6_setAt rfl rfl rfl (by decide +kernel) ⟨Nat.le_of_ble_eq_true rfl, Nat.le_of_ble_eq_true rfl⟩) hK hZ hH (by decide) rfl rfl rfl hl.1 rfl (Nat.le_of_ble_eq_true rfl) ⟨Nat.zero_le _, Nat.zero_le _⟩ dX6_squaresOf_17 (fun r5 z5 H locs hp5 hH => ?_)
  obtain ⟨rfl, rfl⟩ := hp5
  refine b_calli (As := [.int 0]) (rest := []) ⟨hx, hb, hml, hown, hts⟩ 0 6 (c_X6_loadOf_0 l D cy q hH.2.1 z hF 0 ) (cwV 1 hts gX6_squaresOf_X6_loadOf rfl rfl rfl (by decide +kernel) ⟨Nat.le_of_ble_eq_true rfl, Nat.le_of_ble_eq_true rfl⟩) hK hZ hH (by decide) rfl rfl rfl hl.1 rfl (Nat.le_of_ble_eq_true rfl) ⟨Nat.zero_le _, Nat.zero_le _⟩ dX6_squaresOf_20 (fun r6 z6 H locs hp6 hH => ?_)
  obtain ⟨rfl, rfl⟩ := hp6
  refine lv_i2l (v := 0) hx hb dX6_squaresOf_23 (by decide) ?_
  refine lv_lstore (lv' := [(5, .long 0), (4, .int 3), (2, .long 0), (0, .ref (q 0)), (1, .ref (q 6))]) hx hb dX6_squaresOf_24 hl (by decide) rfl (fun ls hl => ?_)
  refine lv_lload_n hx hb dX6_squaresOf_26 rfl (lv_at hl 2 rfl) ?_
  refine lv_lload hx hb dX6_squaresOf_27 (lv_at hl 0 rfl) ?_
  refine lv_lload hx hb dX6_squaresOf_29 (lv_at hl 0 rfl) ?_
  refine lv_lmul hx hb dX6_squaresOf_31 ?_
  refine b_vl (v := 0) (by decide) ?_
  refine lv_ladd hx hb dX6_squaresOf_32 ?_
  refine b_vl (v := 0) (by decide) ?_
  refine lv_lstore_n (lv' := [(2, .long 0), (5, .long 0), (4, .int 3), (0, .ref (q 0)), (1, .ref (q 6))]) hx hb dX6_squaresOf_33 rfl hl (by decide) rfl (fun ls hl => ?_)
  refine lv_iinc (v := 4) (lv' := [(4, .int 4), (2, .long 0), (5, .long 0), (0, .ref (q 0)), (1, .ref (q 6))]) hx hb dX6_squaresOf_34 hl (k := 2) rfl (by decide) (by decide) rfl (fun ls hl => ?_)
  refine lv_goto (tgt := 5) hx hb dX6_squaresOf_37 (by decide) ?_
  refine lv_iload hx hb dX6_squaresOf_5 (lv_at hl 0 rfl) ?_
  refine lv_bipush (v := 10) hx hb dX6_squaresOf_7 (by decide) ?_
  refine lv_icmp_gt (tgt := 40) hx hb dX6_squaresOf_9 (by decide) (fun c0 => absurd c0 (by decide)) (fun _ => ?_)
  refine lv_aload_n hx hb dX6_squaresOf_12 rfl (lv_at hl 3 rfl) ?_
  refine lv_aload_n hx hb dX6_squaresOf_13 rfl (lv_at hl 3 rfl) ?_
  refine lv_aload_n hx hb dX6_squaresOf_14 rfl (lv_at hl 4 rfl) ?_
  refine lv_iload hx hb dX6_squaresOf_15 (lv_at hl 0 rfl) ?_
  refine b_calli (As := [.ref (q 6), .int 4]) (rest := [.ref (q 0)]) ⟨hx, hb, hml, hown, hts⟩ 0 6 (c_X6_setAt_0_r6 l D cy q hH.2.1 z hF 4 ) (cwV 2 hts gX6_squaresOf_X6_setAt rfl rfl rfl (by decide +kernel) ⟨Nat.le_of_ble_eq_true rfl, Nat.le_of_ble_eq_true rfl⟩) hK hZ hH (by decide) rfl rfl rfl hl.1 rfl (Nat.le_of_ble_eq_true rfl) ⟨Nat.zero_le _, Nat.zero_le _⟩ dX6_squaresOf_17 (fun r7 z7 H locs hp7 hH => ?_)
  obtain ⟨rfl, rfl⟩ := hp7
  refine b_calli (As := [.int 0]) (rest := []) ⟨hx, hb, hml, hown, hts⟩ 0 6 (c_X6_loadOf_0 l D cy q hH.2.1 z hF 0 ) (cwV 1 hts gX6_squaresOf_X6_loadOf rfl rfl rfl (by decide +kernel) ⟨Nat.le_of_ble_eq_true rfl, Nat.le_of_ble_eq_true rfl⟩) hK hZ hH (by decide) rfl rfl rfl hl.1 rfl (Nat.le_of_ble_eq_true rfl) ⟨Nat.zero_le _, Nat.zero_le _⟩ dX6_squaresOf_20 (fun r8 z8 H locs hp8 hH => ?_)
  obtain ⟨rfl, rfl⟩ := hp8
  refine lv_i2l (v := 0) hx hb dX6_squaresOf_23 (by decide) ?_
  refine lv_lstore (lv' := [(5, .long 0), (4, .int 4), (2, .long 0), (0, .ref (q 0)), (1, .ref (q 6))]) hx hb dX6_squaresOf_24 hl (by decide) rfl (fun ls hl => ?_)
  refine lv_lload_n hx hb dX6_squaresOf_26 rfl (lv_at hl 2 rfl) ?_
  refine lv_lload hx hb dX6_squaresOf_27 (lv_at hl 0 rfl) ?_
  refine lv_lload hx hb dX6_squaresOf_29 (lv_at hl 0 rfl) ?_
  refine lv_lmul hx hb dX6_squaresOf_31 ?_
  refine b_vl (v := 0) (by decide) ?_
  refine lv_ladd hx hb dX6_squaresOf_32 ?_
  refine b_vl (v := 0) (by decide) ?_
  refine lv_lstore_n (lv' := [(2, .long 0), (5, .long 0), (4, .int 4), (0, .ref (q 0)), (1, .ref (q 6))]) hx hb dX6_squaresOf_33 rfl hl (by decide) rfl (fun ls hl => ?_)
  refine lv_iinc (v := 5) (lv' := [(4, .int 5), (2, .long 0), (5, .long 0), (0, .ref (q 0)), (1, .ref (q 6))]) hx hb dX6_squaresOf_34 hl (k := 2) rfl (by decide) (by decide) rfl (fun ls hl => ?_)
  refine lv_goto (tgt := 5) hx hb dX6_squaresOf_37 (by decide) ?_
  refine lv_iload hx hb dX6_squaresOf_5 (lv_at hl 0 rfl) ?_
  refine lv_bipush (v := 10) hx hb dX6_squaresOf_7 (by decide) ?_
  refine lv_icmp_gt (tgt := 40) hx hb dX6_squaresOf_9 (by decide) (fun c0 => absurd c0 (by decide)) (fun _ => ?_)
  refine lv_aload_n hx hb dX6_squaresOf_12 rfl (lv_at hl 3 rfl) ?_
  refine lv_aload_n hx hb dX6_squaresOf_13 rfl (lv_at hl 3 rfl) ?_
  refine lv_aload_n hx hb dX6_squaresOf_14 rfl (lv_at hl 4 rfl) ?_
  refine lv_iload hx hb dX6_squaresOf_15 (lv_at hl 0 rfl) ?_
  refine b_calli (As := [.ref (q 6), .int 5]) (rest := [.ref (q 0)]) ⟨hx, hb, hml, hown, hts⟩ 0 6 (c_X6_setAt_0_r6 l D cy q hH.2.1 z hF 5 ) (cwV 2 hts gX6_squaresOf_X6_setAt rfl rfl rfl (by decide +kernel) ⟨Nat.le_of_ble_eq_true rfl, Nat.le_of_ble_eq_true rfl⟩) hK hZ hH (by decide) rfl rfl rfl hl.1 rfl (Nat.le_of_ble_eq_true rfl) ⟨Nat.zero_le _, Nat.zero_le _⟩ dX6_squaresOf_17 (fun r9 z9 H locs hp9 hH => ?_)
  obtain ⟨rfl, rfl⟩ := hp9
  refine b_calli (As := [.int 0]) (rest := []) ⟨hx, hb, hml, hown, hts⟩ 0 6 (c_X6_loadOf_0 l D cy q hH.2.1 z hF 0 ) (cwV 1 hts gX6_squaresOf_X6_loadOf rfl rfl rfl (by decide +kernel) ⟨Nat.le_of_ble_eq_true rfl, Nat.le_of_ble_eq_true rfl⟩) hK hZ hH (by decide) rfl rfl rfl hl.1 rfl (Nat.le_of_ble_eq_true rfl) ⟨Nat.zero_le _, Nat.zero_le _⟩ dX6_squaresOf_20 (fun r10 z10 H locs hp10 hH => ?_)
  obtain ⟨rfl, rfl⟩ := hp10
  refine lv_i2l (v := 0) hx hb dX6_squaresOf_23 (by decide) ?_
  refine lv_lstore (lv' := [(5, .long 0), (4, .int 5), (2, .long 0), (0, .ref (q 0)), (1, .ref (q 6))]) hx hb dX6_squaresOf_24 hl (by decide) rfl (fun ls hl => ?_)
  refine lv_lload_n hx hb dX6_squaresOf_26 rfl (lv_at hl 2 rfl) ?_
  refine lv_lload hx hb dX6_squaresOf_27 (lv_at hl 0 rfl) ?_
  refine lv_lload hx hb dX6_squaresOf_29 (lv_at hl 0 rfl) ?_
  refine lv_lmul hx hb dX6_squaresOf_31 ?_
  refine b_vl (v := 0) (by decide) ?_
  refine lv_ladd hx hb dX6_squaresOf_32 ?_
  refine b_vl (v := 0) (by decide) ?_
  refine lv_lstore_n (lv' := [(2, .long 0), (5, .long 0), (4, .int 5), (0, .ref (q 0)), (1, .ref (q 6))]) hx hb dX6_squaresOf_33 rfl hl (by decide) rfl (fun ls hl => ?_)
  refine lv_iinc (v := 6) (lv' := [(4, .int 6), (2, .long 0), (5, .long 0), (0, .ref (q 0)), (1, .ref (q 6))]) hx hb dX6_squaresOf_34 hl (k := 2) rfl (by decide) (by decide) rfl (fun ls hl => ?_)
  refine lv_goto (tgt := 5) hx hb dX6_squaresOf_37 (by decide) ?_
  refine lv_iload hx hb dX6_squaresOf_5 (lv_at hl 0 rfl) ?_
  refine lv_bipush (v := 10) hx hb dX6_squaresOf_7 (by decide) ?_
  refine lv_icmp_gt (tgt := 40) hx hb dX6_squaresOf_9 (by decide) (fun c0 => absurd c0 (by decide)) (fun _ => ?_)
  refine lv_aload_n hx hb dX6_squaresOf_12 rfl (lv_at hl 3 rfl) ?_
  refine lv_aload_n hx hb dX6_squaresOf_13 rfl (lv_at hl 3 rfl) ?_
  refine lv_aload_n hx hb dX6_squaresOf_14 rfl (lv_at hl 4 rfl) ?_
  refine lv_iload hx hb dX6_squaresOf_15 (lv_at hl 0 rfl) ?_
  refine b_calli (As := [.ref (q 6), .int 6]) (rest := [.ref (q 0)]) ⟨hx, hb, hml, hown, hts⟩ 0 6 (c_X6_setAt_0_r6 l D cy q hH.2.1 z hF 6 ) (cwV 2 hts gX6_squaresOf_X6_setAt rfl rfl rfl (by decide +kernel) ⟨Nat.le_of_ble_eq_true rfl, Nat.le_of_ble_eq_true rfl⟩) hK hZ hH (by decide) rfl rfl rfl hl.1 rfl (Nat.le_of_ble_eq_true rfl) ⟨Nat.zero_le _, Nat.zero_le _⟩ dX6_squaresOf_17 (fun r11 z11 H locs hp11 hH => ?_)
  obtain ⟨rfl, rfl⟩ := hp11
  refine b_calli (As := [.int 0]) (rest := []) ⟨hx, hb, hml, hown, hts⟩ 0 6 (c_X6_loadOf_0 l D cy q hH.2.1 z hF 0 ) (cwV 1 hts gX6_squaresOf_X6_loadOf rfl rfl rfl (by decide +kernel) ⟨Nat.le_of_ble_eq_true rfl, Nat.le_of_ble_eq_true rfl⟩) hK hZ hH (by decide) rfl rfl rfl hl.1 rfl (Nat.le_of_ble_eq_true rfl) ⟨Nat.zero_le _, Nat.zero_le _⟩ dX6_squaresOf_20 (fun r12 z12 H locs hp12 hH => ?_)
  obtain ⟨rfl, rfl⟩ := hp12
  refine lv_i2l (v := 0) hx hb dX6_squaresOf_23 (by decide) ?_
  refine lv_lstore (lv' := [(5, .long 0), (4, .int 6), (2, .long 0), (0, .ref (q 0)), (1, .ref (q 6))]) hx hb dX6_squaresOf_24 hl (by decide) rfl (fun ls hl => ?_)
  refine lv_lload_n hx hb dX6_squaresOf_26 rfl (lv_at hl 2 rfl) ?_
  refine lv_lload hx hb dX6_squaresOf_27 (lv_at hl 0 rfl) ?_
  refine lv_lload hx hb dX6_squaresOf_29 (lv_at hl 0 rfl) ?_
  refine lv_lmul hx hb dX6_squaresOf_31 ?_
  refine b_vl (v := 0) (by decide) ?_
  refine lv_ladd hx hb dX6_squaresOf_32 ?_
  refine b_vl (v := 0) (by decide) ?_
  refine lv_lstore_n (lv' := [(2, .long 0), (5, .long 0), (4, .int 6), (0, .ref (q 0)), (1, .ref (q 6))]) hx hb dX6_squaresOf_33 rfl hl (by decide) rfl (fun ls hl => ?_)
  refine lv_iinc (v := 7) (lv' := [(4, .int 7), (2, .long 0), (5, .long 0), (0, .ref (q 0)), (1, .ref (q 6))]) hx hb dX6_squaresOf_34 hl (k := 2) rfl (by decide) (by decide) rfl (fun ls hl => ?_)
  refine lv_goto (tgt := 5) hx hb dX6_squaresOf_37 (by decide) ?_
  refine lv_iload hx hb dX6_squaresOf_5 (lv_at hl 0 rfl) ?_
  refine lv_bipush (v := 10) hx hb dX6_squaresOf_7 (by decide) ?_
  refine lv_icmp_gt (tgt := 40) hx hb dX6_squaresOf_9 (by decide) (fun c0 => absurd c0 (by decide)) (fun _ => ?_)
  refine lv_aload_n hx hb dX6_squaresOf_12 rfl (lv_at hl 3 rfl) ?_
  refine lv_aload_n hx hb dX6_squaresOf_13 rfl (lv_at hl 3 rfl) ?_
  refine lv_aload_n hx hb dX6_squaresOf_14 rfl (lv_at hl 4 rfl) ?_
  refine lv_iload hx hb dX6_squaresOf_15 (lv_at hl 0 rfl) ?_
  refine b_calli (As := [.ref (q 6), .int 7]) (rest := [.ref (q 0)]) ⟨hx, hb, hml, hown, hts⟩ 0 6 (c_X6_setAt_0_r6 l D cy q hH.2.1 z hF 7 ) (cwV 2 hts gX6_squaresOf_X6_setAt rfl rfl rfl (by decide +kernel) ⟨Nat.le_of_ble_eq_true rfl, Nat.le_of_ble_eq_true rfl⟩) hK hZ hH (by decide) rfl rfl rfl hl.1 rfl (Nat.le_of_ble_eq_true rfl) ⟨Nat.zero_le _, Nat.zero_le _⟩ dX6_squaresOf_17 (fun r13 z13 H locs hp13 hH => ?_)
  obtain ⟨rfl, rfl⟩ := hp13
  refine b_calli (As := [.int 0]) (rest := []) ⟨hx, hb, hml, hown, hts⟩ 0 6 (c_X6_loadOf_0 l D cy q hH.2.1 z hF 0 ) (cwV 1 hts gX6_squaresOf_X6_loadOf rfl rfl rfl (by decide +kernel) ⟨Nat.le_of_ble_eq_true rfl, Nat.le_of_ble_eq_true rfl⟩) hK hZ hH (by decide) rfl rfl rfl hl.1 rfl (Nat.le_of_ble_eq_true rfl) ⟨Nat.zero_le _, Nat.zero_le _⟩ dX6_squaresOf_20 (fun r14 z14 H locs hp14 hH => ?_)
  obtain ⟨rfl, rfl⟩ := hp14
  refine lv_i2l (v := 0) hx hb dX6_squaresOf_23 (by decide) ?_
  refine lv_lstore (lv' := [(5, .long 0), (4, .int 7), (2, .long 0), (0, .ref (q 0)), (1, .ref (q 6))]) hx hb dX6_squaresOf_24 hl (by decide) rfl (fun ls hl => ?_)
  refine lv_lload_n hx hb dX6_squaresOf_26 rfl (lv_at hl 2 rfl) ?_
  refine lv_lload hx hb dX6_squaresOf_27 (lv_at hl 0 rfl) ?_
  refine lv_lload hx hb dX6_squaresOf_29 (lv_at hl 0 rfl) ?_
  refine lv_lmul hx hb dX6_squaresOf_31 ?_
  refine b_vl (v := 0) (by decide) ?_
  refine lv_ladd hx hb dX6_squaresOf_32 ?_
  refine b_vl (v := 0) (by decide) ?_
  refine lv_lstore_n (lv' := [(2, .long 0), (5, .long 0), (4, .int 7), (0, .ref (q 0)), (1, .ref (q 6))]) hx hb dX6_squaresOf_33 rfl hl (by decide) rfl (fun ls hl => ?_)
  refine lv_iinc (v := 8) (lv' := [(4, .int 8), (2, .long 0), (5, .long 0), (0, .ref (q 0)), (1, .ref (q 6))]) hx hb dX6_squaresOf_34 hl (k := 2) rfl (by decide) (by decide) rfl (fun ls hl => ?_)
  refine lv_goto (tgt := 5) hx hb dX6_squaresOf_37 (by decide) ?_
  refine lv_iload hx hb dX6_squaresOf_5 (lv_at hl 0 rfl) ?_
  refine lv_bipush (v := 10) hx hb dX6_squaresOf_7 (by decide) ?_
  refine lv_icmp_gt (tgt := 40) hx hb dX6_squaresOf_9 (by decide) (fun c0 => absurd c0 (by decide)) (fun _ => ?_)
  refine lv_aload_n hx hb dX6_squaresOf_12 rfl (lv_at hl 3 rfl) ?_
  refine lv_aload_n hx hb dX6_squaresOf_13 rfl (lv_at hl 3 rfl) ?_
  refine lv_aload_n hx hb dX6_squaresOf_14 rfl (lv_at hl 4 rfl) ?_
  refine lv_iload hx hb dX6_squaresOf_15 (lv_at hl 0 rfl) ?_
  refine b_calli (As := [.ref (q 6), .int 8]) (rest := [.ref (q 0)]) ⟨hx, hb, hml, hown, hts⟩ 0 6 (c_X6_setAt_0_r6 l D cy q hH.2.1 z hF 8 ) (cwV 2 hts gX6_squaresOf_X6_setAt rfl rfl rfl (by decide +kernel) ⟨Nat.le_of_ble_eq_true rfl, Nat.le_of_ble_eq_true rfl⟩) hK hZ hH (by decide) rfl rfl rfl hl.1 rfl (Nat.le_of_ble_eq_true rfl) ⟨Nat.zero_le _, Nat.zero_le _⟩ dX6_squaresOf_17 (fun r15 z15 H locs hp15 hH => ?_)
  obtain ⟨rfl, rfl⟩ := hp15
  refine b_calli (As := [.int 0]) (rest := []) ⟨hx, hb, hml, hown, hts⟩ 0 6 (c_X6_loadOf_0 l D cy q hH.2.1 z hF 0 ) (cwV 1 hts gX6_squaresOf_X6_loadOf rfl rfl rfl (by decide +kernel) ⟨Nat.le_of_ble_eq_true rfl, Nat.le_of_ble_eq_true rfl⟩) hK hZ hH (by decide) rfl rfl rfl hl.1 rfl (Nat.le_of_ble_eq_true rfl) ⟨Nat.zero_le _, Nat.zero_le _⟩ dX6_squaresOf_20 (fun r16 z16 H locs hp16 hH => ?_)
  obtain ⟨rfl, rfl⟩ := hp16
  refine lv_i2l (v := 0) hx hb dX6_squaresOf_23 (by decide) ?_
  refine lv_lstore (lv' := [(5, .long 0), (4, .int 8), (2, .long 0), (0, .ref (q 0)), (1, .ref (q 6))]) hx hb dX6_squaresOf_24 hl (by decide) rfl (fun ls hl => ?_)
  refine lv_lload_n hx hb dX6_squaresOf_26 rfl (lv_at hl 2 rfl) ?_
  refine lv_lload hx hb dX6_squaresOf_27 (lv_at hl 0 rfl) ?_
  refine lv_lload hx hb dX6_squaresOf_29 (lv_at hl 0 rfl) ?_
  refine lv_lmul hx hb dX6_squaresOf_31 ?_
  refine b_vl (v := 0) (by decide) ?_
  refine lv_ladd hx hb dX6_squaresOf_32 ?_
  refine b_vl (v := 0) (by decide) ?_
  refine lv_lstore_n (lv' := [(2, .long 0), (5, .long 0), (4, .int 8), (0, .ref (q 0)), (1, .ref (q 6))]) hx hb dX6_squaresOf_33 rfl hl (by decide) rfl (fun ls hl => ?_)
  refine lv_iinc (v := 9) (lv' := [(4, .int 9), (2, .long 0), (5, .long 0), (0, .ref (q 0)), (1, .ref (q 6))]) hx hb dX6_squaresOf_34 hl (k := 2) rfl (by decide) (by decide) rfl (fun ls hl => ?_)
  refine lv_goto (tgt := 5) hx hb dX6_squaresOf_37 (by decide) ?_
  refine lv_iload hx hb dX6_squaresOf_5 (lv_at hl 0 rfl) ?_
  refine lv_bipush (v := 10) hx hb dX6_squaresOf_7 (by decide) ?_
  refine lv_icmp_gt (tgt := 40) hx hb dX6_squaresOf_9 (by decide) (fun c0 => absurd c0 (by decide)) (fun _ => ?_)
  refine lv_aload_n hx hb dX6_squaresOf_12 rfl (lv_at hl 3 rfl) ?_
  refine lv_aload_n hx hb dX6_squaresOf_13 rfl (lv_at hl 3 rfl) ?_
  refine lv_aload_n hx hb dX6_squaresOf_14 rfl (lv_at hl 4 rfl) ?_
  refine lv_iload hx hb dX6_squaresOf_15 (lv_at hl 0 rfl) ?_
  refine b_calli (As := [.ref (q 6), .int 9]) (rest := [.ref (q 0)]) ⟨hx, hb, hml, hown, hts⟩ 0 6 (c_X6_setAt_0_r6 l D cy q hH.2.1 z hF 9 ) (cwV 2 hts gX6_squaresOf_X6_setAt rfl rfl rfl (by decide +kernel) ⟨Nat.le_of_ble_eq_true rfl, Nat.le_of_ble_eq_true rfl⟩) hK hZ hH (by decide) rfl rfl rfl hl.1 rfl (Nat.le_of_ble_eq_true rfl) ⟨Nat.zero_le _, Nat.zero_le _⟩ dX6_squaresOf_17 (fun r17 z17 H locs hp17 hH => ?_)
  obtain ⟨rfl, rfl⟩ := hp17
  refine b_calli (As := [.int 0]) (rest := []) ⟨hx, hb, hml, hown, hts⟩ 0 6 (c_X6_loadOf_0 l D cy q hH.2.1 z hF 0 ) (cwV 1 hts gX6_squaresOf_X6_loadOf rfl rfl rfl (by decide +kernel) ⟨Nat.le_of_ble_eq_true rfl, Nat.le_of_ble_eq_true rfl⟩) hK hZ hH (by decide) rfl rfl rfl hl.1 rfl (Nat.le_of_ble_eq_true rfl) ⟨Nat.zero_le _, Nat.zero_le _⟩ dX6_squaresOf_20 (fun r18 z18 H locs hp18 hH => ?_)
  obtain ⟨rfl, rfl⟩ := hp18
  refine lv_i2l (v := 0) hx hb dX6_squaresOf_23 (by decide) ?_
  refine lv_lstore (lv' := [(5, .long 0), (4, .int 9), (2, .long 0), (0, .ref (q 0)), (1, .ref (q 6))]) hx hb dX6_squaresOf_24 hl (by decide) rfl (fun ls hl => ?_)
  refine lv_lload_n hx hb dX6_squaresOf_26 rfl (lv_at hl 2 rfl) ?_
  refine lv_lload hx hb dX6_squaresOf_27 (lv_at hl 0 rfl) ?_
  refine lv_lload hx hb dX6_squaresOf_29 (lv_at hl 0 rfl) ?_
  refine lv_lmul hx hb dX6_squaresOf_31 ?_
  refine b_vl (v := 0) (by decide) ?_
  refine lv_ladd hx hb dX6_squaresOf_32 ?_
  refine b_vl (v := 0) (by decide) ?_
  refine lv_lstore_n (lv' := [(2, .long 0), (5, .long 0), (4, .int 9), (0, .ref (q 0)), (1, .ref (q 6))]) hx hb dX6_squaresOf_33 rfl hl (by decide) rfl (fun ls hl => ?_)
  refine lv_iinc (v := 10) (lv' := [(4, .int 10), (2, .long 0), (5, .long 0), (0, .ref (q 0)), (1, .ref (q 6))]) hx hb dX6_squaresOf_34 hl (k := 2) rfl (by decide) (by decide) rfl (fun ls hl => ?_)
  refine lv_goto (tgt := 5) hx hb dX6_squaresOf_37 (by decide) ?_
  refine lv_iload hx hb dX6_squaresOf_5 (lv_at hl 0 rfl) ?_
  refine lv_bipush (v := 10) hx hb dX6_squaresOf_7 (by decide) ?_
  refine lv_icmp_gt (tgt := 40) hx hb dX6_squaresOf_9 (by decide) (fun c0 => absurd c0 (by decide)) (fun _ => ?_)
  refine lv_aload_n hx hb dX6_squaresOf_12 rfl (lv_at hl 3 rfl) ?_
  refine lv_aload_n hx hb dX6_squaresOf_13 rfl (lv_at hl 3 rfl) ?_
  refine lv_aload_n hx hb dX6_squaresOf_14 rfl (lv_at hl 4 rfl) ?_
  refine lv_iload hx hb dX6_squaresOf_15 (lv_at hl 0 rfl) ?_
  refine b_calli (As := [.ref (q 6), .int 10]) (rest := [.ref (q 0)]) ⟨hx, hb, hml, hown, hts⟩ 0 6 (c_X6_setAt_0_r6 l D cy q hH.2.1 z hF 10 ) (cwV 2 hts gX6_squaresOf_X6_setAt rfl rfl rfl (by decide +kernel) ⟨Nat.le_of_ble_eq_true rfl, Nat.le_of_ble_eq_true rfl⟩) hK hZ hH (by decide) rfl rfl rfl hl.1 rfl (Nat.le_of_ble_eq_true rfl) ⟨Nat.zero_le _, Nat.zero_le _⟩ dX6_squaresOf_17 (fun r19 z19 H locs hp19 hH => ?_)
  obtain ⟨rfl, rfl⟩ := hp19
  refine b_calli (As := [.int 0]) (rest := []) ⟨hx, hb, hml, hown, hts⟩ 0 6 (c_X6_loadOf_0 l D cy q hH.2.1 z hF 0 ) (cwV 1 hts gX6_squaresOf_X6_loadOf rfl rfl rfl (by decide +kernel) ⟨Nat.le_of_ble_eq_true rfl, Nat.le_of_ble_eq_true rfl⟩) hK hZ hH (by decide) rfl rfl rfl hl.1 rfl (Nat.le_of_ble_eq_true rfl) ⟨Nat.zero_le _, Nat.zero_le _⟩ dX6_squaresOf_20 (fun r20 z20 H locs hp20 hH => ?_)
  obtain ⟨rfl, rfl⟩ := hp20
  refine lv_i2l (v := 0) hx hb dX6_squaresOf_23 (by decide) ?_
  refine lv_lstore (lv' := [(5, .long 0), (4, .int 10), (2, .long 0), (0, .ref (q 0)), (1, .ref (q 6))]) hx hb dX6_squaresOf_24 hl (by decide) rfl (fun ls hl => ?_)
  refine lv_lload_n hx hb dX6_squaresOf_26 rfl (lv_at hl 2 rfl) ?_
  refine lv_lload hx hb dX6_squaresOf_27 (lv_at hl 0 rfl) ?_
  refine lv_lload hx hb dX6_squaresOf_29 (lv_at hl 0 rfl) ?_
  refine lv_lmul hx hb dX6_squaresOf_31 ?_
  refine b_vl (v := 0) (by decide) ?_
  refine lv_ladd hx hb dX6_squaresOf_32 ?_
  refine b_vl (v := 0) (by decide) ?_
  refine lv_lstore_n (lv' := [(2, .long 0), (5, .long 0), (4, .int 10), (0, .ref (q 0)), (1, .ref (q 6))]) hx hb dX6_squaresOf_33 rfl hl (by decide) rfl (fun ls hl => ?_)
  refine lv_iinc (v := 11) (lv' := [(4, .int 11), (2, .long 0), (5, .long 0), (0, .ref (q 0)), (1, .ref (q 6))]) hx hb dX6_squaresOf_34 hl (k := 2) rfl (by decide) (by decide) rfl (fun ls hl => ?_)
  refine lv_goto (tgt := 5) hx hb dX6_squaresOf_37 (by decide) ?_
  refine lv_iload hx hb dX6_squaresOf_5 (lv_at hl 0 rfl) ?_
  refine lv_bipush (v := 10) hx hb dX6_squaresOf_7 (by decide) ?_
  refine lv_icmp_gt (tgt := 40) hx hb dX6_squaresOf_9 (by decide) (fun _ => ?_) (fun c0 => absurd c0 (by decide))
  refine lv_lload_n hx hb dX6_squaresOf_40 rfl (lv_at hl 1 rfl) ?_
  exact b_lret hx hb hr hlocks hH (⟨rfl, (by first | rfl | (exfalso; omega))⟩) dX6_squaresOf_41
set_option maxHeartbeats 4000000 in
set_option maxRecDepth 100000 in
theorem c_X6_betters_0 (l : Launch) (D : va_G) (cy : Nat → ClassId) (q : Nat → Nat) (hq : bJ 23 q) (z : zS) (hF : Fm z)  : bCi l yX6_betters wsX6_betters ({ frames := 5, cells := 0, slots := 0, locals := 117 }) D cy 23 (enM cy) q z [.ref (q 0)] (fun r z' => z = z' ∧ (0 : Int32) = r) := by
  intro sz
  refine Met.ofW (cc := cX6_betters) (maxL := 7) (ret := (some .boolean)) (by decide) rfl ?_
  intro p e s m args below meth c s₁ B hml hv
  obtain ⟨rfl, hsz, hP, hK, hZ⟩ := hv
  have hx := B.exec
  have hb := B.bytes
  have hr := B.returns
  have hts := atoms_spec (ws := wsX6_betters) B.pre
  have hown : s.vm.findClass RX6 = some m.cls := findClass_of_methodNamed B.named
  have hlocks := B.notSynchronized
  subst hsz
  have hH : bH D 23 (enM cy) q z s.heap s.heap [] := bH_in hq hP
  have hl := lv_entry ([.ref (q 0)]) (n := 7) (Nat.le_of_ble_eq_true rfl)
  rw [lg_entry_eq]
  generalize (lg_sl ([.ref (q 0)]) ++ List.replicate (7 - (lg_sl ([.ref (q 0)])).length) Slot.unset).toArray = ls at hl ⊢
  have hl : lv_has ls 7 [(0, .ref (q 0))] := hl
  refine lv_aload_n hx hb dX6_betters_0 rfl (lv_at hl 0 rfl) ?_
  refine lv_aload_n hx hb dX6_betters_1 rfl (lv_at hl 0 rfl) ?_
  refine b_get (ci := 6) (C := RX6) (T := TX6) (Nf := 29) (v := .ref (q 6)) hx hb hts in_X6_betters_X6 hown hK hH 0 (by decide) rfl rfl 6 (by decide) (hts (.fieldLink RX6 25 "StationLineModel" "hand" "[I") (List.mem_of_getElem? (i := 1) rfl)) rfl dX6_betters_2 ?_
  refine b_calll (As := [.ref (q 6)]) (rest := []) ⟨hx, hb, hml, hown, hts⟩ 0 6 (c_X6_squaresOf_0 l D cy q hH.2.1 z hF  ) (cwV 1 hts gX6_betters_X6_squaresOf rfl rfl rfl (by decide +kernel) ⟨Nat.le_of_ble_eq_true rfl, Nat.le_of_ble_eq_true rfl⟩) hK hZ hH (by decide) rfl rfl rfl hl.1 rfl (Nat.le_of_ble_eq_true rfl) ⟨Nat.zero_le _, Nat.zero_le _⟩ dX6_betters_5 (fun r1 z1 H locs hp1 hH => ?_)
  obtain ⟨rfl, rfl⟩ := hp1
  refine lv_lstore_n (lv' := [(1, .long 0), (0, .ref (q 0))]) hx hb dX6_betters_8 rfl hl (by decide) rfl (fun ls hl => ?_)
  refine lv_aload_n hx hb dX6_betters_9 rfl (lv_at hl 1 rfl) ?_
  refine lv_aload_n hx hb dX6_betters_10 rfl (lv_at hl 1 rfl) ?_
  refine b_get (ci := 6) (C := RX6) (T := TX6) (Nf := 29) (v := .ref (q 6)) hx hb hts in_X6_betters_X6 hown hK hH 0 (by decide) rfl rfl 6 (by decide) (hts (.fieldLink RX6 25 "StationLineModel" "hand" "[I") (List.mem_of_getElem? (i := 1) rfl)) rfl dX6_betters_11 ?_
  refine b_calli (As := [.ref (q 6)]) (rest := []) ⟨hx, hb, hml, hown, hts⟩ 0 6 (c_X6_lengthOf_0_r6 l D cy q hH.2.1 z hF  ) (cwV 1 hts gX6_betters_X6_lengthOf rfl rfl rfl (by decide +kernel) ⟨Nat.le_of_ble_eq_true rfl, Nat.le_of_ble_eq_true rfl⟩) hK hZ hH (by decide) rfl rfl rfl hl.1 rfl (Nat.le_of_ble_eq_true rfl) ⟨Nat.zero_le _, Nat.zero_le _⟩ dX6_betters_14 (fun r2 z2 H locs hp2 hH => ?_)
  obtain ⟨rfl, rfl⟩ := hp2
  refine lv_istore_n (lv' := [(3, .int 0), (1, .long 0), (0, .ref (q 0))]) hx hb dX6_betters_17 rfl hl (by decide) rfl (fun ls hl => ?_)
  refine lv_iconst (v := 0) hx hb dX6_betters_18 (by decide) ?_
  refine lv_istore (lv' := [(4, .int 0), (3, .int 0), (1, .long 0), (0, .ref (q 0))]) hx hb dX6_betters_19 hl (by decide) rfl (fun ls hl => ?_)
  refine lv_iload hx hb dX6_betters_21 (lv_at hl 0 rfl) ?_
  refine lv_aload_n hx hb dX6_betters_23 rfl (lv_at hl 3 rfl) ?_
  refine b_get (ci := 6) (C := RX6) (T := TX6) (Nf := 29) (v := .int 0) hx hb hts in_X6_betters_X6 hown hK hH 0 (by decide) rfl rfl 0 (by decide) (hts (.fieldLink RX6 85 "StationLineModel" "tasks" "I") (List.mem_of_getElem? (i := 2) rfl)) (congrArg (fun x => some (Value.int x)) (Fm_0 hF)) dX6_betters_24 ?_
  refine lv_icmp_ge (tgt := 104) hx hb dX6_betters_27 (by decide) (fun _ => ?_) (fun c0 => absurd c0 (by decide))
  refine lv_iconst (v := 0) hx hb dX6_betters_104 (by decide) ?_
  exact b_zret hx hb hr hlocks (by decide) hH (⟨rfl, (by first | rfl | (exfalso; omega))⟩) dX6_betters_105
