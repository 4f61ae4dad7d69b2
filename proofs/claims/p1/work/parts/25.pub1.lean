set_option maxHeartbeats 4000000 in
set_option maxRecDepth 100000 in
theorem c_X5_isMake (l : Launch) (D : va_G) (cy : Nat → ClassId) (q : Nat → Nat) (hq : bJ 66 q) (z : zS) (a : Int32) : bCi l yX5_isMake wsX5_isMake ({ frames := 0, cells := 0, slots := 0, locals := 0 }) D cy 66 (enC cy) q z [.int a] (fun r z' => z = z' ∧ ((r = 1 ∧ (0 ≤ a.toInt ∧ a.toInt ≤ 2)) ∨ (r = 0 ∧ ¬ (0 ≤ a.toInt ∧ a.toInt ≤ 2)))) := by
  intro sz
  refine Met.ofW (cc := cX5_isMake) (maxL := 1) (ret := (some .boolean)) (by decide) rfl ?_
  intro p e s m args below meth c s₁ B hml hv
  obtain ⟨rfl, hsz, hP, hK, hZ⟩ := hv
  have hx := B.exec
  have hb := B.bytes
  have hr := B.returns
  have hts := atoms_spec (ws := wsX5_isMake) B.pre
  have hown : s.vm.findClass RX5 = some m.cls := findClass_of_methodNamed B.named
  have hlocks := B.notSynchronized
  subst hsz
  have hH : bH D 66 (enC cy) q z s.heap s.heap [] := bH_in hq hP
  have hl := lv_entry ([.int a]) (n := 1) (Nat.le_of_ble_eq_true rfl)
  rw [lg_entry_eq]
  generalize (lg_sl ([.int a]) ++ List.replicate (1 - (lg_sl ([.int a])).length) Slot.unset).toArray = ls at hl ⊢
  have hl : lv_has ls 1 [(0, .int a)] := hl
  refine lv_iload_n hx hb dX5_isMake_0 rfl (lv_at hl 0 rfl) ?_
  refine lv_if_lt (tgt := 13) hx hb dX5_isMake_1 (by decide) (fun c1 => ?_) (fun c1 => ?_)
  · skip
    refine lv_iconst (v := 0) hx hb dX5_isMake_13 (by decide) ?_
    exact b_zret hx hb hr hlocks (by decide) hH (⟨rfl, Or.inr (⟨rfl, (by have e0 : (0 : Int32).toInt = 0 := (by decide); try simp only [b_lt, b_le, b_eq] at c1; omega)⟩)⟩) dX5_isMake_14
  · skip
    refine lv_iload_n hx hb dX5_isMake_4 rfl (lv_at hl 0 rfl) ?_
    refine lv_iconst (v := 3) hx hb dX5_isMake_5 (by decide) ?_
    refine lv_icmp_ge (tgt := 13) hx hb dX5_isMake_6 (by decide) (fun c2 => ?_) (fun c2 => ?_)
    · skip
      refine lv_iconst (v := 0) hx hb dX5_isMake_13 (by decide) ?_
      exact b_zret hx hb hr hlocks (by decide) hH (⟨rfl, Or.inr (⟨rfl, (by have e0 : (0 : Int32).toInt = 0 := (by decide); have e3 : (3 : Int32).toInt = 3 := (by decide); try simp only [b_lt, b_le, b_eq] at c1 c2; omega)⟩)⟩) dX5_isMake_14
    · skip
      refine lv_iconst (v := 1) hx hb dX5_isMake_9 (by decide) ?_
      refine lv_goto (tgt := 14) hx hb dX5_isMake_10 (by decide) ?_
      exact b_zret hx hb hr hlocks (by decide) hH (⟨rfl, Or.inl ⟨rfl, (by have e0 : (0 : Int32).toInt = 0 := (by decide); have e3 : (3 : Int32).toInt = 3 := (by decide); try simp only [b_lt, b_le, b_eq] at c1 c2; omega)⟩⟩) dX5_isMake_14
set_option maxHeartbeats 4000000 in
set_option maxRecDepth 100000 in
theorem c_X5_isStation (l : Launch) (D : va_G) (cy : Nat → ClassId) (q : Nat → Nat) (hq : bJ 66 q) (z : zS) (a : Int32) : bCi l yX5_isStation wsX5_isStation ({ frames := 0, cells := 0, slots := 0, locals := 0 }) D cy 66 (enC cy) q z [.int a] (fun r z' => z = z' ∧ ((r = 1 ∧ (1 ≤ a.toInt ∧ a.toInt ≤ 10)) ∨ (r = 0 ∧ ¬ (1 ≤ a.toInt ∧ a.toInt ≤ 10)))) := by
  intro sz
  refine Met.ofW (cc := cX5_isStation) (maxL := 1) (ret := (some .boolean)) (by decide) rfl ?_
  intro p e s m args below meth c s₁ B hml hv
  obtain ⟨rfl, hsz, hP, hK, hZ⟩ := hv
  have hx := B.exec
  have hb := B.bytes
  have hr := B.returns
  have hts := atoms_spec (ws := wsX5_isStation) B.pre
  have hown : s.vm.findClass RX5 = some m.cls := findClass_of_methodNamed B.named
  have hlocks := B.notSynchronized
  subst hsz
  have hH : bH D 66 (enC cy) q z s.heap s.heap [] := bH_in hq hP
  have hl := lv_entry ([.int a]) (n := 1) (Nat.le_of_ble_eq_true rfl)
  rw [lg_entry_eq]
  generalize (lg_sl ([.int a]) ++ List.replicate (1 - (lg_sl ([.int a])).length) Slot.unset).toArray = ls at hl ⊢
  have hl : lv_has ls 1 [(0, .int a)] := hl
  refine lv_iload_n hx hb dX5_isStation_0 rfl (lv_at hl 0 rfl) ?_
  refine lv_iconst (v := 1) hx hb dX5_isStation_1 (by decide) ?_
  refine lv_icmp_lt (tgt := 15) hx hb dX5_isStation_2 (by decide) (fun c1 => ?_) (fun c1 => ?_)
  · skip
    refine lv_iconst (v := 0) hx hb dX5_isStation_15 (by decide) ?_
    exact b_zret hx hb hr hlocks (by decide) hH (⟨rfl, Or.inr (⟨rfl, (by have e1 : (1 : Int32).toInt = 1 := (by decide); try simp only [b_lt, b_le, b_eq] at c1; omega)⟩)⟩) dX5_isStation_16
  · skip
    refine lv_iload_n hx hb dX5_isStation_5 rfl (lv_at hl 0 rfl) ?_
    refine lv_bipush (v := 10) hx hb dX5_isStation_6 (by decide) ?_
    refine lv_icmp_gt (tgt := 15) hx hb dX5_isStation_8 (by decide) (fun c2 => ?_) (fun c2 => ?_)
    · skip
      refine lv_iconst (v := 0) hx hb dX5_isStation_15 (by decide) ?_
      exact b_zret hx hb hr hlocks (by decide) hH (⟨rfl, Or.inr (⟨rfl, (by have e1 : (1 : Int32).toInt = 1 := (by decide); have e10 : (10 : Int32).toInt = 10 := (by decide); try simp only [b_lt, b_le, b_eq] at c1 c2; omega)⟩)⟩) dX5_isStation_16
    · skip
      refine lv_iconst (v := 1) hx hb dX5_isStation_11 (by decide) ?_
      refine lv_goto (tgt := 16) hx hb dX5_isStation_12 (by decide) ?_
      exact b_zret hx hb hr hlocks (by decide) hH (⟨rfl, Or.inl ⟨rfl, (by have e1 : (1 : Int32).toInt = 1 := (by decide); have e10 : (10 : Int32).toInt = 10 := (by decide); try simp only [b_lt, b_le, b_eq] at c1 c2; omega)⟩⟩) dX5_isStation_16
set_option maxHeartbeats 4000000 in
set_option maxRecDepth 100000 in
theorem c_X5_isStationOrNone (l : Launch) (D : va_G) (cy : Nat → ClassId) (q : Nat → Nat) (hq : bJ 66 q) (z : zS) (a : Int32) : bCi l yX5_isStationOrNone wsX5_isStationOrNone ({ frames := 0, cells := 0, slots := 0, locals := 0 }) D cy 66 (enC cy) q z [.int a] (fun r z' => z = z' ∧ ((r = 1 ∧ (0 ≤ a.toInt ∧ a.toInt ≤ 10)) ∨ (r = 0 ∧ ¬ (0 ≤ a.toInt ∧ a.toInt ≤ 10)))) := by
  intro sz
  refine Met.ofW (cc := cX5_isStationOrNone) (maxL := 1) (ret := (some .boolean)) (by decide) rfl ?_
  intro p e s m args below meth c s₁ B hml hv
  obtain ⟨rfl, hsz, hP, hK, hZ⟩ := hv
  have hx := B.exec
  have hb := B.bytes
  have hr := B.returns
  have hts := atoms_spec (ws := wsX5_isStationOrNone) B.pre
  have hown : s.vm.findClass RX5 = some m.cls := findClass_of_methodNamed B.named
  have hlocks := B.notSynchronized
  subst hsz
  have hH : bH D 66 (enC cy) q z s.heap s.heap [] := bH_in hq hP
  have hl := lv_entry ([.int a]) (n := 1) (Nat.le_of_ble_eq_true rfl)
  rw [lg_entry_eq]
  generalize (lg_sl ([.int a]) ++ List.replicate (1 - (lg_sl ([.int a])).length) Slot.unset).toArray = ls at hl ⊢
  have hl : lv_has ls 1 [(0, .int a)] := hl
  refine lv_iload_n hx hb dX5_isStationOrNone_0 rfl (lv_at hl 0 rfl) ?_
  refine lv_if_lt (tgt := 14) hx hb dX5_isStationOrNone_1 (by decide) (fun c1 => ?_) (fun c1 => ?_)
  · skip
    refine lv_iconst (v := 0) hx hb dX5_isStationOrNone_14 (by decide) ?_
    exact b_zret hx hb hr hlocks (by decide) hH (⟨rfl, Or.inr (⟨rfl, (by have e0 : (0 : Int32).toInt = 0 := (by decide); try simp only [b_lt, b_le, b_eq] at c1; omega)⟩)⟩) dX5_isStationOrNone_15
  · skip
    refine lv_iload_n hx hb dX5_isStationOrNone_4 rfl (lv_at hl 0 rfl) ?_
    refine lv_bipush (v := 10) hx hb dX5_isStationOrNone_5 (by decide) ?_
    refine lv_icmp_gt (tgt := 14) hx hb dX5_isStationOrNone_7 (by decide) (fun c2 => ?_) (fun c2 => ?_)
    · skip
      refine lv_iconst (v := 0) hx hb dX5_isStationOrNone_14 (by decide) ?_
      exact b_zret hx hb hr hlocks (by decide) hH (⟨rfl, Or.inr (⟨rfl, (by have e0 : (0 : Int32).toInt = 0 := (by decide); have e10 : (10 : Int32).toInt = 10 := (by decide); try simp only [b_lt, b_le, b_eq] at c1 c2; omega)⟩)⟩) dX5_isStationOrNone_15
    · skip
      refine lv_iconst (v := 1) hx hb dX5_isStationOrNone_10 (by decide) ?_
      refine lv_goto (tgt := 15) hx hb dX5_isStationOrNone_11 (by decide) ?_
      exact b_zret hx hb hr hlocks (by decide) hH (⟨rfl, Or.inl ⟨rfl, (by have e0 : (0 : Int32).toInt = 0 := (by decide); have e10 : (10 : Int32).toInt = 10 := (by decide); try simp only [b_lt, b_le, b_eq] at c1 c2; omega)⟩⟩) dX5_isStationOrNone_15
set_option maxHeartbeats 4000000 in
set_option maxRecDepth 100000 in
theorem c_X5_isSheet (l : Launch) (D : va_G) (cy : Nat → ClassId) (q : Nat → Nat) (hq : bJ 66 q) (z : zS) (a : Int32) : bCi l yX5_isSheet wsX5_isSheet ({ frames := 0, cells := 0, slots := 0, locals := 0 }) D cy 66 (enC cy) q z [.int a] (fun r z' => z = z' ∧ ((r = 1 ∧ (0 ≤ a.toInt ∧ a.toInt ≤ 3)) ∨ (r = 0 ∧ ¬ (0 ≤ a.toInt ∧ a.toInt ≤ 3)))) := by
  intro sz
  refine Met.ofW (cc := cX5_isSheet) (maxL := 1) (ret := (some .boolean)) (by decide) rfl ?_
  intro p e s m args below meth c s₁ B hml hv
  obtain ⟨rfl, hsz, hP, hK, hZ⟩ := hv
  have hx := B.exec
  have hb := B.bytes
  have hr := B.returns
  have hts := atoms_spec (ws := wsX5_isSheet) B.pre
  have hown : s.vm.findClass RX5 = some m.cls := findClass_of_methodNamed B.named
  have hlocks := B.notSynchronized
  subst hsz
  have hH : bH D 66 (enC cy) q z s.heap s.heap [] := bH_in hq hP
  have hl := lv_entry ([.int a]) (n := 1) (Nat.le_of_ble_eq_true rfl)
  rw [lg_entry_eq]
  generalize (lg_sl ([.int a]) ++ List.replicate (1 - (lg_sl ([.int a])).length) Slot.unset).toArray = ls at hl ⊢
  have hl : lv_has ls 1 [(0, .int a)] := hl
  refine lv_iload_n hx hb dX5_isSheet_0 rfl (lv_at hl 0 rfl) ?_
  refine lv_if_lt (tgt := 13) hx hb dX5_isSheet_1 (by decide) (fun c1 => ?_) (fun c1 => ?_)
  · skip
    refine lv_iconst (v := 0) hx hb dX5_isSheet_13 (by decide) ?_
    exact b_zret hx hb hr hlocks (by decide) hH (⟨rfl, Or.inr (⟨rfl, (by have e0 : (0 : Int32).toInt = 0 := (by decide); try simp only [b_lt, b_le, b_eq] at c1; omega)⟩)⟩) dX5_isSheet_14
  · skip
    refine lv_iload_n hx hb dX5_isSheet_4 rfl (lv_at hl 0 rfl) ?_
    refine lv_iconst (v := 4) hx hb dX5_isSheet_5 (by decide) ?_
    refine lv_icmp_ge (tgt := 13) hx hb dX5_isSheet_6 (by decide) (fun c2 => ?_) (fun c2 => ?_)
    · skip
      refine lv_iconst (v := 0) hx hb dX5_isSheet_13 (by decide) ?_
      exact b_zret hx hb hr hlocks (by decide) hH (⟨rfl, Or.inr (⟨rfl, (by have e0 : (0 : Int32).toInt = 0 := (by decide); have e4 : (4 : Int32).toInt = 4 := (by decide); try simp only [b_lt, b_le, b_eq] at c1 c2; omega)⟩)⟩) dX5_isSheet_14
    · skip
      refine lv_iconst (v := 1) hx hb dX5_isSheet_9 (by decide) ?_
      refine lv_goto (tgt := 14) hx hb dX5_isSheet_10 (by decide) ?_
      exact b_zret hx hb hr hlocks (by decide) hH (⟨rfl, Or.inl ⟨rfl, (by have e0 : (0 : Int32).toInt = 0 := (by decide); have e4 : (4 : Int32).toInt = 4 := (by decide); try simp only [b_lt, b_le, b_eq] at c1 c2; omega)⟩⟩) dX5_isSheet_14
set_option maxHeartbeats 4000000 in
set_option maxRecDepth 100000 in
theorem c_X5_isSort (l : Launch) (D : va_G) (cy : Nat → ClassId) (q : Nat → Nat) (hq : bJ 66 q) (z : zS) (a : Int32) : bCi l yX5_isSort wsX5_isSort ({ frames := 0, cells := 0, slots := 0, locals := 0 }) D cy 66 (enC cy) q z [.int a] (fun r z' => z = z' ∧ ((r = 1 ∧ (0 ≤ a.toInt ∧ a.toInt ≤ 2)) ∨ (r = 0 ∧ ¬ (0 ≤ a.toInt ∧ a.toInt ≤ 2)))) := by
  intro sz
  refine Met.ofW (cc := cX5_isSort) (maxL := 1) (ret := (some .boolean)) (by decide) rfl ?_
  intro p e s m args below meth c s₁ B hml hv
  obtain ⟨rfl, hsz, hP, hK, hZ⟩ := hv
  have hx := B.exec
  have hb := B.bytes
  have hr := B.returns
  have hts := atoms_spec (ws := wsX5_isSort) B.pre
  have hown : s.vm.findClass RX5 = some m.cls := findClass_of_methodNamed B.named
  have hlocks := B.notSynchronized
  subst hsz
  have hH : bH D 66 (enC cy) q z s.heap s.heap [] := bH_in hq hP
  have hl := lv_entry ([.int a]) (n := 1) (Nat.le_of_ble_eq_true rfl)
  rw [lg_entry_eq]
  generalize (lg_sl ([.int a]) ++ List.replicate (1 - (lg_sl ([.int a])).length) Slot.unset).toArray = ls at hl ⊢
  have hl : lv_has ls 1 [(0, .int a)] := hl
  refine lv_iload_n hx hb dX5_isSort_0 rfl (lv_at hl 0 rfl) ?_
  refine lv_if_lt (tgt := 13) hx hb dX5_isSort_1 (by decide) (fun c1 => ?_) (fun c1 => ?_)
  · skip
    refine lv_iconst (v := 0) hx hb dX5_isSort_13 (by decide) ?_
    exact b_zret hx hb hr hlocks (by decide) hH (⟨rfl, Or.inr (⟨rfl, (by have e0 : (0 : Int32).toInt = 0 := (by decide); try simp only [b_lt, b_le, b_eq] at c1; omega)⟩)⟩) dX5_isSort_14
  · skip
    refine lv_iload_n hx hb dX5_isSort_4 rfl (lv_at hl 0 rfl) ?_
    refine lv_iconst (v := 3) hx hb dX5_isSort_5 (by decide) ?_
    refine lv_icmp_ge (tgt := 13) hx hb dX5_isSort_6 (by decide) (fun c2 => ?_) (fun c2 => ?_)
    · skip
      refine lv_iconst (v := 0) hx hb dX5_isSort_13 (by decide) ?_
      exact b_zret hx hb hr hlocks (by decide) hH (⟨rfl, Or.inr (⟨rfl, (by have e0 : (0 : Int32).toInt = 0 := (by decide); have e3 : (3 : Int32).toInt = 3 := (by decide); try simp only [b_lt, b_le, b_eq] at c1 c2; omega)⟩)⟩) dX5_isSort_14
    · skip
      refine lv_iconst (v := 1) hx hb dX5_isSort_9 (by decide) ?_
      refine lv_goto (tgt := 14) hx hb dX5_isSort_10 (by decide) ?_
      exact b_zret hx hb hr hlocks (by decide) hH (⟨rfl, Or.inl ⟨rfl, (by have e0 : (0 : Int32).toInt = 0 := (by decide); have e3 : (3 : Int32).toInt = 3 := (by decide); try simp only [b_lt, b_le, b_eq] at c1 c2; omega)⟩⟩) dX5_isSort_14
set_option maxHeartbeats 4000000 in
set_option maxRecDepth 100000 in
theorem c_X5_found_0 (l : Launch) (D : va_G) (cy : Nat → ClassId) (q : Nat → Nat) (hq : bJ 66 q) (z : zS) (hF : Fr z) (a : Int32)   : bCi l yX5_found wsX5_found ({ frames := 0, cells := 0, slots := 0, locals := 0 }) D cy 66 (enC cy) q z [.ref (q 0), .int a] (fun r z' => (a : Int32) = r) := by
  intro sz
  refine Met.ofW (cc := cX5_found) (maxL := 2) (ret := (some .int)) (by decide) rfl ?_
  intro p e s m args below meth c s₁ B hml hv
  obtain ⟨rfl, hsz, hP, hK, hZ⟩ := hv
  have hx := B.exec
  have hb := B.bytes
  have hr := B.returns
  have hts := atoms_spec (ws := wsX5_found) B.pre
  have hown : s.vm.findClass RX5 = some m.cls := findClass_of_methodNamed B.named
  have hlocks := B.notSynchronized
  subst hsz
  have hH : bH D 66 (enC cy) q z s.heap s.heap [] := bH_in hq hP
  have hl := lv_entry ([.ref (q 0), .int a]) (n := 2) (Nat.le_of_ble_eq_true rfl)
  rw [lg_entry_eq]
  generalize (lg_sl ([.ref (q 0), .int a]) ++ List.replicate (2 - (lg_sl ([.ref (q 0), .int a])).length) Slot.unset).toArray = ls at hl ⊢
  have hl : lv_has ls 2 [(0, .ref (q 0)), (1, .int a)] := hl
  refine lv_aload_n hx hb dX5_found_0 rfl (lv_at hl 0 rfl) ?_
  refine lv_dup hx hb dX5_found_1 rfl ?_
  refine b_get (ci := 5) (C := RX5) (T := TX5) (Nf := 12) (v := .int 0) hx hb hts in_X5_found_X5 hown hK hH 0 (by decide) rfl rfl 11 (by decide) (hts (.fieldLink RX5 67 "StationLine" "hostFindings" "I") (List.mem_of_getElem? (i := 1) rfl)) (congrArg (fun x => some (Value.int x)) (Fr_6 hF)) dX5_found_2 ?_
  refine lv_iconst (v := 1) hx hb dX5_found_5 (by decide) ?_
  refine lv_iadd hx hb dX5_found_6 ?_
  refine b_vi (v := 1) (by decide) ?_
  refine b_put (ci := 5) (C := RX5) (T := TX5) (Nf := 12) (v := .int 1) (ty := .int) hx hb hts in_X5_found_X5 tyX5 tyX5_ok nmX5 hown hK hH 0 (by decide) rfl rfl 11 (by decide) (hts (.fieldLink RX5 67 "StationLine" "hostFindings" "I") (List.mem_of_getElem? (i := 1) rfl)) rfl (by decide +kernel) rfl rfl (Nat.le_of_ble_eq_true rfl) (upS z 10 1) rfl (enC_S10 _ _ _ _) dX5_found_7 (fun H locs hH => ?_)
  obtain ⟨z1, hz1⟩ : ∃ w : zS, w = upS z 10 1 := ⟨_, rfl⟩
  rw [← hz1] at hH
  refine lv_iload_n hx hb dX5_found_10 rfl (lv_at hl 1 rfl) ?_
  exact b_iret hx hb hr hlocks hH ((by first | rfl | omega | (exfalso; omega))) dX5_found_11
set_option maxHeartbeats 4000000 in
set_option maxRecDepth 100000 in
theorem c_X5_stationsFor_0 (l : Launch) (D : va_G) (cy : Nat → ClassId) (q : Nat → Nat) (hq : bJ 66 q) (z : zS) (hF : Fr z) (a : Int32) : bCi l yX5_stationsFor wsX5_stationsFor ({ frames := 3, cells := 0, slots := 0, locals := 74 }) D cy 66 (enC cy) q z [.ref (q 0), .int a] (fun r z' => z = z' ∧ (0 : Int32) = r) := by
  intro sz
  refine Met.ofW (cc := cX5_stationsFor) (maxL := 2) (ret := (some .int)) (by decide) rfl ?_
  intro p e s m args below meth c s₁ B hml hv
  obtain ⟨rfl, hsz, hP, hK, hZ⟩ := hv
  have hx := B.exec
  have hb := B.bytes
  have hr := B.returns
  have hts := atoms_spec (ws := wsX5_stationsFor) B.pre
  have hown : s.vm.findClass RX5 = some m.cls := findClass_of_methodNamed B.named
  have hlocks := B.notSynchronized
  subst hsz
  have hH : bH D 66 (enC cy) q z s.heap s.heap [] := bH_in hq hP
  have hl := lv_entry ([.ref (q 0), .int a]) (n := 2) (Nat.le_of_ble_eq_true rfl)
  rw [lg_entry_eq]
  generalize (lg_sl ([.ref (q 0), .int a]) ++ List.replicate (2 - (lg_sl ([.ref (q 0), .int a])).length) Slot.unset).toArray = ls at hl ⊢
  have hl : lv_has ls 2 [(0, .ref (q 0)), (1, .int a)] := hl
  refine lv_aload_n hx hb dX5_stationsFor_0 rfl (lv_at hl 0 rfl) ?_
  refine b_get (ci := 5) (C := RX5) (T := TX5) (Nf := 12) (v := .ref (q 1)) hx hb hts in_X5_stationsFor_X5 hown hK hH 0 (by decide) rfl rfl 0 (by decide) (hts (.fieldLink RX5 12 "StationLine" "bench" "LStationLine$Bench;") (List.mem_of_getElem? (i := 1) rfl)) rfl dX5_stationsFor_1 ?_
  refine lv_iload_n hx hb dX5_stationsFor_4 rfl (lv_at hl 1 rfl) ?_
  refine b_calli (As := [.int a]) (rest := []) ⟨hx, hb, hml, hown, hts⟩ 1 0 (c_X0_loadOf_1 l D cy q hH.2.1 z hF a ) (cwV 1 hts gX5_stationsFor_X0_loadOf rfl rfl rfl (by decide +kernel) ⟨Nat.le_of_ble_eq_true rfl, Nat.le_of_ble_eq_true rfl⟩) hK hZ hH (by decide) rfl rfl rfl hl.1 rfl (Nat.le_of_ble_eq_true rfl) ⟨Nat.zero_le _, Nat.zero_le _⟩ dX5_stationsFor_5 (fun r1 z1 H locs hp1 hH => ?_)
  obtain ⟨rfl, rfl⟩ := hp1
  refine lv_aload_n hx hb dX5_stationsFor_8 rfl (lv_at hl 0 rfl) ?_
  refine b_get (ci := 5) (C := RX5) (T := TX5) (Nf := 12) (v := .ref (q 1)) hx hb hts in_X5_stationsFor_X5 hown hK hH 0 (by decide) rfl rfl 0 (by decide) (hts (.fieldLink RX5 12 "StationLine" "bench" "LStationLine$Bench;") (List.mem_of_getElem? (i := 1) rfl)) rfl dX5_stationsFor_9 ?_
  refine b_calli (As := []) (rest := [.int 0]) ⟨hx, hb, hml, hown, hts⟩ 1 0 (c_X0_room_1 l D cy q hH.2.1 z hF  ) (cwV 0 hts gX5_stationsFor_X0_room rfl rfl rfl (by decide +kernel) ⟨Nat.le_of_ble_eq_true rfl, Nat.le_of_ble_eq_true rfl⟩) hK hZ hH (by decide) rfl rfl rfl hl.1 rfl (Nat.le_of_ble_eq_true rfl) ⟨Nat.zero_le _, Nat.zero_le _⟩ dX5_stationsFor_12 (fun r2 z2 H locs hp2 hH => ?_)
  obtain ⟨rfl, rfl⟩ := hp2
  refine b_stati (As := [.int 0, .int 10]) (rest := []) ⟨hx, hb, hml, hown, hts⟩ (c_X5_takenUp l D cy q hH.2.1 z  0 10 ) (va_cwS 2 hts gX5_stationsFor_X5_takenUp rfl rfl rfl (by decide +kernel) ⟨Nat.le_of_ble_eq_true rfl, Nat.le_of_ble_eq_true rfl⟩) hK hZ hH rfl hl.1 rfl (Nat.le_of_ble_eq_true rfl) ⟨Nat.zero_le _, Nat.zero_le _⟩ dX5_stationsFor_15 (fun r3 z3 H locs hp3 hH => ?_)
  obtain ⟨rfl, rfl⟩ := hp3
  refine b_vi (v := 0) (by decide) ?_
  exact b_iret hx hb hr hlocks hH (⟨rfl, (by first | rfl | (exfalso; omega))⟩) dX5_stationsFor_18
theorem tk0 {m : Int32} (h : 1 ≤ m.toInt ∧ m.toInt ≤ 10) : (if (1 * m) < 1 then 0 else (0 + (1 * m) - 1) / (1 * m) : Int32) = 0 := by
  have e : m = 1 ∨ m = 2 ∨ m = 3 ∨ m = 4 ∨ m = 5 ∨ m = 6 ∨ m = 7 ∨ m = 8 ∨ m = 9 ∨ m = 10 := by
    simp only [b_eq]
    have e1 : (1 : Int32).toInt = 1 := by decide
    have e2 : (2 : Int32).toInt = 2 := by decide
    have e3 : (3 : Int32).toInt = 3 := by decide
    have e4 : (4 : Int32).toInt = 4 := by decide
    have e5 : (5 : Int32).toInt = 5 := by decide
    have e6 : (6 : Int32).toInt = 6 := by decide
    have e7 : (7 : Int32).toInt = 7 := by decide
    have e8 : (8 : Int32).toInt = 8 := by decide
    have e9 : (9 : Int32).toInt = 9 := by decide
    have e10 : (10 : Int32).toInt = 10 := by decide
    omega
  rcases e with rfl | rfl | rfl | rfl | rfl | rfl | rfl | rfl | rfl | rfl <;> decide
set_option maxHeartbeats 4000000 in
set_option maxRecDepth 100000 in
theorem c_X3_leastBeatFor_32 (l : Launch) (D : va_G) (cy : Nat → ClassId) (q : Nat → Nat) (hq : bJ 66 q) (z : zS) (hF : Fr z) (mm : Int32)  (hm : 1 ≤ mm.toInt ∧ mm.toInt ≤ 10) : bCi l yX3_leastBeatFor wsX3_leastBeatFor ({ frames := 5, cells := 0, slots := 0, locals := 119 }) D cy 66 (enC cy) q z [.ref (q 32), .int mm] (fun r z' => Fr z' ∧ (1 : Int32) = r) := by
  intro sz
  refine Met.ofW (cc := cX3_leastBeatFor) (maxL := 7) (ret := (some .int)) (by decide) rfl ?_
  intro p e s m args below meth c s₁ B hml hv
  obtain ⟨rfl, hsz, hP, hK, hZ⟩ := hv
  have hx := B.exec
  have hb := B.bytes
  have hr := B.returns
  have hts := atoms_spec (ws := wsX3_leastBeatFor) B.pre
  have hown : s.vm.findClass RX3 = some m.cls := findClass_of_methodNamed B.named
  have hlocks := B.notSynchronized
  subst hsz
  have hH : bH D 66 (enC cy) q z s.heap s.heap [] := bH_in hq hP
  have hl := lv_entry ([.ref (q 32), .int mm]) (n := 7) (Nat.le_of_ble_eq_true rfl)
  rw [lg_entry_eq]
  generalize (lg_sl ([.ref (q 32), .int mm]) ++ List.replicate (7 - (lg_sl ([.ref (q 32), .int mm])).length) Slot.unset).toArray = ls at hl ⊢
  have hl : lv_has ls 7 [(0, .ref (q 32)), (1, .int mm)] := hl
  refine lv_aload_n hx hb dX3_leastBeatFor_0 rfl (lv_at hl 0 rfl) ?_
  refine b_callv (As := []) (rest := []) ⟨hx, hb, hml, hown, hts⟩ 32 3 (c_X3_prepare_32 l D cy q hH.2.1 z hF   ) (cwV 0 hts gX3_leastBeatFor_X3_prepare rfl rfl rfl (by decide +kernel) ⟨Nat.le_of_ble_eq_true rfl, Nat.le_of_ble_eq_true rfl⟩) hK hZ hH (by decide) rfl rfl rfl hl.1 rfl (Nat.le_of_ble_eq_true rfl) ⟨Nat.zero_le _, Nat.zero_le _⟩ dX3_leastBeatFor_1 (fun z1 H locs hp1 hH => ?_)
  obtain ⟨hFz1, g1_0, g1_1, g1_2⟩ := hp1
  refine lv_aload_n hx hb dX3_leastBeatFor_4 rfl (lv_at hl 0 rfl) ?_
  refine b_get (ci := 3) (C := RX3) (T := TX3) (Nf := 11) (v := .ref (q 1)) hx hb hts in_X3_leastBeatFor_X3 hown hK hH 32 (by decide) rfl rfl 0 (by decide) (hts (.fieldLink RX3 46 "StationLine$Search" "bench" "LStationLine$Bench;") (List.mem_of_getElem? (i := 1) rfl)) rfl dX3_leastBeatFor_5 ?_
  refine b_calli (As := []) (rest := []) ⟨hx, hb, hml, hown, hts⟩ 1 0 (c_X0_roomOfOneBeat_1 l D cy q hH.2.1 z1 hFz1  ) (cwV 0 hts gX3_leastBeatFor_X0_roomOfOneBeat rfl rfl rfl (by decide +kernel) ⟨Nat.le_of_ble_eq_true rfl, Nat.le_of_ble_eq_true rfl⟩) hK hZ hH (by decide) rfl rfl rfl hl.1 rfl (Nat.le_of_ble_eq_true rfl) ⟨Nat.zero_le _, Nat.zero_le _⟩ dX3_leastBeatFor_8 (fun r2 z2 H locs hp2 hH => ?_)
  obtain ⟨rfl, rfl⟩ := hp2
  refine lv_istore_n (lv' := [(2, .int 1), (0, .ref (q 32)), (1, .int mm)]) hx hb dX3_leastBeatFor_11 rfl hl (by decide) rfl (fun ls hl => ?_)
  refine lv_iconst (v := 1) hx hb dX3_leastBeatFor_12 (by decide) ?_
  refine lv_aload_n hx hb dX3_leastBeatFor_13 rfl (lv_at hl 1 rfl) ?_
  refine b_get (ci := 3) (C := RX3) (T := TX3) (Nf := 11) (v := .ref (q 33)) hx hb hts in_X3_leastBeatFor_X3 hown hK hH 32 (by decide) rfl rfl 2 (by decide) (hts (.fieldLink RX3 15 "StationLine$Search" "loads" "[I") (List.mem_of_getElem? (i := 2) rfl)) rfl dX3_leastBeatFor_14 ?_
  refine lv_aload_n hx hb dX3_leastBeatFor_17 rfl (lv_at hl 1 rfl) ?_
  refine b_get (ci := 3) (C := RX3) (T := TX3) (Nf := 11) (v := .int 0) hx hb hts in_X3_leastBeatFor_X3 hown hK hH 32 (by decide) rfl rfl 1 (by decide) (hts (.fieldLink RX3 9 "StationLine$Search" "all" "I") (List.mem_of_getElem? (i := 3) rfl)) (congrArg (fun x => some (Value.int x)) g1_0) dX3_leastBeatFor_18 ?_
  refine b_iald (v := 0) hx hb hK hH 33 (by decide) rfl (by unfold vp_in; decide) g1_1 dX3_leastBeatFor_21 ?_
  refine lv_iload_n hx hb dX3_leastBeatFor_22 rfl (lv_at hl 0 rfl) ?_
  refine lv_iload_n hx hb dX3_leastBeatFor_23 rfl (lv_at hl 2 rfl) ?_
  refine lv_imul hx hb dX3_leastBeatFor_24 ?_
  refine b_statN (As := [.int 0, .int (1 * mm)]) (rest := [.int 1]) ⟨hx, hb, hml, hown, hts⟩ (c_X5_takenUp l D cy q hH.2.1 z1  0 (1 * mm) ) ⟨va_cnB 2 hts gX3_leastBeatFor_X5_takenUp_n66 rfl rfl rfl hZ.2 (hts (.initialized RX5) (List.mem_of_getElem? (i := 76) rfl)) (by decide +kernel) ⟨Nat.le_of_ble_eq_true rfl, Nat.le_of_ble_eq_true rfl⟩, (hts (.static yX5_takenUp) (List.mem_of_getElem? (i := 75) rfl)), trivial⟩ hK hZ hH rfl hl.1 rfl (Nat.le_of_ble_eq_true rfl) ⟨Nat.zero_le _, Nat.zero_le _⟩ dX3_leastBeatFor_25 (fun r3 z3 H locs hp3 hH => ?_)
  obtain ⟨rfl, rfl⟩ := hp3
  refine b_vi (v := 0) (tk0 hm) ?_
  refine va_mmax hx hb (by rw [hml]; exact hl.1.symm) hown (hts (.methodLink RX3 70 Lib.Math.max.name) (List.mem_of_getElem? (i := 4) rfl)) (hts (.static Lib.Math.max.name) (List.mem_of_getElem? (i := 5) rfl)) (hts (.initialized "java/lang/Math") (List.mem_of_getElem? (i := 6) rfl)) (hts (.code Lib.Math.max.name Lib.Math.max.code 2 (some .int)) (List.mem_of_getElem? (i := 7) rfl)) (Nat.le_of_ble_eq_true rfl) (Nat.le_of_ble_eq_true rfl) (Nat.zero_le _) (Nat.zero_le _) dX3_leastBeatFor_28 ?_
  refine b_vi (v := 1) (by decide) ?_
  refine lv_istore_n (lv' := [(3, .int 1), (2, .int 1), (0, .ref (q 32)), (1, .int mm)]) hx hb dX3_leastBeatFor_31 rfl hl (by decide) rfl (fun ls hl => ?_)
  refine lv_iload_n hx hb dX3_leastBeatFor_32 rfl (lv_at hl 0 rfl) ?_
  refine lv_aload_n hx hb dX3_leastBeatFor_33 rfl (lv_at hl 2 rfl) ?_
  refine b_get (ci := 3) (C := RX3) (T := TX3) (Nf := 11) (v := .ref (q 33)) hx hb hts in_X3_leastBeatFor_X3 hown hK hH 32 (by decide) rfl rfl 2 (by decide) (hts (.fieldLink RX3 15 "StationLine$Search" "loads" "[I") (List.mem_of_getElem? (i := 2) rfl)) rfl dX3_leastBeatFor_34 ?_
  refine lv_aload_n hx hb dX3_leastBeatFor_37 rfl (lv_at hl 2 rfl) ?_
  refine b_get (ci := 3) (C := RX3) (T := TX3) (Nf := 11) (v := .int 0) hx hb hts in_X3_leastBeatFor_X3 hown hK hH 32 (by decide) rfl rfl 1 (by decide) (hts (.fieldLink RX3 9 "StationLine$Search" "all" "I") (List.mem_of_getElem? (i := 3) rfl)) (congrArg (fun x => some (Value.int x)) g1_0) dX3_leastBeatFor_38 ?_
  refine b_iald (v := 0) hx hb hK hH 33 (by decide) rfl (by unfold vp_in; decide) g1_1 dX3_leastBeatFor_41 ?_
  refine lv_iload_n hx hb dX3_leastBeatFor_42 rfl (lv_at hl 1 rfl) ?_
  refine b_statN (As := [.int 0, .int 1]) (rest := [.int 1]) ⟨hx, hb, hml, hown, hts⟩ (c_X5_takenUp l D cy q hH.2.1 z1  0 1 ) ⟨va_cnB 2 hts gX3_leastBeatFor_X5_takenUp_n66 rfl rfl rfl hZ.2 (hts (.initialized RX5) (List.mem_of_getElem? (i := 76) rfl)) (by decide +kernel) ⟨Nat.le_of_ble_eq_true rfl, Nat.le_of_ble_eq_true rfl⟩, (hts (.static yX5_takenUp) (List.mem_of_getElem? (i := 75) rfl)), trivial⟩ hK hZ hH rfl hl.1 rfl (Nat.le_of_ble_eq_true rfl) ⟨Nat.zero_le _, Nat.zero_le _⟩ dX3_leastBeatFor_43 (fun r4 z4 H locs hp4 hH => ?_)
  obtain ⟨rfl, rfl⟩ := hp4
  refine b_vi (v := 0) (by decide) ?_
  refine va_mmax hx hb (by rw [hml]; exact hl.1.symm) hown (hts (.methodLink RX3 70 Lib.Math.max.name) (List.mem_of_getElem? (i := 4) rfl)) (hts (.static Lib.Math.max.name) (List.mem_of_getElem? (i := 5) rfl)) (hts (.initialized "java/lang/Math") (List.mem_of_getElem? (i := 6) rfl)) (hts (.code Lib.Math.max.name Lib.Math.max.code 2 (some .int)) (List.mem_of_getElem? (i := 7) rfl)) (Nat.le_of_ble_eq_true rfl) (Nat.le_of_ble_eq_true rfl) (Nat.zero_le _) (Nat.zero_le _) dX3_leastBeatFor_46 ?_
  refine b_vi (v := 1) (by decide) ?_
  refine lv_istore (lv' := [(4, .int 1), (3, .int 1), (2, .int 1), (0, .ref (q 32)), (1, .int mm)]) hx hb dX3_leastBeatFor_49 hl (by decide) rfl (fun ls hl => ?_)
  refine lv_aload_n hx hb dX3_leastBeatFor_51 rfl (lv_at hl 3 rfl) ?_
  refine lv_iload hx hb dX3_leastBeatFor_52 (lv_at hl 0 rfl) ?_
  refine lv_iload_n hx hb dX3_leastBeatFor_54 rfl (lv_at hl 2 rfl) ?_
  refine lv_imul hx hb dX3_leastBeatFor_55 ?_
  refine b_vi (v := 1) (by decide) ?_
  refine b_calli (As := [.int 1]) (rest := []) ⟨hx, hb, hml, hown, hts⟩ 32 3 (c_X3_lengthWithin_32 l D cy q hH.2.1 z1 hFz1 1 g1_0 g1_1 g1_2 ) (cwV 1 hts gX3_leastBeatFor_X3_lengthWithin rfl rfl rfl (by decide +kernel) ⟨Nat.le_of_ble_eq_true rfl, Nat.le_of_ble_eq_true rfl⟩) hK hZ hH (by decide) rfl rfl rfl hl.1 rfl (Nat.le_of_ble_eq_true rfl) ⟨Nat.zero_le _, Nat.zero_le _⟩ dX3_leastBeatFor_56 (fun r5 z5 H locs hp5 hH => ?_)
  obtain ⟨hFz5, g5_0, rfl⟩ := hp5
  refine lv_iload_n hx hb dX3_leastBeatFor_59 rfl (lv_at hl 4 rfl) ?_
  refine lv_icmp_le (tgt := 66) hx hb dX3_leastBeatFor_60 (by decide) (fun c6 => ?_) (fun c6 => ?_)
  · skip
    refine lv_iconst (v := 0) hx hb dX3_leastBeatFor_66 (by decide) ?_
    refine lv_istore (lv' := [(5, .int 0), (4, .int 1), (3, .int 1), (2, .int 1), (0, .ref (q 32)), (1, .int mm)]) hx hb dX3_leastBeatFor_67 hl (by decide) rfl (fun ls hl => ?_)
    refine lv_iload hx hb dX3_leastBeatFor_69 (lv_at hl 0 rfl) ?_
    refine lv_sipush (v := 1000) hx hb dX3_leastBeatFor_71 (by decide) ?_
    refine lv_icmp_ge (tgt := 121) hx hb dX3_leastBeatFor_74 (by decide) (fun c0 => absurd c0 (by decide)) (fun _ => ?_)
    refine lv_iload_n hx hb dX3_leastBeatFor_77 rfl (lv_at hl 2 rfl) ?_
    refine lv_iload hx hb dX3_leastBeatFor_78 (lv_at hl 1 rfl) ?_
    refine lv_icmp_ge (tgt := 121) hx hb dX3_leastBeatFor_80 (by decide) (fun _ => ?_) (fun c0 => absurd c0 (by decide))
    refine lv_iload_n hx hb dX3_leastBeatFor_121 rfl (lv_at hl 2 rfl) ?_
    exact b_iret hx hb hr hlocks hH (⟨hFz5, (by have e0 : (0 : Int32).toInt = 0 := (by decide); try simp only [b_lt, b_le, b_eq] at c6; first | rfl | omega | (exfalso; omega))⟩) dX3_leastBeatFor_122
  · skip
    refine lv_bipush (v := (-4)) hx hb dX3_leastBeatFor_63 (by decide) ?_
    exact b_iret hx hb hr hlocks hH (⟨hFz5, (by have e0 : (0 : Int32).toInt = 0 := (by decide); try simp only [b_lt, b_le, b_eq] at c6; first | rfl | omega | (exfalso; omega))⟩) dX3_leastBeatFor_65
theorem b_1p {b : Int32} (h : 0 ≤ b.toInt ∧ b.toInt ≤ 9) : ¬ 1 + b = 0 := by
  have e : b = 0 ∨ b = 1 ∨ b = 2 ∨ b = 3 ∨ b = 4 ∨ b = 5 ∨ b = 6 ∨ b = 7 ∨ b = 8 ∨ b = 9 := by
    simp only [b_eq]
    have e0 : (0 : Int32).toInt = 0 := by decide
    have e1 : (1 : Int32).toInt = 1 := by decide
    have e2 : (2 : Int32).toInt = 2 := by decide
    have e3 : (3 : Int32).toInt = 3 := by decide
    have e4 : (4 : Int32).toInt = 4 := by decide
    have e5 : (5 : Int32).toInt = 5 := by decide
    have e6 : (6 : Int32).toInt = 6 := by decide
    have e7 : (7 : Int32).toInt = 7 := by decide
    have e8 : (8 : Int32).toInt = 8 := by decide
    have e9 : (9 : Int32).toInt = 9 := by decide
    omega
  rcases e with rfl | rfl | rfl | rfl | rfl | rfl | rfl | rfl | rfl | rfl <;> decide
set_option maxHeartbeats 4000000 in
set_option maxRecDepth 100000 in
theorem c_X5_task (l : Launch) (D : va_G) (cy : Nat → ClassId) (q : Nat → Nat) (hq : bJ 66 q) (z : zS) (hF : Fr z)  : bCi l yX5_task wsX5_task ({ frames := 1, cells := 0, slots := 0, locals := 22 }) D cy 66 (enC cy) q z [.ref (q 0)] (fun r _ => (0 : Int32) = r) := by
  intro sz
  refine Met.ofW (cc := cX5_task) (maxL := 2) (ret := (some .int)) (by decide) rfl ?_
  intro p e s m args below meth c s₁ B hml hv
  obtain ⟨rfl, hsz, hP, hK, hZ⟩ := hv
  have hx := B.exec
  have hb := B.bytes
  have hr := B.returns
  have hts := atoms_spec (ws := wsX5_task) B.pre
  have hown : s.vm.findClass RX5 = some m.cls := findClass_of_methodNamed B.named
  have hlocks := B.notSynchronized
  subst hsz
  have hH : bH D 66 (enC cy) q z s.heap s.heap [] := bH_in hq hP
  have hl := lv_entry ([.ref (q 0)]) (n := 2) (Nat.le_of_ble_eq_true rfl)
  rw [lg_entry_eq]
  generalize (lg_sl ([.ref (q 0)]) ++ List.replicate (2 - (lg_sl ([.ref (q 0)])).length) Slot.unset).toArray = ls at hl ⊢
  have hl : lv_has ls 2 [(0, .ref (q 0))] := hl
  refine lv_aload_n hx hb dX5_task_0 rfl (lv_at hl 0 rfl) ?_
  refine b_get (ci := 5) (C := RX5) (T := TX5) (Nf := 12) (v := .ref (q 1)) hx hb hts in_X5_task_X5 hown hK hH 0 (by decide) rfl rfl 0 (by decide) (hts (.fieldLink RX5 12 "StationLine" "bench" "LStationLine$Bench;") (List.mem_of_getElem? (i := 1) rfl)) rfl dX5_task_1 ?_
  refine b_get (ci := 0) (C := RX0) (T := TX0) (Nf := 11) (v := .int 0) hx hb hts in_X5_task_X0 hown hK hH 1 (by decide) rfl rfl 0 (by decide) (hts (.fieldLink RX5 70 "StationLine$Bench" "size" "I") (List.mem_of_getElem? (i := 2) rfl)) (congrArg (fun x => some (Value.int x)) (Fr_0 hF)) dX5_task_4 ?_
  refine lv_bipush (v := 10) hx hb dX5_task_7 (by decide) ?_
  refine lv_icmp_lt (tgt := 15) hx hb dX5_task_9 (by decide) (fun _ => ?_) (fun c0 => absurd c0 (by decide))
  refine lv_aload_n hx hb dX5_task_15 rfl (lv_at hl 0 rfl) ?_
  refine b_get (ci := 5) (C := RX5) (T := TX5) (Nf := 12) (v := .ref (q 1)) hx hb hts in_X5_task_X5 hown hK hH 0 (by decide) rfl rfl 0 (by decide) (hts (.fieldLink RX5 12 "StationLine" "bench" "LStationLine$Bench;") (List.mem_of_getElem? (i := 1) rfl)) rfl dX5_task_16 ?_
  refine b_calli (As := []) (rest := []) ⟨hx, hb, hml, hown, hts⟩ 1 0 (c_X0_add_1 l D cy q hH.2.1 z hF   ) (cwV 0 hts gX5_task_X0_add rfl rfl rfl (by decide +kernel) ⟨Nat.le_of_ble_eq_true rfl, Nat.le_of_ble_eq_true rfl⟩) hK hZ hH (by decide) rfl rfl rfl hl.1 rfl (Nat.le_of_ble_eq_true rfl) ⟨Nat.zero_le _, Nat.zero_le _⟩ dX5_task_19 (fun r1 z1 H locs hp1 hH => ?_)
  obtain rfl := hp1
  refine lv_istore_n (lv' := [(1, .int 0), (0, .ref (q 0))]) hx hb dX5_task_22 rfl hl (by decide) rfl (fun ls hl => ?_)
  refine lv_aload_n hx hb dX5_task_23 rfl (lv_at hl 1 rfl) ?_
  refine b_get (ci := 5) (C := RX5) (T := TX5) (Nf := 12) (v := .ref (q 13)) hx hb hts in_X5_task_X5 hown hK hH 0 (by decide) rfl rfl 1 (by decide) (hts (.fieldLink RX5 21 "StationLine" "hand" "LStationLine$Putting;") (List.mem_of_getElem? (i := 3) rfl)) rfl dX5_task_24 ?_
  refine b_get (ci := 1) (C := RX1) (T := TX1) (Nf := 2) (v := .ref (q 14)) hx hb hts in_X5_task_X1 hown hK hH 13 (by decide) rfl rfl 1 (by decide) (hts (.fieldLink RX5 77 "StationLine$Putting" "row" "[I") (List.mem_of_getElem? (i := 4) rfl)) rfl dX5_task_27 ?_
  refine lv_iload_n hx hb dX5_task_30 rfl (lv_at hl 0 rfl) ?_
  refine lv_iconst (v := 0) hx hb dX5_task_31 (by decide) ?_
  refine b_iast hx hb hK hH 14 (by decide) rfl (by unfold vp_in; decide) (upA z1 14 (upd (z1.2.1 14) (0 : Int32).toNatClampNeg 0)) rfl (enC_A _ _ _ _ _) dX5_task_32 (fun H locs hH => ?_)
  obtain ⟨z2, hz2⟩ : ∃ w : zS, w = upA z1 14 (upd (z1.2.1 14) (0 : Int32).toNatClampNeg 0) := ⟨_, rfl⟩
  rw [← hz2] at hH
  refine lv_iload_n hx hb dX5_task_33 rfl (lv_at hl 0 rfl) ?_
  exact b_iret hx hb hr hlocks hH ((by first | rfl | ((repeat' split) <;> first | rfl | omega))) dX5_task_34
set_option maxHeartbeats 4000000 in
set_option maxRecDepth 100000 in
theorem c_X5_time (l : Launch) (D : va_G) (cy : Nat → ClassId) (q : Nat → Nat) (hq : bJ 66 q) (z : zS) (hF : Fr z) (x1 : Int32) (x2 : Int32) (x3 : Int32) : bCi l yX5_time wsX5_time ({ frames := 1, cells := 0, slots := 0, locals := 21 }) D cy 66 (enC cy) q z [.ref (q 0), .int x1, .int x2, .int x3] (fun r _ => (-2 : Int32) = r) := by
  intro sz
  refine Met.ofW (cc := cX5_time) (maxL := 5) (ret := (some .int)) (by decide) rfl ?_
  intro p e s m args below meth c s₁ B hml hv
  obtain ⟨rfl, hsz, hP, hK, hZ⟩ := hv
  have hx := B.exec
  have hb := B.bytes
  have hr := B.returns
  have hts := atoms_spec (ws := wsX5_time) B.pre
  have hown : s.vm.findClass RX5 = some m.cls := findClass_of_methodNamed B.named
  have hlocks := B.notSynchronized
  subst hsz
  have hH : bH D 66 (enC cy) q z s.heap s.heap [] := bH_in hq hP
  have hl := lv_entry ([.ref (q 0), .int x1, .int x2, .int x3]) (n := 5) (Nat.le_of_ble_eq_true rfl)
  rw [lg_entry_eq]
  generalize (lg_sl ([.ref (q 0), .int x1, .int x2, .int x3]) ++ List.replicate (5 - (lg_sl ([.ref (q 0), .int x1, .int x2, .int x3])).length) Slot.unset).toArray = ls at hl ⊢
  have hl : lv_has ls 5 [(0, .ref (q 0)), (1, .int x1), (2, .int x2), (3, .int x3)] := hl
  refine lv_aload_n hx hb dX5_time_0 rfl (lv_at hl 0 rfl) ?_
  refine b_get (ci := 5) (C := RX5) (T := TX5) (Nf := 12) (v := .ref (q 1)) hx hb hts in_X5_time_X5 hown hK hH 0 (by decide) rfl rfl 0 (by decide) (hts (.fieldLink RX5 12 "StationLine" "bench" "LStationLine$Bench;") (List.mem_of_getElem? (i := 1) rfl)) rfl dX5_time_1 ?_
  refine lv_iload_n hx hb dX5_time_4 rfl (lv_at hl 1 rfl) ?_
  refine b_calli (As := [.int x1]) (rest := []) ⟨hx, hb, hml, hown, hts⟩ 1 0 (c_X0_has_1 l D cy q hH.2.1 z hF x1 ) (cwV 1 hts gX5_time_X0_has rfl rfl rfl (by decide +kernel) ⟨Nat.le_of_ble_eq_true rfl, Nat.le_of_ble_eq_true rfl⟩) hK hZ hH (by decide) rfl rfl rfl hl.1 rfl (Nat.le_of_ble_eq_true rfl) ⟨Nat.zero_le _, Nat.zero_le _⟩ dX5_time_5 (fun r1 z1 H locs hp1 hH => ?_)
  obtain ⟨rfl, rfl⟩ := hp1
  refine lv_if_eq (tgt := 29) hx hb dX5_time_8 (by decide) (fun _ => ?_) (fun c0 => absurd c0 (by decide))
  refine lv_bipush (v := (-2)) hx hb dX5_time_29 (by decide) ?_
  exact b_iret hx hb hr hlocks hH ((by first | rfl | ((repeat' split) <;> first | rfl | omega))) dX5_time_31
set_option maxHeartbeats 4000000 in
set_option maxRecDepth 100000 in
theorem c_X5_share (l : Launch) (D : va_G) (cy : Nat → ClassId) (q : Nat → Nat) (hq : bJ 66 q) (z : zS) (hF : Fr z) (x1 : Int32) (x2 : Int32) : bCi l yX5_share wsX5_share ({ frames := 1, cells := 0, slots := 0, locals := 20 }) D cy 66 (enC cy) q z [.ref (q 0), .int x1, .int x2] (fun r _ => (o_share x1 x2 : Int32) = r) := by
  intro sz
  refine Met.ofW (cc := cX5_share) (maxL := 4) (ret := (some .int)) (by decide) rfl ?_
  intro p e s m args below meth c s₁ B hml hv
  obtain ⟨rfl, hsz, hP, hK, hZ⟩ := hv
  have hx := B.exec
  have hb := B.bytes
  have hr := B.returns
  have hts := atoms_spec (ws := wsX5_share) B.pre
  have hown : s.vm.findClass RX5 = some m.cls := findClass_of_methodNamed B.named
  have hlocks := B.notSynchronized
  subst hsz
  have hH : bH D 66 (enC cy) q z s.heap s.heap [] := bH_in hq hP
  have hl := lv_entry ([.ref (q 0), .int x1, .int x2]) (n := 4) (Nat.le_of_ble_eq_true rfl)
  rw [lg_entry_eq]
  generalize (lg_sl ([.ref (q 0), .int x1, .int x2]) ++ List.replicate (4 - (lg_sl ([.ref (q 0), .int x1, .int x2])).length) Slot.unset).toArray = ls at hl ⊢
  have hl : lv_has ls 4 [(0, .ref (q 0)), (1, .int x1), (2, .int x2)] := hl
  refine lv_iload_n hx hb dX5_share_0 rfl (lv_at hl 1 rfl) ?_
  refine b_stati (As := [.int x1]) (rest := []) ⟨hx, hb, hml, hown, hts⟩ (c_X5_isMake l D cy q hH.2.1 z x1) (va_cwS 1 hts gX5_share_X5_isMake rfl rfl rfl (by decide +kernel) ⟨Nat.le_of_ble_eq_true rfl, Nat.le_of_ble_eq_true rfl⟩) hK hZ hH rfl hl.1 rfl (Nat.le_of_ble_eq_true rfl) ⟨Nat.zero_le _, Nat.zero_le _⟩ dX5_share_1 (fun r1 z1 H locs hp1 hH => ?_)
  rcases hp1 with ⟨rfl, ⟨rfl, a1⟩ | ⟨rfl, a1⟩⟩
  · skip
    refine lv_if_eq (tgt := 17) hx hb dX5_share_4 (by decide) (fun c0 => absurd c0 (by decide)) (fun _ => ?_)
    refine lv_iload_n hx hb dX5_share_7 rfl (lv_at hl 2 rfl) ?_
    refine lv_if_lt (tgt := 17) hx hb dX5_share_8 (by decide) (fun c2 => ?_) (fun c2 => ?_)
    · skip
      refine lv_bipush (v := (-2)) hx hb dX5_share_17 (by decide) ?_
      exact b_iret hx hb hr hlocks hH ((by have e0 : (0 : Int32).toInt = 0 := (by decide); try simp only [b_lt, b_le, b_eq] at c2; first | rfl | (unfold o_share; (repeat' split) <;> first | rfl | omega))) dX5_share_19
    · skip
      refine lv_iload_n hx hb dX5_share_11 rfl (lv_at hl 2 rfl) ?_
      refine lv_bipush (v := 9) hx hb dX5_share_12 (by decide) ?_
      refine lv_icmp_le (tgt := 20) hx hb dX5_share_14 (by decide) (fun c3 => ?_) (fun c3 => ?_)
      · skip
        rcases (show x1 = 0 ∨ x1 = 1 ∨ x1 = 2 by simp only [b_eq]; have k0 : (0 : Int32).toInt = 0 := (by decide); have k1 : (1 : Int32).toInt = 1 := (by decide); have k2 : (2 : Int32).toInt = 2 := (by decide); omega) with rfl | rfl | rfl
        · skip
          have k0 : (0 : Int32).toInt = 0 := by decide
          refine lv_aload_n hx hb dX5_share_20 rfl (lv_at hl 0 rfl) ?_
          refine b_get (ci := 5) (C := RX5) (T := TX5) (Nf := 12) (v := .ref (q 1)) hx hb hts in_X5_share_X5 hown hK hH 0 (by decide) rfl rfl 0 (by decide) (hts (.fieldLink RX5 12 "StationLine" "bench" "LStationLine$Bench;") (List.mem_of_getElem? (i := 1) rfl)) rfl dX5_share_21 ?_
          refine b_get (ci := 0) (C := RX0) (T := TX0) (Nf := 11) (v := .ref (q 2)) hx hb hts in_X5_share_X0 hown hK hH 1 (by decide) rfl rfl 3 (by decide) (hts (.fieldLink RX5 91 "StationLine$Bench" "shares" "[I") (List.mem_of_getElem? (i := 2) rfl)) rfl dX5_share_24 ?_
          refine lv_iload_n hx hb dX5_share_27 rfl (lv_at hl 1 rfl) ?_
          refine b_iald (v := 1) hx hb hK hH 2 (by decide) rfl (by unfold vp_in; decide) (Fr_7 hF) dX5_share_28 ?_
          refine lv_istore_n (lv' := [(3, .int 1), (0, .ref (q 0)), (1, .int 0), (2, .int x2)]) hx hb dX5_share_29 rfl hl (by decide) rfl (fun ls hl => ?_)
          refine lv_aload_n hx hb dX5_share_30 rfl (lv_at hl 1 rfl) ?_
          refine b_get (ci := 5) (C := RX5) (T := TX5) (Nf := 12) (v := .ref (q 1)) hx hb hts in_X5_share_X5 hown hK hH 0 (by decide) rfl rfl 0 (by decide) (hts (.fieldLink RX5 12 "StationLine" "bench" "LStationLine$Bench;") (List.mem_of_getElem? (i := 1) rfl)) rfl dX5_share_31 ?_
          refine b_calli (As := []) (rest := []) ⟨hx, hb, hml, hown, hts⟩ 1 0 (c_X0_shareSum_1 l D cy q hH.2.1 z hF  ) (cwV 0 hts gX5_share_X0_shareSum rfl rfl rfl (by decide +kernel) ⟨Nat.le_of_ble_eq_true rfl, Nat.le_of_ble_eq_true rfl⟩) hK hZ hH (by decide) rfl rfl rfl hl.1 rfl (Nat.le_of_ble_eq_true rfl) ⟨Nat.zero_le _, Nat.zero_le _⟩ dX5_share_34 (fun r5 z5 H locs hp5 hH => ?_)
          obtain ⟨rfl, rfl⟩ := hp5
          refine lv_iload_n hx hb dX5_share_37 rfl (lv_at hl 0 rfl) ?_
          refine lv_isub hx hb dX5_share_38 ?_
          refine b_vi (v := 0) (by decide) ?_
          refine lv_iload_n hx hb dX5_share_39 rfl (lv_at hl 3 rfl) ?_
          refine lv_iadd hx hb dX5_share_40 ?_
          refine b_vi (v := x2) (by simp) ?_
          refine lv_if_ne (tgt := 47) hx hb dX5_share_41 (by decide) (fun c6 => ?_) (fun c6 => ?_)
          · skip
            refine lv_aload_n hx hb dX5_share_47 rfl (lv_at hl 1 rfl) ?_
            refine b_get (ci := 5) (C := RX5) (T := TX5) (Nf := 12) (v := .ref (q 1)) hx hb hts in_X5_share_X5 hown hK hH 0 (by decide) rfl rfl 0 (by decide) (hts (.fieldLink RX5 12 "StationLine" "bench" "LStationLine$Bench;") (List.mem_of_getElem? (i := 1) rfl)) rfl dX5_share_48 ?_
            refine b_get (ci := 0) (C := RX0) (T := TX0) (Nf := 11) (v := .ref (q 2)) hx hb hts in_X5_share_X0 hown hK hH 1 (by decide) rfl rfl 3 (by decide) (hts (.fieldLink RX5 91 "StationLine$Bench" "shares" "[I") (List.mem_of_getElem? (i := 2) rfl)) rfl dX5_share_51 ?_
            refine lv_iload_n hx hb dX5_share_54 rfl (lv_at hl 2 rfl) ?_
            refine lv_iload_n hx hb dX5_share_55 rfl (lv_at hl 3 rfl) ?_
            refine b_iast hx hb hK hH 2 (by decide) rfl (by unfold vp_in; decide) (upA z 2 (upd (z.2.1 2) (0 : Int32).toNatClampNeg x2)) rfl (enC_A _ _ _ _ _) dX5_share_56 (fun H locs hH => ?_)
            obtain ⟨z7, hz7⟩ : ∃ w : zS, w = upA z 2 (upd (z.2.1 2) (0 : Int32).toNatClampNeg x2) := ⟨_, rfl⟩
            rw [← hz7] at hH
            refine lv_iload_n hx hb dX5_share_57 rfl (lv_at hl 0 rfl) ?_
            exact b_iret hx hb hr hlocks hH ((by have e0 : (0 : Int32).toInt = 0 := (by decide); have e9 : (9 : Int32).toInt = 9 := (by decide); try simp only [b_lt, b_le, b_eq] at c2 c3 c6; first | rfl | (unfold o_share; (repeat' split) <;> first | rfl | omega))) dX5_share_58
          · skip
            refine lv_bipush (v := (-2)) hx hb dX5_share_44 (by decide) ?_
            exact b_iret hx hb hr hlocks hH ((by have e0 : (0 : Int32).toInt = 0 := (by decide); have e9 : (9 : Int32).toInt = 9 := (by decide); try simp only [b_lt, b_le, b_eq] at c2 c3 c6; first | rfl | (unfold o_share; (repeat' split) <;> first | rfl | omega))) dX5_share_46
        · skip
          have k1 : (1 : Int32).toInt = 1 := by decide
          refine lv_aload_n hx hb dX5_share_20 rfl (lv_at hl 0 rfl) ?_
          refine b_get (ci := 5) (C := RX5) (T := TX5) (Nf := 12) (v := .ref (q 1)) hx hb hts in_X5_share_X5 hown hK hH 0 (by decide) rfl rfl 0 (by decide) (hts (.fieldLink RX5 12 "StationLine" "bench" "LStationLine$Bench;") (List.mem_of_getElem? (i := 1) rfl)) rfl dX5_share_21 ?_
          refine b_get (ci := 0) (C := RX0) (T := TX0) (Nf := 11) (v := .ref (q 2)) hx hb hts in_X5_share_X0 hown hK hH 1 (by decide) rfl rfl 3 (by decide) (hts (.fieldLink RX5 91 "StationLine$Bench" "shares" "[I") (List.mem_of_getElem? (i := 2) rfl)) rfl dX5_share_24 ?_
          refine lv_iload_n hx hb dX5_share_27 rfl (lv_at hl 1 rfl) ?_
          refine b_iald (v := 0) hx hb hK hH 2 (by decide) rfl (by unfold vp_in; decide) (Fr_8 hF) dX5_share_28 ?_
          refine lv_istore_n (lv' := [(3, .int 0), (0, .ref (q 0)), (1, .int 1), (2, .int x2)]) hx hb dX5_share_29 rfl hl (by decide) rfl (fun ls hl => ?_)
          refine lv_aload_n hx hb dX5_share_30 rfl (lv_at hl 1 rfl) ?_
          refine b_get (ci := 5) (C := RX5) (T := TX5) (Nf := 12) (v := .ref (q 1)) hx hb hts in_X5_share_X5 hown hK hH 0 (by decide) rfl rfl 0 (by decide) (hts (.fieldLink RX5 12 "StationLine" "bench" "LStationLine$Bench;") (List.mem_of_getElem? (i := 1) rfl)) rfl dX5_share_31 ?_
          refine b_calli (As := []) (rest := []) ⟨hx, hb, hml, hown, hts⟩ 1 0 (c_X0_shareSum_1 l D cy q hH.2.1 z hF  ) (cwV 0 hts gX5_share_X0_shareSum rfl rfl rfl (by decide +kernel) ⟨Nat.le_of_ble_eq_true rfl, Nat.le_of_ble_eq_true rfl⟩) hK hZ hH (by decide) rfl rfl rfl hl.1 rfl (Nat.le_of_ble_eq_true rfl) ⟨Nat.zero_le _, Nat.zero_le _⟩ dX5_share_34 (fun r8 z8 H locs hp8 hH => ?_)
          obtain ⟨rfl, rfl⟩ := hp8
          refine lv_iload_n hx hb dX5_share_37 rfl (lv_at hl 0 rfl) ?_
          refine lv_isub hx hb dX5_share_38 ?_
          refine b_vi (v := 1) (by decide) ?_
          refine lv_iload_n hx hb dX5_share_39 rfl (lv_at hl 3 rfl) ?_
          refine lv_iadd hx hb dX5_share_40 ?_
          refine lv_if_ne (tgt := 47) hx hb dX5_share_41 (by decide) (fun _ => ?_) (fun c0 => absurd c0 (b_1p (by have e0 : (0 : Int32).toInt = 0 := (by decide); have e9 : (9 : Int32).toInt = 9 := (by decide); try simp only [b_lt, b_le, b_eq] at c2 c3; omega)))
          refine lv_aload_n hx hb dX5_share_47 rfl (lv_at hl 1 rfl) ?_
          refine b_get (ci := 5) (C := RX5) (T := TX5) (Nf := 12) (v := .ref (q 1)) hx hb hts in_X5_share_X5 hown hK hH 0 (by decide) rfl rfl 0 (by decide) (hts (.fieldLink RX5 12 "StationLine" "bench" "LStationLine$Bench;") (List.mem_of_getElem? (i := 1) rfl)) rfl dX5_share_48 ?_
          refine b_get (ci := 0) (C := RX0) (T := TX0) (Nf := 11) (v := .ref (q 2)) hx hb hts in_X5_share_X0 hown hK hH 1 (by decide) rfl rfl 3 (by decide) (hts (.fieldLink RX5 91 "StationLine$Bench" "shares" "[I") (List.mem_of_getElem? (i := 2) rfl)) rfl dX5_share_51 ?_
          refine lv_iload_n hx hb dX5_share_54 rfl (lv_at hl 2 rfl) ?_
          refine lv_iload_n hx hb dX5_share_55 rfl (lv_at hl 3 rfl) ?_
          refine b_iast hx hb hK hH 2 (by decide) rfl (by unfold vp_in; decide) (upA z 2 (upd (z.2.1 2) (1 : Int32).toNatClampNeg x2)) rfl (enC_A _ _ _ _ _) dX5_share_56 (fun H locs hH => ?_)
          obtain ⟨z9, hz9⟩ : ∃ w : zS, w = upA z 2 (upd (z.2.1 2) (1 : Int32).toNatClampNeg x2) := ⟨_, rfl⟩
          rw [← hz9] at hH
          refine lv_iload_n hx hb dX5_share_57 rfl (lv_at hl 0 rfl) ?_
          exact b_iret hx hb hr hlocks hH ((by have e0 : (0 : Int32).toInt = 0 := (by decide); have e9 : (9 : Int32).toInt = 9 := (by decide); try simp only [b_lt, b_le, b_eq] at c2 c3; first | rfl | (unfold o_share; (repeat' split) <;> first | rfl | omega))) dX5_share_58
        · skip
          have k2 : (2 : Int32).toInt = 2 := by decide
          refine lv_aload_n hx hb dX5_share_20 rfl (lv_at hl 0 rfl) ?_
          refine b_get (ci := 5) (C := RX5) (T := TX5) (Nf := 12) (v := .ref (q 1)) hx hb hts in_X5_share_X5 hown hK hH 0 (by decide) rfl rfl 0 (by decide) (hts (.fieldLink RX5 12 "StationLine" "bench" "LStationLine$Bench;") (List.mem_of_getElem? (i := 1) rfl)) rfl dX5_share_21 ?_
          refine b_get (ci := 0) (C := RX0) (T := TX0) (Nf := 11) (v := .ref (q 2)) hx hb hts in_X5_share_X0 hown hK hH 1 (by decide) rfl rfl 3 (by decide) (hts (.fieldLink RX5 91 "StationLine$Bench" "shares" "[I") (List.mem_of_getElem? (i := 2) rfl)) rfl dX5_share_24 ?_
          refine lv_iload_n hx hb dX5_share_27 rfl (lv_at hl 1 rfl) ?_
          refine b_iald (v := 0) hx hb hK hH 2 (by decide) rfl (by unfold vp_in; decide) (Fr_9 hF) dX5_share_28 ?_
          refine lv_istore_n (lv' := [(3, .int 0), (0, .ref (q 0)), (1, .int 2), (2, .int x2)]) hx hb dX5_share_29 rfl hl (by decide) rfl (fun ls hl => ?_)
          refine lv_aload_n hx hb dX5_share_30 rfl (lv_at hl 1 rfl) ?_
          refine b_get (ci := 5) (C := RX5) (T := TX5) (Nf := 12) (v := .ref (q 1)) hx hb hts in_X5_share_X5 hown hK hH 0 (by decide) rfl rfl 0 (by decide) (hts (.fieldLink RX5 12 "StationLine" "bench" "LStationLine$Bench;") (List.mem_of_getElem? (i := 1) rfl)) rfl dX5_share_31 ?_
          refine b_calli (As := []) (rest := []) ⟨hx, hb, hml, hown, hts⟩ 1 0 (c_X0_shareSum_1 l D cy q hH.2.1 z hF  ) (cwV 0 hts gX5_share_X0_shareSum rfl rfl rfl (by decide +kernel) ⟨Nat.le_of_ble_eq_true rfl, Nat.le_of_ble_eq_true rfl⟩) hK hZ hH (by decide) rfl rfl rfl hl.1 rfl (Nat.le_of_ble_eq_true rfl) ⟨Nat.zero_le _, Nat.zero_le _⟩ dX5_share_34 (fun r10 z10 H locs hp10 hH => ?_)
          obtain ⟨rfl, rfl⟩ := hp10
          refine lv_iload_n hx hb dX5_share_37 rfl (lv_at hl 0 rfl) ?_
          refine lv_isub hx hb dX5_share_38 ?_
          refine b_vi (v := 1) (by decide) ?_
          refine lv_iload_n hx hb dX5_share_39 rfl (lv_at hl 3 rfl) ?_
          refine lv_iadd hx hb dX5_share_40 ?_
          refine lv_if_ne (tgt := 47) hx hb dX5_share_41 (by decide) (fun _ => ?_) (fun c0 => absurd c0 (b_1p (by have e0 : (0 : Int32).toInt = 0 := (by decide); have e9 : (9 : Int32).toInt = 9 := (by decide); try simp only [b_lt, b_le, b_eq] at c2 c3; omega)))
          refine lv_aload_n hx hb dX5_share_47 rfl (lv_at hl 1 rfl) ?_
          refine b_get (ci := 5) (C := RX5) (T := TX5) (Nf := 12) (v := .ref (q 1)) hx hb hts in_X5_share_X5 hown hK hH 0 (by decide) rfl rfl 0 (by decide) (hts (.fieldLink RX5 12 "StationLine" "bench" "LStationLine$Bench;") (List.mem_of_getElem? (i := 1) rfl)) rfl dX5_share_48 ?_
          refine b_get (ci := 0) (C := RX0) (T := TX0) (Nf := 11) (v := .ref (q 2)) hx hb hts in_X5_share_X0 hown hK hH 1 (by decide) rfl rfl 3 (by decide) (hts (.fieldLink RX5 91 "StationLine$Bench" "shares" "[I") (List.mem_of_getElem? (i := 2) rfl)) rfl dX5_share_51 ?_
          refine lv_iload_n hx hb dX5_share_54 rfl (lv_at hl 2 rfl) ?_
          refine lv_iload_n hx hb dX5_share_55 rfl (lv_at hl 3 rfl) ?_
          refine b_iast hx hb hK hH 2 (by decide) rfl (by unfold vp_in; decide) (upA z 2 (upd (z.2.1 2) (2 : Int32).toNatClampNeg x2)) rfl (enC_A _ _ _ _ _) dX5_share_56 (fun H locs hH => ?_)
          obtain ⟨z11, hz11⟩ : ∃ w : zS, w = upA z 2 (upd (z.2.1 2) (2 : Int32).toNatClampNeg x2) := ⟨_, rfl⟩
          rw [← hz11] at hH
          refine lv_iload_n hx hb dX5_share_57 rfl (lv_at hl 0 rfl) ?_
          exact b_iret hx hb hr hlocks hH ((by have e0 : (0 : Int32).toInt = 0 := (by decide); have e9 : (9 : Int32).toInt = 9 := (by decide); try simp only [b_lt, b_le, b_eq] at c2 c3; first | rfl | (unfold o_share; (repeat' split) <;> first | rfl | omega))) dX5_share_58
      · skip
        refine lv_bipush (v := (-2)) hx hb dX5_share_17 (by decide) ?_
        exact b_iret hx hb hr hlocks hH ((by have e0 : (0 : Int32).toInt = 0 := (by decide); have e9 : (9 : Int32).toInt = 9 := (by decide); try simp only [b_lt, b_le, b_eq] at c2 c3; first | rfl | (unfold o_share; (repeat' split) <;> first | rfl | omega))) dX5_share_19
  · skip
    refine lv_if_eq (tgt := 17) hx hb dX5_share_4 (by decide) (fun _ => ?_) (fun c0 => absurd c0 (by decide))
    refine lv_bipush (v := (-2)) hx hb dX5_share_17 (by decide) ?_
    exact b_iret hx hb hr hlocks hH ((by first | rfl | (unfold o_share; (repeat' split) <;> first | rfl | omega))) dX5_share_19
set_option maxHeartbeats 4000000 in
set_option maxRecDepth 100000 in
theorem c_X5_ahead (l : Launch) (D : va_G) (cy : Nat → ClassId) (q : Nat → Nat) (hq : bJ 66 q) (z : zS) (hF : Fr z) (x1 : Int32) (x2 : Int32) : bCi l yX5_ahead wsX5_ahead ({ frames := 3, cells := 0, slots := 0, locals := 84 }) D cy 66 (enC cy) q z [.ref (q 0), .int x1, .int x2] (fun r _ => (-2 : Int32) = r) := by
  intro sz
  refine Met.ofW (cc := cX5_ahead) (maxL := 3) (ret := (some .int)) (by decide) rfl ?_
  intro p e s m args below meth c s₁ B hml hv
  obtain ⟨rfl, hsz, hP, hK, hZ⟩ := hv
  have hx := B.exec
  have hb := B.bytes
  have hr := B.returns
  have hts := atoms_spec (ws := wsX5_ahead) B.pre
  have hown : s.vm.findClass RX5 = some m.cls := findClass_of_methodNamed B.named
  have hlocks := B.notSynchronized
  subst hsz
  have hH : bH D 66 (enC cy) q z s.heap s.heap [] := bH_in hq hP
  have hl := lv_entry ([.ref (q 0), .int x1, .int x2]) (n := 3) (Nat.le_of_ble_eq_true rfl)
  rw [lg_entry_eq]
  generalize (lg_sl ([.ref (q 0), .int x1, .int x2]) ++ List.replicate (3 - (lg_sl ([.ref (q 0), .int x1, .int x2])).length) Slot.unset).toArray = ls at hl ⊢
  have hl : lv_has ls 3 [(0, .ref (q 0)), (1, .int x1), (2, .int x2)] := hl
  refine lv_aload_n hx hb dX5_ahead_0 rfl (lv_at hl 0 rfl) ?_
  refine b_get (ci := 5) (C := RX5) (T := TX5) (Nf := 12) (v := .ref (q 1)) hx hb hts in_X5_ahead_X5 hown hK hH 0 (by decide) rfl rfl 0 (by decide) (hts (.fieldLink RX5 12 "StationLine" "bench" "LStationLine$Bench;") (List.mem_of_getElem? (i := 1) rfl)) rfl dX5_ahead_1 ?_
  refine lv_iload_n hx hb dX5_ahead_4 rfl (lv_at hl 1 rfl) ?_
  refine b_calli (As := [.int x1]) (rest := []) ⟨hx, hb, hml, hown, hts⟩ 1 0 (c_X0_has_1 l D cy q hH.2.1 z hF x1 ) (cwV 1 hts gX5_ahead_X0_has rfl rfl rfl (by decide +kernel) ⟨Nat.le_of_ble_eq_true rfl, Nat.le_of_ble_eq_true rfl⟩) hK hZ hH (by decide) rfl rfl rfl hl.1 rfl (Nat.le_of_ble_eq_true rfl) ⟨Nat.zero_le _, Nat.zero_le _⟩ dX5_ahead_5 (fun r1 z1 H locs hp1 hH => ?_)
  obtain ⟨rfl, rfl⟩ := hp1
  refine lv_if_eq (tgt := 22) hx hb dX5_ahead_8 (by decide) (fun _ => ?_) (fun c0 => absurd c0 (by decide))
  refine lv_bipush (v := (-2)) hx hb dX5_ahead_22 (by decide) ?_
  exact b_iret hx hb hr hlocks hH ((by first | rfl | ((repeat' split) <;> first | rfl | omega))) dX5_ahead_24
set_option maxHeartbeats 4000000 in
set_option maxRecDepth 100000 in
theorem c_X5_free (l : Launch) (D : va_G) (cy : Nat → ClassId) (q : Nat → Nat) (hq : bJ 66 q) (z : zS) (hF : Fr z) (x1 : Int32) (x2 : Int32) : bCi l yX5_free wsX5_free ({ frames := 3, cells := 0, slots := 0, locals := 84 }) D cy 66 (enC cy) q z [.ref (q 0), .int x1, .int x2] (fun r _ => (-2 : Int32) = r) := by
  intro sz
  refine Met.ofW (cc := cX5_free) (maxL := 3) (ret := (some .int)) (by decide) rfl ?_
  intro p e s m args below meth c s₁ B hml hv
  obtain ⟨rfl, hsz, hP, hK, hZ⟩ := hv
  have hx := B.exec
  have hb := B.bytes
  have hr := B.returns
  have hts := atoms_spec (ws := wsX5_free) B.pre
  have hown : s.vm.findClass RX5 = some m.cls := findClass_of_methodNamed B.named
  have hlocks := B.notSynchronized
  subst hsz
  have hH : bH D 66 (enC cy) q z s.heap s.heap [] := bH_in hq hP
  have hl := lv_entry ([.ref (q 0), .int x1, .int x2]) (n := 3) (Nat.le_of_ble_eq_true rfl)
  rw [lg_entry_eq]
  generalize (lg_sl ([.ref (q 0), .int x1, .int x2]) ++ List.replicate (3 - (lg_sl ([.ref (q 0), .int x1, .int x2])).length) Slot.unset).toArray = ls at hl ⊢
  have hl : lv_has ls 3 [(0, .ref (q 0)), (1, .int x1), (2, .int x2)] := hl
  refine lv_aload_n hx hb dX5_free_0 rfl (lv_at hl 0 rfl) ?_
  refine b_get (ci := 5) (C := RX5) (T := TX5) (Nf := 12) (v := .ref (q 1)) hx hb hts in_X5_free_X5 hown hK hH 0 (by decide) rfl rfl 0 (by decide) (hts (.fieldLink RX5 12 "StationLine" "bench" "LStationLine$Bench;") (List.mem_of_getElem? (i := 1) rfl)) rfl dX5_free_1 ?_
  refine lv_iload_n hx hb dX5_free_4 rfl (lv_at hl 1 rfl) ?_
  refine b_calli (As := [.int x1]) (rest := []) ⟨hx, hb, hml, hown, hts⟩ 1 0 (c_X0_has_1 l D cy q hH.2.1 z hF x1 ) (cwV 1 hts gX5_free_X0_has rfl rfl rfl (by decide +kernel) ⟨Nat.le_of_ble_eq_true rfl, Nat.le_of_ble_eq_true rfl⟩) hK hZ hH (by decide) rfl rfl rfl hl.1 rfl (Nat.le_of_ble_eq_true rfl) ⟨Nat.zero_le _, Nat.zero_le _⟩ dX5_free_5 (fun r1 z1 H locs hp1 hH => ?_)
  obtain ⟨rfl, rfl⟩ := hp1
  refine lv_if_eq (tgt := 22) hx hb dX5_free_8 (by decide) (fun _ => ?_) (fun c0 => absurd c0 (by decide))
  refine lv_bipush (v := (-2)) hx hb dX5_free_22 (by decide) ?_
  exact b_iret hx hb hr hlocks hH ((by first | rfl | ((repeat' split) <;> first | rfl | omega))) dX5_free_24
set_option maxHeartbeats 4000000 in
set_option maxRecDepth 100000 in
theorem c_X5_ring (l : Launch) (D : va_G) (cy : Nat → ClassId) (q : Nat → Nat) (hq : bJ 66 q) (z : zS) (hF : Fr z) (x1 : Int32) : bCi l yX5_ring wsX5_ring ({ frames := 0, cells := 0, slots := 0, locals := 0 }) D cy 66 (enC cy) q z [.ref (q 0), .int x1] (fun r _ => (-4 : Int32) = r) := by
  intro sz
  refine Met.ofW (cc := cX5_ring) (maxL := 2) (ret := (some .int)) (by decide) rfl ?_
  intro p e s m args below meth c s₁ B hml hv
  obtain ⟨rfl, hsz, hP, hK, hZ⟩ := hv
  have hx := B.exec
  have hb := B.bytes
  have hr := B.returns
  have hts := atoms_spec (ws := wsX5_ring) B.pre
  have hown : s.vm.findClass RX5 = some m.cls := findClass_of_methodNamed B.named
  have hlocks := B.notSynchronized
  subst hsz
  have hH : bH D 66 (enC cy) q z s.heap s.heap [] := bH_in hq hP
  have hl := lv_entry ([.ref (q 0), .int x1]) (n := 2) (Nat.le_of_ble_eq_true rfl)
  rw [lg_entry_eq]
  generalize (lg_sl ([.ref (q 0), .int x1]) ++ List.replicate (2 - (lg_sl ([.ref (q 0), .int x1])).length) Slot.unset).toArray = ls at hl ⊢
  have hl : lv_has ls 2 [(0, .ref (q 0)), (1, .int x1)] := hl
  refine lv_iload_n hx hb dX5_ring_0 rfl (lv_at hl 1 rfl) ?_
  refine lv_if_lt (tgt := 27) hx hb dX5_ring_1 (by decide) (fun c1 => ?_) (fun c1 => ?_)
  · skip
    refine lv_bipush (v := (-4)) hx hb dX5_ring_27 (by decide) ?_
    exact b_iret hx hb hr hlocks hH ((by have e0 : (0 : Int32).toInt = 0 := (by decide); try simp only [b_lt, b_le, b_eq] at c1; first | rfl | ((repeat' split) <;> first | rfl | omega))) dX5_ring_29
  · skip
    refine lv_iload_n hx hb dX5_ring_4 rfl (lv_at hl 1 rfl) ?_
    refine lv_aload_n hx hb dX5_ring_5 rfl (lv_at hl 0 rfl) ?_
    refine b_get (ci := 5) (C := RX5) (T := TX5) (Nf := 12) (v := .ref (q 29)) hx hb hts in_X5_ring_X5 hown hK hH 0 (by decide) rfl rfl 5 (by decide) (hts (.fieldLink RX5 38 "StationLine" "ring" "LStationLine$Ring;") (List.mem_of_getElem? (i := 1) rfl)) rfl dX5_ring_6 ?_
    refine b_get (ci := 2) (C := RX2) (T := TX2) (Nf := 3) (v := .int 0) hx hb hts in_X5_ring_X2 hown hK hH 29 (by decide) rfl rfl 1 (by decide) (hts (.fieldLink RX5 111 "StationLine$Ring" "size" "I") (List.mem_of_getElem? (i := 2) rfl)) (congrArg (fun x => some (Value.int x)) (Fr_4 hF)) dX5_ring_9 ?_
    refine lv_icmp_ge (tgt := 27) hx hb dX5_ring_12 (by decide) (fun c2 => ?_) (fun c2 => ?_)
    · skip
      refine lv_bipush (v := (-4)) hx hb dX5_ring_27 (by decide) ?_
      exact b_iret hx hb hr hlocks hH ((by have e0 : (0 : Int32).toInt = 0 := (by decide); try simp only [b_lt, b_le, b_eq] at c1 c2; first | rfl | ((repeat' split) <;> first | rfl | omega))) dX5_ring_29
    · skip
      refine lv_aload_n hx hb dX5_ring_15 rfl (lv_at hl 0 rfl) ?_
      refine b_get (ci := 5) (C := RX5) (T := TX5) (Nf := 12) (v := .ref (q 29)) hx hb hts in_X5_ring_X5 hown hK hH 0 (by decide) rfl rfl 5 (by decide) (hts (.fieldLink RX5 38 "StationLine" "ring" "LStationLine$Ring;") (List.mem_of_getElem? (i := 1) rfl)) rfl dX5_ring_16 ?_
      refine b_get (ci := 2) (C := RX2) (T := TX2) (Nf := 3) (v := .ref (q 30)) hx hb hts in_X5_ring_X2 hown hK hH 29 (by decide) rfl rfl 0 (by decide) (hts (.fieldLink RX5 112 "StationLine$Ring" "row" "[I") (List.mem_of_getElem? (i := 3) rfl)) rfl dX5_ring_19 ?_
      refine lv_iload_n hx hb dX5_ring_22 rfl (lv_at hl 1 rfl) ?_
      refine b_iald (v := (z.2.1 30 x1.toNatClampNeg)) hx hb hK hH 30 (by decide) rfl (by exfalso; have e0 : (0 : Int32).toInt = 0 := (by decide); try simp only [b_lt, b_le, b_eq] at c1 c2; omega) rfl dX5_ring_23 ?_
      refine lv_goto (tgt := 29) hx hb dX5_ring_24 (by decide) ?_
      exact b_iret hx hb hr hlocks hH ((by have e0 : (0 : Int32).toInt = 0 := (by decide); try simp only [b_lt, b_le, b_eq] at c1 c2; first | rfl | ((repeat' split) <;> first | rfl | omega))) dX5_ring_29
set_option maxHeartbeats 4000000 in
set_option maxRecDepth 100000 in
theorem c_X5_pair (l : Launch) (D : va_G) (cy : Nat → ClassId) (q : Nat → Nat) (hq : bJ 66 q) (z : zS) (hF : Fr z) (x1 : Int32) (x2 : Int32) (x3 : Int32) : bCi l yX5_pair wsX5_pair ({ frames := 2, cells := 0, slots := 0, locals := 46 }) D cy 66 (enC cy) q z [.ref (q 0), .int x1, .int x2, .int x3] (fun r _ => (-2 : Int32) = r) := by
  intro sz
  refine Met.ofW (cc := cX5_pair) (maxL := 5) (ret := (some .int)) (by decide) rfl ?_
  intro p e s m args below meth c s₁ B hml hv
  obtain ⟨rfl, hsz, hP, hK, hZ⟩ := hv
  have hx := B.exec
  have hb := B.bytes
  have hr := B.returns
  have hts := atoms_spec (ws := wsX5_pair) B.pre
  have hown : s.vm.findClass RX5 = some m.cls := findClass_of_methodNamed B.named
  have hlocks := B.notSynchronized
  subst hsz
  have hH : bH D 66 (enC cy) q z s.heap s.heap [] := bH_in hq hP
  have hl := lv_entry ([.ref (q 0), .int x1, .int x2, .int x3]) (n := 5) (Nat.le_of_ble_eq_true rfl)
  rw [lg_entry_eq]
  generalize (lg_sl ([.ref (q 0), .int x1, .int x2, .int x3]) ++ List.replicate (5 - (lg_sl ([.ref (q 0), .int x1, .int x2, .int x3])).length) Slot.unset).toArray = ls at hl ⊢
  have hl : lv_has ls 5 [(0, .ref (q 0)), (1, .int x1), (2, .int x2), (3, .int x3)] := hl
  refine lv_aload_n hx hb dX5_pair_0 rfl (lv_at hl 0 rfl) ?_
  refine b_get (ci := 5) (C := RX5) (T := TX5) (Nf := 12) (v := .ref (q 1)) hx hb hts in_X5_pair_X5 hown hK hH 0 (by decide) rfl rfl 0 (by decide) (hts (.fieldLink RX5 12 "StationLine" "bench" "LStationLine$Bench;") (List.mem_of_getElem? (i := 1) rfl)) rfl dX5_pair_1 ?_
  refine lv_iload_n hx hb dX5_pair_4 rfl (lv_at hl 1 rfl) ?_
  refine b_calli (As := [.int x1]) (rest := []) ⟨hx, hb, hml, hown, hts⟩ 1 0 (c_X0_has_1 l D cy q hH.2.1 z hF x1 ) (cwV 1 hts gX5_pair_X0_has rfl rfl rfl (by decide +kernel) ⟨Nat.le_of_ble_eq_true rfl, Nat.le_of_ble_eq_true rfl⟩) hK hZ hH (by decide) rfl rfl rfl hl.1 rfl (Nat.le_of_ble_eq_true rfl) ⟨Nat.zero_le _, Nat.zero_le _⟩ dX5_pair_5 (fun r1 z1 H locs hp1 hH => ?_)
  obtain ⟨rfl, rfl⟩ := hp1
  refine lv_if_eq (tgt := 36) hx hb dX5_pair_8 (by decide) (fun _ => ?_) (fun c0 => absurd c0 (by decide))
  refine lv_bipush (v := (-2)) hx hb dX5_pair_36 (by decide) ?_
  exact b_iret hx hb hr hlocks hH ((by first | rfl | ((repeat' split) <;> first | rfl | omega))) dX5_pair_38
set_option maxHeartbeats 4000000 in
set_option maxRecDepth 100000 in
theorem c_X5_hold (l : Launch) (D : va_G) (cy : Nat → ClassId) (q : Nat → Nat) (hq : bJ 66 q) (z : zS) (hF : Fr z) (x1 : Int32) (x2 : Int32) : bCi l yX5_hold wsX5_hold ({ frames := 1, cells := 0, slots := 0, locals := 21 }) D cy 66 (enC cy) q z [.ref (q 0), .int x1, .int x2] (fun r _ => (-2 : Int32) = r) := by
  intro sz
  refine Met.ofW (cc := cX5_hold) (maxL := 4) (ret := (some .int)) (by decide) rfl ?_
  intro p e s m args below meth c s₁ B hml hv
  obtain ⟨rfl, hsz, hP, hK, hZ⟩ := hv
  have hx := B.exec
  have hb := B.bytes
  have hr := B.returns
  have hts := atoms_spec (ws := wsX5_hold) B.pre
  have hown : s.vm.findClass RX5 = some m.cls := findClass_of_methodNamed B.named
  have hlocks := B.notSynchronized
  subst hsz
  have hH : bH D 66 (enC cy) q z s.heap s.heap [] := bH_in hq hP
  have hl := lv_entry ([.ref (q 0), .int x1, .int x2]) (n := 4) (Nat.le_of_ble_eq_true rfl)
  rw [lg_entry_eq]
  generalize (lg_sl ([.ref (q 0), .int x1, .int x2]) ++ List.replicate (4 - (lg_sl ([.ref (q 0), .int x1, .int x2])).length) Slot.unset).toArray = ls at hl ⊢
  have hl : lv_has ls 4 [(0, .ref (q 0)), (1, .int x1), (2, .int x2)] := hl
  refine lv_aload_n hx hb dX5_hold_0 rfl (lv_at hl 0 rfl) ?_
  refine b_get (ci := 5) (C := RX5) (T := TX5) (Nf := 12) (v := .ref (q 1)) hx hb hts in_X5_hold_X5 hown hK hH 0 (by decide) rfl rfl 0 (by decide) (hts (.fieldLink RX5 12 "StationLine" "bench" "LStationLine$Bench;") (List.mem_of_getElem? (i := 1) rfl)) rfl dX5_hold_1 ?_
  refine lv_iload_n hx hb dX5_hold_4 rfl (lv_at hl 1 rfl) ?_
  refine b_calli (As := [.int x1]) (rest := []) ⟨hx, hb, hml, hown, hts⟩ 1 0 (c_X0_has_1 l D cy q hH.2.1 z hF x1 ) (cwV 1 hts gX5_hold_X0_has rfl rfl rfl (by decide +kernel) ⟨Nat.le_of_ble_eq_true rfl, Nat.le_of_ble_eq_true rfl⟩) hK hZ hH (by decide) rfl rfl rfl hl.1 rfl (Nat.le_of_ble_eq_true rfl) ⟨Nat.zero_le _, Nat.zero_le _⟩ dX5_hold_5 (fun r1 z1 H locs hp1 hH => ?_)
  obtain ⟨rfl, rfl⟩ := hp1
  refine lv_if_eq (tgt := 18) hx hb dX5_hold_8 (by decide) (fun _ => ?_) (fun c0 => absurd c0 (by decide))
  refine lv_bipush (v := (-2)) hx hb dX5_hold_18 (by decide) ?_
  exact b_iret hx hb hr hlocks hH ((by first | rfl | ((repeat' split) <;> first | rfl | omega))) dX5_hold_20
set_option maxHeartbeats 4000000 in
set_option maxRecDepth 100000 in
theorem c_X5_line (l : Launch) (D : va_G) (cy : Nat → ClassId) (q : Nat → Nat) (hq : bJ 66 q) (z : zS) (hF : Fr z) (x1 : Int32) : bCi l yX5_line wsX5_line ({ frames := 0, cells := 0, slots := 0, locals := 0 }) D cy 66 (enC cy) q z [.ref (q 0), .int x1] (fun r _ => (o_line x1 : Int32) = r) := by
  intro sz
  refine Met.ofW (cc := cX5_line) (maxL := 3) (ret := (some .int)) (by decide) rfl ?_
  intro p e s m args below meth c s₁ B hml hv
  obtain ⟨rfl, hsz, hP, hK, hZ⟩ := hv
  have hx := B.exec
  have hb := B.bytes
  have hr := B.returns
  have hts := atoms_spec (ws := wsX5_line) B.pre
  have hown : s.vm.findClass RX5 = some m.cls := findClass_of_methodNamed B.named
  have hlocks := B.notSynchronized
  subst hsz
  have hH : bH D 66 (enC cy) q z s.heap s.heap [] := bH_in hq hP
  have hl := lv_entry ([.ref (q 0), .int x1]) (n := 3) (Nat.le_of_ble_eq_true rfl)
  rw [lg_entry_eq]
  generalize (lg_sl ([.ref (q 0), .int x1]) ++ List.replicate (3 - (lg_sl ([.ref (q 0), .int x1])).length) Slot.unset).toArray = ls at hl ⊢
  have hl : lv_has ls 3 [(0, .ref (q 0)), (1, .int x1)] := hl
  refine lv_iload_n hx hb dX5_line_0 rfl (lv_at hl 1 rfl) ?_
  refine lv_if_lt (tgt := 9) hx hb dX5_line_1 (by decide) (fun c1 => ?_) (fun c1 => ?_)
  · skip
    refine lv_bipush (v := (-2)) hx hb dX5_line_9 (by decide) ?_
    exact b_iret hx hb hr hlocks hH ((by have e0 : (0 : Int32).toInt = 0 := (by decide); try simp only [b_lt, b_le, b_eq] at c1; first | rfl | (unfold o_line; (repeat' split) <;> first | rfl | omega))) dX5_line_11
  · skip
    refine lv_iload_n hx hb dX5_line_4 rfl (lv_at hl 1 rfl) ?_
    refine lv_iconst (v := 3) hx hb dX5_line_5 (by decide) ?_
    refine lv_icmp_le (tgt := 12) hx hb dX5_line_6 (by decide) (fun c2 => ?_) (fun c2 => ?_)
    · skip
      refine lv_aload_n hx hb dX5_line_12 rfl (lv_at hl 0 rfl) ?_
      refine b_get (ci := 5) (C := RX5) (T := TX5) (Nf := 12) (v := .ref (q 1)) hx hb hts in_X5_line_X5 hown hK hH 0 (by decide) rfl rfl 0 (by decide) (hts (.fieldLink RX5 12 "StationLine" "bench" "LStationLine$Bench;") (List.mem_of_getElem? (i := 1) rfl)) rfl dX5_line_13 ?_
      refine b_get (ci := 0) (C := RX0) (T := TX0) (Nf := 11) (v := .int 0) hx hb hts in_X5_line_X0 hown hK hH 1 (by decide) rfl rfl 1 (by decide) (hts (.fieldLink RX5 127 "StationLine$Bench" "kind" "I") (List.mem_of_getElem? (i := 2) rfl)) (congrArg (fun x => some (Value.int x)) (Fr_1 hF)) dX5_line_16 ?_
      refine lv_istore_n (lv' := [(2, .int 0), (0, .ref (q 0)), (1, .int x1)]) hx hb dX5_line_19 rfl hl (by decide) rfl (fun ls hl => ?_)
      refine lv_aload_n hx hb dX5_line_20 rfl (lv_at hl 1 rfl) ?_
      refine b_get (ci := 5) (C := RX5) (T := TX5) (Nf := 12) (v := .ref (q 1)) hx hb hts in_X5_line_X5 hown hK hH 0 (by decide) rfl rfl 0 (by decide) (hts (.fieldLink RX5 12 "StationLine" "bench" "LStationLine$Bench;") (List.mem_of_getElem? (i := 1) rfl)) rfl dX5_line_21 ?_
      refine lv_iload_n hx hb dX5_line_24 rfl (lv_at hl 2 rfl) ?_
      refine b_put (ci := 0) (C := RX0) (T := TX0) (Nf := 11) (v := .int x1) (ty := .int) hx hb hts in_X5_line_X0 tyX0 tyX0_ok nmX0 hown hK hH 1 (by decide) rfl rfl 1 (by decide) (hts (.fieldLink RX5 127 "StationLine$Bench" "kind" "I") (List.mem_of_getElem? (i := 2) rfl)) rfl (by decide +kernel) rfl rfl (Nat.le_of_ble_eq_true rfl) (upS z 1 x1) rfl (enC_S1 _ _ _ _) dX5_line_25 (fun H locs hH => ?_)
      obtain ⟨z3, hz3⟩ : ∃ w : zS, w = upS z 1 x1 := ⟨_, rfl⟩
      rw [← hz3] at hH
      refine lv_iload_n hx hb dX5_line_28 rfl (lv_at hl 0 rfl) ?_
      exact b_iret hx hb hr hlocks hH ((by have e0 : (0 : Int32).toInt = 0 := (by decide); have e3 : (3 : Int32).toInt = 3 := (by decide); try simp only [b_lt, b_le, b_eq] at c1 c2; first | rfl | (unfold o_line; (repeat' split) <;> first | rfl | omega))) dX5_line_29
    · skip
      refine lv_bipush (v := (-2)) hx hb dX5_line_9 (by decide) ?_
      exact b_iret hx hb hr hlocks hH ((by have e0 : (0 : Int32).toInt = 0 := (by decide); have e3 : (3 : Int32).toInt = 3 := (by decide); try simp only [b_lt, b_le, b_eq] at c1 c2; first | rfl | (unfold o_line; (repeat' split) <;> first | rfl | omega))) dX5_line_11
set_option maxHeartbeats 4000000 in
set_option maxRecDepth 100000 in
theorem c_X5_beat (l : Launch) (D : va_G) (cy : Nat → ClassId) (q : Nat → Nat) (hq : bJ 66 q) (z : zS) (hF : Fr z) (x1 : Int32) : bCi l yX5_beat wsX5_beat ({ frames := 0, cells := 0, slots := 0, locals := 0 }) D cy 66 (enC cy) q z [.ref (q 0), .int x1] (fun r _ => (o_beat x1 : Int32) = r) := by
  intro sz
  refine Met.ofW (cc := cX5_beat) (maxL := 3) (ret := (some .int)) (by decide) rfl ?_
  intro p e s m args below meth c s₁ B hml hv
  obtain ⟨rfl, hsz, hP, hK, hZ⟩ := hv
  have hx := B.exec
  have hb := B.bytes
  have hr := B.returns
  have hts := atoms_spec (ws := wsX5_beat) B.pre
  have hown : s.vm.findClass RX5 = some m.cls := findClass_of_methodNamed B.named
  have hlocks := B.notSynchronized
  subst hsz
  have hH : bH D 66 (enC cy) q z s.heap s.heap [] := bH_in hq hP
  have hl := lv_entry ([.ref (q 0), .int x1]) (n := 3) (Nat.le_of_ble_eq_true rfl)
  rw [lg_entry_eq]
  generalize (lg_sl ([.ref (q 0), .int x1]) ++ List.replicate (3 - (lg_sl ([.ref (q 0), .int x1])).length) Slot.unset).toArray = ls at hl ⊢
  have hl : lv_has ls 3 [(0, .ref (q 0)), (1, .int x1)] := hl
  refine lv_iload_n hx hb dX5_beat_0 rfl (lv_at hl 1 rfl) ?_
  refine lv_iconst (v := 1) hx hb dX5_beat_1 (by decide) ?_
  refine lv_icmp_lt (tgt := 12) hx hb dX5_beat_2 (by decide) (fun c1 => ?_) (fun c1 => ?_)
  · skip
    refine lv_bipush (v := (-2)) hx hb dX5_beat_12 (by decide) ?_
    exact b_iret hx hb hr hlocks hH ((by have e1 : (1 : Int32).toInt = 1 := (by decide); try simp only [b_lt, b_le, b_eq] at c1; first | rfl | (unfold o_beat; (repeat' split) <;> first | rfl | omega))) dX5_beat_14
  · skip
    refine lv_iload_n hx hb dX5_beat_5 rfl (lv_at hl 1 rfl) ?_
    refine lv_sipush (v := 1000) hx hb dX5_beat_6 (by decide) ?_
    refine lv_icmp_le (tgt := 15) hx hb dX5_beat_9 (by decide) (fun c2 => ?_) (fun c2 => ?_)
    · skip
      refine lv_aload_n hx hb dX5_beat_15 rfl (lv_at hl 0 rfl) ?_
      refine b_get (ci := 5) (C := RX5) (T := TX5) (Nf := 12) (v := .ref (q 1)) hx hb hts in_X5_beat_X5 hown hK hH 0 (by decide) rfl rfl 0 (by decide) (hts (.fieldLink RX5 12 "StationLine" "bench" "LStationLine$Bench;") (List.mem_of_getElem? (i := 1) rfl)) rfl dX5_beat_16 ?_
      refine b_get (ci := 0) (C := RX0) (T := TX0) (Nf := 11) (v := .int 10) hx hb hts in_X5_beat_X0 hown hK hH 1 (by decide) rfl rfl 2 (by decide) (hts (.fieldLink RX5 130 "StationLine$Bench" "beat" "I") (List.mem_of_getElem? (i := 2) rfl)) (congrArg (fun x => some (Value.int x)) (Fr_2 hF)) dX5_beat_19 ?_
      refine lv_istore_n (lv' := [(2, .int 10), (0, .ref (q 0)), (1, .int x1)]) hx hb dX5_beat_22 rfl hl (by decide) rfl (fun ls hl => ?_)
      refine lv_aload_n hx hb dX5_beat_23 rfl (lv_at hl 1 rfl) ?_
      refine b_get (ci := 5) (C := RX5) (T := TX5) (Nf := 12) (v := .ref (q 1)) hx hb hts in_X5_beat_X5 hown hK hH 0 (by decide) rfl rfl 0 (by decide) (hts (.fieldLink RX5 12 "StationLine" "bench" "LStationLine$Bench;") (List.mem_of_getElem? (i := 1) rfl)) rfl dX5_beat_24 ?_
      refine lv_iload_n hx hb dX5_beat_27 rfl (lv_at hl 2 rfl) ?_
      refine b_put (ci := 0) (C := RX0) (T := TX0) (Nf := 11) (v := .int x1) (ty := .int) hx hb hts in_X5_beat_X0 tyX0 tyX0_ok nmX0 hown hK hH 1 (by decide) rfl rfl 2 (by decide) (hts (.fieldLink RX5 130 "StationLine$Bench" "beat" "I") (List.mem_of_getElem? (i := 2) rfl)) rfl (by decide +kernel) rfl rfl (Nat.le_of_ble_eq_true rfl) (upS z 2 x1) rfl (enC_S2 _ _ _ _) dX5_beat_28 (fun H locs hH => ?_)
      obtain ⟨z3, hz3⟩ : ∃ w : zS, w = upS z 2 x1 := ⟨_, rfl⟩
      rw [← hz3] at hH
      refine lv_iload_n hx hb dX5_beat_31 rfl (lv_at hl 0 rfl) ?_
      exact b_iret hx hb hr hlocks hH ((by have e1 : (1 : Int32).toInt = 1 := (by decide); have e1000 : (1000 : Int32).toInt = 1000 := (by decide); try simp only [b_lt, b_le, b_eq] at c1 c2; first | rfl | (unfold o_beat; (repeat' split) <;> first | rfl | omega))) dX5_beat_32
    · skip
      refine lv_bipush (v := (-2)) hx hb dX5_beat_12 (by decide) ?_
      exact b_iret hx hb hr hlocks hH ((by have e1 : (1 : Int32).toInt = 1 := (by decide); have e1000 : (1000 : Int32).toInt = 1000 := (by decide); try simp only [b_lt, b_le, b_eq] at c1 c2; first | rfl | (unfold o_beat; (repeat' split) <;> first | rfl | omega))) dX5_beat_14
set_option maxHeartbeats 4000000 in
set_option maxRecDepth 100000 in
theorem c_X5_of (l : Launch) (D : va_G) (cy : Nat → ClassId) (q : Nat → Nat) (hq : bJ 66 q) (z : zS) (hF : Fr z) (x1 : Int32) (x2 : Int32) : bCi l yX5_of wsX5_of ({ frames := 3, cells := 0, slots := 0, locals := 74 }) D cy 66 (enC cy) q z [.ref (q 0), .int x1, .int x2] (fun r _ => (-2 : Int32) = r) := by
  intro sz
  refine Met.ofW (cc := cX5_of) (maxL := 3) (ret := (some .int)) (by decide) rfl ?_
  intro p e s m args below meth c s₁ B hml hv
  obtain ⟨rfl, hsz, hP, hK, hZ⟩ := hv
  have hx := B.exec
  have hb := B.bytes
  have hr := B.returns
  have hts := atoms_spec (ws := wsX5_of) B.pre
  have hown : s.vm.findClass RX5 = some m.cls := findClass_of_methodNamed B.named
  have hlocks := B.notSynchronized
  subst hsz
  have hH : bH D 66 (enC cy) q z s.heap s.heap [] := bH_in hq hP
  have hl := lv_entry ([.ref (q 0), .int x1, .int x2]) (n := 3) (Nat.le_of_ble_eq_true rfl)
  rw [lg_entry_eq]
  generalize (lg_sl ([.ref (q 0), .int x1, .int x2]) ++ List.replicate (3 - (lg_sl ([.ref (q 0), .int x1, .int x2])).length) Slot.unset).toArray = ls at hl ⊢
  have hl : lv_has ls 3 [(0, .ref (q 0)), (1, .int x1), (2, .int x2)] := hl
  refine lv_aload_n hx hb dX5_of_0 rfl (lv_at hl 0 rfl) ?_
  refine b_get (ci := 5) (C := RX5) (T := TX5) (Nf := 12) (v := .ref (q 1)) hx hb hts in_X5_of_X5 hown hK hH 0 (by decide) rfl rfl 0 (by decide) (hts (.fieldLink RX5 12 "StationLine" "bench" "LStationLine$Bench;") (List.mem_of_getElem? (i := 1) rfl)) rfl dX5_of_1 ?_
  refine lv_iload_n hx hb dX5_of_4 rfl (lv_at hl 1 rfl) ?_
  refine b_calli (As := [.int x1]) (rest := []) ⟨hx, hb, hml, hown, hts⟩ 1 0 (c_X0_has_1 l D cy q hH.2.1 z hF x1 ) (cwV 1 hts gX5_of_X0_has rfl rfl rfl (by decide +kernel) ⟨Nat.le_of_ble_eq_true rfl, Nat.le_of_ble_eq_true rfl⟩) hK hZ hH (by decide) rfl rfl rfl hl.1 rfl (Nat.le_of_ble_eq_true rfl) ⟨Nat.zero_le _, Nat.zero_le _⟩ dX5_of_5 (fun r1 z1 H locs hp1 hH => ?_)
  obtain ⟨rfl, rfl⟩ := hp1
  refine lv_if_ne (tgt := 14) hx hb dX5_of_8 (by decide) (fun c0 => absurd c0 (by decide)) (fun _ => ?_)
  refine lv_bipush (v := (-2)) hx hb dX5_of_11 (by decide) ?_
  exact b_iret hx hb hr hlocks hH ((by first | rfl | ((repeat' split) <;> first | rfl | omega))) dX5_of_13
set_option maxHeartbeats 4000000 in
set_option maxRecDepth 100000 in
theorem c_X5_put (l : Launch) (D : va_G) (cy : Nat → ClassId) (q : Nat → Nat) (hq : bJ 66 q) (z : zS) (hF : Fr z) (x1 : Int32) (x2 : Int32) : bCi l yX5_put wsX5_put ({ frames := 1, cells := 0, slots := 0, locals := 21 }) D cy 66 (enC cy) q z [.ref (q 0), .int x1, .int x2] (fun r _ => (-2 : Int32) = r) := by
  intro sz
  refine Met.ofW (cc := cX5_put) (maxL := 4) (ret := (some .int)) (by decide) rfl ?_
  intro p e s m args below meth c s₁ B hml hv
  obtain ⟨rfl, hsz, hP, hK, hZ⟩ := hv
  have hx := B.exec
  have hb := B.bytes
  have hr := B.returns
  have hts := atoms_spec (ws := wsX5_put) B.pre
  have hown : s.vm.findClass RX5 = some m.cls := findClass_of_methodNamed B.named
  have hlocks := B.notSynchronized
  subst hsz
  have hH : bH D 66 (enC cy) q z s.heap s.heap [] := bH_in hq hP
  have hl := lv_entry ([.ref (q 0), .int x1, .int x2]) (n := 4) (Nat.le_of_ble_eq_true rfl)
  rw [lg_entry_eq]
  generalize (lg_sl ([.ref (q 0), .int x1, .int x2]) ++ List.replicate (4 - (lg_sl ([.ref (q 0), .int x1, .int x2])).length) Slot.unset).toArray = ls at hl ⊢
  have hl : lv_has ls 4 [(0, .ref (q 0)), (1, .int x1), (2, .int x2)] := hl
  refine lv_aload_n hx hb dX5_put_0 rfl (lv_at hl 0 rfl) ?_
  refine b_get (ci := 5) (C := RX5) (T := TX5) (Nf := 12) (v := .ref (q 1)) hx hb hts in_X5_put_X5 hown hK hH 0 (by decide) rfl rfl 0 (by decide) (hts (.fieldLink RX5 12 "StationLine" "bench" "LStationLine$Bench;") (List.mem_of_getElem? (i := 1) rfl)) rfl dX5_put_1 ?_
  refine lv_iload_n hx hb dX5_put_4 rfl (lv_at hl 1 rfl) ?_
  refine b_calli (As := [.int x1]) (rest := []) ⟨hx, hb, hml, hown, hts⟩ 1 0 (c_X0_has_1 l D cy q hH.2.1 z hF x1 ) (cwV 1 hts gX5_put_X0_has rfl rfl rfl (by decide +kernel) ⟨Nat.le_of_ble_eq_true rfl, Nat.le_of_ble_eq_true rfl⟩) hK hZ hH (by decide) rfl rfl rfl hl.1 rfl (Nat.le_of_ble_eq_true rfl) ⟨Nat.zero_le _, Nat.zero_le _⟩ dX5_put_5 (fun r1 z1 H locs hp1 hH => ?_)
  obtain ⟨rfl, rfl⟩ := hp1
  refine lv_if_eq (tgt := 18) hx hb dX5_put_8 (by decide) (fun _ => ?_) (fun c0 => absurd c0 (by decide))
  refine lv_bipush (v := (-2)) hx hb dX5_put_18 (by decide) ?_
  exact b_iret hx hb hr hlocks hH ((by first | rfl | ((repeat' split) <;> first | rfl | omega))) dX5_put_20
set_option maxHeartbeats 4000000 in
set_option maxRecDepth 100000 in
theorem c_X5_cause (l : Launch) (D : va_G) (cy : Nat → ClassId) (q : Nat → Nat) (hq : bJ 66 q) (z : zS) (hF : Fr z) (x1 : Int32) : bCi l yX5_cause wsX5_cause ({ frames := 4, cells := 0, slots := 0, locals := 97 }) D cy 66 (enC cy) q z [.ref (q 0), .int x1] (fun r _ => (-2 : Int32) = r) := by
  intro sz
  refine Met.ofW (cc := cX5_cause) (maxL := 2) (ret := (some .int)) (by decide) rfl ?_
  intro p e s m args below meth c s₁ B hml hv
  obtain ⟨rfl, hsz, hP, hK, hZ⟩ := hv
  have hx := B.exec
  have hb := B.bytes
  have hr := B.returns
  have hts := atoms_spec (ws := wsX5_cause) B.pre
  have hown : s.vm.findClass RX5 = some m.cls := findClass_of_methodNamed B.named
  have hlocks := B.notSynchronized
  subst hsz
  have hH : bH D 66 (enC cy) q z s.heap s.heap [] := bH_in hq hP
  have hl := lv_entry ([.ref (q 0), .int x1]) (n := 2) (Nat.le_of_ble_eq_true rfl)
  rw [lg_entry_eq]
  generalize (lg_sl ([.ref (q 0), .int x1]) ++ List.replicate (2 - (lg_sl ([.ref (q 0), .int x1])).length) Slot.unset).toArray = ls at hl ⊢
  have hl : lv_has ls 2 [(0, .ref (q 0)), (1, .int x1)] := hl
  refine lv_aload_n hx hb dX5_cause_0 rfl (lv_at hl 0 rfl) ?_
  refine b_get (ci := 5) (C := RX5) (T := TX5) (Nf := 12) (v := .ref (q 1)) hx hb hts in_X5_cause_X5 hown hK hH 0 (by decide) rfl rfl 0 (by decide) (hts (.fieldLink RX5 12 "StationLine" "bench" "LStationLine$Bench;") (List.mem_of_getElem? (i := 1) rfl)) rfl dX5_cause_1 ?_
  refine lv_iload_n hx hb dX5_cause_4 rfl (lv_at hl 1 rfl) ?_
  refine b_calli (As := [.int x1]) (rest := []) ⟨hx, hb, hml, hown, hts⟩ 1 0 (c_X0_has_1 l D cy q hH.2.1 z hF x1 ) (cwV 1 hts gX5_cause_X0_has rfl rfl rfl (by decide +kernel) ⟨Nat.le_of_ble_eq_true rfl, Nat.le_of_ble_eq_true rfl⟩) hK hZ hH (by decide) rfl rfl rfl hl.1 rfl (Nat.le_of_ble_eq_true rfl) ⟨Nat.zero_le _, Nat.zero_le _⟩ dX5_cause_5 (fun r1 z1 H locs hp1 hH => ?_)
  obtain ⟨rfl, rfl⟩ := hp1
  refine lv_if_eq (tgt := 22) hx hb dX5_cause_8 (by decide) (fun _ => ?_) (fun c0 => absurd c0 (by decide))
  refine lv_bipush (v := (-2)) hx hb dX5_cause_22 (by decide) ?_
  exact b_iret hx hb hr hlocks hH ((by first | rfl | ((repeat' split) <;> first | rfl | omega))) dX5_cause_24
set_option maxHeartbeats 4000000 in
set_option maxRecDepth 100000 in
theorem c_X5_clash (l : Launch) (D : va_G) (cy : Nat → ClassId) (q : Nat → Nat) (hq : bJ 66 q) (z : zS) (hF : Fr z)  : bCi l yX5_clash wsX5_clash ({ frames := 5, cells := 0, slots := 0, locals := 118 }) D cy 66 (enC cy) q z [.ref (q 0)] (fun r _ => (-1 : Int32) = r) := by
  intro sz
  refine Met.ofW (cc := cX5_clash) (maxL := 1) (ret := (some .int)) (by decide) rfl ?_
  intro p e s m args below meth c s₁ B hml hv
  obtain ⟨rfl, hsz, hP, hK, hZ⟩ := hv
  have hx := B.exec
  have hb := B.bytes
  have hr := B.returns
  have hts := atoms_spec (ws := wsX5_clash) B.pre
  have hown : s.vm.findClass RX5 = some m.cls := findClass_of_methodNamed B.named
  have hlocks := B.notSynchronized
  subst hsz
  have hH : bH D 66 (enC cy) q z s.heap s.heap [] := bH_in hq hP
  have hl := lv_entry ([.ref (q 0)]) (n := 1) (Nat.le_of_ble_eq_true rfl)
  rw [lg_entry_eq]
  generalize (lg_sl ([.ref (q 0)]) ++ List.replicate (1 - (lg_sl ([.ref (q 0)])).length) Slot.unset).toArray = ls at hl ⊢
  have hl : lv_has ls 1 [(0, .ref (q 0))] := hl
  refine lv_aload_n hx hb dX5_clash_0 rfl (lv_at hl 0 rfl) ?_
  refine b_get (ci := 5) (C := RX5) (T := TX5) (Nf := 12) (v := .ref (q 13)) hx hb hts in_X5_clash_X5 hown hK hH 0 (by decide) rfl rfl 1 (by decide) (hts (.fieldLink RX5 21 "StationLine" "hand" "LStationLine$Putting;") (List.mem_of_getElem? (i := 1) rfl)) rfl dX5_clash_1 ?_
  refine b_calli (As := []) (rest := []) ⟨hx, hb, hml, hown, hts⟩ 13 1 (c_X1_firstClash_13 l D cy q hH.2.1 z hF  ) (cwV 0 hts gX5_clash_X1_firstClash rfl rfl rfl (by decide +kernel) ⟨Nat.le_of_ble_eq_true rfl, Nat.le_of_ble_eq_true rfl⟩) hK hZ hH (by decide) rfl rfl rfl hl.1 rfl (Nat.le_of_ble_eq_true rfl) ⟨Nat.zero_le _, Nat.zero_le _⟩ dX5_clash_4 (fun r1 z1 H locs hp1 hH => ?_)
  obtain ⟨rfl, rfl⟩ := hp1
  exact b_iret hx hb hr hlocks hH ((by first | rfl | ((repeat' split) <;> first | rfl | omega))) dX5_clash_7
set_option maxHeartbeats 4000000 in
set_option maxRecDepth 100000 in
theorem c_X5_station (l : Launch) (D : va_G) (cy : Nat → ClassId) (q : Nat → Nat) (hq : bJ 66 q) (z : zS) (hF : Fr z) (x1 : Int32) (x2 : Int32) : bCi l yX5_station wsX5_station ({ frames := 3, cells := 0, slots := 0, locals := 74 }) D cy 66 (enC cy) q z [.ref (q 0), .int x1, .int x2] (fun r _ => (o_station x1 x2 : Int32) = r) := by
  intro sz
  refine Met.ofW (cc := cX5_station) (maxL := 5) (ret := (some .int)) (by decide) rfl ?_
  intro p e s m args below meth c s₁ B hml hv
  obtain ⟨rfl, hsz, hP, hK, hZ⟩ := hv
  have hx := B.exec
  have hb := B.bytes
  have hr := B.returns
  have hts := atoms_spec (ws := wsX5_station) B.pre
  have hown : s.vm.findClass RX5 = some m.cls := findClass_of_methodNamed B.named
  have hlocks := B.notSynchronized
  subst hsz
  have hH : bH D 66 (enC cy) q z s.heap s.heap [] := bH_in hq hP
  have hl := lv_entry ([.ref (q 0), .int x1, .int x2]) (n := 5) (Nat.le_of_ble_eq_true rfl)
  rw [lg_entry_eq]
  generalize (lg_sl ([.ref (q 0), .int x1, .int x2]) ++ List.replicate (5 - (lg_sl ([.ref (q 0), .int x1, .int x2])).length) Slot.unset).toArray = ls at hl ⊢
  have hl : lv_has ls 5 [(0, .ref (q 0)), (1, .int x1), (2, .int x2)] := hl
  refine lv_iload_n hx hb dX5_station_0 rfl (lv_at hl 1 rfl) ?_
  refine lv_iconst (v := 1) hx hb dX5_station_1 (by decide) ?_
  refine lv_icmp_lt (tgt := 20) hx hb dX5_station_2 (by decide) (fun c1 => ?_) (fun c1 => ?_)
  · skip
    refine lv_bipush (v := (-2)) hx hb dX5_station_20 (by decide) ?_
    exact b_iret hx hb hr hlocks hH ((by have e1 : (1 : Int32).toInt = 1 := (by decide); try simp only [b_lt, b_le, b_eq] at c1; first | rfl | (unfold o_station; (repeat' split) <;> first | rfl | omega))) dX5_station_22
  · skip
    refine lv_iload_n hx hb dX5_station_5 rfl (lv_at hl 1 rfl) ?_
    refine lv_bipush (v := 10) hx hb dX5_station_6 (by decide) ?_
    refine lv_icmp_gt (tgt := 20) hx hb dX5_station_8 (by decide) (fun c2 => ?_) (fun c2 => ?_)
    · skip
      refine lv_bipush (v := (-2)) hx hb dX5_station_20 (by decide) ?_
      exact b_iret hx hb hr hlocks hH ((by have e1 : (1 : Int32).toInt = 1 := (by decide); have e10 : (10 : Int32).toInt = 10 := (by decide); try simp only [b_lt, b_le, b_eq] at c1 c2; first | rfl | (unfold o_station; (repeat' split) <;> first | rfl | omega))) dX5_station_22
    · skip
      refine lv_iload_n hx hb dX5_station_11 rfl (lv_at hl 2 rfl) ?_
      refine lv_if_lt (tgt := 20) hx hb dX5_station_12 (by decide) (fun c3 => ?_) (fun c3 => ?_)
      · skip
        refine lv_bipush (v := (-2)) hx hb dX5_station_20 (by decide) ?_
        exact b_iret hx hb hr hlocks hH ((by have e0 : (0 : Int32).toInt = 0 := (by decide); have e1 : (1 : Int32).toInt = 1 := (by decide); have e10 : (10 : Int32).toInt = 10 := (by decide); try simp only [b_lt, b_le, b_eq] at c1 c2 c3; first | rfl | (unfold o_station; (repeat' split) <;> first | rfl | omega))) dX5_station_22
      · skip
        refine lv_iload_n hx hb dX5_station_15 rfl (lv_at hl 2 rfl) ?_
        refine lv_iconst (v := 2) hx hb dX5_station_16 (by decide) ?_
        refine lv_icmp_le (tgt := 23) hx hb dX5_station_17 (by decide) (fun c4 => ?_) (fun c4 => ?_)
        · skip
          refine lv_aload_n hx hb dX5_station_23 rfl (lv_at hl 0 rfl) ?_
          refine b_get (ci := 5) (C := RX5) (T := TX5) (Nf := 12) (v := .ref (q 13)) hx hb hts in_X5_station_X5 hown hK hH 0 (by decide) rfl rfl 1 (by decide) (hts (.fieldLink RX5 21 "StationLine" "hand" "LStationLine$Putting;") (List.mem_of_getElem? (i := 1) rfl)) rfl dX5_station_24 ?_
          refine lv_iload_n hx hb dX5_station_27 rfl (lv_at hl 1 rfl) ?_
          refine b_calli (As := [.int x1]) (rest := []) ⟨hx, hb, hml, hown, hts⟩ 13 1 (c_X1_setAt_13 l D cy q hH.2.1 z hF x1 ) (cwV 1 hts gX5_station_X1_setAt rfl rfl rfl (by decide +kernel) ⟨Nat.le_of_ble_eq_true rfl, Nat.le_of_ble_eq_true rfl⟩) hK hZ hH (by decide) rfl rfl rfl hl.1 rfl (Nat.le_of_ble_eq_true rfl) ⟨Nat.zero_le _, Nat.zero_le _⟩ dX5_station_28 (fun r5 z5 H locs hp5 hH => ?_)
          obtain ⟨rfl, rfl⟩ := hp5
          refine lv_istore_n (lv' := [(3, .int 0), (0, .ref (q 0)), (1, .int x1), (2, .int x2)]) hx hb dX5_station_31 rfl hl (by decide) rfl (fun ls hl => ?_)
          refine lv_iload_n hx hb dX5_station_32 rfl (lv_at hl 3 rfl) ?_
          refine lv_if_ne (tgt := 38) hx hb dX5_station_33 (by decide) (fun c6 => ?_) (fun c6 => ?_)
          · skip
            refine lv_aload_n hx hb dX5_station_38 rfl (lv_at hl 1 rfl) ?_
            refine b_get (ci := 5) (C := RX5) (T := TX5) (Nf := 12) (v := .ref (q 1)) hx hb hts in_X5_station_X5 hown hK hH 0 (by decide) rfl rfl 0 (by decide) (hts (.fieldLink RX5 12 "StationLine" "bench" "LStationLine$Bench;") (List.mem_of_getElem? (i := 2) rfl)) rfl dX5_station_39 ?_
            refine lv_iload_n hx hb dX5_station_42 rfl (lv_at hl 0 rfl) ?_
            refine b_calli (As := [.int 0]) (rest := []) ⟨hx, hb, hml, hown, hts⟩ 1 0 (c_X0_loadOf_1 l D cy q hH.2.1 z hF 0 ) (cwV 1 hts gX5_station_X0_loadOf rfl rfl rfl (by decide +kernel) ⟨Nat.le_of_ble_eq_true rfl, Nat.le_of_ble_eq_true rfl⟩) hK hZ hH (by decide) rfl rfl rfl hl.1 rfl (Nat.le_of_ble_eq_true rfl) ⟨Nat.zero_le _, Nat.zero_le _⟩ dX5_station_43 (fun r7 z7 H locs hp7 hH => ?_)
            obtain ⟨rfl, rfl⟩ := hp7
            refine lv_istore (lv' := [(4, .int 0), (3, .int 0), (0, .ref (q 0)), (1, .int x1), (2, .int x2)]) hx hb dX5_station_46 hl (by decide) rfl (fun ls hl => ?_)
            refine lv_iload_n hx hb dX5_station_48 rfl (lv_at hl 4 rfl) ?_
            refine lv_iconst (v := 1) hx hb dX5_station_49 (by decide) ?_
            refine lv_icmp_ne (tgt := 58) hx hb dX5_station_50 (by decide) (fun c8 => ?_) (fun c8 => ?_)
            · skip
              refine lv_aload_n hx hb dX5_station_58 rfl (lv_at hl 2 rfl) ?_
              refine b_get (ci := 5) (C := RX5) (T := TX5) (Nf := 12) (v := .ref (q 1)) hx hb hts in_X5_station_X5 hown hK hH 0 (by decide) rfl rfl 0 (by decide) (hts (.fieldLink RX5 12 "StationLine" "bench" "LStationLine$Bench;") (List.mem_of_getElem? (i := 2) rfl)) rfl dX5_station_59 ?_
              refine b_calli (As := []) (rest := []) ⟨hx, hb, hml, hown, hts⟩ 1 0 (c_X0_room_1 l D cy q hH.2.1 z hF  ) (cwV 0 hts gX5_station_X0_room rfl rfl rfl (by decide +kernel) ⟨Nat.le_of_ble_eq_true rfl, Nat.le_of_ble_eq_true rfl⟩) hK hZ hH (by decide) rfl rfl rfl hl.1 rfl (Nat.le_of_ble_eq_true rfl) ⟨Nat.zero_le _, Nat.zero_le _⟩ dX5_station_62 (fun r9 z9 H locs hp9 hH => ?_)
              obtain ⟨rfl, rfl⟩ := hp9
              refine lv_iload hx hb dX5_station_65 (lv_at hl 0 rfl) ?_
              refine lv_isub hx hb dX5_station_67 ?_
              refine b_vi (v := 10) (by decide) ?_
              exact b_iret hx hb hr hlocks hH ((by have e0 : (0 : Int32).toInt = 0 := (by decide); have e1 : (1 : Int32).toInt = 1 := (by decide); have e2 : (2 : Int32).toInt = 2 := (by decide); have e10 : (10 : Int32).toInt = 10 := (by decide); try simp only [b_lt, b_le, b_eq] at c1 c2 c3 c4 c6 c8; first | rfl | (unfold o_station; (repeat' split) <;> first | rfl | omega))) dX5_station_68
            · skip
              refine lv_iload hx hb dX5_station_53 (lv_at hl 0 rfl) ?_
              refine lv_goto (tgt := 68) hx hb dX5_station_55 (by decide) ?_
              exact b_iret hx hb hr hlocks hH ((by have e0 : (0 : Int32).toInt = 0 := (by decide); have e1 : (1 : Int32).toInt = 1 := (by decide); have e2 : (2 : Int32).toInt = 2 := (by decide); have e10 : (10 : Int32).toInt = 10 := (by decide); try simp only [b_lt, b_le, b_eq] at c1 c2 c3 c4 c6 c8; first | rfl | (unfold o_station; (repeat' split) <;> first | rfl | omega))) dX5_station_68
          · skip
            refine lv_iload_n hx hb dX5_station_36 rfl (lv_at hl 0 rfl) ?_
            exact b_iret hx hb hr hlocks hH ((by have e0 : (0 : Int32).toInt = 0 := (by decide); have e1 : (1 : Int32).toInt = 1 := (by decide); have e2 : (2 : Int32).toInt = 2 := (by decide); have e10 : (10 : Int32).toInt = 10 := (by decide); try simp only [b_lt, b_le, b_eq] at c1 c2 c3 c4 c6; first | rfl | (unfold o_station; (repeat' split) <;> first | rfl | omega))) dX5_station_37
        · skip
          refine lv_bipush (v := (-2)) hx hb dX5_station_20 (by decide) ?_
          exact b_iret hx hb hr hlocks hH ((by have e0 : (0 : Int32).toInt = 0 := (by decide); have e1 : (1 : Int32).toInt = 1 := (by decide); have e2 : (2 : Int32).toInt = 2 := (by decide); have e10 : (10 : Int32).toInt = 10 := (by decide); try simp only [b_lt, b_le, b_eq] at c1 c2 c3 c4; first | rfl | (unfold o_station; (repeat' split) <;> first | rfl | omega))) dX5_station_22
set_option maxHeartbeats 4000000 in
set_option maxRecDepth 100000 in
theorem c_X5_length (l : Launch) (D : va_G) (cy : Nat → ClassId) (q : Nat → Nat) (hq : bJ 66 q) (z : zS) (hF : Fr z)  : bCi l yX5_length wsX5_length ({ frames := 2, cells := 0, slots := 0, locals := 50 }) D cy 66 (enC cy) q z [.ref (q 0)] (fun r _ => (0 : Int32) = r) := by
  intro sz
  refine Met.ofW (cc := cX5_length) (maxL := 1) (ret := (some .int)) (by decide) rfl ?_
  intro p e s m args below meth c s₁ B hml hv
  obtain ⟨rfl, hsz, hP, hK, hZ⟩ := hv
  have hx := B.exec
  have hb := B.bytes
  have hr := B.returns
  have hts := atoms_spec (ws := wsX5_length) B.pre
  have hown : s.vm.findClass RX5 = some m.cls := findClass_of_methodNamed B.named
  have hlocks := B.notSynchronized
  subst hsz
  have hH : bH D 66 (enC cy) q z s.heap s.heap [] := bH_in hq hP
  have hl := lv_entry ([.ref (q 0)]) (n := 1) (Nat.le_of_ble_eq_true rfl)
  rw [lg_entry_eq]
  generalize (lg_sl ([.ref (q 0)]) ++ List.replicate (1 - (lg_sl ([.ref (q 0)])).length) Slot.unset).toArray = ls at hl ⊢
  have hl : lv_has ls 1 [(0, .ref (q 0))] := hl
  refine lv_aload_n hx hb dX5_length_0 rfl (lv_at hl 0 rfl) ?_
  refine b_get (ci := 5) (C := RX5) (T := TX5) (Nf := 12) (v := .ref (q 13)) hx hb hts in_X5_length_X5 hown hK hH 0 (by decide) rfl rfl 1 (by decide) (hts (.fieldLink RX5 21 "StationLine" "hand" "LStationLine$Putting;") (List.mem_of_getElem? (i := 1) rfl)) rfl dX5_length_1 ?_
  refine b_calli (As := []) (rest := []) ⟨hx, hb, hml, hown, hts⟩ 13 1 (c_X1_greatest_13 l D cy q hH.2.1 z hF  ) (cwV 0 hts gX5_length_X1_greatest rfl rfl rfl (by decide +kernel) ⟨Nat.le_of_ble_eq_true rfl, Nat.le_of_ble_eq_true rfl⟩) hK hZ hH (by decide) rfl rfl rfl hl.1 rfl (Nat.le_of_ble_eq_true rfl) ⟨Nat.zero_le _, Nat.zero_le _⟩ dX5_length_4 (fun r1 z1 H locs hp1 hH => ?_)
  obtain ⟨rfl, rfl⟩ := hp1
  exact b_iret hx hb hr hlocks hH ((by first | rfl | ((repeat' split) <;> first | rfl | omega))) dX5_length_7
set_option maxHeartbeats 4000000 in
set_option maxRecDepth 100000 in
theorem c_X5_squares (l : Launch) (D : va_G) (cy : Nat → ClassId) (q : Nat → Nat) (hq : bJ 66 q) (z : zS) (hF : Fr z)  : bCl l yX5_squares wsX5_squares ({ frames := 5, cells := 0, slots := 0, locals := 120 }) D cy 66 (enC cy) q z [.ref (q 0)] (fun r _ => (0 : Int64) = r) := by
  intro sz
  refine Met.ofW (cc := cX5_squares) (maxL := 1) (ret := (some .long)) (by decide) rfl ?_
  intro p e s m args below meth c s₁ B hml hv
  obtain ⟨rfl, hsz, hP, hK, hZ⟩ := hv
  have hx := B.exec
  have hb := B.bytes
  have hr := B.returns
  have hts := atoms_spec (ws := wsX5_squares) B.pre
  have hown : s.vm.findClass RX5 = some m.cls := findClass_of_methodNamed B.named
  have hlocks := B.notSynchronized
  subst hsz
  have hH : bH D 66 (enC cy) q z s.heap s.heap [] := bH_in hq hP
  have hl := lv_entry ([.ref (q 0)]) (n := 1) (Nat.le_of_ble_eq_true rfl)
  rw [lg_entry_eq]
  generalize (lg_sl ([.ref (q 0)]) ++ List.replicate (1 - (lg_sl ([.ref (q 0)])).length) Slot.unset).toArray = ls at hl ⊢
  have hl : lv_has ls 1 [(0, .ref (q 0))] := hl
  refine lv_aload_n hx hb dX5_squares_0 rfl (lv_at hl 0 rfl) ?_
  refine b_get (ci := 5) (C := RX5) (T := TX5) (Nf := 12) (v := .ref (q 13)) hx hb hts in_X5_squares_X5 hown hK hH 0 (by decide) rfl rfl 1 (by decide) (hts (.fieldLink RX5 21 "StationLine" "hand" "LStationLine$Putting;") (List.mem_of_getElem? (i := 1) rfl)) rfl dX5_squares_1 ?_
  refine b_calll (As := []) (rest := []) ⟨hx, hb, hml, hown, hts⟩ 13 1 (c_X1_squareSum_13 l D cy q hH.2.1 z hF  ) (cwV 0 hts gX5_squares_X1_squareSum rfl rfl rfl (by decide +kernel) ⟨Nat.le_of_ble_eq_true rfl, Nat.le_of_ble_eq_true rfl⟩) hK hZ hH (by decide) rfl rfl rfl hl.1 rfl (Nat.le_of_ble_eq_true rfl) ⟨Nat.zero_le _, Nat.zero_le _⟩ dX5_squares_4 (fun r1 z1 H locs hp1 hH => ?_)
  obtain ⟨rfl, rfl⟩ := hp1
  exact b_lret hx hb hr hlocks hH ((by first | rfl | ((repeat' split) <;> first | rfl | omega))) dX5_squares_7
set_option maxHeartbeats 4000000 in
set_option maxRecDepth 100000 in
theorem c_X5_fewest (l : Launch) (D : va_G) (cy : Nat → ClassId) (q : Nat → Nat) (hq : bJ 66 q) (z : zS) (hF : Fr z)  : bCi l yX5_fewest wsX5_fewest ({ frames := 6, cells := 0, slots := 0, locals := 140 }) D cy 66 (enC cy) q z [.ref (q 0)] (fun r _ => (0 : Int32) = r) := by
  intro sz
  refine Met.ofW (cc := cX5_fewest) (maxL := 1) (ret := (some .int)) (by decide) rfl ?_
  intro p e s m args below meth c s₁ B hml hv
  obtain ⟨rfl, hsz, hP, hK, hZ⟩ := hv
  have hx := B.exec
  have hb := B.bytes
  have hr := B.returns
  have hts := atoms_spec (ws := wsX5_fewest) B.pre
  have hown : s.vm.findClass RX5 = some m.cls := findClass_of_methodNamed B.named
  have hlocks := B.notSynchronized
  subst hsz
  have hH : bH D 66 (enC cy) q z s.heap s.heap [] := bH_in hq hP
  have hl := lv_entry ([.ref (q 0)]) (n := 1) (Nat.le_of_ble_eq_true rfl)
  rw [lg_entry_eq]
  generalize (lg_sl ([.ref (q 0)]) ++ List.replicate (1 - (lg_sl ([.ref (q 0)])).length) Slot.unset).toArray = ls at hl ⊢
  have hl : lv_has ls 1 [(0, .ref (q 0))] := hl
  refine lv_aload_n hx hb dX5_fewest_0 rfl (lv_at hl 0 rfl) ?_
  refine b_get (ci := 5) (C := RX5) (T := TX5) (Nf := 12) (v := .ref (q 32)) hx hb hts in_X5_fewest_X5 hown hK hH 0 (by decide) rfl rfl 6 (by decide) (hts (.fieldLink RX5 45 "StationLine" "search" "LStationLine$Search;") (List.mem_of_getElem? (i := 1) rfl)) rfl dX5_fewest_1 ?_
  refine b_calli (As := []) (rest := []) ⟨hx, hb, hml, hown, hts⟩ 32 3 (c_X3_leastLength_32 l D cy q hH.2.1 z hF   ) (cwV 0 hts gX5_fewest_X3_leastLength rfl rfl rfl (by decide +kernel) ⟨Nat.le_of_ble_eq_true rfl, Nat.le_of_ble_eq_true rfl⟩) hK hZ hH (by decide) rfl rfl rfl hl.1 rfl (Nat.le_of_ble_eq_true rfl) ⟨Nat.zero_le _, Nat.zero_le _⟩ dX5_fewest_4 (fun r1 z1 H locs hp1 hH => ?_)
  obtain ⟨hFz1, g1_0, rfl⟩ := hp1
  exact b_iret hx hb hr hlocks hH ((by first | rfl | ((repeat' split) <;> first | rfl | omega))) dX5_fewest_7
