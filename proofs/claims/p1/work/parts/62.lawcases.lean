set_option maxHeartbeats 4000000 in
set_option maxRecDepth 100000 in
theorem law_c18 {p : Program} {e : Env} {s : State} {m : MethodId} {below : List Frame} {meth : Method} {c : Code} (l : Launch) {b L : Nat} {xs : Nat → Int32} (hL : L = 5) (C0 : lw_At p s m meth c b L xs) {D : va_G} {cy : Nat → ClassId} {q : Nat → Nat} {z : zS} {r : Nat → Nat} {zm : zS} {H : Heap} {locs : List Loc} (hI : lwI D cy q z r zm s H locs) {ls : Array Slot} (hl : lv_has ls 4 [(3, .int 0), (2, .ref (r 0)), (1, .ref (q 0)), (0, .ref b)]) : W p l e room_1 s m #[Value.ref b] below meth c H locs 89 47199 (lw_Z below #[Value.ref b] s) (F0 m 667 ls []) := by
  obtain ⟨hx, hb, hr, hml, hown, hts, hX, hbl, hlocks, hgv⟩ := id C0
  have hownL : s.vm.findClass RL = some m.cls := hown
  have htsL : ∀ w ∈ wsL_law, w.before #[Value.ref b] s = true := fun w h => hts w (inL_law w h)
  have hbA : ¬ (fun a : Nat => s.heap.size ≤ a) b := Nat.not_le.mpr hbl
  have hA : ∀ a : Nat, s.heap.size ≤ a → (fun a : Nat => s.heap.size ≤ a) a := fun _ h => h
  subst hL
  have hI0 := hI
  obtain ⟨hK, hZ, hPC, hPM, hF, hFm, h10, hq, hrj, hqA, hrA, hqr, hS⟩ := hI
  refine lv_aload_n hx hb dL_law_667 rfl (lv_at hl 2 rfl) ?_
  refine L_calll (ci := 5) (r := (RX5, TX5, 12)) (As := []) (rest := []) (A := fun a : Nat => s.heap.size ≤ a) ⟨hx, hb, hml, hownL, htsL⟩ (c_X5_many l D cy q hq z hF ) (cwV 0 htsL gL_law_X5_many rfl rfl rfl (by decide +kernel) ⟨Nat.le_of_ble_eq_true rfl, Nat.le_of_ble_eq_true rfl⟩) hK hZ hPC (by decide) rfl rfl hqA hA hS rfl hl.1 rfl (Nat.le_of_ble_eq_true rfl) ⟨by decide, by decide⟩ dL_law_668 (fun v1 z1 H1 locs1 hp1 hk1 hS => ?_)
  refine lv_aload_n hx hb dL_law_671 rfl (lv_at hl 1 rfl) ?_
  refine L_calll (ci := 6) (r := (RX6, TX6, 29)) (As := []) (rest := [.long v1]) (A := fun a : Nat => s.heap.size ≤ a) ⟨hx, hb, hml, hownL, htsL⟩ (c_X6_many l D cy r hrj zm hFm h10 ) (cwV 0 htsL gL_law_X6_many rfl rfl rfl (by decide +kernel) ⟨Nat.le_of_ble_eq_true rfl, Nat.le_of_ble_eq_true rfl⟩) hK hZ (lwI_kept hI0 hk1) (by decide) rfl rfl hrA hA hS rfl hl.1 rfl (Nat.le_of_ble_eq_true rfl) ⟨by decide, by decide⟩ dL_law_672 (fun v2 z2 H2 locs2 hp2 hk2 hS => ?_)
  refine W.lcmp hx hb dL_law_675 ?_
  refine lv_if_eq (tgt := 1119) hx hb dL_law_676 (by decide) (fun _ => ?_) (fun c0 => absurd ((by rw [show v1 = v2 from hp1.symm.trans hp2]; exact lg_cmp_self v2)) c0)
  exact law_tail l (Nat.le_refl 5) C0 hS hl
set_option maxHeartbeats 4000000 in
set_option maxRecDepth 100000 in
theorem law_c19 {p : Program} {e : Env} {s : State} {m : MethodId} {below : List Frame} {meth : Method} {c : Code} (l : Launch) {b L : Nat} {xs : Nat → Int32} (hL : L = 5) (C0 : lw_At p s m meth c b L xs) {D : va_G} {cy : Nat → ClassId} {q : Nat → Nat} {z : zS} {r : Nat → Nat} {zm : zS} {H : Heap} {locs : List Loc} (hI : lwI D cy q z r zm s H locs) {ls : Array Slot} (hl : lv_has ls 4 [(3, .int 0), (2, .ref (r 0)), (1, .ref (q 0)), (0, .ref b)]) : W p l e room_1 s m #[Value.ref b] below meth c H locs 89 47199 (lw_Z below #[Value.ref b] s) (F0 m 681 ls []) := by
  obtain ⟨hx, hb, hr, hml, hown, hts, hX, hbl, hlocks, hgv⟩ := id C0
  have hownL : s.vm.findClass RL = some m.cls := hown
  have htsL : ∀ w ∈ wsL_law, w.before #[Value.ref b] s = true := fun w h => hts w (inL_law w h)
  have hbA : ¬ (fun a : Nat => s.heap.size ≤ a) b := Nat.not_le.mpr hbl
  have hA : ∀ a : Nat, s.heap.size ≤ a → (fun a : Nat => s.heap.size ≤ a) a := fun _ h => h
  subst hL
  have hI0 := hI
  obtain ⟨hK, hZ, hPC, hPM, hF, hFm, h10, hq, hrj, hqA, hrA, hqr, hS⟩ := hI
  refine lv_aload_n hx hb dL_law_681 rfl (lv_at hl 2 rfl) ?_
  refine lv_aload_n hx hb dL_law_682 rfl (lv_at hl 3 rfl) ?_
  refine lv_iload_n hx hb dL_law_683 rfl (lv_at hl 0 rfl) ?_
  refine lv_iconst (v := 1) hx hb dL_law_684 (by decide) ?_
  refine lv_iadd hx hb dL_law_685 ?_
  refine b_vi (v := 1) (by decide) ?_
  refine va_sld hx hb hX hbl hbA hS (by unfold vp_in; decide) dL_law_686 ?_
  refine b_vi (v := xs 1) rfl ?_
  refine lv_if_eq (tgt := 694) hx hb dL_law_687 (by decide) (fun c0 => ?_) (fun c0 => ?_)
  · skip
    refine lv_iconst (v := 0) hx hb dL_law_694 (by decide) ?_
    refine L_calli (ci := 5) (r := (RX5, TX5, 12)) (As := [.int 0]) (rest := []) (A := fun a : Nat => s.heap.size ≤ a) ⟨hx, hb, hml, hownL, htsL⟩ (c_X5_best l D cy q hq z hF 0) (cwV 1 htsL gL_law_X5_best rfl rfl rfl (by decide +kernel) ⟨Nat.le_of_ble_eq_true rfl, Nat.le_of_ble_eq_true rfl⟩) hK hZ hPC (by decide) rfl rfl hqA hA hS rfl hl.1 rfl (Nat.le_of_ble_eq_true rfl) ⟨by decide, by decide⟩ dL_law_695 (fun v1 z1 H1 locs1 hp1 hk1 hS => ?_)
    refine lv_aload_n hx hb dL_law_698 rfl (lv_at hl 1 rfl) ?_
    refine lv_aload_n hx hb dL_law_699 rfl (lv_at hl 3 rfl) ?_
    refine lv_iload_n hx hb dL_law_700 rfl (lv_at hl 0 rfl) ?_
    refine lv_iconst (v := 1) hx hb dL_law_701 (by decide) ?_
    refine lv_iadd hx hb dL_law_702 ?_
    refine b_vi (v := 1) (by decide) ?_
    refine va_sld hx hb hX hbl hbA hS (by unfold vp_in; decide) dL_law_703 ?_
    refine b_vi (v := xs 1) rfl ?_
    refine lv_if_eq (tgt := 711) hx hb dL_law_704 (by decide) (fun c0 => ?_) (fun c0 => ?_)
    · skip
      refine lv_iconst (v := 0) hx hb dL_law_711 (by decide) ?_
      refine L_calli (ci := 6) (r := (RX6, TX6, 29)) (As := [.int 0]) (rest := [.int v1]) (A := fun a : Nat => s.heap.size ≤ a) ⟨hx, hb, hml, hownL, htsL⟩ (c_X6_best l D cy r hrj zm hFm h10 0) (cwV 1 htsL gL_law_X6_best rfl rfl rfl (by decide +kernel) ⟨Nat.le_of_ble_eq_true rfl, Nat.le_of_ble_eq_true rfl⟩) hK hZ (lwI_kept hI0 hk1) (by decide) rfl rfl hrA hA hS rfl hl.1 rfl (Nat.le_of_ble_eq_true rfl) ⟨by decide, by decide⟩ dL_law_712 (fun v2 z2 H2 locs2 hp2 hk2 hS => ?_)
      refine lv_icmp_eq (tgt := 1119) hx hb dL_law_715 (by decide) (fun _ => ?_) (fun c0 => absurd (hp1.symm.trans hp2) c0)
      exact law_tail l (Nat.le_refl 5) C0 hS hl
    · skip
      refine lv_iconst (v := 1) hx hb dL_law_707 (by decide) ?_
      refine lv_goto (tgt := 712) hx hb dL_law_708 (by decide) ?_
      refine L_calli (ci := 6) (r := (RX6, TX6, 29)) (As := [.int 1]) (rest := [.int v1]) (A := fun a : Nat => s.heap.size ≤ a) ⟨hx, hb, hml, hownL, htsL⟩ (c_X6_best l D cy r hrj zm hFm h10 1) (cwV 1 htsL gL_law_X6_best rfl rfl rfl (by decide +kernel) ⟨Nat.le_of_ble_eq_true rfl, Nat.le_of_ble_eq_true rfl⟩) hK hZ (lwI_kept hI0 hk1) (by decide) rfl rfl hrA hA hS rfl hl.1 rfl (Nat.le_of_ble_eq_true rfl) ⟨by decide, by decide⟩ dL_law_712 (fun v2 z2 H2 locs2 hp2 hk2 hS => ?_)
      refine lv_icmp_eq (tgt := 1119) hx hb dL_law_715 (by decide) (fun _ => ?_) (fun c0 => absurd (hp1.symm.trans hp2) c0)
      exact law_tail l (Nat.le_refl 5) C0 hS hl
  · skip
    refine lv_iconst (v := 1) hx hb dL_law_690 (by decide) ?_
    refine lv_goto (tgt := 695) hx hb dL_law_691 (by decide) ?_
    refine L_calli (ci := 5) (r := (RX5, TX5, 12)) (As := [.int 1]) (rest := []) (A := fun a : Nat => s.heap.size ≤ a) ⟨hx, hb, hml, hownL, htsL⟩ (c_X5_best l D cy q hq z hF 1) (cwV 1 htsL gL_law_X5_best rfl rfl rfl (by decide +kernel) ⟨Nat.le_of_ble_eq_true rfl, Nat.le_of_ble_eq_true rfl⟩) hK hZ hPC (by decide) rfl rfl hqA hA hS rfl hl.1 rfl (Nat.le_of_ble_eq_true rfl) ⟨by decide, by decide⟩ dL_law_695 (fun v1 z1 H1 locs1 hp1 hk1 hS => ?_)
    refine lv_aload_n hx hb dL_law_698 rfl (lv_at hl 1 rfl) ?_
    refine lv_aload_n hx hb dL_law_699 rfl (lv_at hl 3 rfl) ?_
    refine lv_iload_n hx hb dL_law_700 rfl (lv_at hl 0 rfl) ?_
    refine lv_iconst (v := 1) hx hb dL_law_701 (by decide) ?_
    refine lv_iadd hx hb dL_law_702 ?_
    refine b_vi (v := 1) (by decide) ?_
    refine va_sld hx hb hX hbl hbA hS (by unfold vp_in; decide) dL_law_703 ?_
    refine b_vi (v := xs 1) rfl ?_
    refine lv_if_eq (tgt := 711) hx hb dL_law_704 (by decide) (fun c0 => ?_) (fun c0 => ?_)
    · skip
      refine lv_iconst (v := 0) hx hb dL_law_711 (by decide) ?_
      refine L_calli (ci := 6) (r := (RX6, TX6, 29)) (As := [.int 0]) (rest := [.int v1]) (A := fun a : Nat => s.heap.size ≤ a) ⟨hx, hb, hml, hownL, htsL⟩ (c_X6_best l D cy r hrj zm hFm h10 0) (cwV 1 htsL gL_law_X6_best rfl rfl rfl (by decide +kernel) ⟨Nat.le_of_ble_eq_true rfl, Nat.le_of_ble_eq_true rfl⟩) hK hZ (lwI_kept hI0 hk1) (by decide) rfl rfl hrA hA hS rfl hl.1 rfl (Nat.le_of_ble_eq_true rfl) ⟨by decide, by decide⟩ dL_law_712 (fun v2 z2 H2 locs2 hp2 hk2 hS => ?_)
      refine lv_icmp_eq (tgt := 1119) hx hb dL_law_715 (by decide) (fun _ => ?_) (fun c0 => absurd (hp1.symm.trans hp2) c0)
      exact law_tail l (Nat.le_refl 5) C0 hS hl
    · skip
      refine lv_iconst (v := 1) hx hb dL_law_707 (by decide) ?_
      refine lv_goto (tgt := 712) hx hb dL_law_708 (by decide) ?_
      refine L_calli (ci := 6) (r := (RX6, TX6, 29)) (As := [.int 1]) (rest := [.int v1]) (A := fun a : Nat => s.heap.size ≤ a) ⟨hx, hb, hml, hownL, htsL⟩ (c_X6_best l D cy r hrj zm hFm h10 1) (cwV 1 htsL gL_law_X6_best rfl rfl rfl (by decide +kernel) ⟨Nat.le_of_ble_eq_true rfl, Nat.le_of_ble_eq_true rfl⟩) hK hZ (lwI_kept hI0 hk1) (by decide) rfl rfl hrA hA hS rfl hl.1 rfl (Nat.le_of_ble_eq_true rfl) ⟨by decide, by decide⟩ dL_law_712 (fun v2 z2 H2 locs2 hp2 hk2 hS => ?_)
      refine lv_icmp_eq (tgt := 1119) hx hb dL_law_715 (by decide) (fun _ => ?_) (fun c0 => absurd (hp1.symm.trans hp2) c0)
      exact law_tail l (Nat.le_refl 5) C0 hS hl
set_option maxHeartbeats 4000000 in
set_option maxRecDepth 100000 in
theorem law_c20 {p : Program} {e : Env} {s : State} {m : MethodId} {below : List Frame} {meth : Method} {c : Code} (l : Launch) {b L : Nat} {xs : Nat → Int32} (hL : L = 5) (C0 : lw_At p s m meth c b L xs) {D : va_G} {cy : Nat → ClassId} {q : Nat → Nat} {z : zS} {r : Nat → Nat} {zm : zS} {H : Heap} {locs : List Loc} (hI : lwI D cy q z r zm s H locs) {ls : Array Slot} (hl : lv_has ls 4 [(3, .int 0), (2, .ref (r 0)), (1, .ref (q 0)), (0, .ref b)]) : W p l e room_1 s m #[Value.ref b] below meth c H locs 89 47199 (lw_Z below #[Value.ref b] s) (F0 m 720 ls []) := by
  obtain ⟨hx, hb, hr, hml, hown, hts, hX, hbl, hlocks, hgv⟩ := id C0
  have hownL : s.vm.findClass RL = some m.cls := hown
  have htsL : ∀ w ∈ wsL_law, w.before #[Value.ref b] s = true := fun w h => hts w (inL_law w h)
  have hbA : ¬ (fun a : Nat => s.heap.size ≤ a) b := Nat.not_le.mpr hbl
  have hA : ∀ a : Nat, s.heap.size ≤ a → (fun a : Nat => s.heap.size ≤ a) a := fun _ h => h
  subst hL
  have hI0 := hI
  obtain ⟨hK, hZ, hPC, hPM, hF, hFm, h10, hq, hrj, hqA, hrA, hqr, hS⟩ := hI
  refine lv_aload_n hx hb dL_law_720 rfl (lv_at hl 2 rfl) ?_
  refine L_calll (ci := 5) (r := (RX5, TX5, 12)) (As := []) (rest := []) (A := fun a : Nat => s.heap.size ≤ a) ⟨hx, hb, hml, hownL, htsL⟩ (c_X5_evenest l D cy q hq z hF ) (cwV 0 htsL gL_law_X5_evenest rfl rfl rfl (by decide +kernel) ⟨Nat.le_of_ble_eq_true rfl, Nat.le_of_ble_eq_true rfl⟩) hK hZ hPC (by decide) rfl rfl hqA hA hS rfl hl.1 rfl (Nat.le_of_ble_eq_true rfl) ⟨by decide, by decide⟩ dL_law_721 (fun v1 z1 H1 locs1 hp1 hk1 hS => ?_)
  refine lv_aload_n hx hb dL_law_724 rfl (lv_at hl 1 rfl) ?_
  refine L_calll (ci := 6) (r := (RX6, TX6, 29)) (As := []) (rest := [.long v1]) (A := fun a : Nat => s.heap.size ≤ a) ⟨hx, hb, hml, hownL, htsL⟩ (c_X6_evenest l D cy r hrj zm hFm h10 ) (cwV 0 htsL gL_law_X6_evenest rfl rfl rfl (by decide +kernel) ⟨Nat.le_of_ble_eq_true rfl, Nat.le_of_ble_eq_true rfl⟩) hK hZ (lwI_kept hI0 hk1) (by decide) rfl rfl hrA hA hS rfl hl.1 rfl (Nat.le_of_ble_eq_true rfl) ⟨by decide, by decide⟩ dL_law_725 (fun v2 z2 H2 locs2 hp2 hk2 hS => ?_)
  refine W.lcmp hx hb dL_law_728 ?_
  refine lv_if_eq (tgt := 1119) hx hb dL_law_729 (by decide) (fun _ => ?_) (fun c0 => absurd ((by rw [show v1 = v2 from hp1.symm.trans hp2]; exact lg_cmp_self v2)) c0)
  exact law_tail l (Nat.le_refl 5) C0 hS hl
set_option maxHeartbeats 4000000 in
set_option maxRecDepth 100000 in
theorem law_c21 {p : Program} {e : Env} {s : State} {m : MethodId} {below : List Frame} {meth : Method} {c : Code} (l : Launch) {b L : Nat} {xs : Nat → Int32} (hL : L = 5) (C0 : lw_At p s m meth c b L xs) {D : va_G} {cy : Nat → ClassId} {q : Nat → Nat} {z : zS} {r : Nat → Nat} {zm : zS} {H : Heap} {locs : List Loc} (hI : lwI D cy q z r zm s H locs) {ls : Array Slot} (hl : lv_has ls 4 [(3, .int 0), (2, .ref (r 0)), (1, .ref (q 0)), (0, .ref b)]) : W p l e room_1 s m #[Value.ref b] below meth c H locs 89 47199 (lw_Z below #[Value.ref b] s) (F0 m 734 ls []) := by
  obtain ⟨hx, hb, hr, hml, hown, hts, hX, hbl, hlocks, hgv⟩ := id C0
  have hownL : s.vm.findClass RL = some m.cls := hown
  have htsL : ∀ w ∈ wsL_law, w.before #[Value.ref b] s = true := fun w h => hts w (inL_law w h)
  have hbA : ¬ (fun a : Nat => s.heap.size ≤ a) b := Nat.not_le.mpr hbl
  have hA : ∀ a : Nat, s.heap.size ≤ a → (fun a : Nat => s.heap.size ≤ a) a := fun _ h => h
  subst hL
  have hI0 := hI
  obtain ⟨hK, hZ, hPC, hPM, hF, hFm, h10, hq, hrj, hqA, hrA, hqr, hS⟩ := hI
  refine lv_aload_n hx hb dL_law_734 rfl (lv_at hl 2 rfl) ?_
  refine lv_aload_n hx hb dL_law_735 rfl (lv_at hl 3 rfl) ?_
  refine lv_iload_n hx hb dL_law_736 rfl (lv_at hl 0 rfl) ?_
  refine lv_iconst (v := 1) hx hb dL_law_737 (by decide) ?_
  refine lv_iadd hx hb dL_law_738 ?_
  refine b_vi (v := 1) (by decide) ?_
  refine va_sld hx hb hX hbl hbA hS (by unfold vp_in; decide) dL_law_739 ?_
  refine b_vi (v := xs 1) rfl ?_
  refine L_calli (ci := 5) (r := (RX5, TX5, 12)) (As := [.int (xs 1)]) (rest := []) (A := fun a : Nat => s.heap.size ≤ a) ⟨hx, hb, hml, hownL, htsL⟩ (c_X5_leastBeat l D cy q hq z hF (xs 1)) (cwV 1 htsL gL_law_X5_leastBeat rfl rfl rfl (by decide +kernel) ⟨Nat.le_of_ble_eq_true rfl, Nat.le_of_ble_eq_true rfl⟩) hK hZ hPC (by decide) rfl rfl hqA hA hS rfl hl.1 rfl (Nat.le_of_ble_eq_true rfl) ⟨by decide, by decide⟩ dL_law_740 (fun v1 z1 H1 locs1 hp1 hk1 hS => ?_)
  refine lv_aload_n hx hb dL_law_743 rfl (lv_at hl 1 rfl) ?_
  refine lv_aload_n hx hb dL_law_744 rfl (lv_at hl 3 rfl) ?_
  refine lv_iload_n hx hb dL_law_745 rfl (lv_at hl 0 rfl) ?_
  refine lv_iconst (v := 1) hx hb dL_law_746 (by decide) ?_
  refine lv_iadd hx hb dL_law_747 ?_
  refine b_vi (v := 1) (by decide) ?_
  refine va_sld hx hb hX hbl hbA hS (by unfold vp_in; decide) dL_law_748 ?_
  refine b_vi (v := xs 1) rfl ?_
  refine L_calli (ci := 6) (r := (RX6, TX6, 29)) (As := [.int (xs 1)]) (rest := [.int v1]) (A := fun a : Nat => s.heap.size ≤ a) ⟨hx, hb, hml, hownL, htsL⟩ (c_X6_leastBeat l D cy r hrj zm hFm h10 (xs 1)) (cwV 1 htsL gL_law_X6_leastBeat rfl rfl rfl (by decide +kernel) ⟨Nat.le_of_ble_eq_true rfl, Nat.le_of_ble_eq_true rfl⟩) hK hZ (lwI_kept hI0 hk1) (by decide) rfl rfl hrA hA hS rfl hl.1 rfl (Nat.le_of_ble_eq_true rfl) ⟨by decide, by decide⟩ dL_law_749 (fun v2 z2 H2 locs2 hp2 hk2 hS => ?_)
  refine lv_icmp_eq (tgt := 1119) hx hb dL_law_752 (by decide) (fun _ => ?_) (fun c0 => absurd (hp1.symm.trans hp2) c0)
  exact law_tail l (Nat.le_refl 5) C0 hS hl
set_option maxHeartbeats 4000000 in
set_option maxRecDepth 100000 in
theorem law_c22 {p : Program} {e : Env} {s : State} {m : MethodId} {below : List Frame} {meth : Method} {c : Code} (l : Launch) {b L : Nat} {xs : Nat → Int32} (hL : L = 5) (C0 : lw_At p s m meth c b L xs) {D : va_G} {cy : Nat → ClassId} {q : Nat → Nat} {z : zS} {r : Nat → Nat} {zm : zS} {H : Heap} {locs : List Loc} (hI : lwI D cy q z r zm s H locs) {ls : Array Slot} (hl : lv_has ls 4 [(3, .int 0), (2, .ref (r 0)), (1, .ref (q 0)), (0, .ref b)]) : W p l e room_1 s m #[Value.ref b] below meth c H locs 89 47199 (lw_Z below #[Value.ref b] s) (F0 m 757 ls []) := by
  obtain ⟨hx, hb, hr, hml, hown, hts, hX, hbl, hlocks, hgv⟩ := id C0
  have hownL : s.vm.findClass RL = some m.cls := hown
  have htsL : ∀ w ∈ wsL_law, w.before #[Value.ref b] s = true := fun w h => hts w (inL_law w h)
  have hbA : ¬ (fun a : Nat => s.heap.size ≤ a) b := Nat.not_le.mpr hbl
  have hA : ∀ a : Nat, s.heap.size ≤ a → (fun a : Nat => s.heap.size ≤ a) a := fun _ h => h
  subst hL
  have hI0 := hI
  obtain ⟨hK, hZ, hPC, hPM, hF, hFm, h10, hq, hrj, hqA, hrA, hqr, hS⟩ := hI
  refine lv_aload_n hx hb dL_law_757 rfl (lv_at hl 2 rfl) ?_
  refine lv_aload_n hx hb dL_law_758 rfl (lv_at hl 3 rfl) ?_
  refine lv_iload_n hx hb dL_law_759 rfl (lv_at hl 0 rfl) ?_
  refine lv_iconst (v := 1) hx hb dL_law_760 (by decide) ?_
  refine lv_iadd hx hb dL_law_761 ?_
  refine b_vi (v := 1) (by decide) ?_
  refine va_sld hx hb hX hbl hbA hS (by unfold vp_in; decide) dL_law_762 ?_
  refine b_vi (v := xs 1) rfl ?_
  refine L_calli (ci := 5) (r := (RX5, TX5, 12)) (As := [.int (xs 1)]) (rest := []) (A := fun a : Nat => s.heap.size ≤ a) ⟨hx, hb, hml, hownL, htsL⟩ (c_X5_bound l D cy q hq z hF (xs 1)) (cwV 1 htsL gL_law_X5_bound rfl rfl rfl (by decide +kernel) ⟨Nat.le_of_ble_eq_true rfl, Nat.le_of_ble_eq_true rfl⟩) hK hZ hPC (by decide) rfl rfl hqA hA hS rfl hl.1 rfl (Nat.le_of_ble_eq_true rfl) ⟨by decide, by decide⟩ dL_law_763 (fun v1 z1 H1 locs1 hp1 hk1 hS => ?_)
  refine lv_aload_n hx hb dL_law_766 rfl (lv_at hl 1 rfl) ?_
  refine lv_aload_n hx hb dL_law_767 rfl (lv_at hl 3 rfl) ?_
  refine lv_iload_n hx hb dL_law_768 rfl (lv_at hl 0 rfl) ?_
  refine lv_iconst (v := 1) hx hb dL_law_769 (by decide) ?_
  refine lv_iadd hx hb dL_law_770 ?_
  refine b_vi (v := 1) (by decide) ?_
  refine va_sld hx hb hX hbl hbA hS (by unfold vp_in; decide) dL_law_771 ?_
  refine b_vi (v := xs 1) rfl ?_
  refine L_calli (ci := 6) (r := (RX6, TX6, 29)) (As := [.int (xs 1)]) (rest := [.int v1]) (A := fun a : Nat => s.heap.size ≤ a) ⟨hx, hb, hml, hownL, htsL⟩ (c_X6_bound l D cy r hrj zm hFm h10 (xs 1)) (cwV 1 htsL gL_law_X6_bound rfl rfl rfl (by decide +kernel) ⟨Nat.le_of_ble_eq_true rfl, Nat.le_of_ble_eq_true rfl⟩) hK hZ (lwI_kept hI0 hk1) (by decide) rfl rfl hrA hA hS rfl hl.1 rfl (Nat.le_of_ble_eq_true rfl) ⟨by decide, by decide⟩ dL_law_772 (fun v2 z2 H2 locs2 hp2 hk2 hS => ?_)
  refine lv_icmp_eq (tgt := 1119) hx hb dL_law_775 (by decide) (fun _ => ?_) (fun c0 => absurd (hp1.symm.trans hp2) c0)
  exact law_tail l (Nat.le_refl 5) C0 hS hl
set_option maxHeartbeats 4000000 in
set_option maxRecDepth 100000 in
theorem law_c23 {p : Program} {e : Env} {s : State} {m : MethodId} {below : List Frame} {meth : Method} {c : Code} (l : Launch) {b L : Nat} {xs : Nat → Int32} (hL : L = 5) (C0 : lw_At p s m meth c b L xs) {D : va_G} {cy : Nat → ClassId} {q : Nat → Nat} {z : zS} {r : Nat → Nat} {zm : zS} {H : Heap} {locs : List Loc} (hI : lwI D cy q z r zm s H locs) {ls : Array Slot} (hl : lv_has ls 4 [(3, .int 0), (2, .ref (r 0)), (1, .ref (q 0)), (0, .ref b)]) : W p l e room_1 s m #[Value.ref b] below meth c H locs 89 47199 (lw_Z below #[Value.ref b] s) (F0 m 780 ls []) := by
  obtain ⟨hx, hb, hr, hml, hown, hts, hX, hbl, hlocks, hgv⟩ := id C0
  have hownL : s.vm.findClass RL = some m.cls := hown
  have htsL : ∀ w ∈ wsL_law, w.before #[Value.ref b] s = true := fun w h => hts w (inL_law w h)
  have hbA : ¬ (fun a : Nat => s.heap.size ≤ a) b := Nat.not_le.mpr hbl
  have hA : ∀ a : Nat, s.heap.size ≤ a → (fun a : Nat => s.heap.size ≤ a) a := fun _ h => h
  subst hL
  have hI0 := hI
  obtain ⟨hK, hZ, hPC, hPM, hF, hFm, h10, hq, hrj, hqA, hrA, hqr, hS⟩ := hI
  refine lv_aload_n hx hb dL_law_780 rfl (lv_at hl 2 rfl) ?_
  refine lv_aload_n hx hb dL_law_781 rfl (lv_at hl 3 rfl) ?_
  refine lv_iload_n hx hb dL_law_782 rfl (lv_at hl 0 rfl) ?_
  refine lv_iconst (v := 1) hx hb dL_law_783 (by decide) ?_
  refine lv_iadd hx hb dL_law_784 ?_
  refine b_vi (v := 1) (by decide) ?_
  refine va_sld hx hb hX hbl hbA hS (by unfold vp_in; decide) dL_law_785 ?_
  refine b_vi (v := xs 1) rfl ?_
  refine L_calli (ci := 5) (r := (RX5, TX5, 12)) (As := [.int (xs 1)]) (rest := []) (A := fun a : Nat => s.heap.size ≤ a) ⟨hx, hb, hml, hownL, htsL⟩ (c_X5_early l D cy q hq z hF (xs 1)) (cwV 1 htsL gL_law_X5_early rfl rfl rfl (by decide +kernel) ⟨Nat.le_of_ble_eq_true rfl, Nat.le_of_ble_eq_true rfl⟩) hK hZ hPC (by decide) rfl rfl hqA hA hS rfl hl.1 rfl (Nat.le_of_ble_eq_true rfl) ⟨by decide, by decide⟩ dL_law_786 (fun v1 z1 H1 locs1 hp1 hk1 hS => ?_)
  refine lv_aload_n hx hb dL_law_789 rfl (lv_at hl 1 rfl) ?_
  refine lv_aload_n hx hb dL_law_790 rfl (lv_at hl 3 rfl) ?_
  refine lv_iload_n hx hb dL_law_791 rfl (lv_at hl 0 rfl) ?_
  refine lv_iconst (v := 1) hx hb dL_law_792 (by decide) ?_
  refine lv_iadd hx hb dL_law_793 ?_
  refine b_vi (v := 1) (by decide) ?_
  refine va_sld hx hb hX hbl hbA hS (by unfold vp_in; decide) dL_law_794 ?_
  refine b_vi (v := xs 1) rfl ?_
  refine L_calli (ci := 6) (r := (RX6, TX6, 29)) (As := [.int (xs 1)]) (rest := [.int v1]) (A := fun a : Nat => s.heap.size ≤ a) ⟨hx, hb, hml, hownL, htsL⟩ (c_X6_early l D cy r hrj zm hFm h10 (xs 1)) (cwV 1 htsL gL_law_X6_early rfl rfl rfl (by decide +kernel) ⟨Nat.le_of_ble_eq_true rfl, Nat.le_of_ble_eq_true rfl⟩) hK hZ (lwI_kept hI0 hk1) (by decide) rfl rfl hrA hA hS rfl hl.1 rfl (Nat.le_of_ble_eq_true rfl) ⟨by decide, by decide⟩ dL_law_795 (fun v2 z2 H2 locs2 hp2 hk2 hS => ?_)
  refine lv_icmp_eq (tgt := 1119) hx hb dL_law_798 (by decide) (fun _ => ?_) (fun c0 => absurd (hp1.symm.trans hp2) c0)
  exact law_tail l (Nat.le_refl 5) C0 hS hl
set_option maxHeartbeats 4000000 in
set_option maxRecDepth 100000 in
theorem law_c24 {p : Program} {e : Env} {s : State} {m : MethodId} {below : List Frame} {meth : Method} {c : Code} (l : Launch) {b L : Nat} {xs : Nat → Int32} (hL : L = 5) (C0 : lw_At p s m meth c b L xs) {D : va_G} {cy : Nat → ClassId} {q : Nat → Nat} {z : zS} {r : Nat → Nat} {zm : zS} {H : Heap} {locs : List Loc} (hI : lwI D cy q z r zm s H locs) {ls : Array Slot} (hl : lv_has ls 4 [(3, .int 0), (2, .ref (r 0)), (1, .ref (q 0)), (0, .ref b)]) : W p l e room_1 s m #[Value.ref b] below meth c H locs 89 47199 (lw_Z below #[Value.ref b] s) (F0 m 803 ls []) := by
  obtain ⟨hx, hb, hr, hml, hown, hts, hX, hbl, hlocks, hgv⟩ := id C0
  have hownL : s.vm.findClass RL = some m.cls := hown
  have htsL : ∀ w ∈ wsL_law, w.before #[Value.ref b] s = true := fun w h => hts w (inL_law w h)
  have hbA : ¬ (fun a : Nat => s.heap.size ≤ a) b := Nat.not_le.mpr hbl
  have hA : ∀ a : Nat, s.heap.size ≤ a → (fun a : Nat => s.heap.size ≤ a) a := fun _ h => h
  subst hL
  have hI0 := hI
  obtain ⟨hK, hZ, hPC, hPM, hF, hFm, h10, hq, hrj, hqA, hrA, hqr, hS⟩ := hI
  refine lv_aload_n hx hb dL_law_803 rfl (lv_at hl 2 rfl) ?_
  refine lv_aload_n hx hb dL_law_804 rfl (lv_at hl 3 rfl) ?_
  refine lv_iload_n hx hb dL_law_805 rfl (lv_at hl 0 rfl) ?_
  refine lv_iconst (v := 1) hx hb dL_law_806 (by decide) ?_
  refine lv_iadd hx hb dL_law_807 ?_
  refine b_vi (v := 1) (by decide) ?_
  refine va_sld hx hb hX hbl hbA hS (by unfold vp_in; decide) dL_law_808 ?_
  refine b_vi (v := xs 1) rfl ?_
  refine lv_aload_n hx hb dL_law_809 rfl (lv_at hl 3 rfl) ?_
  refine lv_iload_n hx hb dL_law_810 rfl (lv_at hl 0 rfl) ?_
  refine lv_iconst (v := 2) hx hb dL_law_811 (by decide) ?_
  refine lv_iadd hx hb dL_law_812 ?_
  refine b_vi (v := 2) (by decide) ?_
  refine va_sld hx hb hX hbl hbA hS (by unfold vp_in; decide) dL_law_813 ?_
  refine b_vi (v := xs 2) rfl ?_
  refine L_calli (ci := 5) (r := (RX5, TX5, 12)) (As := [.int (xs 1), .int (xs 2)]) (rest := []) (A := fun a : Nat => s.heap.size ≤ a) ⟨hx, hb, hml, hownL, htsL⟩ (c_X5_late l D cy q hq z hF (xs 1) (xs 2)) (cwV 2 htsL gL_law_X5_late rfl rfl rfl (by decide +kernel) ⟨Nat.le_of_ble_eq_true rfl, Nat.le_of_ble_eq_true rfl⟩) hK hZ hPC (by decide) rfl rfl hqA hA hS rfl hl.1 rfl (Nat.le_of_ble_eq_true rfl) ⟨by decide, by decide⟩ dL_law_814 (fun v1 z1 H1 locs1 hp1 hk1 hS => ?_)
  refine lv_aload_n hx hb dL_law_817 rfl (lv_at hl 1 rfl) ?_
  refine lv_aload_n hx hb dL_law_818 rfl (lv_at hl 3 rfl) ?_
  refine lv_iload_n hx hb dL_law_819 rfl (lv_at hl 0 rfl) ?_
  refine lv_iconst (v := 1) hx hb dL_law_820 (by decide) ?_
  refine lv_iadd hx hb dL_law_821 ?_
  refine b_vi (v := 1) (by decide) ?_
  refine va_sld hx hb hX hbl hbA hS (by unfold vp_in; decide) dL_law_822 ?_
  refine b_vi (v := xs 1) rfl ?_
  refine lv_aload_n hx hb dL_law_823 rfl (lv_at hl 3 rfl) ?_
  refine lv_iload_n hx hb dL_law_824 rfl (lv_at hl 0 rfl) ?_
  refine lv_iconst (v := 2) hx hb dL_law_825 (by decide) ?_
  refine lv_iadd hx hb dL_law_826 ?_
  refine b_vi (v := 2) (by decide) ?_
  refine va_sld hx hb hX hbl hbA hS (by unfold vp_in; decide) dL_law_827 ?_
  refine b_vi (v := xs 2) rfl ?_
  refine L_calli (ci := 6) (r := (RX6, TX6, 29)) (As := [.int (xs 1), .int (xs 2)]) (rest := [.int v1]) (A := fun a : Nat => s.heap.size ≤ a) ⟨hx, hb, hml, hownL, htsL⟩ (c_X6_late l D cy r hrj zm hFm h10 (xs 1) (xs 2)) (cwV 2 htsL gL_law_X6_late rfl rfl rfl (by decide +kernel) ⟨Nat.le_of_ble_eq_true rfl, Nat.le_of_ble_eq_true rfl⟩) hK hZ (lwI_kept hI0 hk1) (by decide) rfl rfl hrA hA hS rfl hl.1 rfl (Nat.le_of_ble_eq_true rfl) ⟨by decide, by decide⟩ dL_law_828 (fun v2 z2 H2 locs2 hp2 hk2 hS => ?_)
  refine lv_icmp_eq (tgt := 1119) hx hb dL_law_831 (by decide) (fun _ => ?_) (fun c0 => absurd (hp1.symm.trans hp2) c0)
  exact law_tail l (Nat.le_refl 5) C0 hS hl
set_option maxHeartbeats 4000000 in
set_option maxRecDepth 100000 in
theorem law_c25 {p : Program} {e : Env} {s : State} {m : MethodId} {below : List Frame} {meth : Method} {c : Code} (l : Launch) {b L : Nat} {xs : Nat → Int32} (hL : L = 5) (C0 : lw_At p s m meth c b L xs) {D : va_G} {cy : Nat → ClassId} {q : Nat → Nat} {z : zS} {r : Nat → Nat} {zm : zS} {H : Heap} {locs : List Loc} (hI : lwI D cy q z r zm s H locs) {ls : Array Slot} (hl : lv_has ls 4 [(3, .int 0), (2, .ref (r 0)), (1, .ref (q 0)), (0, .ref b)]) : W p l e room_1 s m #[Value.ref b] below meth c H locs 89 47199 (lw_Z below #[Value.ref b] s) (F0 m 836 ls []) := by
  obtain ⟨hx, hb, hr, hml, hown, hts, hX, hbl, hlocks, hgv⟩ := id C0
  have hownL : s.vm.findClass RL = some m.cls := hown
  have htsL : ∀ w ∈ wsL_law, w.before #[Value.ref b] s = true := fun w h => hts w (inL_law w h)
  have hbA : ¬ (fun a : Nat => s.heap.size ≤ a) b := Nat.not_le.mpr hbl
  have hA : ∀ a : Nat, s.heap.size ≤ a → (fun a : Nat => s.heap.size ≤ a) a := fun _ h => h
  subst hL
  have hI0 := hI
  obtain ⟨hK, hZ, hPC, hPM, hF, hFm, h10, hq, hrj, hqA, hrA, hqr, hS⟩ := hI
  refine lv_aload_n hx hb dL_law_836 rfl (lv_at hl 2 rfl) ?_
  refine lv_aload_n hx hb dL_law_837 rfl (lv_at hl 3 rfl) ?_
  refine lv_iload_n hx hb dL_law_838 rfl (lv_at hl 0 rfl) ?_
  refine lv_iconst (v := 1) hx hb dL_law_839 (by decide) ?_
  refine lv_iadd hx hb dL_law_840 ?_
  refine b_vi (v := 1) (by decide) ?_
  refine va_sld hx hb hX hbl hbA hS (by unfold vp_in; decide) dL_law_841 ?_
  refine b_vi (v := xs 1) rfl ?_
  refine L_calli (ci := 5) (r := (RX5, TX5, 12)) (As := [.int (xs 1)]) (rest := []) (A := fun a : Nat => s.heap.size ≤ a) ⟨hx, hb, hml, hownL, htsL⟩ (c_X5_rule l D cy q hq z hF (xs 1)) (cwV 1 htsL gL_law_X5_rule rfl rfl rfl (by decide +kernel) ⟨Nat.le_of_ble_eq_true rfl, Nat.le_of_ble_eq_true rfl⟩) hK hZ hPC (by decide) rfl rfl hqA hA hS rfl hl.1 rfl (Nat.le_of_ble_eq_true rfl) ⟨by decide, by decide⟩ dL_law_842 (fun v1 z1 H1 locs1 hp1 hk1 hS => ?_)
  refine lv_aload_n hx hb dL_law_845 rfl (lv_at hl 1 rfl) ?_
  refine lv_aload_n hx hb dL_law_846 rfl (lv_at hl 3 rfl) ?_
  refine lv_iload_n hx hb dL_law_847 rfl (lv_at hl 0 rfl) ?_
  refine lv_iconst (v := 1) hx hb dL_law_848 (by decide) ?_
  refine lv_iadd hx hb dL_law_849 ?_
  refine b_vi (v := 1) (by decide) ?_
  refine va_sld hx hb hX hbl hbA hS (by unfold vp_in; decide) dL_law_850 ?_
  refine b_vi (v := xs 1) rfl ?_
  refine L_calli (ci := 6) (r := (RX6, TX6, 29)) (As := [.int (xs 1)]) (rest := [.int v1]) (A := fun a : Nat => s.heap.size ≤ a) ⟨hx, hb, hml, hownL, htsL⟩ (c_X6_rule l D cy r hrj zm hFm h10 (xs 1)) (cwV 1 htsL gL_law_X6_rule rfl rfl rfl (by decide +kernel) ⟨Nat.le_of_ble_eq_true rfl, Nat.le_of_ble_eq_true rfl⟩) hK hZ (lwI_kept hI0 hk1) (by decide) rfl rfl hrA hA hS rfl hl.1 rfl (Nat.le_of_ble_eq_true rfl) ⟨by decide, by decide⟩ dL_law_851 (fun v2 z2 H2 locs2 hp2 hk2 hS => ?_)
  refine lv_icmp_eq (tgt := 1119) hx hb dL_law_854 (by decide) (fun _ => ?_) (fun c0 => absurd (hp1.symm.trans hp2) c0)
  exact law_tail l (Nat.le_refl 5) C0 hS hl
set_option maxHeartbeats 4000000 in
set_option maxRecDepth 100000 in
theorem law_c26 {p : Program} {e : Env} {s : State} {m : MethodId} {below : List Frame} {meth : Method} {c : Code} (l : Launch) {b L : Nat} {xs : Nat → Int32} (hL : L = 5) (C0 : lw_At p s m meth c b L xs) {D : va_G} {cy : Nat → ClassId} {q : Nat → Nat} {z : zS} {r : Nat → Nat} {zm : zS} {H : Heap} {locs : List Loc} (hI : lwI D cy q z r zm s H locs) {ls : Array Slot} (hl : lv_has ls 4 [(3, .int 0), (2, .ref (r 0)), (1, .ref (q 0)), (0, .ref b)]) : W p l e room_1 s m #[Value.ref b] below meth c H locs 89 47199 (lw_Z below #[Value.ref b] s) (F0 m 859 ls []) := by
  obtain ⟨hx, hb, hr, hml, hown, hts, hX, hbl, hlocks, hgv⟩ := id C0
  have hownL : s.vm.findClass RL = some m.cls := hown
  have htsL : ∀ w ∈ wsL_law, w.before #[Value.ref b] s = true := fun w h => hts w (inL_law w h)
  have hbA : ¬ (fun a : Nat => s.heap.size ≤ a) b := Nat.not_le.mpr hbl
  have hA : ∀ a : Nat, s.heap.size ≤ a → (fun a : Nat => s.heap.size ≤ a) a := fun _ h => h
  subst hL
  have hI0 := hI
  obtain ⟨hK, hZ, hPC, hPM, hF, hFm, h10, hq, hrj, hqA, hrA, hqr, hS⟩ := hI
  refine lv_aload_n hx hb dL_law_859 rfl (lv_at hl 2 rfl) ?_
  refine L_calli (ci := 5) (r := (RX5, TX5, 12)) (As := []) (rest := []) (A := fun a : Nat => s.heap.size ≤ a) ⟨hx, hb, hml, hownL, htsL⟩ (c_X5_better l D cy q hq z hF ) (cwV 0 htsL gL_law_X5_better rfl rfl rfl (by decide +kernel) ⟨Nat.le_of_ble_eq_true rfl, Nat.le_of_ble_eq_true rfl⟩) hK hZ hPC (by decide) rfl rfl hqA hA hS rfl hl.1 rfl (Nat.le_of_ble_eq_true rfl) ⟨by decide, by decide⟩ dL_law_860 (fun v1 z1 H1 locs1 hp1 hk1 hS => ?_)
  refine lv_aload_n hx hb dL_law_863 rfl (lv_at hl 1 rfl) ?_
  refine L_calli (ci := 6) (r := (RX6, TX6, 29)) (As := []) (rest := [.int v1]) (A := fun a : Nat => s.heap.size ≤ a) ⟨hx, hb, hml, hownL, htsL⟩ (c_X6_better l D cy r hrj zm hFm h10 ) (cwV 0 htsL gL_law_X6_better rfl rfl rfl (by decide +kernel) ⟨Nat.le_of_ble_eq_true rfl, Nat.le_of_ble_eq_true rfl⟩) hK hZ (lwI_kept hI0 hk1) (by decide) rfl rfl hrA hA hS rfl hl.1 rfl (Nat.le_of_ble_eq_true rfl) ⟨by decide, by decide⟩ dL_law_864 (fun v2 z2 H2 locs2 hp2 hk2 hS => ?_)
  refine lv_icmp_eq (tgt := 1119) hx hb dL_law_867 (by decide) (fun _ => ?_) (fun c0 => absurd (hp1.symm.trans hp2) c0)
  exact law_tail l (Nat.le_refl 5) C0 hS hl
set_option maxHeartbeats 4000000 in
set_option maxRecDepth 100000 in
theorem law_c27 {p : Program} {e : Env} {s : State} {m : MethodId} {below : List Frame} {meth : Method} {c : Code} (l : Launch) {b L : Nat} {xs : Nat → Int32} (hL : L = 5) (C0 : lw_At p s m meth c b L xs) {D : va_G} {cy : Nat → ClassId} {q : Nat → Nat} {z : zS} {r : Nat → Nat} {zm : zS} {H : Heap} {locs : List Loc} (hI : lwI D cy q z r zm s H locs) {ls : Array Slot} (hl : lv_has ls 4 [(3, .int 0), (2, .ref (r 0)), (1, .ref (q 0)), (0, .ref b)]) : W p l e room_1 s m #[Value.ref b] below meth c H locs 89 47199 (lw_Z below #[Value.ref b] s) (F0 m 872 ls []) := by
  obtain ⟨hx, hb, hr, hml, hown, hts, hX, hbl, hlocks, hgv⟩ := id C0
  have hownL : s.vm.findClass RL = some m.cls := hown
  have htsL : ∀ w ∈ wsL_law, w.before #[Value.ref b] s = true := fun w h => hts w (inL_law w h)
  have hbA : ¬ (fun a : Nat => s.heap.size ≤ a) b := Nat.not_le.mpr hbl
  have hA : ∀ a : Nat, s.heap.size ≤ a → (fun a : Nat => s.heap.size ≤ a) a := fun _ h => h
  subst hL
  have hI0 := hI
  obtain ⟨hK, hZ, hPC, hPM, hF, hFm, h10, hq, hrj, hqA, hrA, hqr, hS⟩ := hI
  refine lv_aload_n hx hb dL_law_872 rfl (lv_at hl 2 rfl) ?_
  refine lv_aload_n hx hb dL_law_873 rfl (lv_at hl 3 rfl) ?_
  refine lv_iload_n hx hb dL_law_874 rfl (lv_at hl 0 rfl) ?_
  refine lv_iconst (v := 1) hx hb dL_law_875 (by decide) ?_
  refine lv_iadd hx hb dL_law_876 ?_
  refine b_vi (v := 1) (by decide) ?_
  refine va_sld hx hb hX hbl hbA hS (by unfold vp_in; decide) dL_law_877 ?_
  refine b_vi (v := xs 1) rfl ?_
  refine lv_aload_n hx hb dL_law_878 rfl (lv_at hl 3 rfl) ?_
  refine lv_iload_n hx hb dL_law_879 rfl (lv_at hl 0 rfl) ?_
  refine lv_iconst (v := 2) hx hb dL_law_880 (by decide) ?_
  refine lv_iadd hx hb dL_law_881 ?_
  refine b_vi (v := 2) (by decide) ?_
  refine va_sld hx hb hX hbl hbA hS (by unfold vp_in; decide) dL_law_882 ?_
  refine b_vi (v := xs 2) rfl ?_
  refine lv_aload_n hx hb dL_law_883 rfl (lv_at hl 3 rfl) ?_
  refine lv_iload_n hx hb dL_law_884 rfl (lv_at hl 0 rfl) ?_
  refine lv_iconst (v := 3) hx hb dL_law_885 (by decide) ?_
  refine lv_iadd hx hb dL_law_886 ?_
  refine b_vi (v := 3) (by decide) ?_
  refine va_sld hx hb hX hbl hbA hS (by unfold vp_in; decide) dL_law_887 ?_
  refine b_vi (v := xs 3) rfl ?_
  refine L_calli (ci := 5) (r := (RX5, TX5, 12)) (As := [.int (xs 1), .int (xs 2), .int (xs 3)]) (rest := []) (A := fun a : Nat => s.heap.size ≤ a) ⟨hx, hb, hml, hownL, htsL⟩ (c_X5_sheet l D cy q hq z hF (xs 1) (xs 2) (xs 3)) (cwV 3 htsL gL_law_X5_sheet rfl rfl rfl (by decide +kernel) ⟨Nat.le_of_ble_eq_true rfl, Nat.le_of_ble_eq_true rfl⟩) hK hZ hPC (by decide) rfl rfl hqA hA hS rfl hl.1 rfl (Nat.le_of_ble_eq_true rfl) ⟨by decide, by decide⟩ dL_law_888 (fun v1 z1 H1 locs1 hp1 hk1 hS => ?_)
  refine lv_aload_n hx hb dL_law_891 rfl (lv_at hl 1 rfl) ?_
  refine lv_aload_n hx hb dL_law_892 rfl (lv_at hl 3 rfl) ?_
  refine lv_iload_n hx hb dL_law_893 rfl (lv_at hl 0 rfl) ?_
  refine lv_iconst (v := 1) hx hb dL_law_894 (by decide) ?_
  refine lv_iadd hx hb dL_law_895 ?_
  refine b_vi (v := 1) (by decide) ?_
  refine va_sld hx hb hX hbl hbA hS (by unfold vp_in; decide) dL_law_896 ?_
  refine b_vi (v := xs 1) rfl ?_
  refine lv_aload_n hx hb dL_law_897 rfl (lv_at hl 3 rfl) ?_
  refine lv_iload_n hx hb dL_law_898 rfl (lv_at hl 0 rfl) ?_
  refine lv_iconst (v := 2) hx hb dL_law_899 (by decide) ?_
  refine lv_iadd hx hb dL_law_900 ?_
  refine b_vi (v := 2) (by decide) ?_
  refine va_sld hx hb hX hbl hbA hS (by unfold vp_in; decide) dL_law_901 ?_
  refine b_vi (v := xs 2) rfl ?_
  refine lv_aload_n hx hb dL_law_902 rfl (lv_at hl 3 rfl) ?_
  refine lv_iload_n hx hb dL_law_903 rfl (lv_at hl 0 rfl) ?_
  refine lv_iconst (v := 3) hx hb dL_law_904 (by decide) ?_
  refine lv_iadd hx hb dL_law_905 ?_
  refine b_vi (v := 3) (by decide) ?_
  refine va_sld hx hb hX hbl hbA hS (by unfold vp_in; decide) dL_law_906 ?_
  refine b_vi (v := xs 3) rfl ?_
  refine L_calli (ci := 6) (r := (RX6, TX6, 29)) (As := [.int (xs 1), .int (xs 2), .int (xs 3)]) (rest := [.int v1]) (A := fun a : Nat => s.heap.size ≤ a) ⟨hx, hb, hml, hownL, htsL⟩ (c_X6_sheet l D cy r hrj zm hFm h10 (xs 1) (xs 2) (xs 3)) (cwV 3 htsL gL_law_X6_sheet rfl rfl rfl (by decide +kernel) ⟨Nat.le_of_ble_eq_true rfl, Nat.le_of_ble_eq_true rfl⟩) hK hZ (lwI_kept hI0 hk1) (by decide) rfl rfl hrA hA hS rfl hl.1 rfl (Nat.le_of_ble_eq_true rfl) ⟨by decide, by decide⟩ dL_law_907 (fun v2 z2 H2 locs2 hp2 hk2 hS => ?_)
  refine lv_icmp_eq (tgt := 1119) hx hb dL_law_910 (by decide) (fun _ => ?_) (fun c0 => absurd (hp1.symm.trans hp2) c0)
  exact law_tail l (Nat.le_refl 5) C0 hS hl
set_option maxHeartbeats 4000000 in
set_option maxRecDepth 100000 in
theorem law_c28 {p : Program} {e : Env} {s : State} {m : MethodId} {below : List Frame} {meth : Method} {c : Code} (l : Launch) {b L : Nat} {xs : Nat → Int32} (hL : L = 5) (C0 : lw_At p s m meth c b L xs) {D : va_G} {cy : Nat → ClassId} {q : Nat → Nat} {z : zS} {r : Nat → Nat} {zm : zS} {H : Heap} {locs : List Loc} (hI : lwI D cy q z r zm s H locs) {ls : Array Slot} (hl : lv_has ls 4 [(3, .int 0), (2, .ref (r 0)), (1, .ref (q 0)), (0, .ref b)]) : W p l e room_1 s m #[Value.ref b] below meth c H locs 89 47199 (lw_Z below #[Value.ref b] s) (F0 m 915 ls []) := by
  obtain ⟨hx, hb, hr, hml, hown, hts, hX, hbl, hlocks, hgv⟩ := id C0
  have hownL : s.vm.findClass RL = some m.cls := hown
  have htsL : ∀ w ∈ wsL_law, w.before #[Value.ref b] s = true := fun w h => hts w (inL_law w h)
  have hbA : ¬ (fun a : Nat => s.heap.size ≤ a) b := Nat.not_le.mpr hbl
  have hA : ∀ a : Nat, s.heap.size ≤ a → (fun a : Nat => s.heap.size ≤ a) a := fun _ h => h
  subst hL
  have hI0 := hI
  obtain ⟨hK, hZ, hPC, hPM, hF, hFm, h10, hq, hrj, hqA, hrA, hqr, hS⟩ := hI
  refine lv_aload_n hx hb dL_law_915 rfl (lv_at hl 2 rfl) ?_
  refine lv_aload_n hx hb dL_law_916 rfl (lv_at hl 3 rfl) ?_
  refine lv_iload_n hx hb dL_law_917 rfl (lv_at hl 0 rfl) ?_
  refine lv_iconst (v := 1) hx hb dL_law_918 (by decide) ?_
  refine lv_iadd hx hb dL_law_919 ?_
  refine b_vi (v := 1) (by decide) ?_
  refine va_sld hx hb hX hbl hbA hS (by unfold vp_in; decide) dL_law_920 ?_
  refine b_vi (v := xs 1) rfl ?_
  refine lv_aload_n hx hb dL_law_921 rfl (lv_at hl 3 rfl) ?_
  refine lv_iload_n hx hb dL_law_922 rfl (lv_at hl 0 rfl) ?_
  refine lv_iconst (v := 2) hx hb dL_law_923 (by decide) ?_
  refine lv_iadd hx hb dL_law_924 ?_
  refine b_vi (v := 2) (by decide) ?_
  refine va_sld hx hb hX hbl hbA hS (by unfold vp_in; decide) dL_law_925 ?_
  refine b_vi (v := xs 2) rfl ?_
  refine lv_aload_n hx hb dL_law_926 rfl (lv_at hl 3 rfl) ?_
  refine lv_iload_n hx hb dL_law_927 rfl (lv_at hl 0 rfl) ?_
  refine lv_iconst (v := 3) hx hb dL_law_928 (by decide) ?_
  refine lv_iadd hx hb dL_law_929 ?_
  refine b_vi (v := 3) (by decide) ?_
  refine va_sld hx hb hX hbl hbA hS (by unfold vp_in; decide) dL_law_930 ?_
  refine b_vi (v := xs 3) rfl ?_
  refine L_calli (ci := 5) (r := (RX5, TX5, 12)) (As := [.int (xs 1), .int (xs 2), .int (xs 3)]) (rest := []) (A := fun a : Nat => s.heap.size ≤ a) ⟨hx, hb, hml, hownL, htsL⟩ (c_X5_write l D cy q hq z hF (xs 1) (xs 2) (xs 3)) (cwV 3 htsL gL_law_X5_write rfl rfl rfl (by decide +kernel) ⟨Nat.le_of_ble_eq_true rfl, Nat.le_of_ble_eq_true rfl⟩) hK hZ hPC (by decide) rfl rfl hqA hA hS rfl hl.1 rfl (Nat.le_of_ble_eq_true rfl) ⟨by decide, by decide⟩ dL_law_931 (fun v1 z1 H1 locs1 hp1 hk1 hS => ?_)
  refine lv_aload_n hx hb dL_law_934 rfl (lv_at hl 1 rfl) ?_
  refine lv_aload_n hx hb dL_law_935 rfl (lv_at hl 3 rfl) ?_
  refine lv_iload_n hx hb dL_law_936 rfl (lv_at hl 0 rfl) ?_
  refine lv_iconst (v := 1) hx hb dL_law_937 (by decide) ?_
  refine lv_iadd hx hb dL_law_938 ?_
  refine b_vi (v := 1) (by decide) ?_
  refine va_sld hx hb hX hbl hbA hS (by unfold vp_in; decide) dL_law_939 ?_
  refine b_vi (v := xs 1) rfl ?_
  refine lv_aload_n hx hb dL_law_940 rfl (lv_at hl 3 rfl) ?_
  refine lv_iload_n hx hb dL_law_941 rfl (lv_at hl 0 rfl) ?_
  refine lv_iconst (v := 2) hx hb dL_law_942 (by decide) ?_
  refine lv_iadd hx hb dL_law_943 ?_
  refine b_vi (v := 2) (by decide) ?_
  refine va_sld hx hb hX hbl hbA hS (by unfold vp_in; decide) dL_law_944 ?_
  refine b_vi (v := xs 2) rfl ?_
  refine lv_aload_n hx hb dL_law_945 rfl (lv_at hl 3 rfl) ?_
  refine lv_iload_n hx hb dL_law_946 rfl (lv_at hl 0 rfl) ?_
  refine lv_iconst (v := 3) hx hb dL_law_947 (by decide) ?_
  refine lv_iadd hx hb dL_law_948 ?_
  refine b_vi (v := 3) (by decide) ?_
  refine va_sld hx hb hX hbl hbA hS (by unfold vp_in; decide) dL_law_949 ?_
  refine b_vi (v := xs 3) rfl ?_
  refine L_calli (ci := 6) (r := (RX6, TX6, 29)) (As := [.int (xs 1), .int (xs 2), .int (xs 3)]) (rest := [.int v1]) (A := fun a : Nat => s.heap.size ≤ a) ⟨hx, hb, hml, hownL, htsL⟩ (c_X6_write l D cy r hrj zm hFm h10 (xs 1) (xs 2) (xs 3)) (cwV 3 htsL gL_law_X6_write rfl rfl rfl (by decide +kernel) ⟨Nat.le_of_ble_eq_true rfl, Nat.le_of_ble_eq_true rfl⟩) hK hZ (lwI_kept hI0 hk1) (by decide) rfl rfl hrA hA hS rfl hl.1 rfl (Nat.le_of_ble_eq_true rfl) ⟨by decide, by decide⟩ dL_law_950 (fun v2 z2 H2 locs2 hp2 hk2 hS => ?_)
  refine lv_icmp_eq (tgt := 1119) hx hb dL_law_953 (by decide) (fun _ => ?_) (fun c0 => absurd (hp1.symm.trans hp2) c0)
  exact law_tail l (Nat.le_refl 5) C0 hS hl
set_option maxHeartbeats 4000000 in
set_option maxRecDepth 100000 in
theorem law_c29 {p : Program} {e : Env} {s : State} {m : MethodId} {below : List Frame} {meth : Method} {c : Code} (l : Launch) {b L : Nat} {xs : Nat → Int32} (hL : L = 5) (C0 : lw_At p s m meth c b L xs) {D : va_G} {cy : Nat → ClassId} {q : Nat → Nat} {z : zS} {r : Nat → Nat} {zm : zS} {H : Heap} {locs : List Loc} (hI : lwI D cy q z r zm s H locs) {ls : Array Slot} (hl : lv_has ls 4 [(3, .int 0), (2, .ref (r 0)), (1, .ref (q 0)), (0, .ref b)]) : W p l e room_1 s m #[Value.ref b] below meth c H locs 89 47199 (lw_Z below #[Value.ref b] s) (F0 m 958 ls []) := by
  obtain ⟨hx, hb, hr, hml, hown, hts, hX, hbl, hlocks, hgv⟩ := id C0
  have hownL : s.vm.findClass RL = some m.cls := hown
  have htsL : ∀ w ∈ wsL_law, w.before #[Value.ref b] s = true := fun w h => hts w (inL_law w h)
  have hbA : ¬ (fun a : Nat => s.heap.size ≤ a) b := Nat.not_le.mpr hbl
  have hA : ∀ a : Nat, s.heap.size ≤ a → (fun a : Nat => s.heap.size ≤ a) a := fun _ h => h
  subst hL
  have hI0 := hI
  obtain ⟨hK, hZ, hPC, hPM, hF, hFm, h10, hq, hrj, hqA, hrA, hqr, hS⟩ := hI
  refine lv_aload_n hx hb dL_law_958 rfl (lv_at hl 2 rfl) ?_
  refine lv_aload_n hx hb dL_law_959 rfl (lv_at hl 3 rfl) ?_
  refine lv_iload_n hx hb dL_law_960 rfl (lv_at hl 0 rfl) ?_
  refine lv_iconst (v := 1) hx hb dL_law_961 (by decide) ?_
  refine lv_iadd hx hb dL_law_962 ?_
  refine b_vi (v := 1) (by decide) ?_
  refine va_sld hx hb hX hbl hbA hS (by unfold vp_in; decide) dL_law_963 ?_
  refine b_vi (v := xs 1) rfl ?_
  refine lv_aload_n hx hb dL_law_964 rfl (lv_at hl 3 rfl) ?_
  refine lv_iload_n hx hb dL_law_965 rfl (lv_at hl 0 rfl) ?_
  refine lv_iconst (v := 2) hx hb dL_law_966 (by decide) ?_
  refine lv_iadd hx hb dL_law_967 ?_
  refine b_vi (v := 2) (by decide) ?_
  refine va_sld hx hb hX hbl hbA hS (by unfold vp_in; decide) dL_law_968 ?_
  refine b_vi (v := xs 2) rfl ?_
  refine lv_aload_n hx hb dL_law_969 rfl (lv_at hl 3 rfl) ?_
  refine lv_iload_n hx hb dL_law_970 rfl (lv_at hl 0 rfl) ?_
  refine lv_iconst (v := 3) hx hb dL_law_971 (by decide) ?_
  refine lv_iadd hx hb dL_law_972 ?_
  refine b_vi (v := 3) (by decide) ?_
  refine va_sld hx hb hX hbl hbA hS (by unfold vp_in; decide) dL_law_973 ?_
  refine b_vi (v := xs 3) rfl ?_
  refine lv_aload_n hx hb dL_law_974 rfl (lv_at hl 3 rfl) ?_
  refine lv_iload_n hx hb dL_law_975 rfl (lv_at hl 0 rfl) ?_
  refine lv_iconst (v := 4) hx hb dL_law_976 (by decide) ?_
  refine lv_iadd hx hb dL_law_977 ?_
  refine b_vi (v := 4) (by decide) ?_
  refine va_sld hx hb hX hbl hbA hS (by unfold vp_in; decide) dL_law_978 ?_
  refine b_vi (v := xs 4) rfl ?_
  refine L_calli (ci := 5) (r := (RX5, TX5, 12)) (As := [.int (xs 1), .int (xs 2), .int (xs 3), .int (xs 4)]) (rest := []) (A := fun a : Nat => s.heap.size ≤ a) ⟨hx, hb, hml, hownL, htsL⟩ (c_X5_take l D cy q hq z hF (xs 1) (xs 2) (xs 3) (xs 4)) (cwV 4 htsL gL_law_X5_take rfl rfl rfl (by decide +kernel) ⟨Nat.le_of_ble_eq_true rfl, Nat.le_of_ble_eq_true rfl⟩) hK hZ hPC (by decide) rfl rfl hqA hA hS rfl hl.1 rfl (Nat.le_of_ble_eq_true rfl) ⟨by decide, by decide⟩ dL_law_979 (fun v1 z1 H1 locs1 hp1 hk1 hS => ?_)
  refine lv_aload_n hx hb dL_law_982 rfl (lv_at hl 1 rfl) ?_
  refine lv_aload_n hx hb dL_law_983 rfl (lv_at hl 3 rfl) ?_
  refine lv_iload_n hx hb dL_law_984 rfl (lv_at hl 0 rfl) ?_
  refine lv_iconst (v := 1) hx hb dL_law_985 (by decide) ?_
  refine lv_iadd hx hb dL_law_986 ?_
  refine b_vi (v := 1) (by decide) ?_
  refine va_sld hx hb hX hbl hbA hS (by unfold vp_in; decide) dL_law_987 ?_
  refine b_vi (v := xs 1) rfl ?_
  refine lv_aload_n hx hb dL_law_988 rfl (lv_at hl 3 rfl) ?_
  refine lv_iload_n hx hb dL_law_989 rfl (lv_at hl 0 rfl) ?_
  refine lv_iconst (v := 2) hx hb dL_law_990 (by decide) ?_
  refine lv_iadd hx hb dL_law_991 ?_
  refine b_vi (v := 2) (by decide) ?_
  refine va_sld hx hb hX hbl hbA hS (by unfold vp_in; decide) dL_law_992 ?_
  refine b_vi (v := xs 2) rfl ?_
  refine lv_aload_n hx hb dL_law_993 rfl (lv_at hl 3 rfl) ?_
  refine lv_iload_n hx hb dL_law_994 rfl (lv_at hl 0 rfl) ?_
  refine lv_iconst (v := 3) hx hb dL_law_995 (by decide) ?_
  refine lv_iadd hx hb dL_law_996 ?_
  refine b_vi (v := 3) (by decide) ?_
  refine va_sld hx hb hX hbl hbA hS (by unfold vp_in; decide) dL_law_997 ?_
  refine b_vi (v := xs 3) rfl ?_
  refine lv_aload_n hx hb dL_law_998 rfl (lv_at hl 3 rfl) ?_
  refine lv_iload_n hx hb dL_law_999 rfl (lv_at hl 0 rfl) ?_
  refine lv_iconst (v := 4) hx hb dL_law_1000 (by decide) ?_
  refine lv_iadd hx hb dL_law_1001 ?_
  refine b_vi (v := 4) (by decide) ?_
  refine va_sld hx hb hX hbl hbA hS (by unfold vp_in; decide) dL_law_1002 ?_
  refine b_vi (v := xs 4) rfl ?_
  refine L_calli (ci := 6) (r := (RX6, TX6, 29)) (As := [.int (xs 1), .int (xs 2), .int (xs 3), .int (xs 4)]) (rest := [.int v1]) (A := fun a : Nat => s.heap.size ≤ a) ⟨hx, hb, hml, hownL, htsL⟩ (c_X6_take l D cy r hrj zm hFm h10 (xs 1) (xs 2) (xs 3) (xs 4)) (cwV 4 htsL gL_law_X6_take rfl rfl rfl (by decide +kernel) ⟨Nat.le_of_ble_eq_true rfl, Nat.le_of_ble_eq_true rfl⟩) hK hZ (lwI_kept hI0 hk1) (by decide) rfl rfl hrA hA hS rfl hl.1 rfl (Nat.le_of_ble_eq_true rfl) ⟨by decide, by decide⟩ dL_law_1003 (fun v2 z2 H2 locs2 hp2 hk2 hS => ?_)
  refine lv_icmp_eq (tgt := 1119) hx hb dL_law_1006 (by decide) (fun _ => ?_) (fun c0 => absurd (hp1.symm.trans hp2) c0)
  exact law_tail l (Nat.le_refl 5) C0 hS hl
set_option maxHeartbeats 4000000 in
set_option maxRecDepth 100000 in
theorem law_c30 {p : Program} {e : Env} {s : State} {m : MethodId} {below : List Frame} {meth : Method} {c : Code} (l : Launch) {b L : Nat} {xs : Nat → Int32} (hL : L = 5) (C0 : lw_At p s m meth c b L xs) {D : va_G} {cy : Nat → ClassId} {q : Nat → Nat} {z : zS} {r : Nat → Nat} {zm : zS} {H : Heap} {locs : List Loc} (hI : lwI D cy q z r zm s H locs) {ls : Array Slot} (hl : lv_has ls 4 [(3, .int 0), (2, .ref (r 0)), (1, .ref (q 0)), (0, .ref b)]) : W p l e room_1 s m #[Value.ref b] below meth c H locs 89 47199 (lw_Z below #[Value.ref b] s) (F0 m 1011 ls []) := by
  obtain ⟨hx, hb, hr, hml, hown, hts, hX, hbl, hlocks, hgv⟩ := id C0
  have hownL : s.vm.findClass RL = some m.cls := hown
  have htsL : ∀ w ∈ wsL_law, w.before #[Value.ref b] s = true := fun w h => hts w (inL_law w h)
  have hbA : ¬ (fun a : Nat => s.heap.size ≤ a) b := Nat.not_le.mpr hbl
  have hA : ∀ a : Nat, s.heap.size ≤ a → (fun a : Nat => s.heap.size ≤ a) a := fun _ h => h
  subst hL
  have hI0 := hI
  obtain ⟨hK, hZ, hPC, hPM, hF, hFm, h10, hq, hrj, hqA, hrA, hqr, hS⟩ := hI
  refine lv_aload_n hx hb dL_law_1011 rfl (lv_at hl 2 rfl) ?_
  refine lv_aload_n hx hb dL_law_1012 rfl (lv_at hl 3 rfl) ?_
  refine lv_iload_n hx hb dL_law_1013 rfl (lv_at hl 0 rfl) ?_
  refine lv_iconst (v := 1) hx hb dL_law_1014 (by decide) ?_
  refine lv_iadd hx hb dL_law_1015 ?_
  refine b_vi (v := 1) (by decide) ?_
  refine va_sld hx hb hX hbl hbA hS (by unfold vp_in; decide) dL_law_1016 ?_
  refine b_vi (v := xs 1) rfl ?_
  refine L_calli (ci := 5) (r := (RX5, TX5, 12)) (As := [.int (xs 1)]) (rest := []) (A := fun a : Nat => s.heap.size ≤ a) ⟨hx, hb, hml, hownL, htsL⟩ (c_X5_lose l D cy q hq z hF (xs 1)) (cwV 1 htsL gL_law_X5_lose rfl rfl rfl (by decide +kernel) ⟨Nat.le_of_ble_eq_true rfl, Nat.le_of_ble_eq_true rfl⟩) hK hZ hPC (by decide) rfl rfl hqA hA hS rfl hl.1 rfl (Nat.le_of_ble_eq_true rfl) ⟨by decide, by decide⟩ dL_law_1017 (fun v1 z1 H1 locs1 hp1 hk1 hS => ?_)
  refine lv_aload_n hx hb dL_law_1020 rfl (lv_at hl 1 rfl) ?_
  refine lv_aload_n hx hb dL_law_1021 rfl (lv_at hl 3 rfl) ?_
  refine lv_iload_n hx hb dL_law_1022 rfl (lv_at hl 0 rfl) ?_
  refine lv_iconst (v := 1) hx hb dL_law_1023 (by decide) ?_
  refine lv_iadd hx hb dL_law_1024 ?_
  refine b_vi (v := 1) (by decide) ?_
  refine va_sld hx hb hX hbl hbA hS (by unfold vp_in; decide) dL_law_1025 ?_
  refine b_vi (v := xs 1) rfl ?_
  refine L_calli (ci := 6) (r := (RX6, TX6, 29)) (As := [.int (xs 1)]) (rest := [.int v1]) (A := fun a : Nat => s.heap.size ≤ a) ⟨hx, hb, hml, hownL, htsL⟩ (c_X6_lose l D cy r hrj zm hFm h10 (xs 1)) (cwV 1 htsL gL_law_X6_lose rfl rfl rfl (by decide +kernel) ⟨Nat.le_of_ble_eq_true rfl, Nat.le_of_ble_eq_true rfl⟩) hK hZ (lwI_kept hI0 hk1) (by decide) rfl rfl hrA hA hS rfl hl.1 rfl (Nat.le_of_ble_eq_true rfl) ⟨by decide, by decide⟩ dL_law_1026 (fun v2 z2 H2 locs2 hp2 hk2 hS => ?_)
  refine lv_icmp_eq (tgt := 1119) hx hb dL_law_1029 (by decide) (fun _ => ?_) (fun c0 => absurd (hp1.symm.trans hp2) c0)
  exact law_tail l (Nat.le_refl 5) C0 hS hl
set_option maxHeartbeats 4000000 in
set_option maxRecDepth 100000 in
theorem law_c31 {p : Program} {e : Env} {s : State} {m : MethodId} {below : List Frame} {meth : Method} {c : Code} (l : Launch) {b L : Nat} {xs : Nat → Int32} (hL : L = 5) (C0 : lw_At p s m meth c b L xs) {D : va_G} {cy : Nat → ClassId} {q : Nat → Nat} {z : zS} {r : Nat → Nat} {zm : zS} {H : Heap} {locs : List Loc} (hI : lwI D cy q z r zm s H locs) {ls : Array Slot} (hl : lv_has ls 4 [(3, .int 0), (2, .ref (r 0)), (1, .ref (q 0)), (0, .ref b)]) : W p l e room_1 s m #[Value.ref b] below meth c H locs 89 47199 (lw_Z below #[Value.ref b] s) (F0 m 1034 ls []) := by
  obtain ⟨hx, hb, hr, hml, hown, hts, hX, hbl, hlocks, hgv⟩ := id C0
  have hownL : s.vm.findClass RL = some m.cls := hown
  have htsL : ∀ w ∈ wsL_law, w.before #[Value.ref b] s = true := fun w h => hts w (inL_law w h)
  have hbA : ¬ (fun a : Nat => s.heap.size ≤ a) b := Nat.not_le.mpr hbl
  have hA : ∀ a : Nat, s.heap.size ≤ a → (fun a : Nat => s.heap.size ≤ a) a := fun _ h => h
  subst hL
  have hI0 := hI
  obtain ⟨hK, hZ, hPC, hPM, hF, hFm, h10, hq, hrj, hqA, hrA, hqr, hS⟩ := hI
  refine lv_aload_n hx hb dL_law_1034 rfl (lv_at hl 2 rfl) ?_
  refine lv_aload_n hx hb dL_law_1035 rfl (lv_at hl 3 rfl) ?_
  refine lv_iload_n hx hb dL_law_1036 rfl (lv_at hl 0 rfl) ?_
  refine lv_iconst (v := 1) hx hb dL_law_1037 (by decide) ?_
  refine lv_iadd hx hb dL_law_1038 ?_
  refine b_vi (v := 1) (by decide) ?_
  refine va_sld hx hb hX hbl hbA hS (by unfold vp_in; decide) dL_law_1039 ?_
  refine b_vi (v := xs 1) rfl ?_
  refine L_calli (ci := 5) (r := (RX5, TX5, 12)) (As := [.int (xs 1)]) (rest := []) (A := fun a : Nat => s.heap.size ≤ a) ⟨hx, hb, hml, hownL, htsL⟩ (c_X5_tell l D cy q hq z hF (xs 1)) (cwV 1 htsL gL_law_X5_tell rfl rfl rfl (by decide +kernel) ⟨Nat.le_of_ble_eq_true rfl, Nat.le_of_ble_eq_true rfl⟩) hK hZ hPC (by decide) rfl rfl hqA hA hS rfl hl.1 rfl (Nat.le_of_ble_eq_true rfl) ⟨by decide, by decide⟩ dL_law_1040 (fun v1 z1 H1 locs1 hp1 hk1 hS => ?_)
  refine lv_aload_n hx hb dL_law_1043 rfl (lv_at hl 1 rfl) ?_
  refine lv_aload_n hx hb dL_law_1044 rfl (lv_at hl 3 rfl) ?_
  refine lv_iload_n hx hb dL_law_1045 rfl (lv_at hl 0 rfl) ?_
  refine lv_iconst (v := 1) hx hb dL_law_1046 (by decide) ?_
  refine lv_iadd hx hb dL_law_1047 ?_
  refine b_vi (v := 1) (by decide) ?_
  refine va_sld hx hb hX hbl hbA hS (by unfold vp_in; decide) dL_law_1048 ?_
  refine b_vi (v := xs 1) rfl ?_
  refine L_calli (ci := 6) (r := (RX6, TX6, 29)) (As := [.int (xs 1)]) (rest := [.int v1]) (A := fun a : Nat => s.heap.size ≤ a) ⟨hx, hb, hml, hownL, htsL⟩ (c_X6_tell l D cy r hrj zm hFm h10 (xs 1)) (cwV 1 htsL gL_law_X6_tell rfl rfl rfl (by decide +kernel) ⟨Nat.le_of_ble_eq_true rfl, Nat.le_of_ble_eq_true rfl⟩) hK hZ (lwI_kept hI0 hk1) (by decide) rfl rfl hrA hA hS rfl hl.1 rfl (Nat.le_of_ble_eq_true rfl) ⟨by decide, by decide⟩ dL_law_1049 (fun v2 z2 H2 locs2 hp2 hk2 hS => ?_)
  refine lv_icmp_eq (tgt := 1119) hx hb dL_law_1052 (by decide) (fun _ => ?_) (fun c0 => absurd (hp1.symm.trans hp2) c0)
  exact law_tail l (Nat.le_refl 5) C0 hS hl
set_option maxHeartbeats 4000000 in
set_option maxRecDepth 100000 in
theorem law_c32 {p : Program} {e : Env} {s : State} {m : MethodId} {below : List Frame} {meth : Method} {c : Code} (l : Launch) {b L : Nat} {xs : Nat → Int32} (hL : L = 5) (C0 : lw_At p s m meth c b L xs) {D : va_G} {cy : Nat → ClassId} {q : Nat → Nat} {z : zS} {r : Nat → Nat} {zm : zS} {H : Heap} {locs : List Loc} (hI : lwI D cy q z r zm s H locs) {ls : Array Slot} (hl : lv_has ls 4 [(3, .int 0), (2, .ref (r 0)), (1, .ref (q 0)), (0, .ref b)]) : W p l e room_1 s m #[Value.ref b] below meth c H locs 89 47199 (lw_Z below #[Value.ref b] s) (F0 m 1057 ls []) := by
  obtain ⟨hx, hb, hr, hml, hown, hts, hX, hbl, hlocks, hgv⟩ := id C0
  have hownL : s.vm.findClass RL = some m.cls := hown
  have htsL : ∀ w ∈ wsL_law, w.before #[Value.ref b] s = true := fun w h => hts w (inL_law w h)
  have hbA : ¬ (fun a : Nat => s.heap.size ≤ a) b := Nat.not_le.mpr hbl
  have hA : ∀ a : Nat, s.heap.size ≤ a → (fun a : Nat => s.heap.size ≤ a) a := fun _ h => h
  subst hL
  have hI0 := hI
  obtain ⟨hK, hZ, hPC, hPM, hF, hFm, h10, hq, hrj, hqA, hrA, hqr, hS⟩ := hI
  refine lv_aload_n hx hb dL_law_1057 rfl (lv_at hl 2 rfl) ?_
  refine L_calli (ci := 5) (r := (RX5, TX5, 12)) (As := []) (rest := []) (A := fun a : Nat => s.heap.size ≤ a) ⟨hx, hb, hml, hownL, htsL⟩ (c_X5_check l D cy q hq z hF ) (cwV 0 htsL gL_law_X5_check rfl rfl rfl (by decide +kernel) ⟨Nat.le_of_ble_eq_true rfl, Nat.le_of_ble_eq_true rfl⟩) hK hZ hPC (by decide) rfl rfl hqA hA hS rfl hl.1 rfl (Nat.le_of_ble_eq_true rfl) ⟨by decide, by decide⟩ dL_law_1058 (fun v1 z1 H1 locs1 hp1 hk1 hS => ?_)
  refine lv_aload_n hx hb dL_law_1061 rfl (lv_at hl 1 rfl) ?_
  refine L_calli (ci := 6) (r := (RX6, TX6, 29)) (As := []) (rest := [.int v1]) (A := fun a : Nat => s.heap.size ≤ a) ⟨hx, hb, hml, hownL, htsL⟩ (c_X6_check l D cy r hrj zm hFm h10 ) (cwV 0 htsL gL_law_X6_check rfl rfl rfl (by decide +kernel) ⟨Nat.le_of_ble_eq_true rfl, Nat.le_of_ble_eq_true rfl⟩) hK hZ (lwI_kept hI0 hk1) (by decide) rfl rfl hrA hA hS rfl hl.1 rfl (Nat.le_of_ble_eq_true rfl) ⟨by decide, by decide⟩ dL_law_1062 (fun v2 z2 H2 locs2 hp2 hk2 hS => ?_)
  refine lv_icmp_eq (tgt := 1119) hx hb dL_law_1065 (by decide) (fun _ => ?_) (fun c0 => absurd (hp1.symm.trans hp2) c0)
  exact law_tail l (Nat.le_refl 5) C0 hS hl
set_option maxHeartbeats 4000000 in
set_option maxRecDepth 100000 in
theorem law_c33 {p : Program} {e : Env} {s : State} {m : MethodId} {below : List Frame} {meth : Method} {c : Code} (l : Launch) {b L : Nat} {xs : Nat → Int32} (hL : L = 5) (C0 : lw_At p s m meth c b L xs) {D : va_G} {cy : Nat → ClassId} {q : Nat → Nat} {z : zS} {r : Nat → Nat} {zm : zS} {H : Heap} {locs : List Loc} (hI : lwI D cy q z r zm s H locs) {ls : Array Slot} (hl : lv_has ls 4 [(3, .int 0), (2, .ref (r 0)), (1, .ref (q 0)), (0, .ref b)]) : W p l e room_1 s m #[Value.ref b] below meth c H locs 89 47199 (lw_Z below #[Value.ref b] s) (F0 m 1070 ls []) := by
  obtain ⟨hx, hb, hr, hml, hown, hts, hX, hbl, hlocks, hgv⟩ := id C0
  have hownL : s.vm.findClass RL = some m.cls := hown
  have htsL : ∀ w ∈ wsL_law, w.before #[Value.ref b] s = true := fun w h => hts w (inL_law w h)
  have hbA : ¬ (fun a : Nat => s.heap.size ≤ a) b := Nat.not_le.mpr hbl
  have hA : ∀ a : Nat, s.heap.size ≤ a → (fun a : Nat => s.heap.size ≤ a) a := fun _ h => h
  subst hL
  have hI0 := hI
  obtain ⟨hK, hZ, hPC, hPM, hF, hFm, h10, hq, hrj, hqA, hrA, hqr, hS⟩ := hI
  refine lv_aload_n hx hb dL_law_1070 rfl (lv_at hl 2 rfl) ?_
  refine L_calli (ci := 5) (r := (RX5, TX5, 12)) (As := []) (rest := []) (A := fun a : Nat => s.heap.size ≤ a) ⟨hx, hb, hml, hownL, htsL⟩ (c_X5_keep l D cy q hq z hF ) (cwV 0 htsL gL_law_X5_keep rfl rfl rfl (by decide +kernel) ⟨Nat.le_of_ble_eq_true rfl, Nat.le_of_ble_eq_true rfl⟩) hK hZ hPC (by decide) rfl rfl hqA hA hS rfl hl.1 rfl (Nat.le_of_ble_eq_true rfl) ⟨by decide, by decide⟩ dL_law_1071 (fun v1 z1 H1 locs1 hp1 hk1 hS => ?_)
  refine lv_aload_n hx hb dL_law_1074 rfl (lv_at hl 1 rfl) ?_
  refine L_calli (ci := 6) (r := (RX6, TX6, 29)) (As := []) (rest := [.int v1]) (A := fun a : Nat => s.heap.size ≤ a) ⟨hx, hb, hml, hownL, htsL⟩ (c_X6_keep l D cy r hrj zm hFm h10 ) (cwV 0 htsL gL_law_X6_keep rfl rfl rfl (by decide +kernel) ⟨Nat.le_of_ble_eq_true rfl, Nat.le_of_ble_eq_true rfl⟩) hK hZ (lwI_kept hI0 hk1) (by decide) rfl rfl hrA hA hS rfl hl.1 rfl (Nat.le_of_ble_eq_true rfl) ⟨by decide, by decide⟩ dL_law_1075 (fun v2 z2 H2 locs2 hp2 hk2 hS => ?_)
  refine lv_icmp_eq (tgt := 1119) hx hb dL_law_1078 (by decide) (fun _ => ?_) (fun c0 => absurd (hp1.symm.trans hp2) c0)
  exact law_tail l (Nat.le_refl 5) C0 hS hl
set_option maxHeartbeats 4000000 in
set_option maxRecDepth 100000 in
theorem law_c34 {p : Program} {e : Env} {s : State} {m : MethodId} {below : List Frame} {meth : Method} {c : Code} (l : Launch) {b L : Nat} {xs : Nat → Int32} (hL : L = 5) (C0 : lw_At p s m meth c b L xs) {D : va_G} {cy : Nat → ClassId} {q : Nat → Nat} {z : zS} {r : Nat → Nat} {zm : zS} {H : Heap} {locs : List Loc} (hI : lwI D cy q z r zm s H locs) {ls : Array Slot} (hl : lv_has ls 4 [(3, .int 0), (2, .ref (r 0)), (1, .ref (q 0)), (0, .ref b)]) : W p l e room_1 s m #[Value.ref b] below meth c H locs 89 47199 (lw_Z below #[Value.ref b] s) (F0 m 1083 ls []) := by
  obtain ⟨hx, hb, hr, hml, hown, hts, hX, hbl, hlocks, hgv⟩ := id C0
  have hownL : s.vm.findClass RL = some m.cls := hown
  have htsL : ∀ w ∈ wsL_law, w.before #[Value.ref b] s = true := fun w h => hts w (inL_law w h)
  have hbA : ¬ (fun a : Nat => s.heap.size ≤ a) b := Nat.not_le.mpr hbl
  have hA : ∀ a : Nat, s.heap.size ≤ a → (fun a : Nat => s.heap.size ≤ a) a := fun _ h => h
  subst hL
  have hI0 := hI
  obtain ⟨hK, hZ, hPC, hPM, hF, hFm, h10, hq, hrj, hqA, hrA, hqr, hS⟩ := hI
  refine lv_aload_n hx hb dL_law_1083 rfl (lv_at hl 2 rfl) ?_
  refine L_calli (ci := 5) (r := (RX5, TX5, 12)) (As := []) (rest := []) (A := fun a : Nat => s.heap.size ≤ a) ⟨hx, hb, hml, hownL, htsL⟩ (c_X5_back l D cy q hq z hF ) (cwV 0 htsL gL_law_X5_back rfl rfl rfl (by decide +kernel) ⟨Nat.le_of_ble_eq_true rfl, Nat.le_of_ble_eq_true rfl⟩) hK hZ hPC (by decide) rfl rfl hqA hA hS rfl hl.1 rfl (Nat.le_of_ble_eq_true rfl) ⟨by decide, by decide⟩ dL_law_1084 (fun v1 z1 H1 locs1 hp1 hk1 hS => ?_)
  refine lv_aload_n hx hb dL_law_1087 rfl (lv_at hl 1 rfl) ?_
  refine L_calli (ci := 6) (r := (RX6, TX6, 29)) (As := []) (rest := [.int v1]) (A := fun a : Nat => s.heap.size ≤ a) ⟨hx, hb, hml, hownL, htsL⟩ (c_X6_back l D cy r hrj zm hFm h10 ) (cwV 0 htsL gL_law_X6_back rfl rfl rfl (by decide +kernel) ⟨Nat.le_of_ble_eq_true rfl, Nat.le_of_ble_eq_true rfl⟩) hK hZ (lwI_kept hI0 hk1) (by decide) rfl rfl hrA hA hS rfl hl.1 rfl (Nat.le_of_ble_eq_true rfl) ⟨by decide, by decide⟩ dL_law_1088 (fun v2 z2 H2 locs2 hp2 hk2 hS => ?_)
  refine lv_icmp_eq (tgt := 1119) hx hb dL_law_1091 (by decide) (fun _ => ?_) (fun c0 => absurd (hp1.symm.trans hp2) c0)
  exact law_tail l (Nat.le_refl 5) C0 hS hl
set_option maxHeartbeats 4000000 in
set_option maxRecDepth 100000 in
theorem law_c35 {p : Program} {e : Env} {s : State} {m : MethodId} {below : List Frame} {meth : Method} {c : Code} (l : Launch) {b L : Nat} {xs : Nat → Int32} (hL : L = 5) (C0 : lw_At p s m meth c b L xs) {D : va_G} {cy : Nat → ClassId} {q : Nat → Nat} {z : zS} {r : Nat → Nat} {zm : zS} {H : Heap} {locs : List Loc} (hI : lwI D cy q z r zm s H locs) {ls : Array Slot} (hl : lv_has ls 4 [(3, .int 0), (2, .ref (r 0)), (1, .ref (q 0)), (0, .ref b)]) : W p l e room_1 s m #[Value.ref b] below meth c H locs 89 47199 (lw_Z below #[Value.ref b] s) (F0 m 1096 ls []) := by
  obtain ⟨hx, hb, hr, hml, hown, hts, hX, hbl, hlocks, hgv⟩ := id C0
  have hownL : s.vm.findClass RL = some m.cls := hown
  have htsL : ∀ w ∈ wsL_law, w.before #[Value.ref b] s = true := fun w h => hts w (inL_law w h)
  have hbA : ¬ (fun a : Nat => s.heap.size ≤ a) b := Nat.not_le.mpr hbl
  have hA : ∀ a : Nat, s.heap.size ≤ a → (fun a : Nat => s.heap.size ≤ a) a := fun _ h => h
  subst hL
  have hI0 := hI
  obtain ⟨hK, hZ, hPC, hPM, hF, hFm, h10, hq, hrj, hqA, hrA, hqr, hS⟩ := hI
  refine lv_aload_n hx hb dL_law_1096 rfl (lv_at hl 2 rfl) ?_
  refine lv_aload_n hx hb dL_law_1097 rfl (lv_at hl 3 rfl) ?_
  refine lv_iload_n hx hb dL_law_1098 rfl (lv_at hl 0 rfl) ?_
  refine lv_iconst (v := 1) hx hb dL_law_1099 (by decide) ?_
  refine lv_iadd hx hb dL_law_1100 ?_
  refine b_vi (v := 1) (by decide) ?_
  refine va_sld hx hb hX hbl hbA hS (by unfold vp_in; decide) dL_law_1101 ?_
  refine b_vi (v := xs 1) rfl ?_
  refine L_calli (ci := 5) (r := (RX5, TX5, 12)) (As := [.int (xs 1)]) (rest := []) (A := fun a : Nat => s.heap.size ≤ a) ⟨hx, hb, hml, hownL, htsL⟩ (c_X5_count l D cy q hq z hF (xs 1)) (cwV 1 htsL gL_law_X5_count rfl rfl rfl (by decide +kernel) ⟨Nat.le_of_ble_eq_true rfl, Nat.le_of_ble_eq_true rfl⟩) hK hZ hPC (by decide) rfl rfl hqA hA hS rfl hl.1 rfl (Nat.le_of_ble_eq_true rfl) ⟨by decide, by decide⟩ dL_law_1102 (fun v1 z1 H1 locs1 hp1 hk1 hS => ?_)
  refine lv_aload_n hx hb dL_law_1105 rfl (lv_at hl 1 rfl) ?_
  refine lv_aload_n hx hb dL_law_1106 rfl (lv_at hl 3 rfl) ?_
  refine lv_iload_n hx hb dL_law_1107 rfl (lv_at hl 0 rfl) ?_
  refine lv_iconst (v := 1) hx hb dL_law_1108 (by decide) ?_
  refine lv_iadd hx hb dL_law_1109 ?_
  refine b_vi (v := 1) (by decide) ?_
  refine va_sld hx hb hX hbl hbA hS (by unfold vp_in; decide) dL_law_1110 ?_
  refine b_vi (v := xs 1) rfl ?_
  refine L_calli (ci := 6) (r := (RX6, TX6, 29)) (As := [.int (xs 1)]) (rest := [.int v1]) (A := fun a : Nat => s.heap.size ≤ a) ⟨hx, hb, hml, hownL, htsL⟩ (c_X6_count l D cy r hrj zm hFm h10 (xs 1)) (cwV 1 htsL gL_law_X6_count rfl rfl rfl (by decide +kernel) ⟨Nat.le_of_ble_eq_true rfl, Nat.le_of_ble_eq_true rfl⟩) hK hZ (lwI_kept hI0 hk1) (by decide) rfl rfl hrA hA hS rfl hl.1 rfl (Nat.le_of_ble_eq_true rfl) ⟨by decide, by decide⟩ dL_law_1111 (fun v2 z2 H2 locs2 hp2 hk2 hS => ?_)
  refine lv_icmp_eq (tgt := 1119) hx hb dL_law_1114 (by decide) (fun _ => ?_) (fun c0 => absurd (hp1.symm.trans hp2) c0)
  exact law_tail l (Nat.le_refl 5) C0 hS hl
