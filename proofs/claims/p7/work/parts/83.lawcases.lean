set_option maxHeartbeats 4000000 in
set_option maxRecDepth 100000 in
theorem law_c18 {p : Program} {e : Env} {s : State} {m : MethodId} {below : List Frame} {meth : Method} {c : Code} (l : Launch) {b L : Nat} {xs : Nat → Int32} (hL : L ≤ 2560) (C0 : lw_At p s m meth c b L xs) {i : Nat} (hi : i + 5 ≤ L) {D : va_G} {cy : Nat → ClassId} {q : Nat → Nat} {z : zS} {r : Nat → Nat} {zm : zS} {H : Heap} {locs : List Loc} (hI : lwJ D cy q z r zm s H locs) {ls : Array Slot} (hl : lv_has ls 4 [(3, .int (nI i)), (2, .ref (r 0)), (1, .ref (q 0)), (0, .ref b)]) (kk : ∀ (z zm : zS) (H : Heap) (locs : List Loc), lwJ D cy q z r zm s H locs → W p l e room_1 s m #[Value.ref b] below meth c H locs 89 47199 (lw_Z below #[Value.ref b] s) (F0 m 1116 ls [])) : W p l e room_1 s m #[Value.ref b] below meth c H locs 89 47199 (lw_Z below #[Value.ref b] s) (F0 m 666 ls []) := by
  obtain ⟨hx, hb, hr, hml, hown, hts, hX, hbl, hlocks, hgv⟩ := id C0
  have hownL : s.vm.findClass RL = some m.cls := hown
  have htsL : ∀ w ∈ wsL_law, w.before #[Value.ref b] s = true := fun w h => hts w (inL_law w h)
  have hbA : ¬ (fun a : Nat => s.heap.size ≤ a) b := Nat.not_le.mpr hbl
  have hA : ∀ a : Nat, s.heap.size ≤ a → (fun a : Nat => s.heap.size ≤ a) a := fun _ h => h
  obtain ⟨hK, hZ, hPC, hPM, hIC, hIM, hq, hrj, hqA, hrA, hqr, hS, hR⟩ := hI
  refine lv_aload_n hx hb dL_law_666 rfl (lv_at hl 2 rfl) ?_
  refine L_calll2 (ci := 5) (r := (RX5, TX5, 12)) (As := []) (rest := []) (A := fun a : Nat => s.heap.size ≤ a) ⟨hx, hb, hml, hownL, htsL⟩ (g_X5_many_0 l D cy q hq z hIC ) (cwV 0 htsL gL_law_X5_many rfl rfl rfl (by decide +kernel) ⟨Nat.le_of_ble_eq_true rfl, Nat.le_of_ble_eq_true rfl⟩) hK hZ hPC (by decide) rfl rfl hqA hA hS rfl hl.1 rfl (Nat.le_of_ble_eq_true rfl) ⟨by decide, by decide⟩ dL_law_667 (fun v1 z1 H1 locs1 hp1 hPC1 hk1 hS => ?_)
  refine lv_pop2_2 hx hb dL_law_670 rfl ?_
  refine lv_aload_n hx hb dL_law_671 rfl (lv_at hl 1 rfl) ?_
  refine L_calll2 (ci := 6) (r := (RX6, TX6, 29)) (As := []) (rest := []) (A := fun a : Nat => s.heap.size ≤ a) ⟨hx, hb, hml, hownL, htsL⟩ (g_X6_many_0 l D cy r hrj zm hIM ) (cwV 0 htsL gL_law_X6_many rfl rfl rfl (by decide +kernel) ⟨Nat.le_of_ble_eq_true rfl, Nat.le_of_ble_eq_true rfl⟩) hK hZ (kp_of hPM hqr hk1) (by decide) rfl rfl hrA hA hS rfl hl.1 rfl (Nat.le_of_ble_eq_true rfl) ⟨by decide, by decide⟩ dL_law_672 (fun v2 zm1 H2 locs2 hp2 hPM2 hk2 hS => ?_)
  refine lv_pop2_2 hx hb dL_law_675 rfl ?_
  refine lv_goto (tgt := 1116) hx hb dL_law_676 (by decide) ?_
  exact kk z1 zm1 H2 locs2 ⟨hK, hZ, kp_of hPC1 (fun i j hi hj q => hqr j i hj hi q.symm) hk2, hPM2, hp1.1, hp2.1, hq, hrj, hqA, hrA, hqr, hS, ⟨⟨⟨⟨(hp1.2.1 0 (by decide)).trans (hR.1.1.1.1.trans (hp2.2.1 0 (by decide)).symm), (hp1.2.1 6 (by decide)).trans (hR.1.1.1.2.1.trans (hp2.2.1 4 (by decide)).symm), (fun q => ((hp1.2.1 3 (by decide)).trans (hR.1.1.1.2.2 (by rw [← (hp1.2.1 6 (by decide))]; exact q))).trans (congrFun (hp2.2.2.1 8 (by decide)) 0).symm)⟩, (fun i hi => (congrFun (hp1.2.2.1 7 (by decide)) i).trans ((hR.1.1.2.1 i hi).trans (congrFun (hp2.2.2.1 3 (by decide)) i).symm)), (fun q i hi => (congrFun (hp1.2.2.1 21 (by decide)) i).trans ((hR.1.1.2.2 (by rw [← (hp1.2.1 6 (by decide))]; exact q) i hi).trans (congrFun (hp2.2.2.1 8 (by decide)) (36 + i)).symm))⟩, (by rw [(hp1.2.1 0 (by decide))]; exact LdI_cg (by have := iv_nat (IvC_s0 hIC) (by decide); have := (IvC_s0 hIC).2; omega) (fun i _ => congrFun (hp1.2.2.1 7 (by decide)) i) (fun i _ => congrFun (hp1.2.2.1 8 (by decide)) i) hR.1.2.1), (fun q => (by rw [(hp1.2.1 3 (by decide))]; exact LdI_cg (by have := iv_nat (IvC_s3 hIC) (by decide); have := (IvC_s3 hIC).2; omega) (fun i _ => congrFun (hp1.2.2.1 21 (by decide)) i) (fun i _ => congrFun (hp1.2.2.1 22 (by decide)) i) (hR.1.2.2 (by rw [← (hp1.2.1 6 (by decide))]; exact q))))⟩, (hp1.2.1 7 (by decide)).trans (hR.2.1.trans (hp2.2.1 3 (by decide)).symm), (fun i hi => (congrFun (hp1.2.2.1 30 (by decide)) i).trans ((hR.2.2 i (by rw [← (hp1.2.1 7 (by decide))]; exact hi)).trans (congrFun (hp2.2.2.1 7 (by decide)) i).symm))⟩⟩
set_option maxHeartbeats 4000000 in
set_option maxRecDepth 100000 in
theorem law_c19 {p : Program} {e : Env} {s : State} {m : MethodId} {below : List Frame} {meth : Method} {c : Code} (l : Launch) {b L : Nat} {xs : Nat → Int32} (hL : L ≤ 2560) (C0 : lw_At p s m meth c b L xs) {i : Nat} (hi : i + 5 ≤ L) {D : va_G} {cy : Nat → ClassId} {q : Nat → Nat} {z : zS} {r : Nat → Nat} {zm : zS} {H : Heap} {locs : List Loc} (hI : lwJ D cy q z r zm s H locs) {ls : Array Slot} (hl : lv_has ls 4 [(3, .int (nI i)), (2, .ref (r 0)), (1, .ref (q 0)), (0, .ref b)]) (kk : ∀ (z zm : zS) (H : Heap) (locs : List Loc), lwJ D cy q z r zm s H locs → W p l e room_1 s m #[Value.ref b] below meth c H locs 89 47199 (lw_Z below #[Value.ref b] s) (F0 m 1116 ls [])) : W p l e room_1 s m #[Value.ref b] below meth c H locs 89 47199 (lw_Z below #[Value.ref b] s) (F0 m 679 ls []) := by
  obtain ⟨hx, hb, hr, hml, hown, hts, hX, hbl, hlocks, hgv⟩ := id C0
  have hownL : s.vm.findClass RL = some m.cls := hown
  have htsL : ∀ w ∈ wsL_law, w.before #[Value.ref b] s = true := fun w h => hts w (inL_law w h)
  have hbA : ¬ (fun a : Nat => s.heap.size ≤ a) b := Nat.not_le.mpr hbl
  have hA : ∀ a : Nat, s.heap.size ≤ a → (fun a : Nat => s.heap.size ≤ a) a := fun _ h => h
  obtain ⟨hK, hZ, hPC, hPM, hIC, hIM, hq, hrj, hqA, hrA, hqr, hS, hR⟩ := hI
  refine lv_aload_n hx hb dL_law_679 rfl (lv_at hl 2 rfl) ?_
  refine lv_aload_n hx hb dL_law_680 rfl (lv_at hl 3 rfl) ?_
  refine lv_iload_n hx hb dL_law_681 rfl (lv_at hl 0 rfl) ?_
  refine lv_iconst (v := 1) hx hb dL_law_682 (by decide) ?_
  refine lv_iadd hx hb dL_law_683 ?_
  refine b_vi (v := nI (i + 1)) (nI_add i 1) ?_
  refine va_sld hx hb hX hbl hbA hS (vp_in_nI (by omega) (by omega)) dL_law_684 ?_
  refine b_vi (v := xs (i + 1)) (by rw [nI_clamp (by omega)]) ?_
  refine lv_if_eq (tgt := 692) hx hb dL_law_685 (by decide) (fun c0 => ?_) (fun c0 => ?_)
  · skip
    refine lv_iconst (v := 0) hx hb dL_law_692 (by decide) ?_
    refine L_calli2 (ci := 5) (r := (RX5, TX5, 12)) (As := [.int 0]) (rest := []) (A := fun a : Nat => s.heap.size ≤ a) ⟨hx, hb, hml, hownL, htsL⟩ (g_X5_best_0 l D cy q hq z hIC 0) (cwV 1 htsL gL_law_X5_best rfl rfl rfl (by decide +kernel) ⟨Nat.le_of_ble_eq_true rfl, Nat.le_of_ble_eq_true rfl⟩) hK hZ hPC (by decide) rfl rfl hqA hA hS rfl hl.1 rfl (Nat.le_of_ble_eq_true rfl) ⟨by decide, by decide⟩ dL_law_693 (fun v1 z1 H1 locs1 hp1 hPC1 hk1 hS => ?_)
    refine lv_pop hx hb dL_law_696 rfl ?_
    refine lv_aload_n hx hb dL_law_697 rfl (lv_at hl 1 rfl) ?_
    refine lv_aload_n hx hb dL_law_698 rfl (lv_at hl 3 rfl) ?_
    refine lv_iload_n hx hb dL_law_699 rfl (lv_at hl 0 rfl) ?_
    refine lv_iconst (v := 1) hx hb dL_law_700 (by decide) ?_
    refine lv_iadd hx hb dL_law_701 ?_
    refine b_vi (v := nI (i + 1)) (nI_add i 1) ?_
    refine va_sld hx hb hX hbl hbA hS (vp_in_nI (by omega) (by omega)) dL_law_702 ?_
    refine b_vi (v := xs (i + 1)) (by rw [nI_clamp (by omega)]) ?_
    refine lv_if_eq (tgt := 710) hx hb dL_law_703 (by decide) (fun c0 => ?_) (fun c0 => ?_)
    · skip
      refine lv_iconst (v := 0) hx hb dL_law_710 (by decide) ?_
      refine L_calli2 (ci := 6) (r := (RX6, TX6, 29)) (As := [.int 0]) (rest := []) (A := fun a : Nat => s.heap.size ≤ a) ⟨hx, hb, hml, hownL, htsL⟩ (g_X6_best_0 l D cy r hrj zm hIM 0) (cwV 1 htsL gL_law_X6_best rfl rfl rfl (by decide +kernel) ⟨Nat.le_of_ble_eq_true rfl, Nat.le_of_ble_eq_true rfl⟩) hK hZ (kp_of hPM hqr hk1) (by decide) rfl rfl hrA hA hS rfl hl.1 rfl (Nat.le_of_ble_eq_true rfl) ⟨by decide, by decide⟩ dL_law_711 (fun v2 zm1 H2 locs2 hp2 hPM2 hk2 hS => ?_)
      refine lv_pop hx hb dL_law_714 rfl ?_
      refine lv_goto (tgt := 1116) hx hb dL_law_715 (by decide) ?_
      exact kk z1 zm1 H2 locs2 ⟨hK, hZ, kp_of hPC1 (fun i j hi hj q => hqr j i hj hi q.symm) hk2, hPM2, hp1.1.1, hp2.1.1, hq, hrj, hqA, hrA, hqr, hS, ⟨⟨⟨⟨(hp1.1.2.1 0 (by decide)).trans (hR.1.1.1.1.trans (hp2.1.2.1 0 (by decide)).symm), (hp1.1.2.1 6 (by decide)).trans (hR.1.1.1.2.1.trans (hp2.1.2.1 4 (by decide)).symm), (fun q => ((hp1.1.2.1 3 (by decide)).trans (hR.1.1.1.2.2 (by rw [← (hp1.1.2.1 6 (by decide))]; exact q))).trans (congrFun (hp2.1.2.2.1 8 (by decide)) 0).symm)⟩, (fun i hi => (congrFun (hp1.1.2.2.1 7 (by decide)) i).trans ((hR.1.1.2.1 i hi).trans (congrFun (hp2.1.2.2.1 3 (by decide)) i).symm)), (fun q i hi => (congrFun (hp1.1.2.2.1 21 (by decide)) i).trans ((hR.1.1.2.2 (by rw [← (hp1.1.2.1 6 (by decide))]; exact q) i hi).trans (congrFun (hp2.1.2.2.1 8 (by decide)) (36 + i)).symm))⟩, (by rw [(hp1.1.2.1 0 (by decide))]; exact LdI_cg (by have := iv_nat (IvC_s0 hIC) (by decide); have := (IvC_s0 hIC).2; omega) (fun i _ => congrFun (hp1.1.2.2.1 7 (by decide)) i) (fun i _ => congrFun (hp1.1.2.2.1 8 (by decide)) i) hR.1.2.1), (fun q => (by rw [(hp1.1.2.1 3 (by decide))]; exact LdI_cg (by have := iv_nat (IvC_s3 hIC) (by decide); have := (IvC_s3 hIC).2; omega) (fun i _ => congrFun (hp1.1.2.2.1 21 (by decide)) i) (fun i _ => congrFun (hp1.1.2.2.1 22 (by decide)) i) (hR.1.2.2 (by rw [← (hp1.1.2.1 6 (by decide))]; exact q))))⟩, (hp1.1.2.1 7 (by decide)).trans (hR.2.1.trans (hp2.1.2.1 3 (by decide)).symm), (fun i hi => (congrFun (hp1.1.2.2.1 30 (by decide)) i).trans ((hR.2.2 i (by rw [← (hp1.1.2.1 7 (by decide))]; exact hi)).trans (congrFun (hp2.1.2.2.1 7 (by decide)) i).symm))⟩⟩
    · skip
      refine lv_iconst (v := 1) hx hb dL_law_706 (by decide) ?_
      refine lv_goto (tgt := 711) hx hb dL_law_707 (by decide) ?_
      refine L_calli2 (ci := 6) (r := (RX6, TX6, 29)) (As := [.int 1]) (rest := []) (A := fun a : Nat => s.heap.size ≤ a) ⟨hx, hb, hml, hownL, htsL⟩ (g_X6_best_0 l D cy r hrj zm hIM 1) (cwV 1 htsL gL_law_X6_best rfl rfl rfl (by decide +kernel) ⟨Nat.le_of_ble_eq_true rfl, Nat.le_of_ble_eq_true rfl⟩) hK hZ (kp_of hPM hqr hk1) (by decide) rfl rfl hrA hA hS rfl hl.1 rfl (Nat.le_of_ble_eq_true rfl) ⟨by decide, by decide⟩ dL_law_711 (fun v2 zm1 H2 locs2 hp2 hPM2 hk2 hS => ?_)
      refine lv_pop hx hb dL_law_714 rfl ?_
      refine lv_goto (tgt := 1116) hx hb dL_law_715 (by decide) ?_
      exact kk z1 zm1 H2 locs2 ⟨hK, hZ, kp_of hPC1 (fun i j hi hj q => hqr j i hj hi q.symm) hk2, hPM2, hp1.1.1, hp2.1.1, hq, hrj, hqA, hrA, hqr, hS, ⟨⟨⟨⟨(hp1.1.2.1 0 (by decide)).trans (hR.1.1.1.1.trans (hp2.1.2.1 0 (by decide)).symm), (hp1.1.2.1 6 (by decide)).trans (hR.1.1.1.2.1.trans (hp2.1.2.1 4 (by decide)).symm), (fun q => ((hp1.1.2.1 3 (by decide)).trans (hR.1.1.1.2.2 (by rw [← (hp1.1.2.1 6 (by decide))]; exact q))).trans (congrFun (hp2.1.2.2.1 8 (by decide)) 0).symm)⟩, (fun i hi => (congrFun (hp1.1.2.2.1 7 (by decide)) i).trans ((hR.1.1.2.1 i hi).trans (congrFun (hp2.1.2.2.1 3 (by decide)) i).symm)), (fun q i hi => (congrFun (hp1.1.2.2.1 21 (by decide)) i).trans ((hR.1.1.2.2 (by rw [← (hp1.1.2.1 6 (by decide))]; exact q) i hi).trans (congrFun (hp2.1.2.2.1 8 (by decide)) (36 + i)).symm))⟩, (by rw [(hp1.1.2.1 0 (by decide))]; exact LdI_cg (by have := iv_nat (IvC_s0 hIC) (by decide); have := (IvC_s0 hIC).2; omega) (fun i _ => congrFun (hp1.1.2.2.1 7 (by decide)) i) (fun i _ => congrFun (hp1.1.2.2.1 8 (by decide)) i) hR.1.2.1), (fun q => (by rw [(hp1.1.2.1 3 (by decide))]; exact LdI_cg (by have := iv_nat (IvC_s3 hIC) (by decide); have := (IvC_s3 hIC).2; omega) (fun i _ => congrFun (hp1.1.2.2.1 21 (by decide)) i) (fun i _ => congrFun (hp1.1.2.2.1 22 (by decide)) i) (hR.1.2.2 (by rw [← (hp1.1.2.1 6 (by decide))]; exact q))))⟩, (hp1.1.2.1 7 (by decide)).trans (hR.2.1.trans (hp2.1.2.1 3 (by decide)).symm), (fun i hi => (congrFun (hp1.1.2.2.1 30 (by decide)) i).trans ((hR.2.2 i (by rw [← (hp1.1.2.1 7 (by decide))]; exact hi)).trans (congrFun (hp2.1.2.2.1 7 (by decide)) i).symm))⟩⟩
  · skip
    refine lv_iconst (v := 1) hx hb dL_law_688 (by decide) ?_
    refine lv_goto (tgt := 693) hx hb dL_law_689 (by decide) ?_
    refine L_calli2 (ci := 5) (r := (RX5, TX5, 12)) (As := [.int 1]) (rest := []) (A := fun a : Nat => s.heap.size ≤ a) ⟨hx, hb, hml, hownL, htsL⟩ (g_X5_best_0 l D cy q hq z hIC 1) (cwV 1 htsL gL_law_X5_best rfl rfl rfl (by decide +kernel) ⟨Nat.le_of_ble_eq_true rfl, Nat.le_of_ble_eq_true rfl⟩) hK hZ hPC (by decide) rfl rfl hqA hA hS rfl hl.1 rfl (Nat.le_of_ble_eq_true rfl) ⟨by decide, by decide⟩ dL_law_693 (fun v1 z1 H1 locs1 hp1 hPC1 hk1 hS => ?_)
    refine lv_pop hx hb dL_law_696 rfl ?_
    refine lv_aload_n hx hb dL_law_697 rfl (lv_at hl 1 rfl) ?_
    refine lv_aload_n hx hb dL_law_698 rfl (lv_at hl 3 rfl) ?_
    refine lv_iload_n hx hb dL_law_699 rfl (lv_at hl 0 rfl) ?_
    refine lv_iconst (v := 1) hx hb dL_law_700 (by decide) ?_
    refine lv_iadd hx hb dL_law_701 ?_
    refine b_vi (v := nI (i + 1)) (nI_add i 1) ?_
    refine va_sld hx hb hX hbl hbA hS (vp_in_nI (by omega) (by omega)) dL_law_702 ?_
    refine b_vi (v := xs (i + 1)) (by rw [nI_clamp (by omega)]) ?_
    refine lv_if_eq (tgt := 710) hx hb dL_law_703 (by decide) (fun c0 => ?_) (fun c0 => ?_)
    · skip
      refine lv_iconst (v := 0) hx hb dL_law_710 (by decide) ?_
      refine L_calli2 (ci := 6) (r := (RX6, TX6, 29)) (As := [.int 0]) (rest := []) (A := fun a : Nat => s.heap.size ≤ a) ⟨hx, hb, hml, hownL, htsL⟩ (g_X6_best_0 l D cy r hrj zm hIM 0) (cwV 1 htsL gL_law_X6_best rfl rfl rfl (by decide +kernel) ⟨Nat.le_of_ble_eq_true rfl, Nat.le_of_ble_eq_true rfl⟩) hK hZ (kp_of hPM hqr hk1) (by decide) rfl rfl hrA hA hS rfl hl.1 rfl (Nat.le_of_ble_eq_true rfl) ⟨by decide, by decide⟩ dL_law_711 (fun v2 zm1 H2 locs2 hp2 hPM2 hk2 hS => ?_)
      refine lv_pop hx hb dL_law_714 rfl ?_
      refine lv_goto (tgt := 1116) hx hb dL_law_715 (by decide) ?_
      exact kk z1 zm1 H2 locs2 ⟨hK, hZ, kp_of hPC1 (fun i j hi hj q => hqr j i hj hi q.symm) hk2, hPM2, hp1.1.1, hp2.1.1, hq, hrj, hqA, hrA, hqr, hS, ⟨⟨⟨⟨(hp1.1.2.1 0 (by decide)).trans (hR.1.1.1.1.trans (hp2.1.2.1 0 (by decide)).symm), (hp1.1.2.1 6 (by decide)).trans (hR.1.1.1.2.1.trans (hp2.1.2.1 4 (by decide)).symm), (fun q => ((hp1.1.2.1 3 (by decide)).trans (hR.1.1.1.2.2 (by rw [← (hp1.1.2.1 6 (by decide))]; exact q))).trans (congrFun (hp2.1.2.2.1 8 (by decide)) 0).symm)⟩, (fun i hi => (congrFun (hp1.1.2.2.1 7 (by decide)) i).trans ((hR.1.1.2.1 i hi).trans (congrFun (hp2.1.2.2.1 3 (by decide)) i).symm)), (fun q i hi => (congrFun (hp1.1.2.2.1 21 (by decide)) i).trans ((hR.1.1.2.2 (by rw [← (hp1.1.2.1 6 (by decide))]; exact q) i hi).trans (congrFun (hp2.1.2.2.1 8 (by decide)) (36 + i)).symm))⟩, (by rw [(hp1.1.2.1 0 (by decide))]; exact LdI_cg (by have := iv_nat (IvC_s0 hIC) (by decide); have := (IvC_s0 hIC).2; omega) (fun i _ => congrFun (hp1.1.2.2.1 7 (by decide)) i) (fun i _ => congrFun (hp1.1.2.2.1 8 (by decide)) i) hR.1.2.1), (fun q => (by rw [(hp1.1.2.1 3 (by decide))]; exact LdI_cg (by have := iv_nat (IvC_s3 hIC) (by decide); have := (IvC_s3 hIC).2; omega) (fun i _ => congrFun (hp1.1.2.2.1 21 (by decide)) i) (fun i _ => congrFun (hp1.1.2.2.1 22 (by decide)) i) (hR.1.2.2 (by rw [← (hp1.1.2.1 6 (by decide))]; exact q))))⟩, (hp1.1.2.1 7 (by decide)).trans (hR.2.1.trans (hp2.1.2.1 3 (by decide)).symm), (fun i hi => (congrFun (hp1.1.2.2.1 30 (by decide)) i).trans ((hR.2.2 i (by rw [← (hp1.1.2.1 7 (by decide))]; exact hi)).trans (congrFun (hp2.1.2.2.1 7 (by decide)) i).symm))⟩⟩
    · skip
      refine lv_iconst (v := 1) hx hb dL_law_706 (by decide) ?_
      refine lv_goto (tgt := 711) hx hb dL_law_707 (by decide) ?_
      refine L_calli2 (ci := 6) (r := (RX6, TX6, 29)) (As := [.int 1]) (rest := []) (A := fun a : Nat => s.heap.size ≤ a) ⟨hx, hb, hml, hownL, htsL⟩ (g_X6_best_0 l D cy r hrj zm hIM 1) (cwV 1 htsL gL_law_X6_best rfl rfl rfl (by decide +kernel) ⟨Nat.le_of_ble_eq_true rfl, Nat.le_of_ble_eq_true rfl⟩) hK hZ (kp_of hPM hqr hk1) (by decide) rfl rfl hrA hA hS rfl hl.1 rfl (Nat.le_of_ble_eq_true rfl) ⟨by decide, by decide⟩ dL_law_711 (fun v2 zm1 H2 locs2 hp2 hPM2 hk2 hS => ?_)
      refine lv_pop hx hb dL_law_714 rfl ?_
      refine lv_goto (tgt := 1116) hx hb dL_law_715 (by decide) ?_
      exact kk z1 zm1 H2 locs2 ⟨hK, hZ, kp_of hPC1 (fun i j hi hj q => hqr j i hj hi q.symm) hk2, hPM2, hp1.1.1, hp2.1.1, hq, hrj, hqA, hrA, hqr, hS, ⟨⟨⟨⟨(hp1.1.2.1 0 (by decide)).trans (hR.1.1.1.1.trans (hp2.1.2.1 0 (by decide)).symm), (hp1.1.2.1 6 (by decide)).trans (hR.1.1.1.2.1.trans (hp2.1.2.1 4 (by decide)).symm), (fun q => ((hp1.1.2.1 3 (by decide)).trans (hR.1.1.1.2.2 (by rw [← (hp1.1.2.1 6 (by decide))]; exact q))).trans (congrFun (hp2.1.2.2.1 8 (by decide)) 0).symm)⟩, (fun i hi => (congrFun (hp1.1.2.2.1 7 (by decide)) i).trans ((hR.1.1.2.1 i hi).trans (congrFun (hp2.1.2.2.1 3 (by decide)) i).symm)), (fun q i hi => (congrFun (hp1.1.2.2.1 21 (by decide)) i).trans ((hR.1.1.2.2 (by rw [← (hp1.1.2.1 6 (by decide))]; exact q) i hi).trans (congrFun (hp2.1.2.2.1 8 (by decide)) (36 + i)).symm))⟩, (by rw [(hp1.1.2.1 0 (by decide))]; exact LdI_cg (by have := iv_nat (IvC_s0 hIC) (by decide); have := (IvC_s0 hIC).2; omega) (fun i _ => congrFun (hp1.1.2.2.1 7 (by decide)) i) (fun i _ => congrFun (hp1.1.2.2.1 8 (by decide)) i) hR.1.2.1), (fun q => (by rw [(hp1.1.2.1 3 (by decide))]; exact LdI_cg (by have := iv_nat (IvC_s3 hIC) (by decide); have := (IvC_s3 hIC).2; omega) (fun i _ => congrFun (hp1.1.2.2.1 21 (by decide)) i) (fun i _ => congrFun (hp1.1.2.2.1 22 (by decide)) i) (hR.1.2.2 (by rw [← (hp1.1.2.1 6 (by decide))]; exact q))))⟩, (hp1.1.2.1 7 (by decide)).trans (hR.2.1.trans (hp2.1.2.1 3 (by decide)).symm), (fun i hi => (congrFun (hp1.1.2.2.1 30 (by decide)) i).trans ((hR.2.2 i (by rw [← (hp1.1.2.1 7 (by decide))]; exact hi)).trans (congrFun (hp2.1.2.2.1 7 (by decide)) i).symm))⟩⟩
set_option maxHeartbeats 4000000 in
set_option maxRecDepth 100000 in
theorem law_c20 {p : Program} {e : Env} {s : State} {m : MethodId} {below : List Frame} {meth : Method} {c : Code} (l : Launch) {b L : Nat} {xs : Nat → Int32} (hL : L ≤ 2560) (C0 : lw_At p s m meth c b L xs) {i : Nat} (hi : i + 5 ≤ L) {D : va_G} {cy : Nat → ClassId} {q : Nat → Nat} {z : zS} {r : Nat → Nat} {zm : zS} {H : Heap} {locs : List Loc} (hI : lwJ D cy q z r zm s H locs) {ls : Array Slot} (hl : lv_has ls 4 [(3, .int (nI i)), (2, .ref (r 0)), (1, .ref (q 0)), (0, .ref b)]) (kk : ∀ (z zm : zS) (H : Heap) (locs : List Loc), lwJ D cy q z r zm s H locs → W p l e room_1 s m #[Value.ref b] below meth c H locs 89 47199 (lw_Z below #[Value.ref b] s) (F0 m 1116 ls [])) : W p l e room_1 s m #[Value.ref b] below meth c H locs 89 47199 (lw_Z below #[Value.ref b] s) (F0 m 718 ls []) := by
  obtain ⟨hx, hb, hr, hml, hown, hts, hX, hbl, hlocks, hgv⟩ := id C0
  have hownL : s.vm.findClass RL = some m.cls := hown
  have htsL : ∀ w ∈ wsL_law, w.before #[Value.ref b] s = true := fun w h => hts w (inL_law w h)
  have hbA : ¬ (fun a : Nat => s.heap.size ≤ a) b := Nat.not_le.mpr hbl
  have hA : ∀ a : Nat, s.heap.size ≤ a → (fun a : Nat => s.heap.size ≤ a) a := fun _ h => h
  obtain ⟨hK, hZ, hPC, hPM, hIC, hIM, hq, hrj, hqA, hrA, hqr, hS, hR⟩ := hI
  refine lv_aload_n hx hb dL_law_718 rfl (lv_at hl 2 rfl) ?_
  refine L_calll2 (ci := 5) (r := (RX5, TX5, 12)) (As := []) (rest := []) (A := fun a : Nat => s.heap.size ≤ a) ⟨hx, hb, hml, hownL, htsL⟩ (g_X5_evenest_0 l D cy q hq z hIC ) (cwV 0 htsL gL_law_X5_evenest rfl rfl rfl (by decide +kernel) ⟨Nat.le_of_ble_eq_true rfl, Nat.le_of_ble_eq_true rfl⟩) hK hZ hPC (by decide) rfl rfl hqA hA hS rfl hl.1 rfl (Nat.le_of_ble_eq_true rfl) ⟨by decide, by decide⟩ dL_law_719 (fun v1 z1 H1 locs1 hp1 hPC1 hk1 hS => ?_)
  refine lv_pop2_2 hx hb dL_law_722 rfl ?_
  refine lv_aload_n hx hb dL_law_723 rfl (lv_at hl 1 rfl) ?_
  refine L_calll2 (ci := 6) (r := (RX6, TX6, 29)) (As := []) (rest := []) (A := fun a : Nat => s.heap.size ≤ a) ⟨hx, hb, hml, hownL, htsL⟩ (g_X6_evenest_0 l D cy r hrj zm hIM ) (cwV 0 htsL gL_law_X6_evenest rfl rfl rfl (by decide +kernel) ⟨Nat.le_of_ble_eq_true rfl, Nat.le_of_ble_eq_true rfl⟩) hK hZ (kp_of hPM hqr hk1) (by decide) rfl rfl hrA hA hS rfl hl.1 rfl (Nat.le_of_ble_eq_true rfl) ⟨by decide, by decide⟩ dL_law_724 (fun v2 zm1 H2 locs2 hp2 hPM2 hk2 hS => ?_)
  refine lv_pop2_2 hx hb dL_law_727 rfl ?_
  refine lv_goto (tgt := 1116) hx hb dL_law_728 (by decide) ?_
  exact kk z1 zm1 H2 locs2 ⟨hK, hZ, kp_of hPC1 (fun i j hi hj q => hqr j i hj hi q.symm) hk2, hPM2, hp1.1, hp2.1, hq, hrj, hqA, hrA, hqr, hS, ⟨⟨⟨⟨(hp1.2.1 0 (by decide)).trans (hR.1.1.1.1.trans (hp2.2.1 0 (by decide)).symm), (hp1.2.1 6 (by decide)).trans (hR.1.1.1.2.1.trans (hp2.2.1 4 (by decide)).symm), (fun q => ((hp1.2.1 3 (by decide)).trans (hR.1.1.1.2.2 (by rw [← (hp1.2.1 6 (by decide))]; exact q))).trans (congrFun (hp2.2.2.1 8 (by decide)) 0).symm)⟩, (fun i hi => (congrFun (hp1.2.2.1 7 (by decide)) i).trans ((hR.1.1.2.1 i hi).trans (congrFun (hp2.2.2.1 3 (by decide)) i).symm)), (fun q i hi => (congrFun (hp1.2.2.1 21 (by decide)) i).trans ((hR.1.1.2.2 (by rw [← (hp1.2.1 6 (by decide))]; exact q) i hi).trans (congrFun (hp2.2.2.1 8 (by decide)) (36 + i)).symm))⟩, (by rw [(hp1.2.1 0 (by decide))]; exact LdI_cg (by have := iv_nat (IvC_s0 hIC) (by decide); have := (IvC_s0 hIC).2; omega) (fun i _ => congrFun (hp1.2.2.1 7 (by decide)) i) (fun i _ => congrFun (hp1.2.2.1 8 (by decide)) i) hR.1.2.1), (fun q => (by rw [(hp1.2.1 3 (by decide))]; exact LdI_cg (by have := iv_nat (IvC_s3 hIC) (by decide); have := (IvC_s3 hIC).2; omega) (fun i _ => congrFun (hp1.2.2.1 21 (by decide)) i) (fun i _ => congrFun (hp1.2.2.1 22 (by decide)) i) (hR.1.2.2 (by rw [← (hp1.2.1 6 (by decide))]; exact q))))⟩, (hp1.2.1 7 (by decide)).trans (hR.2.1.trans (hp2.2.1 3 (by decide)).symm), (fun i hi => (congrFun (hp1.2.2.1 30 (by decide)) i).trans ((hR.2.2 i (by rw [← (hp1.2.1 7 (by decide))]; exact hi)).trans (congrFun (hp2.2.2.1 7 (by decide)) i).symm))⟩⟩
set_option maxHeartbeats 4000000 in
set_option maxRecDepth 100000 in
theorem law_c21 {p : Program} {e : Env} {s : State} {m : MethodId} {below : List Frame} {meth : Method} {c : Code} (l : Launch) {b L : Nat} {xs : Nat → Int32} (hL : L ≤ 2560) (C0 : lw_At p s m meth c b L xs) {i : Nat} (hi : i + 5 ≤ L) {D : va_G} {cy : Nat → ClassId} {q : Nat → Nat} {z : zS} {r : Nat → Nat} {zm : zS} {H : Heap} {locs : List Loc} (hI : lwJ D cy q z r zm s H locs) {ls : Array Slot} (hl : lv_has ls 4 [(3, .int (nI i)), (2, .ref (r 0)), (1, .ref (q 0)), (0, .ref b)]) (kk : ∀ (z zm : zS) (H : Heap) (locs : List Loc), lwJ D cy q z r zm s H locs → W p l e room_1 s m #[Value.ref b] below meth c H locs 89 47199 (lw_Z below #[Value.ref b] s) (F0 m 1116 ls [])) : W p l e room_1 s m #[Value.ref b] below meth c H locs 89 47199 (lw_Z below #[Value.ref b] s) (F0 m 731 ls []) := by
  obtain ⟨hx, hb, hr, hml, hown, hts, hX, hbl, hlocks, hgv⟩ := id C0
  have hownL : s.vm.findClass RL = some m.cls := hown
  have htsL : ∀ w ∈ wsL_law, w.before #[Value.ref b] s = true := fun w h => hts w (inL_law w h)
  have hbA : ¬ (fun a : Nat => s.heap.size ≤ a) b := Nat.not_le.mpr hbl
  have hA : ∀ a : Nat, s.heap.size ≤ a → (fun a : Nat => s.heap.size ≤ a) a := fun _ h => h
  obtain ⟨hK, hZ, hPC, hPM, hIC, hIM, hq, hrj, hqA, hrA, hqr, hS, hR⟩ := hI
  refine lv_aload_n hx hb dL_law_731 rfl (lv_at hl 2 rfl) ?_
  refine lv_aload_n hx hb dL_law_732 rfl (lv_at hl 3 rfl) ?_
  refine lv_iload_n hx hb dL_law_733 rfl (lv_at hl 0 rfl) ?_
  refine lv_iconst (v := 1) hx hb dL_law_734 (by decide) ?_
  refine lv_iadd hx hb dL_law_735 ?_
  refine b_vi (v := nI (i + 1)) (nI_add i 1) ?_
  refine va_sld hx hb hX hbl hbA hS (vp_in_nI (by omega) (by omega)) dL_law_736 ?_
  refine b_vi (v := xs (i + 1)) (by rw [nI_clamp (by omega)]) ?_
  refine L_calli2 (ci := 5) (r := (RX5, TX5, 12)) (As := [.int (xs (i + 1))]) (rest := []) (A := fun a : Nat => s.heap.size ≤ a) ⟨hx, hb, hml, hownL, htsL⟩ (g_X5_leastBeat_0 l D cy q hq z hIC (xs (i + 1))) (cwV 1 htsL gL_law_X5_leastBeat rfl rfl rfl (by decide +kernel) ⟨Nat.le_of_ble_eq_true rfl, Nat.le_of_ble_eq_true rfl⟩) hK hZ hPC (by decide) rfl rfl hqA hA hS rfl hl.1 rfl (Nat.le_of_ble_eq_true rfl) ⟨by decide, by decide⟩ dL_law_737 (fun v1 z1 H1 locs1 hp1 hPC1 hk1 hS => ?_)
  refine lv_pop hx hb dL_law_740 rfl ?_
  refine lv_aload_n hx hb dL_law_741 rfl (lv_at hl 1 rfl) ?_
  refine lv_aload_n hx hb dL_law_742 rfl (lv_at hl 3 rfl) ?_
  refine lv_iload_n hx hb dL_law_743 rfl (lv_at hl 0 rfl) ?_
  refine lv_iconst (v := 1) hx hb dL_law_744 (by decide) ?_
  refine lv_iadd hx hb dL_law_745 ?_
  refine b_vi (v := nI (i + 1)) (nI_add i 1) ?_
  refine va_sld hx hb hX hbl hbA hS (vp_in_nI (by omega) (by omega)) dL_law_746 ?_
  refine b_vi (v := xs (i + 1)) (by rw [nI_clamp (by omega)]) ?_
  refine L_calli2 (ci := 6) (r := (RX6, TX6, 29)) (As := [.int (xs (i + 1))]) (rest := []) (A := fun a : Nat => s.heap.size ≤ a) ⟨hx, hb, hml, hownL, htsL⟩ (g_X6_leastBeat_0 l D cy r hrj zm hIM (xs (i + 1))) (cwV 1 htsL gL_law_X6_leastBeat rfl rfl rfl (by decide +kernel) ⟨Nat.le_of_ble_eq_true rfl, Nat.le_of_ble_eq_true rfl⟩) hK hZ (kp_of hPM hqr hk1) (by decide) rfl rfl hrA hA hS rfl hl.1 rfl (Nat.le_of_ble_eq_true rfl) ⟨by decide, by decide⟩ dL_law_747 (fun v2 zm1 H2 locs2 hp2 hPM2 hk2 hS => ?_)
  refine lv_pop hx hb dL_law_750 rfl ?_
  refine lv_goto (tgt := 1116) hx hb dL_law_751 (by decide) ?_
  exact kk z1 zm1 H2 locs2 ⟨hK, hZ, kp_of hPC1 (fun i j hi hj q => hqr j i hj hi q.symm) hk2, hPM2, hp1.1.1, hp2.1.1, hq, hrj, hqA, hrA, hqr, hS, ⟨⟨⟨⟨(hp1.1.2.1 0 (by decide)).trans (hR.1.1.1.1.trans (hp2.1.2.1 0 (by decide)).symm), (hp1.1.2.1 6 (by decide)).trans (hR.1.1.1.2.1.trans (hp2.1.2.1 4 (by decide)).symm), (fun q => ((hp1.1.2.1 3 (by decide)).trans (hR.1.1.1.2.2 (by rw [← (hp1.1.2.1 6 (by decide))]; exact q))).trans (congrFun (hp2.1.2.2.1 8 (by decide)) 0).symm)⟩, (fun i hi => (congrFun (hp1.1.2.2.1 7 (by decide)) i).trans ((hR.1.1.2.1 i hi).trans (congrFun (hp2.1.2.2.1 3 (by decide)) i).symm)), (fun q i hi => (congrFun (hp1.1.2.2.1 21 (by decide)) i).trans ((hR.1.1.2.2 (by rw [← (hp1.1.2.1 6 (by decide))]; exact q) i hi).trans (congrFun (hp2.1.2.2.1 8 (by decide)) (36 + i)).symm))⟩, (by rw [(hp1.1.2.1 0 (by decide))]; exact LdI_cg (by have := iv_nat (IvC_s0 hIC) (by decide); have := (IvC_s0 hIC).2; omega) (fun i _ => congrFun (hp1.1.2.2.1 7 (by decide)) i) (fun i _ => congrFun (hp1.1.2.2.1 8 (by decide)) i) hR.1.2.1), (fun q => (by rw [(hp1.1.2.1 3 (by decide))]; exact LdI_cg (by have := iv_nat (IvC_s3 hIC) (by decide); have := (IvC_s3 hIC).2; omega) (fun i _ => congrFun (hp1.1.2.2.1 21 (by decide)) i) (fun i _ => congrFun (hp1.1.2.2.1 22 (by decide)) i) (hR.1.2.2 (by rw [← (hp1.1.2.1 6 (by decide))]; exact q))))⟩, (hp1.1.2.1 7 (by decide)).trans (hR.2.1.trans (hp2.1.2.1 3 (by decide)).symm), (fun i hi => (congrFun (hp1.1.2.2.1 30 (by decide)) i).trans ((hR.2.2 i (by rw [← (hp1.1.2.1 7 (by decide))]; exact hi)).trans (congrFun (hp2.1.2.2.1 7 (by decide)) i).symm))⟩⟩
set_option maxHeartbeats 4000000 in
set_option maxRecDepth 100000 in
theorem law_c22 {p : Program} {e : Env} {s : State} {m : MethodId} {below : List Frame} {meth : Method} {c : Code} (l : Launch) {b L : Nat} {xs : Nat → Int32} (hL : L ≤ 2560) (C0 : lw_At p s m meth c b L xs) {i : Nat} (hi : i + 5 ≤ L) {D : va_G} {cy : Nat → ClassId} {q : Nat → Nat} {z : zS} {r : Nat → Nat} {zm : zS} {H : Heap} {locs : List Loc} (hI : lwJ D cy q z r zm s H locs) {ls : Array Slot} (hl : lv_has ls 4 [(3, .int (nI i)), (2, .ref (r 0)), (1, .ref (q 0)), (0, .ref b)]) (kk : ∀ (z zm : zS) (H : Heap) (locs : List Loc), lwJ D cy q z r zm s H locs → W p l e room_1 s m #[Value.ref b] below meth c H locs 89 47199 (lw_Z below #[Value.ref b] s) (F0 m 1116 ls [])) : W p l e room_1 s m #[Value.ref b] below meth c H locs 89 47199 (lw_Z below #[Value.ref b] s) (F0 m 754 ls []) := by
  obtain ⟨hx, hb, hr, hml, hown, hts, hX, hbl, hlocks, hgv⟩ := id C0
  have hownL : s.vm.findClass RL = some m.cls := hown
  have htsL : ∀ w ∈ wsL_law, w.before #[Value.ref b] s = true := fun w h => hts w (inL_law w h)
  have hbA : ¬ (fun a : Nat => s.heap.size ≤ a) b := Nat.not_le.mpr hbl
  have hA : ∀ a : Nat, s.heap.size ≤ a → (fun a : Nat => s.heap.size ≤ a) a := fun _ h => h
  obtain ⟨hK, hZ, hPC, hPM, hIC, hIM, hq, hrj, hqA, hrA, hqr, hS, hR⟩ := hI
  refine lv_aload_n hx hb dL_law_754 rfl (lv_at hl 2 rfl) ?_
  refine lv_aload_n hx hb dL_law_755 rfl (lv_at hl 3 rfl) ?_
  refine lv_iload_n hx hb dL_law_756 rfl (lv_at hl 0 rfl) ?_
  refine lv_iconst (v := 1) hx hb dL_law_757 (by decide) ?_
  refine lv_iadd hx hb dL_law_758 ?_
  refine b_vi (v := nI (i + 1)) (nI_add i 1) ?_
  refine va_sld hx hb hX hbl hbA hS (vp_in_nI (by omega) (by omega)) dL_law_759 ?_
  refine b_vi (v := xs (i + 1)) (by rw [nI_clamp (by omega)]) ?_
  refine L_calli2 (ci := 5) (r := (RX5, TX5, 12)) (As := [.int (xs (i + 1))]) (rest := []) (A := fun a : Nat => s.heap.size ≤ a) ⟨hx, hb, hml, hownL, htsL⟩ (g_X5_bound_0 l D cy q hq z hIC (xs (i + 1))) (cwV 1 htsL gL_law_X5_bound rfl rfl rfl (by decide +kernel) ⟨Nat.le_of_ble_eq_true rfl, Nat.le_of_ble_eq_true rfl⟩) hK hZ hPC (by decide) rfl rfl hqA hA hS rfl hl.1 rfl (Nat.le_of_ble_eq_true rfl) ⟨by decide, by decide⟩ dL_law_760 (fun v1 z1 H1 locs1 hp1 hPC1 hk1 hS => ?_)
  refine lv_pop hx hb dL_law_763 rfl ?_
  refine lv_aload_n hx hb dL_law_764 rfl (lv_at hl 1 rfl) ?_
  refine lv_aload_n hx hb dL_law_765 rfl (lv_at hl 3 rfl) ?_
  refine lv_iload_n hx hb dL_law_766 rfl (lv_at hl 0 rfl) ?_
  refine lv_iconst (v := 1) hx hb dL_law_767 (by decide) ?_
  refine lv_iadd hx hb dL_law_768 ?_
  refine b_vi (v := nI (i + 1)) (nI_add i 1) ?_
  refine va_sld hx hb hX hbl hbA hS (vp_in_nI (by omega) (by omega)) dL_law_769 ?_
  refine b_vi (v := xs (i + 1)) (by rw [nI_clamp (by omega)]) ?_
  refine L_calli2 (ci := 6) (r := (RX6, TX6, 29)) (As := [.int (xs (i + 1))]) (rest := []) (A := fun a : Nat => s.heap.size ≤ a) ⟨hx, hb, hml, hownL, htsL⟩ (g_X6_bound_0 l D cy r hrj zm hIM (xs (i + 1))) (cwV 1 htsL gL_law_X6_bound rfl rfl rfl (by decide +kernel) ⟨Nat.le_of_ble_eq_true rfl, Nat.le_of_ble_eq_true rfl⟩) hK hZ (kp_of hPM hqr hk1) (by decide) rfl rfl hrA hA hS rfl hl.1 rfl (Nat.le_of_ble_eq_true rfl) ⟨by decide, by decide⟩ dL_law_770 (fun v2 zm1 H2 locs2 hp2 hPM2 hk2 hS => ?_)
  refine lv_pop hx hb dL_law_773 rfl ?_
  refine lv_goto (tgt := 1116) hx hb dL_law_774 (by decide) ?_
  exact kk z1 zm1 H2 locs2 ⟨hK, hZ, kp_of hPC1 (fun i j hi hj q => hqr j i hj hi q.symm) hk2, hPM2, hp1.1.1, hp2.1.1, hq, hrj, hqA, hrA, hqr, hS, ⟨⟨⟨⟨(hp1.1.2.1 0 (by decide)).trans (hR.1.1.1.1.trans (hp2.1.2.1 0 (by decide)).symm), (hp1.1.2.1 6 (by decide)).trans (hR.1.1.1.2.1.trans (hp2.1.2.1 4 (by decide)).symm), (fun q => ((hp1.1.2.1 3 (by decide)).trans (hR.1.1.1.2.2 (by rw [← (hp1.1.2.1 6 (by decide))]; exact q))).trans (congrFun (hp2.1.2.2.1 8 (by decide)) 0).symm)⟩, (fun i hi => (congrFun (hp1.1.2.2.1 7 (by decide)) i).trans ((hR.1.1.2.1 i hi).trans (congrFun (hp2.1.2.2.1 3 (by decide)) i).symm)), (fun q i hi => (congrFun (hp1.1.2.2.1 21 (by decide)) i).trans ((hR.1.1.2.2 (by rw [← (hp1.1.2.1 6 (by decide))]; exact q) i hi).trans (congrFun (hp2.1.2.2.1 8 (by decide)) (36 + i)).symm))⟩, (by rw [(hp1.1.2.1 0 (by decide))]; exact LdI_cg (by have := iv_nat (IvC_s0 hIC) (by decide); have := (IvC_s0 hIC).2; omega) (fun i _ => congrFun (hp1.1.2.2.1 7 (by decide)) i) (fun i _ => congrFun (hp1.1.2.2.1 8 (by decide)) i) hR.1.2.1), (fun q => (by rw [(hp1.1.2.1 3 (by decide))]; exact LdI_cg (by have := iv_nat (IvC_s3 hIC) (by decide); have := (IvC_s3 hIC).2; omega) (fun i _ => congrFun (hp1.1.2.2.1 21 (by decide)) i) (fun i _ => congrFun (hp1.1.2.2.1 22 (by decide)) i) (hR.1.2.2 (by rw [← (hp1.1.2.1 6 (by decide))]; exact q))))⟩, (hp1.1.2.1 7 (by decide)).trans (hR.2.1.trans (hp2.1.2.1 3 (by decide)).symm), (fun i hi => (congrFun (hp1.1.2.2.1 30 (by decide)) i).trans ((hR.2.2 i (by rw [← (hp1.1.2.1 7 (by decide))]; exact hi)).trans (congrFun (hp2.1.2.2.1 7 (by decide)) i).symm))⟩⟩
set_option maxHeartbeats 4000000 in
set_option maxRecDepth 100000 in
theorem law_c23 {p : Program} {e : Env} {s : State} {m : MethodId} {below : List Frame} {meth : Method} {c : Code} (l : Launch) {b L : Nat} {xs : Nat → Int32} (hL : L ≤ 2560) (C0 : lw_At p s m meth c b L xs) {i : Nat} (hi : i + 5 ≤ L) {D : va_G} {cy : Nat → ClassId} {q : Nat → Nat} {z : zS} {r : Nat → Nat} {zm : zS} {H : Heap} {locs : List Loc} (hI : lwJ D cy q z r zm s H locs) {ls : Array Slot} (hl : lv_has ls 4 [(3, .int (nI i)), (2, .ref (r 0)), (1, .ref (q 0)), (0, .ref b)]) (kk : ∀ (z zm : zS) (H : Heap) (locs : List Loc), lwJ D cy q z r zm s H locs → W p l e room_1 s m #[Value.ref b] below meth c H locs 89 47199 (lw_Z below #[Value.ref b] s) (F0 m 1116 ls [])) : W p l e room_1 s m #[Value.ref b] below meth c H locs 89 47199 (lw_Z below #[Value.ref b] s) (F0 m 777 ls []) := by
  obtain ⟨hx, hb, hr, hml, hown, hts, hX, hbl, hlocks, hgv⟩ := id C0
  have hownL : s.vm.findClass RL = some m.cls := hown
  have htsL : ∀ w ∈ wsL_law, w.before #[Value.ref b] s = true := fun w h => hts w (inL_law w h)
  have hbA : ¬ (fun a : Nat => s.heap.size ≤ a) b := Nat.not_le.mpr hbl
  have hA : ∀ a : Nat, s.heap.size ≤ a → (fun a : Nat => s.heap.size ≤ a) a := fun _ h => h
  obtain ⟨hK, hZ, hPC, hPM, hIC, hIM, hq, hrj, hqA, hrA, hqr, hS, hR⟩ := hI
  refine lv_aload_n hx hb dL_law_777 rfl (lv_at hl 2 rfl) ?_
  refine lv_aload_n hx hb dL_law_778 rfl (lv_at hl 3 rfl) ?_
  refine lv_iload_n hx hb dL_law_779 rfl (lv_at hl 0 rfl) ?_
  refine lv_iconst (v := 1) hx hb dL_law_780 (by decide) ?_
  refine lv_iadd hx hb dL_law_781 ?_
  refine b_vi (v := nI (i + 1)) (nI_add i 1) ?_
  refine va_sld hx hb hX hbl hbA hS (vp_in_nI (by omega) (by omega)) dL_law_782 ?_
  refine b_vi (v := xs (i + 1)) (by rw [nI_clamp (by omega)]) ?_
  refine L_calli2 (ci := 5) (r := (RX5, TX5, 12)) (As := [.int (xs (i + 1))]) (rest := []) (A := fun a : Nat => s.heap.size ≤ a) ⟨hx, hb, hml, hownL, htsL⟩ (g_X5_early_0 l D cy q hq z hIC (xs (i + 1))) (cwV 1 htsL gL_law_X5_early rfl rfl rfl (by decide +kernel) ⟨Nat.le_of_ble_eq_true rfl, Nat.le_of_ble_eq_true rfl⟩) hK hZ hPC (by decide) rfl rfl hqA hA hS rfl hl.1 rfl (Nat.le_of_ble_eq_true rfl) ⟨by decide, by decide⟩ dL_law_783 (fun v1 z1 H1 locs1 hp1 hPC1 hk1 hS => ?_)
  refine lv_pop hx hb dL_law_786 rfl ?_
  refine lv_aload_n hx hb dL_law_787 rfl (lv_at hl 1 rfl) ?_
  refine lv_aload_n hx hb dL_law_788 rfl (lv_at hl 3 rfl) ?_
  refine lv_iload_n hx hb dL_law_789 rfl (lv_at hl 0 rfl) ?_
  refine lv_iconst (v := 1) hx hb dL_law_790 (by decide) ?_
  refine lv_iadd hx hb dL_law_791 ?_
  refine b_vi (v := nI (i + 1)) (nI_add i 1) ?_
  refine va_sld hx hb hX hbl hbA hS (vp_in_nI (by omega) (by omega)) dL_law_792 ?_
  refine b_vi (v := xs (i + 1)) (by rw [nI_clamp (by omega)]) ?_
  refine L_calli2 (ci := 6) (r := (RX6, TX6, 29)) (As := [.int (xs (i + 1))]) (rest := []) (A := fun a : Nat => s.heap.size ≤ a) ⟨hx, hb, hml, hownL, htsL⟩ (g_X6_early_0 l D cy r hrj zm hIM (xs (i + 1))) (cwV 1 htsL gL_law_X6_early rfl rfl rfl (by decide +kernel) ⟨Nat.le_of_ble_eq_true rfl, Nat.le_of_ble_eq_true rfl⟩) hK hZ (kp_of hPM hqr hk1) (by decide) rfl rfl hrA hA hS rfl hl.1 rfl (Nat.le_of_ble_eq_true rfl) ⟨by decide, by decide⟩ dL_law_793 (fun v2 zm1 H2 locs2 hp2 hPM2 hk2 hS => ?_)
  refine lv_pop hx hb dL_law_796 rfl ?_
  refine lv_goto (tgt := 1116) hx hb dL_law_797 (by decide) ?_
  exact kk z1 zm1 H2 locs2 ⟨hK, hZ, kp_of hPC1 (fun i j hi hj q => hqr j i hj hi q.symm) hk2, hPM2, hp1.1.1, hp2.1.1, hq, hrj, hqA, hrA, hqr, hS, ⟨⟨⟨⟨(hp1.1.2.1 0 (by decide)).trans (hR.1.1.1.1.trans (hp2.1.2.1 0 (by decide)).symm), (hp1.1.2.1 6 (by decide)).trans (hR.1.1.1.2.1.trans (hp2.1.2.1 4 (by decide)).symm), (fun q => ((hp1.1.2.1 3 (by decide)).trans (hR.1.1.1.2.2 (by rw [← (hp1.1.2.1 6 (by decide))]; exact q))).trans (congrFun (hp2.1.2.2.1 8 (by decide)) 0).symm)⟩, (fun i hi => (congrFun (hp1.1.2.2.1 7 (by decide)) i).trans ((hR.1.1.2.1 i hi).trans (congrFun (hp2.1.2.2.1 3 (by decide)) i).symm)), (fun q i hi => (congrFun (hp1.1.2.2.1 21 (by decide)) i).trans ((hR.1.1.2.2 (by rw [← (hp1.1.2.1 6 (by decide))]; exact q) i hi).trans (congrFun (hp2.1.2.2.1 8 (by decide)) (36 + i)).symm))⟩, (by rw [(hp1.1.2.1 0 (by decide))]; exact LdI_cg (by have := iv_nat (IvC_s0 hIC) (by decide); have := (IvC_s0 hIC).2; omega) (fun i _ => congrFun (hp1.1.2.2.1 7 (by decide)) i) (fun i _ => congrFun (hp1.1.2.2.1 8 (by decide)) i) hR.1.2.1), (fun q => (by rw [(hp1.1.2.1 3 (by decide))]; exact LdI_cg (by have := iv_nat (IvC_s3 hIC) (by decide); have := (IvC_s3 hIC).2; omega) (fun i _ => congrFun (hp1.1.2.2.1 21 (by decide)) i) (fun i _ => congrFun (hp1.1.2.2.1 22 (by decide)) i) (hR.1.2.2 (by rw [← (hp1.1.2.1 6 (by decide))]; exact q))))⟩, (hp1.1.2.1 7 (by decide)).trans (hR.2.1.trans (hp2.1.2.1 3 (by decide)).symm), (fun i hi => (congrFun (hp1.1.2.2.1 30 (by decide)) i).trans ((hR.2.2 i (by rw [← (hp1.1.2.1 7 (by decide))]; exact hi)).trans (congrFun (hp2.1.2.2.1 7 (by decide)) i).symm))⟩⟩
set_option maxHeartbeats 4000000 in
set_option maxRecDepth 100000 in
theorem law_c24 {p : Program} {e : Env} {s : State} {m : MethodId} {below : List Frame} {meth : Method} {c : Code} (l : Launch) {b L : Nat} {xs : Nat → Int32} (hL : L ≤ 2560) (C0 : lw_At p s m meth c b L xs) {i : Nat} (hi : i + 5 ≤ L) {D : va_G} {cy : Nat → ClassId} {q : Nat → Nat} {z : zS} {r : Nat → Nat} {zm : zS} {H : Heap} {locs : List Loc} (hI : lwJ D cy q z r zm s H locs) {ls : Array Slot} (hl : lv_has ls 4 [(3, .int (nI i)), (2, .ref (r 0)), (1, .ref (q 0)), (0, .ref b)]) (kk : ∀ (z zm : zS) (H : Heap) (locs : List Loc), lwJ D cy q z r zm s H locs → W p l e room_1 s m #[Value.ref b] below meth c H locs 89 47199 (lw_Z below #[Value.ref b] s) (F0 m 1116 ls [])) : W p l e room_1 s m #[Value.ref b] below meth c H locs 89 47199 (lw_Z below #[Value.ref b] s) (F0 m 800 ls []) := by
  obtain ⟨hx, hb, hr, hml, hown, hts, hX, hbl, hlocks, hgv⟩ := id C0
  have hownL : s.vm.findClass RL = some m.cls := hown
  have htsL : ∀ w ∈ wsL_law, w.before #[Value.ref b] s = true := fun w h => hts w (inL_law w h)
  have hbA : ¬ (fun a : Nat => s.heap.size ≤ a) b := Nat.not_le.mpr hbl
  have hA : ∀ a : Nat, s.heap.size ≤ a → (fun a : Nat => s.heap.size ≤ a) a := fun _ h => h
  obtain ⟨hK, hZ, hPC, hPM, hIC, hIM, hq, hrj, hqA, hrA, hqr, hS, hR⟩ := hI
  refine lv_aload_n hx hb dL_law_800 rfl (lv_at hl 2 rfl) ?_
  refine lv_aload_n hx hb dL_law_801 rfl (lv_at hl 3 rfl) ?_
  refine lv_iload_n hx hb dL_law_802 rfl (lv_at hl 0 rfl) ?_
  refine lv_iconst (v := 1) hx hb dL_law_803 (by decide) ?_
  refine lv_iadd hx hb dL_law_804 ?_
  refine b_vi (v := nI (i + 1)) (nI_add i 1) ?_
  refine va_sld hx hb hX hbl hbA hS (vp_in_nI (by omega) (by omega)) dL_law_805 ?_
  refine b_vi (v := xs (i + 1)) (by rw [nI_clamp (by omega)]) ?_
  refine lv_aload_n hx hb dL_law_806 rfl (lv_at hl 3 rfl) ?_
  refine lv_iload_n hx hb dL_law_807 rfl (lv_at hl 0 rfl) ?_
  refine lv_iconst (v := 2) hx hb dL_law_808 (by decide) ?_
  refine lv_iadd hx hb dL_law_809 ?_
  refine b_vi (v := nI (i + 2)) (nI_add i 2) ?_
  refine va_sld hx hb hX hbl hbA hS (vp_in_nI (by omega) (by omega)) dL_law_810 ?_
  refine b_vi (v := xs (i + 2)) (by rw [nI_clamp (by omega)]) ?_
  refine L_calli2 (ci := 5) (r := (RX5, TX5, 12)) (As := [.int (xs (i + 1)), .int (xs (i + 2))]) (rest := []) (A := fun a : Nat => s.heap.size ≤ a) ⟨hx, hb, hml, hownL, htsL⟩ (g_X5_late_0 l D cy q hq z hIC (xs (i + 1)) (xs (i + 2))) (cwV 2 htsL gL_law_X5_late rfl rfl rfl (by decide +kernel) ⟨Nat.le_of_ble_eq_true rfl, Nat.le_of_ble_eq_true rfl⟩) hK hZ hPC (by decide) rfl rfl hqA hA hS rfl hl.1 rfl (Nat.le_of_ble_eq_true rfl) ⟨by decide, by decide⟩ dL_law_811 (fun v1 z1 H1 locs1 hp1 hPC1 hk1 hS => ?_)
  refine lv_pop hx hb dL_law_814 rfl ?_
  refine lv_aload_n hx hb dL_law_815 rfl (lv_at hl 1 rfl) ?_
  refine lv_aload_n hx hb dL_law_816 rfl (lv_at hl 3 rfl) ?_
  refine lv_iload_n hx hb dL_law_817 rfl (lv_at hl 0 rfl) ?_
  refine lv_iconst (v := 1) hx hb dL_law_818 (by decide) ?_
  refine lv_iadd hx hb dL_law_819 ?_
  refine b_vi (v := nI (i + 1)) (nI_add i 1) ?_
  refine va_sld hx hb hX hbl hbA hS (vp_in_nI (by omega) (by omega)) dL_law_820 ?_
  refine b_vi (v := xs (i + 1)) (by rw [nI_clamp (by omega)]) ?_
  refine lv_aload_n hx hb dL_law_821 rfl (lv_at hl 3 rfl) ?_
  refine lv_iload_n hx hb dL_law_822 rfl (lv_at hl 0 rfl) ?_
  refine lv_iconst (v := 2) hx hb dL_law_823 (by decide) ?_
  refine lv_iadd hx hb dL_law_824 ?_
  refine b_vi (v := nI (i + 2)) (nI_add i 2) ?_
  refine va_sld hx hb hX hbl hbA hS (vp_in_nI (by omega) (by omega)) dL_law_825 ?_
  refine b_vi (v := xs (i + 2)) (by rw [nI_clamp (by omega)]) ?_
  refine L_calli2 (ci := 6) (r := (RX6, TX6, 29)) (As := [.int (xs (i + 1)), .int (xs (i + 2))]) (rest := []) (A := fun a : Nat => s.heap.size ≤ a) ⟨hx, hb, hml, hownL, htsL⟩ (g_X6_late_0 l D cy r hrj zm hIM (xs (i + 1)) (xs (i + 2))) (cwV 2 htsL gL_law_X6_late rfl rfl rfl (by decide +kernel) ⟨Nat.le_of_ble_eq_true rfl, Nat.le_of_ble_eq_true rfl⟩) hK hZ (kp_of hPM hqr hk1) (by decide) rfl rfl hrA hA hS rfl hl.1 rfl (Nat.le_of_ble_eq_true rfl) ⟨by decide, by decide⟩ dL_law_826 (fun v2 zm1 H2 locs2 hp2 hPM2 hk2 hS => ?_)
  refine lv_pop hx hb dL_law_829 rfl ?_
  refine lv_goto (tgt := 1116) hx hb dL_law_830 (by decide) ?_
  exact kk z1 zm1 H2 locs2 ⟨hK, hZ, kp_of hPC1 (fun i j hi hj q => hqr j i hj hi q.symm) hk2, hPM2, hp1.1.1, hp2.1.1, hq, hrj, hqA, hrA, hqr, hS, ⟨⟨⟨⟨(hp1.1.2.1 0 (by decide)).trans (hR.1.1.1.1.trans (hp2.1.2.1 0 (by decide)).symm), (hp1.1.2.1 6 (by decide)).trans (hR.1.1.1.2.1.trans (hp2.1.2.1 4 (by decide)).symm), (fun q => ((hp1.1.2.1 3 (by decide)).trans (hR.1.1.1.2.2 (by rw [← (hp1.1.2.1 6 (by decide))]; exact q))).trans (congrFun (hp2.1.2.2.1 8 (by decide)) 0).symm)⟩, (fun i hi => (congrFun (hp1.1.2.2.1 7 (by decide)) i).trans ((hR.1.1.2.1 i hi).trans (congrFun (hp2.1.2.2.1 3 (by decide)) i).symm)), (fun q i hi => (congrFun (hp1.1.2.2.1 21 (by decide)) i).trans ((hR.1.1.2.2 (by rw [← (hp1.1.2.1 6 (by decide))]; exact q) i hi).trans (congrFun (hp2.1.2.2.1 8 (by decide)) (36 + i)).symm))⟩, (by rw [(hp1.1.2.1 0 (by decide))]; exact LdI_cg (by have := iv_nat (IvC_s0 hIC) (by decide); have := (IvC_s0 hIC).2; omega) (fun i _ => congrFun (hp1.1.2.2.1 7 (by decide)) i) (fun i _ => congrFun (hp1.1.2.2.1 8 (by decide)) i) hR.1.2.1), (fun q => (by rw [(hp1.1.2.1 3 (by decide))]; exact LdI_cg (by have := iv_nat (IvC_s3 hIC) (by decide); have := (IvC_s3 hIC).2; omega) (fun i _ => congrFun (hp1.1.2.2.1 21 (by decide)) i) (fun i _ => congrFun (hp1.1.2.2.1 22 (by decide)) i) (hR.1.2.2 (by rw [← (hp1.1.2.1 6 (by decide))]; exact q))))⟩, (hp1.1.2.1 7 (by decide)).trans (hR.2.1.trans (hp2.1.2.1 3 (by decide)).symm), (fun i hi => (congrFun (hp1.1.2.2.1 30 (by decide)) i).trans ((hR.2.2 i (by rw [← (hp1.1.2.1 7 (by decide))]; exact hi)).trans (congrFun (hp2.1.2.2.1 7 (by decide)) i).symm))⟩⟩
set_option maxHeartbeats 4000000 in
set_option maxRecDepth 100000 in
theorem law_c25 {p : Program} {e : Env} {s : State} {m : MethodId} {below : List Frame} {meth : Method} {c : Code} (l : Launch) {b L : Nat} {xs : Nat → Int32} (hL : L ≤ 2560) (C0 : lw_At p s m meth c b L xs) {i : Nat} (hi : i + 5 ≤ L) {D : va_G} {cy : Nat → ClassId} {q : Nat → Nat} {z : zS} {r : Nat → Nat} {zm : zS} {H : Heap} {locs : List Loc} (hI : lwJ D cy q z r zm s H locs) {ls : Array Slot} (hl : lv_has ls 4 [(3, .int (nI i)), (2, .ref (r 0)), (1, .ref (q 0)), (0, .ref b)]) (kk : ∀ (z zm : zS) (H : Heap) (locs : List Loc), lwJ D cy q z r zm s H locs → W p l e room_1 s m #[Value.ref b] below meth c H locs 89 47199 (lw_Z below #[Value.ref b] s) (F0 m 1116 ls [])) : W p l e room_1 s m #[Value.ref b] below meth c H locs 89 47199 (lw_Z below #[Value.ref b] s) (F0 m 833 ls []) := by
  obtain ⟨hx, hb, hr, hml, hown, hts, hX, hbl, hlocks, hgv⟩ := id C0
  have hownL : s.vm.findClass RL = some m.cls := hown
  have htsL : ∀ w ∈ wsL_law, w.before #[Value.ref b] s = true := fun w h => hts w (inL_law w h)
  have hbA : ¬ (fun a : Nat => s.heap.size ≤ a) b := Nat.not_le.mpr hbl
  have hA : ∀ a : Nat, s.heap.size ≤ a → (fun a : Nat => s.heap.size ≤ a) a := fun _ h => h
  obtain ⟨hK, hZ, hPC, hPM, hIC, hIM, hq, hrj, hqA, hrA, hqr, hS, hR⟩ := hI
  refine lv_aload_n hx hb dL_law_833 rfl (lv_at hl 2 rfl) ?_
  refine lv_aload_n hx hb dL_law_834 rfl (lv_at hl 3 rfl) ?_
  refine lv_iload_n hx hb dL_law_835 rfl (lv_at hl 0 rfl) ?_
  refine lv_iconst (v := 1) hx hb dL_law_836 (by decide) ?_
  refine lv_iadd hx hb dL_law_837 ?_
  refine b_vi (v := nI (i + 1)) (nI_add i 1) ?_
  refine va_sld hx hb hX hbl hbA hS (vp_in_nI (by omega) (by omega)) dL_law_838 ?_
  refine b_vi (v := xs (i + 1)) (by rw [nI_clamp (by omega)]) ?_
  refine L_calli2 (ci := 5) (r := (RX5, TX5, 12)) (As := [.int (xs (i + 1))]) (rest := []) (A := fun a : Nat => s.heap.size ≤ a) ⟨hx, hb, hml, hownL, htsL⟩ (g_X5_rule_0 l D cy q hq z hIC (xs (i + 1))) (cwV 1 htsL gL_law_X5_rule rfl rfl rfl (by decide +kernel) ⟨Nat.le_of_ble_eq_true rfl, Nat.le_of_ble_eq_true rfl⟩) hK hZ hPC (by decide) rfl rfl hqA hA hS rfl hl.1 rfl (Nat.le_of_ble_eq_true rfl) ⟨by decide, by decide⟩ dL_law_839 (fun v1 z1 H1 locs1 hp1 hPC1 hk1 hS => ?_)
  refine lv_pop hx hb dL_law_842 rfl ?_
  refine lv_aload_n hx hb dL_law_843 rfl (lv_at hl 1 rfl) ?_
  refine lv_aload_n hx hb dL_law_844 rfl (lv_at hl 3 rfl) ?_
  refine lv_iload_n hx hb dL_law_845 rfl (lv_at hl 0 rfl) ?_
  refine lv_iconst (v := 1) hx hb dL_law_846 (by decide) ?_
  refine lv_iadd hx hb dL_law_847 ?_
  refine b_vi (v := nI (i + 1)) (nI_add i 1) ?_
  refine va_sld hx hb hX hbl hbA hS (vp_in_nI (by omega) (by omega)) dL_law_848 ?_
  refine b_vi (v := xs (i + 1)) (by rw [nI_clamp (by omega)]) ?_
  refine L_calli2 (ci := 6) (r := (RX6, TX6, 29)) (As := [.int (xs (i + 1))]) (rest := []) (A := fun a : Nat => s.heap.size ≤ a) ⟨hx, hb, hml, hownL, htsL⟩ (g_X6_rule_0 l D cy r hrj zm hIM (xs (i + 1))) (cwV 1 htsL gL_law_X6_rule rfl rfl rfl (by decide +kernel) ⟨Nat.le_of_ble_eq_true rfl, Nat.le_of_ble_eq_true rfl⟩) hK hZ (kp_of hPM hqr hk1) (by decide) rfl rfl hrA hA hS rfl hl.1 rfl (Nat.le_of_ble_eq_true rfl) ⟨by decide, by decide⟩ dL_law_849 (fun v2 zm1 H2 locs2 hp2 hPM2 hk2 hS => ?_)
  refine lv_pop hx hb dL_law_852 rfl ?_
  refine lv_goto (tgt := 1116) hx hb dL_law_853 (by decide) ?_
  exact kk z1 zm1 H2 locs2 ⟨hK, hZ, kp_of hPC1 (fun i j hi hj q => hqr j i hj hi q.symm) hk2, hPM2, hp1.1.1, hp2.1.1, hq, hrj, hqA, hrA, hqr, hS, ⟨⟨⟨⟨(hp1.1.2.1 0 (by decide)).trans (hR.1.1.1.1.trans (hp2.1.2.1 0 (by decide)).symm), (hp1.1.2.1 6 (by decide)).trans (hR.1.1.1.2.1.trans (hp2.1.2.1 4 (by decide)).symm), (fun q => ((hp1.1.2.1 3 (by decide)).trans (hR.1.1.1.2.2 (by rw [← (hp1.1.2.1 6 (by decide))]; exact q))).trans (congrFun (hp2.1.2.2.1 8 (by decide)) 0).symm)⟩, (fun i hi => (congrFun (hp1.1.2.2.1 7 (by decide)) i).trans ((hR.1.1.2.1 i hi).trans (congrFun (hp2.1.2.2.1 3 (by decide)) i).symm)), (fun q i hi => (congrFun (hp1.1.2.2.1 21 (by decide)) i).trans ((hR.1.1.2.2 (by rw [← (hp1.1.2.1 6 (by decide))]; exact q) i hi).trans (congrFun (hp2.1.2.2.1 8 (by decide)) (36 + i)).symm))⟩, (by rw [(hp1.1.2.1 0 (by decide))]; exact LdI_cg (by have := iv_nat (IvC_s0 hIC) (by decide); have := (IvC_s0 hIC).2; omega) (fun i _ => congrFun (hp1.1.2.2.1 7 (by decide)) i) (fun i _ => congrFun (hp1.1.2.2.1 8 (by decide)) i) hR.1.2.1), (fun q => (by rw [(hp1.1.2.1 3 (by decide))]; exact LdI_cg (by have := iv_nat (IvC_s3 hIC) (by decide); have := (IvC_s3 hIC).2; omega) (fun i _ => congrFun (hp1.1.2.2.1 21 (by decide)) i) (fun i _ => congrFun (hp1.1.2.2.1 22 (by decide)) i) (hR.1.2.2 (by rw [← (hp1.1.2.1 6 (by decide))]; exact q))))⟩, (hp1.1.2.1 7 (by decide)).trans (hR.2.1.trans (hp2.1.2.1 3 (by decide)).symm), (fun i hi => (congrFun (hp1.1.2.2.1 30 (by decide)) i).trans ((hR.2.2 i (by rw [← (hp1.1.2.1 7 (by decide))]; exact hi)).trans (congrFun (hp2.1.2.2.1 7 (by decide)) i).symm))⟩⟩
set_option maxHeartbeats 4000000 in
set_option maxRecDepth 100000 in
theorem law_c26 {p : Program} {e : Env} {s : State} {m : MethodId} {below : List Frame} {meth : Method} {c : Code} (l : Launch) {b L : Nat} {xs : Nat → Int32} (hL : L ≤ 2560) (C0 : lw_At p s m meth c b L xs) {i : Nat} (hi : i + 5 ≤ L) {D : va_G} {cy : Nat → ClassId} {q : Nat → Nat} {z : zS} {r : Nat → Nat} {zm : zS} {H : Heap} {locs : List Loc} (hI : lwJ D cy q z r zm s H locs) {ls : Array Slot} (hl : lv_has ls 4 [(3, .int (nI i)), (2, .ref (r 0)), (1, .ref (q 0)), (0, .ref b)]) (kk : ∀ (z zm : zS) (H : Heap) (locs : List Loc), lwJ D cy q z r zm s H locs → W p l e room_1 s m #[Value.ref b] below meth c H locs 89 47199 (lw_Z below #[Value.ref b] s) (F0 m 1116 ls [])) : W p l e room_1 s m #[Value.ref b] below meth c H locs 89 47199 (lw_Z below #[Value.ref b] s) (F0 m 856 ls []) := by
  obtain ⟨hx, hb, hr, hml, hown, hts, hX, hbl, hlocks, hgv⟩ := id C0
  have hownL : s.vm.findClass RL = some m.cls := hown
  have htsL : ∀ w ∈ wsL_law, w.before #[Value.ref b] s = true := fun w h => hts w (inL_law w h)
  have hbA : ¬ (fun a : Nat => s.heap.size ≤ a) b := Nat.not_le.mpr hbl
  have hA : ∀ a : Nat, s.heap.size ≤ a → (fun a : Nat => s.heap.size ≤ a) a := fun _ h => h
  obtain ⟨hK, hZ, hPC, hPM, hIC, hIM, hq, hrj, hqA, hrA, hqr, hS, hR⟩ := hI
  refine lv_aload_n hx hb dL_law_856 rfl (lv_at hl 2 rfl) ?_
  refine L_calli2 (ci := 5) (r := (RX5, TX5, 12)) (As := []) (rest := []) (A := fun a : Nat => s.heap.size ≤ a) ⟨hx, hb, hml, hownL, htsL⟩ (g_X5_better_0 l D cy q hq z hIC ) (cwV 0 htsL gL_law_X5_better rfl rfl rfl (by decide +kernel) ⟨Nat.le_of_ble_eq_true rfl, Nat.le_of_ble_eq_true rfl⟩) hK hZ hPC (by decide) rfl rfl hqA hA hS rfl hl.1 rfl (Nat.le_of_ble_eq_true rfl) ⟨by decide, by decide⟩ dL_law_857 (fun v1 z1 H1 locs1 hp1 hPC1 hk1 hS => ?_)
  refine lv_pop hx hb dL_law_860 rfl ?_
  refine lv_aload_n hx hb dL_law_861 rfl (lv_at hl 1 rfl) ?_
  refine L_calli2 (ci := 6) (r := (RX6, TX6, 29)) (As := []) (rest := []) (A := fun a : Nat => s.heap.size ≤ a) ⟨hx, hb, hml, hownL, htsL⟩ (g_X6_better_0 l D cy r hrj zm hIM ) (cwV 0 htsL gL_law_X6_better rfl rfl rfl (by decide +kernel) ⟨Nat.le_of_ble_eq_true rfl, Nat.le_of_ble_eq_true rfl⟩) hK hZ (kp_of hPM hqr hk1) (by decide) rfl rfl hrA hA hS rfl hl.1 rfl (Nat.le_of_ble_eq_true rfl) ⟨by decide, by decide⟩ dL_law_862 (fun v2 zm1 H2 locs2 hp2 hPM2 hk2 hS => ?_)
  refine lv_pop hx hb dL_law_865 rfl ?_
  refine lv_goto (tgt := 1116) hx hb dL_law_866 (by decide) ?_
  exact kk z1 zm1 H2 locs2 ⟨hK, hZ, kp_of hPC1 (fun i j hi hj q => hqr j i hj hi q.symm) hk2, hPM2, hp1.1.1, hp2.1.1, hq, hrj, hqA, hrA, hqr, hS, ⟨⟨⟨⟨(hp1.1.2.1 0 (by decide)).trans (hR.1.1.1.1.trans (hp2.1.2.1 0 (by decide)).symm), (hp1.1.2.1 6 (by decide)).trans (hR.1.1.1.2.1.trans (hp2.1.2.1 4 (by decide)).symm), (fun q => ((hp1.1.2.1 3 (by decide)).trans (hR.1.1.1.2.2 (by rw [← (hp1.1.2.1 6 (by decide))]; exact q))).trans (congrFun (hp2.1.2.2.1 8 (by decide)) 0).symm)⟩, (fun i hi => (congrFun (hp1.1.2.2.1 7 (by decide)) i).trans ((hR.1.1.2.1 i hi).trans (congrFun (hp2.1.2.2.1 3 (by decide)) i).symm)), (fun q i hi => (congrFun (hp1.1.2.2.1 21 (by decide)) i).trans ((hR.1.1.2.2 (by rw [← (hp1.1.2.1 6 (by decide))]; exact q) i hi).trans (congrFun (hp2.1.2.2.1 8 (by decide)) (36 + i)).symm))⟩, (by rw [(hp1.1.2.1 0 (by decide))]; exact LdI_cg (by have := iv_nat (IvC_s0 hIC) (by decide); have := (IvC_s0 hIC).2; omega) (fun i _ => congrFun (hp1.1.2.2.1 7 (by decide)) i) (fun i _ => congrFun (hp1.1.2.2.1 8 (by decide)) i) hR.1.2.1), (fun q => (by rw [(hp1.1.2.1 3 (by decide))]; exact LdI_cg (by have := iv_nat (IvC_s3 hIC) (by decide); have := (IvC_s3 hIC).2; omega) (fun i _ => congrFun (hp1.1.2.2.1 21 (by decide)) i) (fun i _ => congrFun (hp1.1.2.2.1 22 (by decide)) i) (hR.1.2.2 (by rw [← (hp1.1.2.1 6 (by decide))]; exact q))))⟩, (hp1.1.2.1 7 (by decide)).trans (hR.2.1.trans (hp2.1.2.1 3 (by decide)).symm), (fun i hi => (congrFun (hp1.1.2.2.1 30 (by decide)) i).trans ((hR.2.2 i (by rw [← (hp1.1.2.1 7 (by decide))]; exact hi)).trans (congrFun (hp2.1.2.2.1 7 (by decide)) i).symm))⟩⟩
