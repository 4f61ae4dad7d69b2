set_option maxHeartbeats 4000000 in
set_option maxRecDepth 100000 in
theorem law_c9 {p : Program} {e : Env} {s : State} {m : MethodId} {below : List Frame} {meth : Method} {c : Code} (l : Launch) {b L : Nat} {xs : Nat → Int32} (hL : L ≤ 2560) (C0 : lw_At p s m meth c b L xs) {i : Nat} (hi : i + 5 ≤ L) {D : va_G} {cy : Nat → ClassId} {q : Nat → Nat} {z : zS} {r : Nat → Nat} {zm : zS} {H : Heap} {locs : List Loc} (hI : lwJ D cy q z r zm s H locs) {ls : Array Slot} (hl : lv_has ls 4 [(3, .int (nI i)), (2, .ref (r 0)), (1, .ref (q 0)), (0, .ref b)]) (kk : ∀ (z zm : zS) (H : Heap) (locs : List Loc), lwJ D cy q z r zm s H locs → W p l e room_1 s m #[Value.ref b] below meth c H locs 89 47199 (lw_Z below #[Value.ref b] s) (F0 m 1116 ls [])) : W p l e room_1 s m #[Value.ref b] below meth c H locs 89 47199 (lw_Z below #[Value.ref b] s) (F0 m 469 ls []) := by
  obtain ⟨hx, hb, hr, hml, hown, hts, hX, hbl, hlocks, hgv⟩ := id C0
  have hownL : s.vm.findClass RL = some m.cls := hown
  have htsL : ∀ w ∈ wsL_law, w.before #[Value.ref b] s = true := fun w h => hts w (inL_law w h)
  have hbA : ¬ (fun a : Nat => s.heap.size ≤ a) b := Nat.not_le.mpr hbl
  have hA : ∀ a : Nat, s.heap.size ≤ a → (fun a : Nat => s.heap.size ≤ a) a := fun _ h => h
  obtain ⟨hK, hZ, hPC, hPM, hIC, hIM, hq, hrj, hqA, hrA, hqr, hS, hR⟩ := hI
  refine lv_aload_n hx hb dL_law_469 rfl (lv_at hl 2 rfl) ?_
  refine lv_aload_n hx hb dL_law_470 rfl (lv_at hl 3 rfl) ?_
  refine lv_iload_n hx hb dL_law_471 rfl (lv_at hl 0 rfl) ?_
  refine lv_iconst (v := 1) hx hb dL_law_472 (by decide) ?_
  refine lv_iadd hx hb dL_law_473 ?_
  refine b_vi (v := nI (i + 1)) (nI_add i 1) ?_
  refine va_sld hx hb hX hbl hbA hS (vp_in_nI (by omega) (by omega)) dL_law_474 ?_
  refine b_vi (v := xs (i + 1)) (by rw [nI_clamp (by omega)]) ?_
  refine L_calli2 (ci := 5) (r := (RX5, TX5, 12)) (As := [.int (xs (i + 1))]) (rest := []) (A := fun a : Nat => s.heap.size ≤ a) ⟨hx, hb, hml, hownL, htsL⟩ (g_X5_beat_0 l D cy q hq z hIC (xs (i + 1))) (cwV 1 htsL gL_law_X5_beat rfl rfl rfl (by decide +kernel) ⟨Nat.le_of_ble_eq_true rfl, Nat.le_of_ble_eq_true rfl⟩) hK hZ hPC (by decide) rfl rfl hqA hA hS rfl hl.1 rfl (Nat.le_of_ble_eq_true rfl) ⟨by decide, by decide⟩ dL_law_475 (fun v1 z1 H1 locs1 hp1 hPC1 hk1 hS => ?_)
  refine lv_pop hx hb dL_law_478 rfl ?_
  refine lv_aload_n hx hb dL_law_479 rfl (lv_at hl 1 rfl) ?_
  refine lv_aload_n hx hb dL_law_480 rfl (lv_at hl 3 rfl) ?_
  refine lv_iload_n hx hb dL_law_481 rfl (lv_at hl 0 rfl) ?_
  refine lv_iconst (v := 1) hx hb dL_law_482 (by decide) ?_
  refine lv_iadd hx hb dL_law_483 ?_
  refine b_vi (v := nI (i + 1)) (nI_add i 1) ?_
  refine va_sld hx hb hX hbl hbA hS (vp_in_nI (by omega) (by omega)) dL_law_484 ?_
  refine b_vi (v := xs (i + 1)) (by rw [nI_clamp (by omega)]) ?_
  refine L_calli2 (ci := 6) (r := (RX6, TX6, 29)) (As := [.int (xs (i + 1))]) (rest := []) (A := fun a : Nat => s.heap.size ≤ a) ⟨hx, hb, hml, hownL, htsL⟩ (g_X6_beat_0 l D cy r hrj zm hIM (xs (i + 1))) (cwV 1 htsL gL_law_X6_beat rfl rfl rfl (by decide +kernel) ⟨Nat.le_of_ble_eq_true rfl, Nat.le_of_ble_eq_true rfl⟩) hK hZ (kp_of hPM hqr hk1) (by decide) rfl rfl hrA hA hS rfl hl.1 rfl (Nat.le_of_ble_eq_true rfl) ⟨by decide, by decide⟩ dL_law_485 (fun v2 zm1 H2 locs2 hp2 hPM2 hk2 hS => ?_)
  refine lv_pop hx hb dL_law_488 rfl ?_
  refine lv_goto (tgt := 1116) hx hb dL_law_489 (by decide) ?_
  exact kk z1 zm1 H2 locs2 ⟨hK, hZ, kp_of hPC1 (fun i j hi hj q => hqr j i hj hi q.symm) hk2, hPM2, hp1.1.1, hp2.1.1, hq, hrj, hqA, hrA, hqr, hS, ⟨⟨⟨⟨(hp1.1.2.1 0 (by decide)).trans (hR.1.1.1.1.trans (hp2.1.2.1 0 (by decide)).symm), (hp1.1.2.1 6 (by decide)).trans (hR.1.1.1.2.1.trans (hp2.1.2.1 4 (by decide)).symm), (fun q => ((hp1.1.2.1 3 (by decide)).trans (hR.1.1.1.2.2 (by rw [← (hp1.1.2.1 6 (by decide))]; exact q))).trans (congrFun (hp2.1.2.2.1 8 (by decide)) 0).symm)⟩, (fun i hi => (congrFun (hp1.1.2.2.1 7 (by decide)) i).trans ((hR.1.1.2.1 i hi).trans (congrFun (hp2.1.2.2.1 3 (by decide)) i).symm)), (fun q i hi => (congrFun (hp1.1.2.2.1 21 (by decide)) i).trans ((hR.1.1.2.2 (by rw [← (hp1.1.2.1 6 (by decide))]; exact q) i hi).trans (congrFun (hp2.1.2.2.1 8 (by decide)) (36 + i)).symm))⟩, (by rw [(hp1.1.2.1 0 (by decide))]; exact LdI_cg (by have := iv_nat (IvC_s0 hIC) (by decide); have := (IvC_s0 hIC).2; omega) (fun i _ => congrFun (hp1.1.2.2.1 7 (by decide)) i) (fun i _ => congrFun (hp1.1.2.2.1 8 (by decide)) i) hR.1.2.1), (fun q => (by rw [(hp1.1.2.1 3 (by decide))]; exact LdI_cg (by have := iv_nat (IvC_s3 hIC) (by decide); have := (IvC_s3 hIC).2; omega) (fun i _ => congrFun (hp1.1.2.2.1 21 (by decide)) i) (fun i _ => congrFun (hp1.1.2.2.1 22 (by decide)) i) (hR.1.2.2 (by rw [← (hp1.1.2.1 6 (by decide))]; exact q))))⟩, (hp1.1.2.1 7 (by decide)).trans (hR.2.1.trans (hp2.1.2.1 3 (by decide)).symm), (fun i hi => (congrFun (hp1.1.2.2.1 30 (by decide)) i).trans ((hR.2.2 i (by rw [← (hp1.1.2.1 7 (by decide))]; exact hi)).trans (congrFun (hp2.1.2.2.1 7 (by decide)) i).symm))⟩⟩
set_option maxHeartbeats 4000000 in
set_option maxRecDepth 100000 in
theorem law_c10 {p : Program} {e : Env} {s : State} {m : MethodId} {below : List Frame} {meth : Method} {c : Code} (l : Launch) {b L : Nat} {xs : Nat → Int32} (hL : L ≤ 2560) (C0 : lw_At p s m meth c b L xs) {i : Nat} (hi : i + 5 ≤ L) {D : va_G} {cy : Nat → ClassId} {q : Nat → Nat} {z : zS} {r : Nat → Nat} {zm : zS} {H : Heap} {locs : List Loc} (hI : lwJ D cy q z r zm s H locs) {ls : Array Slot} (hl : lv_has ls 4 [(3, .int (nI i)), (2, .ref (r 0)), (1, .ref (q 0)), (0, .ref b)]) (kk : ∀ (z zm : zS) (H : Heap) (locs : List Loc), lwJ D cy q z r zm s H locs → W p l e room_1 s m #[Value.ref b] below meth c H locs 89 47199 (lw_Z below #[Value.ref b] s) (F0 m 1116 ls [])) : W p l e room_1 s m #[Value.ref b] below meth c H locs 89 47199 (lw_Z below #[Value.ref b] s) (F0 m 492 ls []) := by
  obtain ⟨hx, hb, hr, hml, hown, hts, hX, hbl, hlocks, hgv⟩ := id C0
  have hownL : s.vm.findClass RL = some m.cls := hown
  have htsL : ∀ w ∈ wsL_law, w.before #[Value.ref b] s = true := fun w h => hts w (inL_law w h)
  have hbA : ¬ (fun a : Nat => s.heap.size ≤ a) b := Nat.not_le.mpr hbl
  have hA : ∀ a : Nat, s.heap.size ≤ a → (fun a : Nat => s.heap.size ≤ a) a := fun _ h => h
  obtain ⟨hK, hZ, hPC, hPM, hIC, hIM, hq, hrj, hqA, hrA, hqr, hS, hR⟩ := hI
  refine lv_aload_n hx hb dL_law_492 rfl (lv_at hl 2 rfl) ?_
  refine lv_aload_n hx hb dL_law_493 rfl (lv_at hl 3 rfl) ?_
  refine lv_iload_n hx hb dL_law_494 rfl (lv_at hl 0 rfl) ?_
  refine lv_iconst (v := 1) hx hb dL_law_495 (by decide) ?_
  refine lv_iadd hx hb dL_law_496 ?_
  refine b_vi (v := nI (i + 1)) (nI_add i 1) ?_
  refine va_sld hx hb hX hbl hbA hS (vp_in_nI (by omega) (by omega)) dL_law_497 ?_
  refine b_vi (v := xs (i + 1)) (by rw [nI_clamp (by omega)]) ?_
  refine lv_aload_n hx hb dL_law_498 rfl (lv_at hl 3 rfl) ?_
  refine lv_iload_n hx hb dL_law_499 rfl (lv_at hl 0 rfl) ?_
  refine lv_iconst (v := 2) hx hb dL_law_500 (by decide) ?_
  refine lv_iadd hx hb dL_law_501 ?_
  refine b_vi (v := nI (i + 2)) (nI_add i 2) ?_
  refine va_sld hx hb hX hbl hbA hS (vp_in_nI (by omega) (by omega)) dL_law_502 ?_
  refine b_vi (v := xs (i + 2)) (by rw [nI_clamp (by omega)]) ?_
  refine L_calli2 (ci := 5) (r := (RX5, TX5, 12)) (As := [.int (xs (i + 1)), .int (xs (i + 2))]) (rest := []) (A := fun a : Nat => s.heap.size ≤ a) ⟨hx, hb, hml, hownL, htsL⟩ (g_X5_of_0 l D cy q hq z hIC (xs (i + 1)) (xs (i + 2))) (cwV 2 htsL gL_law_X5_of rfl rfl rfl (by decide +kernel) ⟨Nat.le_of_ble_eq_true rfl, Nat.le_of_ble_eq_true rfl⟩) hK hZ hPC (by decide) rfl rfl hqA hA hS rfl hl.1 rfl (Nat.le_of_ble_eq_true rfl) ⟨by decide, by decide⟩ dL_law_503 (fun v1 z1 H1 locs1 hp1 hPC1 hk1 hS => ?_)
  refine lv_pop hx hb dL_law_506 rfl ?_
  refine lv_aload_n hx hb dL_law_507 rfl (lv_at hl 1 rfl) ?_
  refine lv_aload_n hx hb dL_law_508 rfl (lv_at hl 3 rfl) ?_
  refine lv_iload_n hx hb dL_law_509 rfl (lv_at hl 0 rfl) ?_
  refine lv_iconst (v := 1) hx hb dL_law_510 (by decide) ?_
  refine lv_iadd hx hb dL_law_511 ?_
  refine b_vi (v := nI (i + 1)) (nI_add i 1) ?_
  refine va_sld hx hb hX hbl hbA hS (vp_in_nI (by omega) (by omega)) dL_law_512 ?_
  refine b_vi (v := xs (i + 1)) (by rw [nI_clamp (by omega)]) ?_
  refine lv_aload_n hx hb dL_law_513 rfl (lv_at hl 3 rfl) ?_
  refine lv_iload_n hx hb dL_law_514 rfl (lv_at hl 0 rfl) ?_
  refine lv_iconst (v := 2) hx hb dL_law_515 (by decide) ?_
  refine lv_iadd hx hb dL_law_516 ?_
  refine b_vi (v := nI (i + 2)) (nI_add i 2) ?_
  refine va_sld hx hb hX hbl hbA hS (vp_in_nI (by omega) (by omega)) dL_law_517 ?_
  refine b_vi (v := xs (i + 2)) (by rw [nI_clamp (by omega)]) ?_
  refine L_calli2 (ci := 6) (r := (RX6, TX6, 29)) (As := [.int (xs (i + 1)), .int (xs (i + 2))]) (rest := []) (A := fun a : Nat => s.heap.size ≤ a) ⟨hx, hb, hml, hownL, htsL⟩ (g_X6_of_0 l D cy r hrj zm hIM (xs (i + 1)) (xs (i + 2))) (cwV 2 htsL gL_law_X6_of rfl rfl rfl (by decide +kernel) ⟨Nat.le_of_ble_eq_true rfl, Nat.le_of_ble_eq_true rfl⟩) hK hZ (kp_of hPM hqr hk1) (by decide) rfl rfl hrA hA hS rfl hl.1 rfl (Nat.le_of_ble_eq_true rfl) ⟨by decide, by decide⟩ dL_law_518 (fun v2 zm1 H2 locs2 hp2 hPM2 hk2 hS => ?_)
  refine lv_pop hx hb dL_law_521 rfl ?_
  refine lv_goto (tgt := 1116) hx hb dL_law_522 (by decide) ?_
  exact kk z1 zm1 H2 locs2 ⟨hK, hZ, kp_of hPC1 (fun i j hi hj q => hqr j i hj hi q.symm) hk2, hPM2, hp1.1.1, hp2.1.1, hq, hrj, hqA, hrA, hqr, hS, ⟨⟨⟨⟨(hp1.1.2.1 0 (by decide)).trans (hR.1.1.1.1.trans (hp2.1.2.1 0 (by decide)).symm), (hp1.1.2.1 6 (by decide)).trans (hR.1.1.1.2.1.trans (hp2.1.2.1 4 (by decide)).symm), (fun q => ((hp1.1.2.1 3 (by decide)).trans (hR.1.1.1.2.2 (by rw [← (hp1.1.2.1 6 (by decide))]; exact q))).trans (congrFun (hp2.1.2.2.1 8 (by decide)) 0).symm)⟩, (fun i hi => (congrFun (hp1.1.2.2.1 7 (by decide)) i).trans ((hR.1.1.2.1 i hi).trans (congrFun (hp2.1.2.2.1 3 (by decide)) i).symm)), (fun q i hi => (congrFun (hp1.1.2.2.1 21 (by decide)) i).trans ((hR.1.1.2.2 (by rw [← (hp1.1.2.1 6 (by decide))]; exact q) i hi).trans (congrFun (hp2.1.2.2.1 8 (by decide)) (36 + i)).symm))⟩, (by rw [(hp1.1.2.1 0 (by decide))]; exact LdI_cg (by have := iv_nat (IvC_s0 hIC) (by decide); have := (IvC_s0 hIC).2; omega) (fun i _ => congrFun (hp1.1.2.2.1 7 (by decide)) i) (fun i _ => congrFun (hp1.1.2.2.1 8 (by decide)) i) hR.1.2.1), (fun q => (by rw [(hp1.1.2.1 3 (by decide))]; exact LdI_cg (by have := iv_nat (IvC_s3 hIC) (by decide); have := (IvC_s3 hIC).2; omega) (fun i _ => congrFun (hp1.1.2.2.1 21 (by decide)) i) (fun i _ => congrFun (hp1.1.2.2.1 22 (by decide)) i) (hR.1.2.2 (by rw [← (hp1.1.2.1 6 (by decide))]; exact q))))⟩, (hp1.1.2.1 7 (by decide)).trans (hR.2.1.trans (hp2.1.2.1 3 (by decide)).symm), (fun i hi => (congrFun (hp1.1.2.2.1 30 (by decide)) i).trans ((hR.2.2 i (by rw [← (hp1.1.2.1 7 (by decide))]; exact hi)).trans (congrFun (hp2.1.2.2.1 7 (by decide)) i).symm))⟩⟩
set_option maxHeartbeats 4000000 in
set_option maxRecDepth 100000 in
theorem law_c11 {p : Program} {e : Env} {s : State} {m : MethodId} {below : List Frame} {meth : Method} {c : Code} (l : Launch) {b L : Nat} {xs : Nat → Int32} (hL : L ≤ 2560) (C0 : lw_At p s m meth c b L xs) {i : Nat} (hi : i + 5 ≤ L) {D : va_G} {cy : Nat → ClassId} {q : Nat → Nat} {z : zS} {r : Nat → Nat} {zm : zS} {H : Heap} {locs : List Loc} (hI : lwJ D cy q z r zm s H locs) {ls : Array Slot} (hl : lv_has ls 4 [(3, .int (nI i)), (2, .ref (r 0)), (1, .ref (q 0)), (0, .ref b)]) (kk : ∀ (z zm : zS) (H : Heap) (locs : List Loc), lwJ D cy q z r zm s H locs → W p l e room_1 s m #[Value.ref b] below meth c H locs 89 47199 (lw_Z below #[Value.ref b] s) (F0 m 1116 ls [])) : W p l e room_1 s m #[Value.ref b] below meth c H locs 89 47199 (lw_Z below #[Value.ref b] s) (F0 m 525 ls []) := by
  obtain ⟨hx, hb, hr, hml, hown, hts, hX, hbl, hlocks, hgv⟩ := id C0
  have hownL : s.vm.findClass RL = some m.cls := hown
  have htsL : ∀ w ∈ wsL_law, w.before #[Value.ref b] s = true := fun w h => hts w (inL_law w h)
  have hbA : ¬ (fun a : Nat => s.heap.size ≤ a) b := Nat.not_le.mpr hbl
  have hA : ∀ a : Nat, s.heap.size ≤ a → (fun a : Nat => s.heap.size ≤ a) a := fun _ h => h
  obtain ⟨hK, hZ, hPC, hPM, hIC, hIM, hq, hrj, hqA, hrA, hqr, hS, hR⟩ := hI
  refine lv_aload_n hx hb dL_law_525 rfl (lv_at hl 2 rfl) ?_
  refine lv_aload_n hx hb dL_law_526 rfl (lv_at hl 3 rfl) ?_
  refine lv_iload_n hx hb dL_law_527 rfl (lv_at hl 0 rfl) ?_
  refine lv_iconst (v := 1) hx hb dL_law_528 (by decide) ?_
  refine lv_iadd hx hb dL_law_529 ?_
  refine b_vi (v := nI (i + 1)) (nI_add i 1) ?_
  refine va_sld hx hb hX hbl hbA hS (vp_in_nI (by omega) (by omega)) dL_law_530 ?_
  refine b_vi (v := xs (i + 1)) (by rw [nI_clamp (by omega)]) ?_
  refine lv_aload_n hx hb dL_law_531 rfl (lv_at hl 3 rfl) ?_
  refine lv_iload_n hx hb dL_law_532 rfl (lv_at hl 0 rfl) ?_
  refine lv_iconst (v := 2) hx hb dL_law_533 (by decide) ?_
  refine lv_iadd hx hb dL_law_534 ?_
  refine b_vi (v := nI (i + 2)) (nI_add i 2) ?_
  refine va_sld hx hb hX hbl hbA hS (vp_in_nI (by omega) (by omega)) dL_law_535 ?_
  refine b_vi (v := xs (i + 2)) (by rw [nI_clamp (by omega)]) ?_
  refine L_calli2 (ci := 5) (r := (RX5, TX5, 12)) (As := [.int (xs (i + 1)), .int (xs (i + 2))]) (rest := []) (A := fun a : Nat => s.heap.size ≤ a) ⟨hx, hb, hml, hownL, htsL⟩ (g_X5_put_0 l D cy q hq z hIC (xs (i + 1)) (xs (i + 2))) (cwV 2 htsL gL_law_X5_put rfl rfl rfl (by decide +kernel) ⟨Nat.le_of_ble_eq_true rfl, Nat.le_of_ble_eq_true rfl⟩) hK hZ hPC (by decide) rfl rfl hqA hA hS rfl hl.1 rfl (Nat.le_of_ble_eq_true rfl) ⟨by decide, by decide⟩ dL_law_536 (fun v1 z1 H1 locs1 hp1 hPC1 hk1 hS => ?_)
  refine lv_pop hx hb dL_law_539 rfl ?_
  refine lv_aload_n hx hb dL_law_540 rfl (lv_at hl 1 rfl) ?_
  refine lv_aload_n hx hb dL_law_541 rfl (lv_at hl 3 rfl) ?_
  refine lv_iload_n hx hb dL_law_542 rfl (lv_at hl 0 rfl) ?_
  refine lv_iconst (v := 1) hx hb dL_law_543 (by decide) ?_
  refine lv_iadd hx hb dL_law_544 ?_
  refine b_vi (v := nI (i + 1)) (nI_add i 1) ?_
  refine va_sld hx hb hX hbl hbA hS (vp_in_nI (by omega) (by omega)) dL_law_545 ?_
  refine b_vi (v := xs (i + 1)) (by rw [nI_clamp (by omega)]) ?_
  refine lv_aload_n hx hb dL_law_546 rfl (lv_at hl 3 rfl) ?_
  refine lv_iload_n hx hb dL_law_547 rfl (lv_at hl 0 rfl) ?_
  refine lv_iconst (v := 2) hx hb dL_law_548 (by decide) ?_
  refine lv_iadd hx hb dL_law_549 ?_
  refine b_vi (v := nI (i + 2)) (nI_add i 2) ?_
  refine va_sld hx hb hX hbl hbA hS (vp_in_nI (by omega) (by omega)) dL_law_550 ?_
  refine b_vi (v := xs (i + 2)) (by rw [nI_clamp (by omega)]) ?_
  refine L_calli2 (ci := 6) (r := (RX6, TX6, 29)) (As := [.int (xs (i + 1)), .int (xs (i + 2))]) (rest := []) (A := fun a : Nat => s.heap.size ≤ a) ⟨hx, hb, hml, hownL, htsL⟩ (g_X6_put_0 l D cy r hrj zm hIM (xs (i + 1)) (xs (i + 2))) (cwV 2 htsL gL_law_X6_put rfl rfl rfl (by decide +kernel) ⟨Nat.le_of_ble_eq_true rfl, Nat.le_of_ble_eq_true rfl⟩) hK hZ (kp_of hPM hqr hk1) (by decide) rfl rfl hrA hA hS rfl hl.1 rfl (Nat.le_of_ble_eq_true rfl) ⟨by decide, by decide⟩ dL_law_551 (fun v2 zm1 H2 locs2 hp2 hPM2 hk2 hS => ?_)
  refine lv_pop hx hb dL_law_554 rfl ?_
  refine lv_goto (tgt := 1116) hx hb dL_law_555 (by decide) ?_
  exact kk z1 zm1 H2 locs2 ⟨hK, hZ, kp_of hPC1 (fun i j hi hj q => hqr j i hj hi q.symm) hk2, hPM2, hp1.1.1, hp2.1.1, hq, hrj, hqA, hrA, hqr, hS, ⟨⟨⟨⟨(hp1.1.2.1 0 (by decide)).trans (hR.1.1.1.1.trans (hp2.1.2.1 0 (by decide)).symm), (hp1.1.2.1 6 (by decide)).trans (hR.1.1.1.2.1.trans (hp2.1.2.1 4 (by decide)).symm), (fun q => ((hp1.1.2.1 3 (by decide)).trans (hR.1.1.1.2.2 (by rw [← (hp1.1.2.1 6 (by decide))]; exact q))).trans (congrFun (hp2.1.2.2.1 8 (by decide)) 0).symm)⟩, (fun i hi => (congrFun (hp1.1.2.2.1 7 (by decide)) i).trans ((hR.1.1.2.1 i hi).trans (congrFun (hp2.1.2.2.1 3 (by decide)) i).symm)), (fun q i hi => (congrFun (hp1.1.2.2.1 21 (by decide)) i).trans ((hR.1.1.2.2 (by rw [← (hp1.1.2.1 6 (by decide))]; exact q) i hi).trans (congrFun (hp2.1.2.2.1 8 (by decide)) (36 + i)).symm))⟩, (by rw [(hp1.1.2.1 0 (by decide))]; exact LdI_cg (by have := iv_nat (IvC_s0 hIC) (by decide); have := (IvC_s0 hIC).2; omega) (fun i _ => congrFun (hp1.1.2.2.1 7 (by decide)) i) (fun i _ => congrFun (hp1.1.2.2.1 8 (by decide)) i) hR.1.2.1), (fun q => (by rw [(hp1.1.2.1 3 (by decide))]; exact LdI_cg (by have := iv_nat (IvC_s3 hIC) (by decide); have := (IvC_s3 hIC).2; omega) (fun i _ => congrFun (hp1.1.2.2.1 21 (by decide)) i) (fun i _ => congrFun (hp1.1.2.2.1 22 (by decide)) i) (hR.1.2.2 (by rw [← (hp1.1.2.1 6 (by decide))]; exact q))))⟩, (hp1.1.2.1 7 (by decide)).trans (hR.2.1.trans (hp2.1.2.1 3 (by decide)).symm), (fun i hi => (congrFun (hp1.1.2.2.1 30 (by decide)) i).trans ((hR.2.2 i (by rw [← (hp1.1.2.1 7 (by decide))]; exact hi)).trans (congrFun (hp2.1.2.2.1 7 (by decide)) i).symm))⟩⟩
set_option maxHeartbeats 4000000 in
set_option maxRecDepth 100000 in
theorem law_c12 {p : Program} {e : Env} {s : State} {m : MethodId} {below : List Frame} {meth : Method} {c : Code} (l : Launch) {b L : Nat} {xs : Nat → Int32} (hL : L ≤ 2560) (C0 : lw_At p s m meth c b L xs) {i : Nat} (hi : i + 5 ≤ L) {D : va_G} {cy : Nat → ClassId} {q : Nat → Nat} {z : zS} {r : Nat → Nat} {zm : zS} {H : Heap} {locs : List Loc} (hI : lwJ D cy q z r zm s H locs) {ls : Array Slot} (hl : lv_has ls 4 [(3, .int (nI i)), (2, .ref (r 0)), (1, .ref (q 0)), (0, .ref b)]) (kk : ∀ (z zm : zS) (H : Heap) (locs : List Loc), lwJ D cy q z r zm s H locs → W p l e room_1 s m #[Value.ref b] below meth c H locs 89 47199 (lw_Z below #[Value.ref b] s) (F0 m 1116 ls [])) : W p l e room_1 s m #[Value.ref b] below meth c H locs 89 47199 (lw_Z below #[Value.ref b] s) (F0 m 558 ls []) := by
  obtain ⟨hx, hb, hr, hml, hown, hts, hX, hbl, hlocks, hgv⟩ := id C0
  have hownL : s.vm.findClass RL = some m.cls := hown
  have htsL : ∀ w ∈ wsL_law, w.before #[Value.ref b] s = true := fun w h => hts w (inL_law w h)
  have hbA : ¬ (fun a : Nat => s.heap.size ≤ a) b := Nat.not_le.mpr hbl
  have hA : ∀ a : Nat, s.heap.size ≤ a → (fun a : Nat => s.heap.size ≤ a) a := fun _ h => h
  obtain ⟨hK, hZ, hPC, hPM, hIC, hIM, hq, hrj, hqA, hrA, hqr, hS, hR⟩ := hI
  refine lv_aload_n hx hb dL_law_558 rfl (lv_at hl 2 rfl) ?_
  refine lv_aload_n hx hb dL_law_559 rfl (lv_at hl 3 rfl) ?_
  refine lv_iload_n hx hb dL_law_560 rfl (lv_at hl 0 rfl) ?_
  refine lv_iconst (v := 1) hx hb dL_law_561 (by decide) ?_
  refine lv_iadd hx hb dL_law_562 ?_
  refine b_vi (v := nI (i + 1)) (nI_add i 1) ?_
  refine va_sld hx hb hX hbl hbA hS (vp_in_nI (by omega) (by omega)) dL_law_563 ?_
  refine b_vi (v := xs (i + 1)) (by rw [nI_clamp (by omega)]) ?_
  refine L_calli2 (ci := 5) (r := (RX5, TX5, 12)) (As := [.int (xs (i + 1))]) (rest := []) (A := fun a : Nat => s.heap.size ≤ a) ⟨hx, hb, hml, hownL, htsL⟩ (g_X5_cause_0 l D cy q hq z hIC (xs (i + 1))) (cwV 1 htsL gL_law_X5_cause rfl rfl rfl (by decide +kernel) ⟨Nat.le_of_ble_eq_true rfl, Nat.le_of_ble_eq_true rfl⟩) hK hZ hPC (by decide) rfl rfl hqA hA hS rfl hl.1 rfl (Nat.le_of_ble_eq_true rfl) ⟨by decide, by decide⟩ dL_law_564 (fun v1 z1 H1 locs1 hp1 hPC1 hk1 hS => ?_)
  refine lv_pop hx hb dL_law_567 rfl ?_
  refine lv_aload_n hx hb dL_law_568 rfl (lv_at hl 1 rfl) ?_
  refine lv_aload_n hx hb dL_law_569 rfl (lv_at hl 3 rfl) ?_
  refine lv_iload_n hx hb dL_law_570 rfl (lv_at hl 0 rfl) ?_
  refine lv_iconst (v := 1) hx hb dL_law_571 (by decide) ?_
  refine lv_iadd hx hb dL_law_572 ?_
  refine b_vi (v := nI (i + 1)) (nI_add i 1) ?_
  refine va_sld hx hb hX hbl hbA hS (vp_in_nI (by omega) (by omega)) dL_law_573 ?_
  refine b_vi (v := xs (i + 1)) (by rw [nI_clamp (by omega)]) ?_
  refine L_calli2 (ci := 6) (r := (RX6, TX6, 29)) (As := [.int (xs (i + 1))]) (rest := []) (A := fun a : Nat => s.heap.size ≤ a) ⟨hx, hb, hml, hownL, htsL⟩ (g_X6_cause_0 l D cy r hrj zm hIM (xs (i + 1))) (cwV 1 htsL gL_law_X6_cause rfl rfl rfl (by decide +kernel) ⟨Nat.le_of_ble_eq_true rfl, Nat.le_of_ble_eq_true rfl⟩) hK hZ (kp_of hPM hqr hk1) (by decide) rfl rfl hrA hA hS rfl hl.1 rfl (Nat.le_of_ble_eq_true rfl) ⟨by decide, by decide⟩ dL_law_574 (fun v2 zm1 H2 locs2 hp2 hPM2 hk2 hS => ?_)
  refine lv_pop hx hb dL_law_577 rfl ?_
  refine lv_goto (tgt := 1116) hx hb dL_law_578 (by decide) ?_
  exact kk z1 zm1 H2 locs2 ⟨hK, hZ, kp_of hPC1 (fun i j hi hj q => hqr j i hj hi q.symm) hk2, hPM2, hp1.1.1, hp2.1.1, hq, hrj, hqA, hrA, hqr, hS, ⟨⟨⟨⟨(hp1.1.2.1 0 (by decide)).trans (hR.1.1.1.1.trans (hp2.1.2.1 0 (by decide)).symm), (hp1.1.2.1 6 (by decide)).trans (hR.1.1.1.2.1.trans (hp2.1.2.1 4 (by decide)).symm), (fun q => ((hp1.1.2.1 3 (by decide)).trans (hR.1.1.1.2.2 (by rw [← (hp1.1.2.1 6 (by decide))]; exact q))).trans (congrFun (hp2.1.2.2.1 8 (by decide)) 0).symm)⟩, (fun i hi => (congrFun (hp1.1.2.2.1 7 (by decide)) i).trans ((hR.1.1.2.1 i hi).trans (congrFun (hp2.1.2.2.1 3 (by decide)) i).symm)), (fun q i hi => (congrFun (hp1.1.2.2.1 21 (by decide)) i).trans ((hR.1.1.2.2 (by rw [← (hp1.1.2.1 6 (by decide))]; exact q) i hi).trans (congrFun (hp2.1.2.2.1 8 (by decide)) (36 + i)).symm))⟩, (by rw [(hp1.1.2.1 0 (by decide))]; exact LdI_cg (by have := iv_nat (IvC_s0 hIC) (by decide); have := (IvC_s0 hIC).2; omega) (fun i _ => congrFun (hp1.1.2.2.1 7 (by decide)) i) (fun i _ => congrFun (hp1.1.2.2.1 8 (by decide)) i) hR.1.2.1), (fun q => (by rw [(hp1.1.2.1 3 (by decide))]; exact LdI_cg (by have := iv_nat (IvC_s3 hIC) (by decide); have := (IvC_s3 hIC).2; omega) (fun i _ => congrFun (hp1.1.2.2.1 21 (by decide)) i) (fun i _ => congrFun (hp1.1.2.2.1 22 (by decide)) i) (hR.1.2.2 (by rw [← (hp1.1.2.1 6 (by decide))]; exact q))))⟩, (hp1.1.2.1 7 (by decide)).trans (hR.2.1.trans (hp2.1.2.1 3 (by decide)).symm), (fun i hi => (congrFun (hp1.1.2.2.1 30 (by decide)) i).trans ((hR.2.2 i (by rw [← (hp1.1.2.1 7 (by decide))]; exact hi)).trans (congrFun (hp2.1.2.2.1 7 (by decide)) i).symm))⟩⟩
set_option maxHeartbeats 4000000 in
set_option maxRecDepth 100000 in
theorem law_c13 {p : Program} {e : Env} {s : State} {m : MethodId} {below : List Frame} {meth : Method} {c : Code} (l : Launch) {b L : Nat} {xs : Nat → Int32} (hL : L ≤ 2560) (C0 : lw_At p s m meth c b L xs) {i : Nat} (hi : i + 5 ≤ L) {D : va_G} {cy : Nat → ClassId} {q : Nat → Nat} {z : zS} {r : Nat → Nat} {zm : zS} {H : Heap} {locs : List Loc} (hI : lwJ D cy q z r zm s H locs) {ls : Array Slot} (hl : lv_has ls 4 [(3, .int (nI i)), (2, .ref (r 0)), (1, .ref (q 0)), (0, .ref b)]) (kk : ∀ (z zm : zS) (H : Heap) (locs : List Loc), lwJ D cy q z r zm s H locs → W p l e room_1 s m #[Value.ref b] below meth c H locs 89 47199 (lw_Z below #[Value.ref b] s) (F0 m 1116 ls [])) : W p l e room_1 s m #[Value.ref b] below meth c H locs 89 47199 (lw_Z below #[Value.ref b] s) (F0 m 581 ls []) := by
  obtain ⟨hx, hb, hr, hml, hown, hts, hX, hbl, hlocks, hgv⟩ := id C0
  have hownL : s.vm.findClass RL = some m.cls := hown
  have htsL : ∀ w ∈ wsL_law, w.before #[Value.ref b] s = true := fun w h => hts w (inL_law w h)
  have hbA : ¬ (fun a : Nat => s.heap.size ≤ a) b := Nat.not_le.mpr hbl
  have hA : ∀ a : Nat, s.heap.size ≤ a → (fun a : Nat => s.heap.size ≤ a) a := fun _ h => h
  obtain ⟨hK, hZ, hPC, hPM, hIC, hIM, hq, hrj, hqA, hrA, hqr, hS, hR⟩ := hI
  refine lv_aload_n hx hb dL_law_581 rfl (lv_at hl 2 rfl) ?_
  refine L_calli2 (ci := 5) (r := (RX5, TX5, 12)) (As := []) (rest := []) (A := fun a : Nat => s.heap.size ≤ a) ⟨hx, hb, hml, hownL, htsL⟩ (g_X5_clash_0 l D cy q hq z hIC ) (cwV 0 htsL gL_law_X5_clash rfl rfl rfl (by decide +kernel) ⟨Nat.le_of_ble_eq_true rfl, Nat.le_of_ble_eq_true rfl⟩) hK hZ hPC (by decide) rfl rfl hqA hA hS rfl hl.1 rfl (Nat.le_of_ble_eq_true rfl) ⟨by decide, by decide⟩ dL_law_582 (fun v1 z1 H1 locs1 hp1 hPC1 hk1 hS => ?_)
  refine lv_pop hx hb dL_law_585 rfl ?_
  refine lv_aload_n hx hb dL_law_586 rfl (lv_at hl 1 rfl) ?_
  refine L_calli2 (ci := 6) (r := (RX6, TX6, 29)) (As := []) (rest := []) (A := fun a : Nat => s.heap.size ≤ a) ⟨hx, hb, hml, hownL, htsL⟩ (g_X6_clash_0 l D cy r hrj zm hIM ) (cwV 0 htsL gL_law_X6_clash rfl rfl rfl (by decide +kernel) ⟨Nat.le_of_ble_eq_true rfl, Nat.le_of_ble_eq_true rfl⟩) hK hZ (kp_of hPM hqr hk1) (by decide) rfl rfl hrA hA hS rfl hl.1 rfl (Nat.le_of_ble_eq_true rfl) ⟨by decide, by decide⟩ dL_law_587 (fun v2 zm1 H2 locs2 hp2 hPM2 hk2 hS => ?_)
  refine lv_pop hx hb dL_law_590 rfl ?_
  refine lv_goto (tgt := 1116) hx hb dL_law_591 (by decide) ?_
  exact kk z1 zm1 H2 locs2 ⟨hK, hZ, kp_of hPC1 (fun i j hi hj q => hqr j i hj hi q.symm) hk2, hPM2, hp1.1.1, hp2.1.1, hq, hrj, hqA, hrA, hqr, hS, ⟨⟨⟨⟨(hp1.1.2.1 0 (by decide)).trans (hR.1.1.1.1.trans (hp2.1.2.1 0 (by decide)).symm), (hp1.1.2.1 6 (by decide)).trans (hR.1.1.1.2.1.trans (hp2.1.2.1 4 (by decide)).symm), (fun q => ((hp1.1.2.1 3 (by decide)).trans (hR.1.1.1.2.2 (by rw [← (hp1.1.2.1 6 (by decide))]; exact q))).trans (congrFun (hp2.1.2.2.1 8 (by decide)) 0).symm)⟩, (fun i hi => (congrFun (hp1.1.2.2.1 7 (by decide)) i).trans ((hR.1.1.2.1 i hi).trans (congrFun (hp2.1.2.2.1 3 (by decide)) i).symm)), (fun q i hi => (congrFun (hp1.1.2.2.1 21 (by decide)) i).trans ((hR.1.1.2.2 (by rw [← (hp1.1.2.1 6 (by decide))]; exact q) i hi).trans (congrFun (hp2.1.2.2.1 8 (by decide)) (36 + i)).symm))⟩, (by rw [(hp1.1.2.1 0 (by decide))]; exact LdI_cg (by have := iv_nat (IvC_s0 hIC) (by decide); have := (IvC_s0 hIC).2; omega) (fun i _ => congrFun (hp1.1.2.2.1 7 (by decide)) i) (fun i _ => congrFun (hp1.1.2.2.1 8 (by decide)) i) hR.1.2.1), (fun q => (by rw [(hp1.1.2.1 3 (by decide))]; exact LdI_cg (by have := iv_nat (IvC_s3 hIC) (by decide); have := (IvC_s3 hIC).2; omega) (fun i _ => congrFun (hp1.1.2.2.1 21 (by decide)) i) (fun i _ => congrFun (hp1.1.2.2.1 22 (by decide)) i) (hR.1.2.2 (by rw [← (hp1.1.2.1 6 (by decide))]; exact q))))⟩, (hp1.1.2.1 7 (by decide)).trans (hR.2.1.trans (hp2.1.2.1 3 (by decide)).symm), (fun i hi => (congrFun (hp1.1.2.2.1 30 (by decide)) i).trans ((hR.2.2 i (by rw [← (hp1.1.2.1 7 (by decide))]; exact hi)).trans (congrFun (hp2.1.2.2.1 7 (by decide)) i).symm))⟩⟩
set_option maxHeartbeats 4000000 in
set_option maxRecDepth 100000 in
theorem law_c14 {p : Program} {e : Env} {s : State} {m : MethodId} {below : List Frame} {meth : Method} {c : Code} (l : Launch) {b L : Nat} {xs : Nat → Int32} (hL : L ≤ 2560) (C0 : lw_At p s m meth c b L xs) {i : Nat} (hi : i + 5 ≤ L) {D : va_G} {cy : Nat → ClassId} {q : Nat → Nat} {z : zS} {r : Nat → Nat} {zm : zS} {H : Heap} {locs : List Loc} (hI : lwJ D cy q z r zm s H locs) {ls : Array Slot} (hl : lv_has ls 4 [(3, .int (nI i)), (2, .ref (r 0)), (1, .ref (q 0)), (0, .ref b)]) (kk : ∀ (z zm : zS) (H : Heap) (locs : List Loc), lwJ D cy q z r zm s H locs → W p l e room_1 s m #[Value.ref b] below meth c H locs 89 47199 (lw_Z below #[Value.ref b] s) (F0 m 1116 ls [])) : W p l e room_1 s m #[Value.ref b] below meth c H locs 89 47199 (lw_Z below #[Value.ref b] s) (F0 m 594 ls []) := by
  obtain ⟨hx, hb, hr, hml, hown, hts, hX, hbl, hlocks, hgv⟩ := id C0
  have hownL : s.vm.findClass RL = some m.cls := hown
  have htsL : ∀ w ∈ wsL_law, w.before #[Value.ref b] s = true := fun w h => hts w (inL_law w h)
  have hbA : ¬ (fun a : Nat => s.heap.size ≤ a) b := Nat.not_le.mpr hbl
  have hA : ∀ a : Nat, s.heap.size ≤ a → (fun a : Nat => s.heap.size ≤ a) a := fun _ h => h
  obtain ⟨hK, hZ, hPC, hPM, hIC, hIM, hq, hrj, hqA, hrA, hqr, hS, hR⟩ := hI
  refine lv_aload_n hx hb dL_law_594 rfl (lv_at hl 2 rfl) ?_
  refine lv_aload_n hx hb dL_law_595 rfl (lv_at hl 3 rfl) ?_
  refine lv_iload_n hx hb dL_law_596 rfl (lv_at hl 0 rfl) ?_
  refine lv_iconst (v := 1) hx hb dL_law_597 (by decide) ?_
  refine lv_iadd hx hb dL_law_598 ?_
  refine b_vi (v := nI (i + 1)) (nI_add i 1) ?_
  refine va_sld hx hb hX hbl hbA hS (vp_in_nI (by omega) (by omega)) dL_law_599 ?_
  refine b_vi (v := xs (i + 1)) (by rw [nI_clamp (by omega)]) ?_
  refine lv_aload_n hx hb dL_law_600 rfl (lv_at hl 3 rfl) ?_
  refine lv_iload_n hx hb dL_law_601 rfl (lv_at hl 0 rfl) ?_
  refine lv_iconst (v := 2) hx hb dL_law_602 (by decide) ?_
  refine lv_iadd hx hb dL_law_603 ?_
  refine b_vi (v := nI (i + 2)) (nI_add i 2) ?_
  refine va_sld hx hb hX hbl hbA hS (vp_in_nI (by omega) (by omega)) dL_law_604 ?_
  refine b_vi (v := xs (i + 2)) (by rw [nI_clamp (by omega)]) ?_
  refine L_calli2 (ci := 5) (r := (RX5, TX5, 12)) (As := [.int (xs (i + 1)), .int (xs (i + 2))]) (rest := []) (A := fun a : Nat => s.heap.size ≤ a) ⟨hx, hb, hml, hownL, htsL⟩ (g_X5_station_0 l D cy q hq z hIC (xs (i + 1)) (xs (i + 2))) (cwV 2 htsL gL_law_X5_station rfl rfl rfl (by decide +kernel) ⟨Nat.le_of_ble_eq_true rfl, Nat.le_of_ble_eq_true rfl⟩) hK hZ hPC (by decide) rfl rfl hqA hA hS rfl hl.1 rfl (Nat.le_of_ble_eq_true rfl) ⟨by decide, by decide⟩ dL_law_605 (fun v1 z1 H1 locs1 hp1 hPC1 hk1 hS => ?_)
  refine lv_pop hx hb dL_law_608 rfl ?_
  refine lv_aload_n hx hb dL_law_609 rfl (lv_at hl 1 rfl) ?_
  refine lv_aload_n hx hb dL_law_610 rfl (lv_at hl 3 rfl) ?_
  refine lv_iload_n hx hb dL_law_611 rfl (lv_at hl 0 rfl) ?_
  refine lv_iconst (v := 1) hx hb dL_law_612 (by decide) ?_
  refine lv_iadd hx hb dL_law_613 ?_
  refine b_vi (v := nI (i + 1)) (nI_add i 1) ?_
  refine va_sld hx hb hX hbl hbA hS (vp_in_nI (by omega) (by omega)) dL_law_614 ?_
  refine b_vi (v := xs (i + 1)) (by rw [nI_clamp (by omega)]) ?_
  refine lv_aload_n hx hb dL_law_615 rfl (lv_at hl 3 rfl) ?_
  refine lv_iload_n hx hb dL_law_616 rfl (lv_at hl 0 rfl) ?_
  refine lv_iconst (v := 2) hx hb dL_law_617 (by decide) ?_
  refine lv_iadd hx hb dL_law_618 ?_
  refine b_vi (v := nI (i + 2)) (nI_add i 2) ?_
  refine va_sld hx hb hX hbl hbA hS (vp_in_nI (by omega) (by omega)) dL_law_619 ?_
  refine b_vi (v := xs (i + 2)) (by rw [nI_clamp (by omega)]) ?_
  refine L_calli2 (ci := 6) (r := (RX6, TX6, 29)) (As := [.int (xs (i + 1)), .int (xs (i + 2))]) (rest := []) (A := fun a : Nat => s.heap.size ≤ a) ⟨hx, hb, hml, hownL, htsL⟩ (g_X6_station_0 l D cy r hrj zm hIM (xs (i + 1)) (xs (i + 2))) (cwV 2 htsL gL_law_X6_station rfl rfl rfl (by decide +kernel) ⟨Nat.le_of_ble_eq_true rfl, Nat.le_of_ble_eq_true rfl⟩) hK hZ (kp_of hPM hqr hk1) (by decide) rfl rfl hrA hA hS rfl hl.1 rfl (Nat.le_of_ble_eq_true rfl) ⟨by decide, by decide⟩ dL_law_620 (fun v2 zm1 H2 locs2 hp2 hPM2 hk2 hS => ?_)
  refine lv_pop hx hb dL_law_623 rfl ?_
  refine lv_goto (tgt := 1116) hx hb dL_law_624 (by decide) ?_
  exact kk z1 zm1 H2 locs2 ⟨hK, hZ, kp_of hPC1 (fun i j hi hj q => hqr j i hj hi q.symm) hk2, hPM2, hp1.1.1, hp2.1.1, hq, hrj, hqA, hrA, hqr, hS, ⟨⟨⟨⟨(hp1.1.2.1 0 (by decide)).trans (hR.1.1.1.1.trans (hp2.1.2.1 0 (by decide)).symm), (hp1.1.2.1 6 (by decide)).trans (hR.1.1.1.2.1.trans (hp2.1.2.1 4 (by decide)).symm), (fun q => ((hp1.1.2.1 3 (by decide)).trans (hR.1.1.1.2.2 (by rw [← (hp1.1.2.1 6 (by decide))]; exact q))).trans (congrFun (hp2.1.2.2.1 8 (by decide)) 0).symm)⟩, (fun i hi => (congrFun (hp1.1.2.2.1 7 (by decide)) i).trans ((hR.1.1.2.1 i hi).trans (congrFun (hp2.1.2.2.1 3 (by decide)) i).symm)), (fun q i hi => (congrFun (hp1.1.2.2.1 21 (by decide)) i).trans ((hR.1.1.2.2 (by rw [← (hp1.1.2.1 6 (by decide))]; exact q) i hi).trans (congrFun (hp2.1.2.2.1 8 (by decide)) (36 + i)).symm))⟩, (by rw [(hp1.1.2.1 0 (by decide))]; exact LdI_cg (by have := iv_nat (IvC_s0 hIC) (by decide); have := (IvC_s0 hIC).2; omega) (fun i _ => congrFun (hp1.1.2.2.1 7 (by decide)) i) (fun i _ => congrFun (hp1.1.2.2.1 8 (by decide)) i) hR.1.2.1), (fun q => (by rw [(hp1.1.2.1 3 (by decide))]; exact LdI_cg (by have := iv_nat (IvC_s3 hIC) (by decide); have := (IvC_s3 hIC).2; omega) (fun i _ => congrFun (hp1.1.2.2.1 21 (by decide)) i) (fun i _ => congrFun (hp1.1.2.2.1 22 (by decide)) i) (hR.1.2.2 (by rw [← (hp1.1.2.1 6 (by decide))]; exact q))))⟩, (hp1.1.2.1 7 (by decide)).trans (hR.2.1.trans (hp2.1.2.1 3 (by decide)).symm), (fun i hi => (congrFun (hp1.1.2.2.1 30 (by decide)) i).trans ((hR.2.2 i (by rw [← (hp1.1.2.1 7 (by decide))]; exact hi)).trans (congrFun (hp2.1.2.2.1 7 (by decide)) i).symm))⟩⟩
set_option maxHeartbeats 4000000 in
set_option maxRecDepth 100000 in
theorem law_c15 {p : Program} {e : Env} {s : State} {m : MethodId} {below : List Frame} {meth : Method} {c : Code} (l : Launch) {b L : Nat} {xs : Nat → Int32} (hL : L ≤ 2560) (C0 : lw_At p s m meth c b L xs) {i : Nat} (hi : i + 5 ≤ L) {D : va_G} {cy : Nat → ClassId} {q : Nat → Nat} {z : zS} {r : Nat → Nat} {zm : zS} {H : Heap} {locs : List Loc} (hI : lwJ D cy q z r zm s H locs) {ls : Array Slot} (hl : lv_has ls 4 [(3, .int (nI i)), (2, .ref (r 0)), (1, .ref (q 0)), (0, .ref b)]) (kk : ∀ (z zm : zS) (H : Heap) (locs : List Loc), lwJ D cy q z r zm s H locs → W p l e room_1 s m #[Value.ref b] below meth c H locs 89 47199 (lw_Z below #[Value.ref b] s) (F0 m 1116 ls [])) : W p l e room_1 s m #[Value.ref b] below meth c H locs 89 47199 (lw_Z below #[Value.ref b] s) (F0 m 627 ls []) := by
  obtain ⟨hx, hb, hr, hml, hown, hts, hX, hbl, hlocks, hgv⟩ := id C0
  have hownL : s.vm.findClass RL = some m.cls := hown
  have htsL : ∀ w ∈ wsL_law, w.before #[Value.ref b] s = true := fun w h => hts w (inL_law w h)
  have hbA : ¬ (fun a : Nat => s.heap.size ≤ a) b := Nat.not_le.mpr hbl
  have hA : ∀ a : Nat, s.heap.size ≤ a → (fun a : Nat => s.heap.size ≤ a) a := fun _ h => h
  obtain ⟨hK, hZ, hPC, hPM, hIC, hIM, hq, hrj, hqA, hrA, hqr, hS, hR⟩ := hI
  refine lv_aload_n hx hb dL_law_627 rfl (lv_at hl 2 rfl) ?_
  refine L_calli2 (ci := 5) (r := (RX5, TX5, 12)) (As := []) (rest := []) (A := fun a : Nat => s.heap.size ≤ a) ⟨hx, hb, hml, hownL, htsL⟩ (g_X5_length_0 l D cy q hq z hIC ) (cwV 0 htsL gL_law_X5_length rfl rfl rfl (by decide +kernel) ⟨Nat.le_of_ble_eq_true rfl, Nat.le_of_ble_eq_true rfl⟩) hK hZ hPC (by decide) rfl rfl hqA hA hS rfl hl.1 rfl (Nat.le_of_ble_eq_true rfl) ⟨by decide, by decide⟩ dL_law_628 (fun v1 z1 H1 locs1 hp1 hPC1 hk1 hS => ?_)
  refine lv_pop hx hb dL_law_631 rfl ?_
  refine lv_aload_n hx hb dL_law_632 rfl (lv_at hl 1 rfl) ?_
  refine L_calli2 (ci := 6) (r := (RX6, TX6, 29)) (As := []) (rest := []) (A := fun a : Nat => s.heap.size ≤ a) ⟨hx, hb, hml, hownL, htsL⟩ (g_X6_length_0 l D cy r hrj zm hIM ) (cwV 0 htsL gL_law_X6_length rfl rfl rfl (by decide +kernel) ⟨Nat.le_of_ble_eq_true rfl, Nat.le_of_ble_eq_true rfl⟩) hK hZ (kp_of hPM hqr hk1) (by decide) rfl rfl hrA hA hS rfl hl.1 rfl (Nat.le_of_ble_eq_true rfl) ⟨by decide, by decide⟩ dL_law_633 (fun v2 zm1 H2 locs2 hp2 hPM2 hk2 hS => ?_)
  refine lv_pop hx hb dL_law_636 rfl ?_
  refine lv_goto (tgt := 1116) hx hb dL_law_637 (by decide) ?_
  exact kk z1 zm1 H2 locs2 ⟨hK, hZ, kp_of hPC1 (fun i j hi hj q => hqr j i hj hi q.symm) hk2, hPM2, hp1.1.1, hp2.1.1, hq, hrj, hqA, hrA, hqr, hS, ⟨⟨⟨⟨(hp1.1.2.1 0 (by decide)).trans (hR.1.1.1.1.trans (hp2.1.2.1 0 (by decide)).symm), (hp1.1.2.1 6 (by decide)).trans (hR.1.1.1.2.1.trans (hp2.1.2.1 4 (by decide)).symm), (fun q => ((hp1.1.2.1 3 (by decide)).trans (hR.1.1.1.2.2 (by rw [← (hp1.1.2.1 6 (by decide))]; exact q))).trans (congrFun (hp2.1.2.2.1 8 (by decide)) 0).symm)⟩, (fun i hi => (congrFun (hp1.1.2.2.1 7 (by decide)) i).trans ((hR.1.1.2.1 i hi).trans (congrFun (hp2.1.2.2.1 3 (by decide)) i).symm)), (fun q i hi => (congrFun (hp1.1.2.2.1 21 (by decide)) i).trans ((hR.1.1.2.2 (by rw [← (hp1.1.2.1 6 (by decide))]; exact q) i hi).trans (congrFun (hp2.1.2.2.1 8 (by decide)) (36 + i)).symm))⟩, (by rw [(hp1.1.2.1 0 (by decide))]; exact LdI_cg (by have := iv_nat (IvC_s0 hIC) (by decide); have := (IvC_s0 hIC).2; omega) (fun i _ => congrFun (hp1.1.2.2.1 7 (by decide)) i) (fun i _ => congrFun (hp1.1.2.2.1 8 (by decide)) i) hR.1.2.1), (fun q => (by rw [(hp1.1.2.1 3 (by decide))]; exact LdI_cg (by have := iv_nat (IvC_s3 hIC) (by decide); have := (IvC_s3 hIC).2; omega) (fun i _ => congrFun (hp1.1.2.2.1 21 (by decide)) i) (fun i _ => congrFun (hp1.1.2.2.1 22 (by decide)) i) (hR.1.2.2 (by rw [← (hp1.1.2.1 6 (by decide))]; exact q))))⟩, (hp1.1.2.1 7 (by decide)).trans (hR.2.1.trans (hp2.1.2.1 3 (by decide)).symm), (fun i hi => (congrFun (hp1.1.2.2.1 30 (by decide)) i).trans ((hR.2.2 i (by rw [← (hp1.1.2.1 7 (by decide))]; exact hi)).trans (congrFun (hp2.1.2.2.1 7 (by decide)) i).symm))⟩⟩
set_option maxHeartbeats 4000000 in
set_option maxRecDepth 100000 in
theorem law_c16 {p : Program} {e : Env} {s : State} {m : MethodId} {below : List Frame} {meth : Method} {c : Code} (l : Launch) {b L : Nat} {xs : Nat → Int32} (hL : L ≤ 2560) (C0 : lw_At p s m meth c b L xs) {i : Nat} (hi : i + 5 ≤ L) {D : va_G} {cy : Nat → ClassId} {q : Nat → Nat} {z : zS} {r : Nat → Nat} {zm : zS} {H : Heap} {locs : List Loc} (hI : lwJ D cy q z r zm s H locs) {ls : Array Slot} (hl : lv_has ls 4 [(3, .int (nI i)), (2, .ref (r 0)), (1, .ref (q 0)), (0, .ref b)]) (kk : ∀ (z zm : zS) (H : Heap) (locs : List Loc), lwJ D cy q z r zm s H locs → W p l e room_1 s m #[Value.ref b] below meth c H locs 89 47199 (lw_Z below #[Value.ref b] s) (F0 m 1116 ls [])) : W p l e room_1 s m #[Value.ref b] below meth c H locs 89 47199 (lw_Z below #[Value.ref b] s) (F0 m 640 ls []) := by
  obtain ⟨hx, hb, hr, hml, hown, hts, hX, hbl, hlocks, hgv⟩ := id C0
  have hownL : s.vm.findClass RL = some m.cls := hown
  have htsL : ∀ w ∈ wsL_law, w.before #[Value.ref b] s = true := fun w h => hts w (inL_law w h)
  have hbA : ¬ (fun a : Nat => s.heap.size ≤ a) b := Nat.not_le.mpr hbl
  have hA : ∀ a : Nat, s.heap.size ≤ a → (fun a : Nat => s.heap.size ≤ a) a := fun _ h => h
  obtain ⟨hK, hZ, hPC, hPM, hIC, hIM, hq, hrj, hqA, hrA, hqr, hS, hR⟩ := hI
  refine lv_aload_n hx hb dL_law_640 rfl (lv_at hl 2 rfl) ?_
  refine L_calll2 (ci := 5) (r := (RX5, TX5, 12)) (As := []) (rest := []) (A := fun a : Nat => s.heap.size ≤ a) ⟨hx, hb, hml, hownL, htsL⟩ (g_X5_squares_0 l D cy q hq z hIC ) (cwV 0 htsL gL_law_X5_squares rfl rfl rfl (by decide +kernel) ⟨Nat.le_of_ble_eq_true rfl, Nat.le_of_ble_eq_true rfl⟩) hK hZ hPC (by decide) rfl rfl hqA hA hS rfl hl.1 rfl (Nat.le_of_ble_eq_true rfl) ⟨by decide, by decide⟩ dL_law_641 (fun v1 z1 H1 locs1 hp1 hPC1 hk1 hS => ?_)
  refine lv_pop2_2 hx hb dL_law_644 rfl ?_
  refine lv_aload_n hx hb dL_law_645 rfl (lv_at hl 1 rfl) ?_
  refine L_calll2 (ci := 6) (r := (RX6, TX6, 29)) (As := []) (rest := []) (A := fun a : Nat => s.heap.size ≤ a) ⟨hx, hb, hml, hownL, htsL⟩ (g_X6_squares_0 l D cy r hrj zm hIM ) (cwV 0 htsL gL_law_X6_squares rfl rfl rfl (by decide +kernel) ⟨Nat.le_of_ble_eq_true rfl, Nat.le_of_ble_eq_true rfl⟩) hK hZ (kp_of hPM hqr hk1) (by decide) rfl rfl hrA hA hS rfl hl.1 rfl (Nat.le_of_ble_eq_true rfl) ⟨by decide, by decide⟩ dL_law_646 (fun v2 zm1 H2 locs2 hp2 hPM2 hk2 hS => ?_)
  refine lv_pop2_2 hx hb dL_law_649 rfl ?_
  refine lv_goto (tgt := 1116) hx hb dL_law_650 (by decide) ?_
  exact kk z1 zm1 H2 locs2 ⟨hK, hZ, kp_of hPC1 (fun i j hi hj q => hqr j i hj hi q.symm) hk2, hPM2, hp1.1, hp2.1, hq, hrj, hqA, hrA, hqr, hS, ⟨⟨⟨⟨(hp1.2.1 0 (by decide)).trans (hR.1.1.1.1.trans (hp2.2.1 0 (by decide)).symm), (hp1.2.1 6 (by decide)).trans (hR.1.1.1.2.1.trans (hp2.2.1 4 (by decide)).symm), (fun q => ((hp1.2.1 3 (by decide)).trans (hR.1.1.1.2.2 (by rw [← (hp1.2.1 6 (by decide))]; exact q))).trans (congrFun (hp2.2.2.1 8 (by decide)) 0).symm)⟩, (fun i hi => (congrFun (hp1.2.2.1 7 (by decide)) i).trans ((hR.1.1.2.1 i hi).trans (congrFun (hp2.2.2.1 3 (by decide)) i).symm)), (fun q i hi => (congrFun (hp1.2.2.1 21 (by decide)) i).trans ((hR.1.1.2.2 (by rw [← (hp1.2.1 6 (by decide))]; exact q) i hi).trans (congrFun (hp2.2.2.1 8 (by decide)) (36 + i)).symm))⟩, (by rw [(hp1.2.1 0 (by decide))]; exact LdI_cg (by have := iv_nat (IvC_s0 hIC) (by decide); have := (IvC_s0 hIC).2; omega) (fun i _ => congrFun (hp1.2.2.1 7 (by decide)) i) (fun i _ => congrFun (hp1.2.2.1 8 (by decide)) i) hR.1.2.1), (fun q => (by rw [(hp1.2.1 3 (by decide))]; exact LdI_cg (by have := iv_nat (IvC_s3 hIC) (by decide); have := (IvC_s3 hIC).2; omega) (fun i _ => congrFun (hp1.2.2.1 21 (by decide)) i) (fun i _ => congrFun (hp1.2.2.1 22 (by decide)) i) (hR.1.2.2 (by rw [← (hp1.2.1 6 (by decide))]; exact q))))⟩, (hp1.2.1 7 (by decide)).trans (hR.2.1.trans (hp2.2.1 3 (by decide)).symm), (fun i hi => (congrFun (hp1.2.2.1 30 (by decide)) i).trans ((hR.2.2 i (by rw [← (hp1.2.1 7 (by decide))]; exact hi)).trans (congrFun (hp2.2.2.1 7 (by decide)) i).symm))⟩⟩
set_option maxHeartbeats 4000000 in
set_option maxRecDepth 100000 in
theorem law_c17 {p : Program} {e : Env} {s : State} {m : MethodId} {below : List Frame} {meth : Method} {c : Code} (l : Launch) {b L : Nat} {xs : Nat → Int32} (hL : L ≤ 2560) (C0 : lw_At p s m meth c b L xs) {i : Nat} (hi : i + 5 ≤ L) {D : va_G} {cy : Nat → ClassId} {q : Nat → Nat} {z : zS} {r : Nat → Nat} {zm : zS} {H : Heap} {locs : List Loc} (hI : lwJ D cy q z r zm s H locs) {ls : Array Slot} (hl : lv_has ls 4 [(3, .int (nI i)), (2, .ref (r 0)), (1, .ref (q 0)), (0, .ref b)]) (kk : ∀ (z zm : zS) (H : Heap) (locs : List Loc), lwJ D cy q z r zm s H locs → W p l e room_1 s m #[Value.ref b] below meth c H locs 89 47199 (lw_Z below #[Value.ref b] s) (F0 m 1116 ls [])) : W p l e room_1 s m #[Value.ref b] below meth c H locs 89 47199 (lw_Z below #[Value.ref b] s) (F0 m 653 ls []) := by
  obtain ⟨hx, hb, hr, hml, hown, hts, hX, hbl, hlocks, hgv⟩ := id C0
  have hownL : s.vm.findClass RL = some m.cls := hown
  have htsL : ∀ w ∈ wsL_law, w.before #[Value.ref b] s = true := fun w h => hts w (inL_law w h)
  have hbA : ¬ (fun a : Nat => s.heap.size ≤ a) b := Nat.not_le.mpr hbl
  have hA : ∀ a : Nat, s.heap.size ≤ a → (fun a : Nat => s.heap.size ≤ a) a := fun _ h => h
  obtain ⟨hK, hZ, hPC, hPM, hIC, hIM, hq, hrj, hqA, hrA, hqr, hS, hR⟩ := hI
  refine lv_aload_n hx hb dL_law_653 rfl (lv_at hl 2 rfl) ?_
  refine L_calli2 (ci := 5) (r := (RX5, TX5, 12)) (As := []) (rest := []) (A := fun a : Nat => s.heap.size ≤ a) ⟨hx, hb, hml, hownL, htsL⟩ (g_X5_fewest_0 l D cy q hq z hIC ) (cwV 0 htsL gL_law_X5_fewest rfl rfl rfl (by decide +kernel) ⟨Nat.le_of_ble_eq_true rfl, Nat.le_of_ble_eq_true rfl⟩) hK hZ hPC (by decide) rfl rfl hqA hA hS rfl hl.1 rfl (Nat.le_of_ble_eq_true rfl) ⟨by decide, by decide⟩ dL_law_654 (fun v1 z1 H1 locs1 hp1 hPC1 hk1 hS => ?_)
  refine lv_pop hx hb dL_law_657 rfl ?_
  refine lv_aload_n hx hb dL_law_658 rfl (lv_at hl 1 rfl) ?_
  refine L_calli2 (ci := 6) (r := (RX6, TX6, 29)) (As := []) (rest := []) (A := fun a : Nat => s.heap.size ≤ a) ⟨hx, hb, hml, hownL, htsL⟩ (g_X6_fewest_0 l D cy r hrj zm hIM ) (cwV 0 htsL gL_law_X6_fewest rfl rfl rfl (by decide +kernel) ⟨Nat.le_of_ble_eq_true rfl, Nat.le_of_ble_eq_true rfl⟩) hK hZ (kp_of hPM hqr hk1) (by decide) rfl rfl hrA hA hS rfl hl.1 rfl (Nat.le_of_ble_eq_true rfl) ⟨by decide, by decide⟩ dL_law_659 (fun v2 zm1 H2 locs2 hp2 hPM2 hk2 hS => ?_)
  refine lv_pop hx hb dL_law_662 rfl ?_
  refine lv_goto (tgt := 1116) hx hb dL_law_663 (by decide) ?_
  exact kk z1 zm1 H2 locs2 ⟨hK, hZ, kp_of hPC1 (fun i j hi hj q => hqr j i hj hi q.symm) hk2, hPM2, hp1.1.1, hp2.1.1, hq, hrj, hqA, hrA, hqr, hS, ⟨⟨⟨⟨(hp1.1.2.1 0 (by decide)).trans (hR.1.1.1.1.trans (hp2.1.2.1 0 (by decide)).symm), (hp1.1.2.1 6 (by decide)).trans (hR.1.1.1.2.1.trans (hp2.1.2.1 4 (by decide)).symm), (fun q => ((hp1.1.2.1 3 (by decide)).trans (hR.1.1.1.2.2 (by rw [← (hp1.1.2.1 6 (by decide))]; exact q))).trans (congrFun (hp2.1.2.2.1 8 (by decide)) 0).symm)⟩, (fun i hi => (congrFun (hp1.1.2.2.1 7 (by decide)) i).trans ((hR.1.1.2.1 i hi).trans (congrFun (hp2.1.2.2.1 3 (by decide)) i).symm)), (fun q i hi => (congrFun (hp1.1.2.2.1 21 (by decide)) i).trans ((hR.1.1.2.2 (by rw [← (hp1.1.2.1 6 (by decide))]; exact q) i hi).trans (congrFun (hp2.1.2.2.1 8 (by decide)) (36 + i)).symm))⟩, (by rw [(hp1.1.2.1 0 (by decide))]; exact LdI_cg (by have := iv_nat (IvC_s0 hIC) (by decide); have := (IvC_s0 hIC).2; omega) (fun i _ => congrFun (hp1.1.2.2.1 7 (by decide)) i) (fun i _ => congrFun (hp1.1.2.2.1 8 (by decide)) i) hR.1.2.1), (fun q => (by rw [(hp1.1.2.1 3 (by decide))]; exact LdI_cg (by have := iv_nat (IvC_s3 hIC) (by decide); have := (IvC_s3 hIC).2; omega) (fun i _ => congrFun (hp1.1.2.2.1 21 (by decide)) i) (fun i _ => congrFun (hp1.1.2.2.1 22 (by decide)) i) (hR.1.2.2 (by rw [← (hp1.1.2.1 6 (by decide))]; exact q))))⟩, (hp1.1.2.1 7 (by decide)).trans (hR.2.1.trans (hp2.1.2.1 3 (by decide)).symm), (fun i hi => (congrFun (hp1.1.2.2.1 30 (by decide)) i).trans ((hR.2.2 i (by rw [← (hp1.1.2.1 7 (by decide))]; exact hi)).trans (congrFun (hp2.1.2.2.1 7 (by decide)) i).symm))⟩⟩
