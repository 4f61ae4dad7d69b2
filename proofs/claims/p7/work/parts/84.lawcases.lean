set_option maxHeartbeats 4000000 in
set_option maxRecDepth 100000 in
theorem law_c27 {p : Program} {e : Env} {s : State} {m : MethodId} {below : List Frame} {meth : Method} {c : Code} (l : Launch) {b L : Nat} {xs : Nat → Int32} (hL : L ≤ 2560) (C0 : lw_At p s m meth c b L xs) {i : Nat} (hi : i + 5 ≤ L) {D : va_G} {cy : Nat → ClassId} {q : Nat → Nat} {z : zS} {r : Nat → Nat} {zm : zS} {H : Heap} {locs : List Loc} (hI : lwJ D cy q z r zm s H locs) {ls : Array Slot} (hl : lv_has ls 4 [(3, .int (nI i)), (2, .ref (r 0)), (1, .ref (q 0)), (0, .ref b)]) (kk : ∀ (z zm : zS) (H : Heap) (locs : List Loc), lwJ D cy q z r zm s H locs → W p l e room_1 s m #[Value.ref b] below meth c H locs 89 47199 (lw_Z below #[Value.ref b] s) (F0 m 1116 ls [])) : W p l e room_1 s m #[Value.ref b] below meth c H locs 89 47199 (lw_Z below #[Value.ref b] s) (F0 m 869 ls []) := by
  obtain ⟨hx, hb, hr, hml, hown, hts, hX, hbl, hlocks, hgv⟩ := id C0
  have hownL : s.vm.findClass RL = some m.cls := hown
  have htsL : ∀ w ∈ wsL_law, w.before #[Value.ref b] s = true := fun w h => hts w (inL_law w h)
  have hbA : ¬ (fun a : Nat => s.heap.size ≤ a) b := Nat.not_le.mpr hbl
  have hA : ∀ a : Nat, s.heap.size ≤ a → (fun a : Nat => s.heap.size ≤ a) a := fun _ h => h
  obtain ⟨hK, hZ, hPC, hPM, hIC, hIM, hq, hrj, hqA, hrA, hqr, hS, hR⟩ := hI
  refine lv_aload_n hx hb dL_law_869 rfl (lv_at hl 2 rfl) ?_
  refine lv_aload_n hx hb dL_law_870 rfl (lv_at hl 3 rfl) ?_
  refine lv_iload_n hx hb dL_law_871 rfl (lv_at hl 0 rfl) ?_
  refine lv_iconst (v := 1) hx hb dL_law_872 (by decide) ?_
  refine lv_iadd hx hb dL_law_873 ?_
  refine b_vi (v := nI (i + 1)) (nI_add i 1) ?_
  refine va_sld hx hb hX hbl hbA hS (vp_in_nI (by omega) (by omega)) dL_law_874 ?_
  refine b_vi (v := xs (i + 1)) (by rw [nI_clamp (by omega)]) ?_
  refine lv_aload_n hx hb dL_law_875 rfl (lv_at hl 3 rfl) ?_
  refine lv_iload_n hx hb dL_law_876 rfl (lv_at hl 0 rfl) ?_
  refine lv_iconst (v := 2) hx hb dL_law_877 (by decide) ?_
  refine lv_iadd hx hb dL_law_878 ?_
  refine b_vi (v := nI (i + 2)) (nI_add i 2) ?_
  refine va_sld hx hb hX hbl hbA hS (vp_in_nI (by omega) (by omega)) dL_law_879 ?_
  refine b_vi (v := xs (i + 2)) (by rw [nI_clamp (by omega)]) ?_
  refine lv_aload_n hx hb dL_law_880 rfl (lv_at hl 3 rfl) ?_
  refine lv_iload_n hx hb dL_law_881 rfl (lv_at hl 0 rfl) ?_
  refine lv_iconst (v := 3) hx hb dL_law_882 (by decide) ?_
  refine lv_iadd hx hb dL_law_883 ?_
  refine b_vi (v := nI (i + 3)) (nI_add i 3) ?_
  refine va_sld hx hb hX hbl hbA hS (vp_in_nI (by omega) (by omega)) dL_law_884 ?_
  refine b_vi (v := xs (i + 3)) (by rw [nI_clamp (by omega)]) ?_
  refine L_calli2 (ci := 5) (r := (RX5, TX5, 12)) (As := [.int (xs (i + 1)), .int (xs (i + 2)), .int (xs (i + 3))]) (rest := []) (A := fun a : Nat => s.heap.size ≤ a) ⟨hx, hb, hml, hownL, htsL⟩ (g_X5_sheet_0 l D cy q hq z hIC (xs (i + 1)) (xs (i + 2)) (xs (i + 3))) (cwV 3 htsL gL_law_X5_sheet rfl rfl rfl (by decide +kernel) ⟨Nat.le_of_ble_eq_true rfl, Nat.le_of_ble_eq_true rfl⟩) hK hZ hPC (by decide) rfl rfl hqA hA hS rfl hl.1 rfl (Nat.le_of_ble_eq_true rfl) ⟨by decide, by decide⟩ dL_law_885 (fun v1 z1 H1 locs1 hp1 hPC1 hk1 hS => ?_)
  refine lv_pop hx hb dL_law_888 rfl ?_
  refine lv_aload_n hx hb dL_law_889 rfl (lv_at hl 1 rfl) ?_
  refine lv_aload_n hx hb dL_law_890 rfl (lv_at hl 3 rfl) ?_
  refine lv_iload_n hx hb dL_law_891 rfl (lv_at hl 0 rfl) ?_
  refine lv_iconst (v := 1) hx hb dL_law_892 (by decide) ?_
  refine lv_iadd hx hb dL_law_893 ?_
  refine b_vi (v := nI (i + 1)) (nI_add i 1) ?_
  refine va_sld hx hb hX hbl hbA hS (vp_in_nI (by omega) (by omega)) dL_law_894 ?_
  refine b_vi (v := xs (i + 1)) (by rw [nI_clamp (by omega)]) ?_
  refine lv_aload_n hx hb dL_law_895 rfl (lv_at hl 3 rfl) ?_
  refine lv_iload_n hx hb dL_law_896 rfl (lv_at hl 0 rfl) ?_
  refine lv_iconst (v := 2) hx hb dL_law_897 (by decide) ?_
  refine lv_iadd hx hb dL_law_898 ?_
  refine b_vi (v := nI (i + 2)) (nI_add i 2) ?_
  refine va_sld hx hb hX hbl hbA hS (vp_in_nI (by omega) (by omega)) dL_law_899 ?_
  refine b_vi (v := xs (i + 2)) (by rw [nI_clamp (by omega)]) ?_
  refine lv_aload_n hx hb dL_law_900 rfl (lv_at hl 3 rfl) ?_
  refine lv_iload_n hx hb dL_law_901 rfl (lv_at hl 0 rfl) ?_
  refine lv_iconst (v := 3) hx hb dL_law_902 (by decide) ?_
  refine lv_iadd hx hb dL_law_903 ?_
  refine b_vi (v := nI (i + 3)) (nI_add i 3) ?_
  refine va_sld hx hb hX hbl hbA hS (vp_in_nI (by omega) (by omega)) dL_law_904 ?_
  refine b_vi (v := xs (i + 3)) (by rw [nI_clamp (by omega)]) ?_
  refine L_calli2 (ci := 6) (r := (RX6, TX6, 29)) (As := [.int (xs (i + 1)), .int (xs (i + 2)), .int (xs (i + 3))]) (rest := []) (A := fun a : Nat => s.heap.size ≤ a) ⟨hx, hb, hml, hownL, htsL⟩ (g_X6_sheet_0 l D cy r hrj zm hIM (xs (i + 1)) (xs (i + 2)) (xs (i + 3))) (cwV 3 htsL gL_law_X6_sheet rfl rfl rfl (by decide +kernel) ⟨Nat.le_of_ble_eq_true rfl, Nat.le_of_ble_eq_true rfl⟩) hK hZ (kp_of hPM hqr hk1) (by decide) rfl rfl hrA hA hS rfl hl.1 rfl (Nat.le_of_ble_eq_true rfl) ⟨by decide, by decide⟩ dL_law_905 (fun v2 zm1 H2 locs2 hp2 hPM2 hk2 hS => ?_)
  refine lv_pop hx hb dL_law_908 rfl ?_
  refine lv_goto (tgt := 1116) hx hb dL_law_909 (by decide) ?_
  exact kk z1 zm1 H2 locs2 ⟨hK, hZ, kp_of hPC1 (fun i j hi hj q => hqr j i hj hi q.symm) hk2, hPM2, hp1.1.1, hp2.1.1, hq, hrj, hqA, hrA, hqr, hS, ⟨⟨⟨⟨(hp1.1.2.1 0 (by decide)).trans (hR.1.1.1.1.trans (hp2.1.2.1 0 (by decide)).symm), (hp1.1.2.1 6 (by decide)).trans (hR.1.1.1.2.1.trans (hp2.1.2.1 4 (by decide)).symm), (fun q => ((hp1.1.2.1 3 (by decide)).trans (hR.1.1.1.2.2 (by rw [← (hp1.1.2.1 6 (by decide))]; exact q))).trans (congrFun (hp2.1.2.2.1 8 (by decide)) 0).symm)⟩, (fun i hi => (congrFun (hp1.1.2.2.1 7 (by decide)) i).trans ((hR.1.1.2.1 i hi).trans (congrFun (hp2.1.2.2.1 3 (by decide)) i).symm)), (fun q i hi => (congrFun (hp1.1.2.2.1 21 (by decide)) i).trans ((hR.1.1.2.2 (by rw [← (hp1.1.2.1 6 (by decide))]; exact q) i hi).trans (congrFun (hp2.1.2.2.1 8 (by decide)) (36 + i)).symm))⟩, (by rw [(hp1.1.2.1 0 (by decide))]; exact LdI_cg (by have := iv_nat (IvC_s0 hIC) (by decide); have := (IvC_s0 hIC).2; omega) (fun i _ => congrFun (hp1.1.2.2.1 7 (by decide)) i) (fun i _ => congrFun (hp1.1.2.2.1 8 (by decide)) i) hR.1.2.1), (fun q => (by rw [(hp1.1.2.1 3 (by decide))]; exact LdI_cg (by have := iv_nat (IvC_s3 hIC) (by decide); have := (IvC_s3 hIC).2; omega) (fun i _ => congrFun (hp1.1.2.2.1 21 (by decide)) i) (fun i _ => congrFun (hp1.1.2.2.1 22 (by decide)) i) (hR.1.2.2 (by rw [← (hp1.1.2.1 6 (by decide))]; exact q))))⟩, (hp1.1.2.1 7 (by decide)).trans (hR.2.1.trans (hp2.1.2.1 3 (by decide)).symm), (fun i hi => (congrFun (hp1.1.2.2.1 30 (by decide)) i).trans ((hR.2.2 i (by rw [← (hp1.1.2.1 7 (by decide))]; exact hi)).trans (congrFun (hp2.1.2.2.1 7 (by decide)) i).symm))⟩⟩
set_option maxHeartbeats 4000000 in
set_option maxRecDepth 100000 in
theorem law_c28 {p : Program} {e : Env} {s : State} {m : MethodId} {below : List Frame} {meth : Method} {c : Code} (l : Launch) {b L : Nat} {xs : Nat → Int32} (hL : L ≤ 2560) (C0 : lw_At p s m meth c b L xs) {i : Nat} (hi : i + 5 ≤ L) {D : va_G} {cy : Nat → ClassId} {q : Nat → Nat} {z : zS} {r : Nat → Nat} {zm : zS} {H : Heap} {locs : List Loc} (hI : lwJ D cy q z r zm s H locs) {ls : Array Slot} (hl : lv_has ls 4 [(3, .int (nI i)), (2, .ref (r 0)), (1, .ref (q 0)), (0, .ref b)]) (kk : ∀ (z zm : zS) (H : Heap) (locs : List Loc), lwJ D cy q z r zm s H locs → W p l e room_1 s m #[Value.ref b] below meth c H locs 89 47199 (lw_Z below #[Value.ref b] s) (F0 m 1116 ls [])) : W p l e room_1 s m #[Value.ref b] below meth c H locs 89 47199 (lw_Z below #[Value.ref b] s) (F0 m 912 ls []) := by
  obtain ⟨hx, hb, hr, hml, hown, hts, hX, hbl, hlocks, hgv⟩ := id C0
  have hownL : s.vm.findClass RL = some m.cls := hown
  have htsL : ∀ w ∈ wsL_law, w.before #[Value.ref b] s = true := fun w h => hts w (inL_law w h)
  have hbA : ¬ (fun a : Nat => s.heap.size ≤ a) b := Nat.not_le.mpr hbl
  have hA : ∀ a : Nat, s.heap.size ≤ a → (fun a : Nat => s.heap.size ≤ a) a := fun _ h => h
  obtain ⟨hK, hZ, hPC, hPM, hIC, hIM, hq, hrj, hqA, hrA, hqr, hS, hR⟩ := hI
  refine lv_aload_n hx hb dL_law_912 rfl (lv_at hl 2 rfl) ?_
  refine lv_aload_n hx hb dL_law_913 rfl (lv_at hl 3 rfl) ?_
  refine lv_iload_n hx hb dL_law_914 rfl (lv_at hl 0 rfl) ?_
  refine lv_iconst (v := 1) hx hb dL_law_915 (by decide) ?_
  refine lv_iadd hx hb dL_law_916 ?_
  refine b_vi (v := nI (i + 1)) (nI_add i 1) ?_
  refine va_sld hx hb hX hbl hbA hS (vp_in_nI (by omega) (by omega)) dL_law_917 ?_
  refine b_vi (v := xs (i + 1)) (by rw [nI_clamp (by omega)]) ?_
  refine lv_aload_n hx hb dL_law_918 rfl (lv_at hl 3 rfl) ?_
  refine lv_iload_n hx hb dL_law_919 rfl (lv_at hl 0 rfl) ?_
  refine lv_iconst (v := 2) hx hb dL_law_920 (by decide) ?_
  refine lv_iadd hx hb dL_law_921 ?_
  refine b_vi (v := nI (i + 2)) (nI_add i 2) ?_
  refine va_sld hx hb hX hbl hbA hS (vp_in_nI (by omega) (by omega)) dL_law_922 ?_
  refine b_vi (v := xs (i + 2)) (by rw [nI_clamp (by omega)]) ?_
  refine lv_aload_n hx hb dL_law_923 rfl (lv_at hl 3 rfl) ?_
  refine lv_iload_n hx hb dL_law_924 rfl (lv_at hl 0 rfl) ?_
  refine lv_iconst (v := 3) hx hb dL_law_925 (by decide) ?_
  refine lv_iadd hx hb dL_law_926 ?_
  refine b_vi (v := nI (i + 3)) (nI_add i 3) ?_
  refine va_sld hx hb hX hbl hbA hS (vp_in_nI (by omega) (by omega)) dL_law_927 ?_
  refine b_vi (v := xs (i + 3)) (by rw [nI_clamp (by omega)]) ?_
  refine L_calli2 (ci := 5) (r := (RX5, TX5, 12)) (As := [.int (xs (i + 1)), .int (xs (i + 2)), .int (xs (i + 3))]) (rest := []) (A := fun a : Nat => s.heap.size ≤ a) ⟨hx, hb, hml, hownL, htsL⟩ (g_X5_write_0 l D cy q hq z hIC (xs (i + 1)) (xs (i + 2)) (xs (i + 3))) (cwV 3 htsL gL_law_X5_write rfl rfl rfl (by decide +kernel) ⟨Nat.le_of_ble_eq_true rfl, Nat.le_of_ble_eq_true rfl⟩) hK hZ hPC (by decide) rfl rfl hqA hA hS rfl hl.1 rfl (Nat.le_of_ble_eq_true rfl) ⟨by decide, by decide⟩ dL_law_928 (fun v1 z1 H1 locs1 hp1 hPC1 hk1 hS => ?_)
  refine lv_pop hx hb dL_law_931 rfl ?_
  refine lv_aload_n hx hb dL_law_932 rfl (lv_at hl 1 rfl) ?_
  refine lv_aload_n hx hb dL_law_933 rfl (lv_at hl 3 rfl) ?_
  refine lv_iload_n hx hb dL_law_934 rfl (lv_at hl 0 rfl) ?_
  refine lv_iconst (v := 1) hx hb dL_law_935 (by decide) ?_
  refine lv_iadd hx hb dL_law_936 ?_
  refine b_vi (v := nI (i + 1)) (nI_add i 1) ?_
  refine va_sld hx hb hX hbl hbA hS (vp_in_nI (by omega) (by omega)) dL_law_937 ?_
  refine b_vi (v := xs (i + 1)) (by rw [nI_clamp (by omega)]) ?_
  refine lv_aload_n hx hb dL_law_938 rfl (lv_at hl 3 rfl) ?_
  refine lv_iload_n hx hb dL_law_939 rfl (lv_at hl 0 rfl) ?_
  refine lv_iconst (v := 2) hx hb dL_law_940 (by decide) ?_
  refine lv_iadd hx hb dL_law_941 ?_
  refine b_vi (v := nI (i + 2)) (nI_add i 2) ?_
  refine va_sld hx hb hX hbl hbA hS (vp_in_nI (by omega) (by omega)) dL_law_942 ?_
  refine b_vi (v := xs (i + 2)) (by rw [nI_clamp (by omega)]) ?_
  refine lv_aload_n hx hb dL_law_943 rfl (lv_at hl 3 rfl) ?_
  refine lv_iload_n hx hb dL_law_944 rfl (lv_at hl 0 rfl) ?_
  refine lv_iconst (v := 3) hx hb dL_law_945 (by decide) ?_
  refine lv_iadd hx hb dL_law_946 ?_
  refine b_vi (v := nI (i + 3)) (nI_add i 3) ?_
  refine va_sld hx hb hX hbl hbA hS (vp_in_nI (by omega) (by omega)) dL_law_947 ?_
  refine b_vi (v := xs (i + 3)) (by rw [nI_clamp (by omega)]) ?_
  refine L_calli2 (ci := 6) (r := (RX6, TX6, 29)) (As := [.int (xs (i + 1)), .int (xs (i + 2)), .int (xs (i + 3))]) (rest := []) (A := fun a : Nat => s.heap.size ≤ a) ⟨hx, hb, hml, hownL, htsL⟩ (g_X6_write_0 l D cy r hrj zm hIM (xs (i + 1)) (xs (i + 2)) (xs (i + 3))) (cwV 3 htsL gL_law_X6_write rfl rfl rfl (by decide +kernel) ⟨Nat.le_of_ble_eq_true rfl, Nat.le_of_ble_eq_true rfl⟩) hK hZ (kp_of hPM hqr hk1) (by decide) rfl rfl hrA hA hS rfl hl.1 rfl (Nat.le_of_ble_eq_true rfl) ⟨by decide, by decide⟩ dL_law_948 (fun v2 zm1 H2 locs2 hp2 hPM2 hk2 hS => ?_)
  refine lv_pop hx hb dL_law_951 rfl ?_
  refine lv_goto (tgt := 1116) hx hb dL_law_952 (by decide) ?_
  exact kk z1 zm1 H2 locs2 ⟨hK, hZ, kp_of hPC1 (fun i j hi hj q => hqr j i hj hi q.symm) hk2, hPM2, hp1.1.1, hp2.1.1, hq, hrj, hqA, hrA, hqr, hS, ⟨⟨⟨⟨(hp1.1.2.1 0 (by decide)).trans (hR.1.1.1.1.trans (hp2.1.2.1 0 (by decide)).symm), (hp1.1.2.1 6 (by decide)).trans (hR.1.1.1.2.1.trans (hp2.1.2.1 4 (by decide)).symm), (fun q => ((hp1.1.2.1 3 (by decide)).trans (hR.1.1.1.2.2 (by rw [← (hp1.1.2.1 6 (by decide))]; exact q))).trans (congrFun (hp2.1.2.2.1 8 (by decide)) 0).symm)⟩, (fun i hi => (congrFun (hp1.1.2.2.1 7 (by decide)) i).trans ((hR.1.1.2.1 i hi).trans (congrFun (hp2.1.2.2.1 3 (by decide)) i).symm)), (fun q i hi => (congrFun (hp1.1.2.2.1 21 (by decide)) i).trans ((hR.1.1.2.2 (by rw [← (hp1.1.2.1 6 (by decide))]; exact q) i hi).trans (congrFun (hp2.1.2.2.1 8 (by decide)) (36 + i)).symm))⟩, (by rw [(hp1.1.2.1 0 (by decide))]; exact LdI_cg (by have := iv_nat (IvC_s0 hIC) (by decide); have := (IvC_s0 hIC).2; omega) (fun i _ => congrFun (hp1.1.2.2.1 7 (by decide)) i) (fun i _ => congrFun (hp1.1.2.2.1 8 (by decide)) i) hR.1.2.1), (fun q => (by rw [(hp1.1.2.1 3 (by decide))]; exact LdI_cg (by have := iv_nat (IvC_s3 hIC) (by decide); have := (IvC_s3 hIC).2; omega) (fun i _ => congrFun (hp1.1.2.2.1 21 (by decide)) i) (fun i _ => congrFun (hp1.1.2.2.1 22 (by decide)) i) (hR.1.2.2 (by rw [← (hp1.1.2.1 6 (by decide))]; exact q))))⟩, (hp1.1.2.1 7 (by decide)).trans (hR.2.1.trans (hp2.1.2.1 3 (by decide)).symm), (fun i hi => (congrFun (hp1.1.2.2.1 30 (by decide)) i).trans ((hR.2.2 i (by rw [← (hp1.1.2.1 7 (by decide))]; exact hi)).trans (congrFun (hp2.1.2.2.1 7 (by decide)) i).symm))⟩⟩
set_option maxHeartbeats 4000000 in
set_option maxRecDepth 100000 in
theorem law_c29 {p : Program} {e : Env} {s : State} {m : MethodId} {below : List Frame} {meth : Method} {c : Code} (l : Launch) {b L : Nat} {xs : Nat → Int32} (hL : L ≤ 2560) (C0 : lw_At p s m meth c b L xs) {i : Nat} (hi : i + 5 ≤ L) {D : va_G} {cy : Nat → ClassId} {q : Nat → Nat} {z : zS} {r : Nat → Nat} {zm : zS} {H : Heap} {locs : List Loc} (hI : lwJ D cy q z r zm s H locs) {ls : Array Slot} (hl : lv_has ls 4 [(3, .int (nI i)), (2, .ref (r 0)), (1, .ref (q 0)), (0, .ref b)]) (kk : ∀ (z zm : zS) (H : Heap) (locs : List Loc), lwJ D cy q z r zm s H locs → W p l e room_1 s m #[Value.ref b] below meth c H locs 89 47199 (lw_Z below #[Value.ref b] s) (F0 m 1116 ls [])) : W p l e room_1 s m #[Value.ref b] below meth c H locs 89 47199 (lw_Z below #[Value.ref b] s) (F0 m 955 ls []) := by
  obtain ⟨hx, hb, hr, hml, hown, hts, hX, hbl, hlocks, hgv⟩ := id C0
  have hownL : s.vm.findClass RL = some m.cls := hown
  have htsL : ∀ w ∈ wsL_law, w.before #[Value.ref b] s = true := fun w h => hts w (inL_law w h)
  have hbA : ¬ (fun a : Nat => s.heap.size ≤ a) b := Nat.not_le.mpr hbl
  have hA : ∀ a : Nat, s.heap.size ≤ a → (fun a : Nat => s.heap.size ≤ a) a := fun _ h => h
  obtain ⟨hK, hZ, hPC, hPM, hIC, hIM, hq, hrj, hqA, hrA, hqr, hS, hR⟩ := hI
  refine lv_aload_n hx hb dL_law_955 rfl (lv_at hl 2 rfl) ?_
  refine lv_aload_n hx hb dL_law_956 rfl (lv_at hl 3 rfl) ?_
  refine lv_iload_n hx hb dL_law_957 rfl (lv_at hl 0 rfl) ?_
  refine lv_iconst (v := 1) hx hb dL_law_958 (by decide) ?_
  refine lv_iadd hx hb dL_law_959 ?_
  refine b_vi (v := nI (i + 1)) (nI_add i 1) ?_
  refine va_sld hx hb hX hbl hbA hS (vp_in_nI (by omega) (by omega)) dL_law_960 ?_
  refine b_vi (v := xs (i + 1)) (by rw [nI_clamp (by omega)]) ?_
  refine lv_aload_n hx hb dL_law_961 rfl (lv_at hl 3 rfl) ?_
  refine lv_iload_n hx hb dL_law_962 rfl (lv_at hl 0 rfl) ?_
  refine lv_iconst (v := 2) hx hb dL_law_963 (by decide) ?_
  refine lv_iadd hx hb dL_law_964 ?_
  refine b_vi (v := nI (i + 2)) (nI_add i 2) ?_
  refine va_sld hx hb hX hbl hbA hS (vp_in_nI (by omega) (by omega)) dL_law_965 ?_
  refine b_vi (v := xs (i + 2)) (by rw [nI_clamp (by omega)]) ?_
  refine lv_aload_n hx hb dL_law_966 rfl (lv_at hl 3 rfl) ?_
  refine lv_iload_n hx hb dL_law_967 rfl (lv_at hl 0 rfl) ?_
  refine lv_iconst (v := 3) hx hb dL_law_968 (by decide) ?_
  refine lv_iadd hx hb dL_law_969 ?_
  refine b_vi (v := nI (i + 3)) (nI_add i 3) ?_
  refine va_sld hx hb hX hbl hbA hS (vp_in_nI (by omega) (by omega)) dL_law_970 ?_
  refine b_vi (v := xs (i + 3)) (by rw [nI_clamp (by omega)]) ?_
  refine lv_aload_n hx hb dL_law_971 rfl (lv_at hl 3 rfl) ?_
  refine lv_iload_n hx hb dL_law_972 rfl (lv_at hl 0 rfl) ?_
  refine lv_iconst (v := 4) hx hb dL_law_973 (by decide) ?_
  refine lv_iadd hx hb dL_law_974 ?_
  refine b_vi (v := nI (i + 4)) (nI_add i 4) ?_
  refine va_sld hx hb hX hbl hbA hS (vp_in_nI (by omega) (by omega)) dL_law_975 ?_
  refine b_vi (v := xs (i + 4)) (by rw [nI_clamp (by omega)]) ?_
  refine L_calli2 (ci := 5) (r := (RX5, TX5, 12)) (As := [.int (xs (i + 1)), .int (xs (i + 2)), .int (xs (i + 3)), .int (xs (i + 4))]) (rest := []) (A := fun a : Nat => s.heap.size ≤ a) ⟨hx, hb, hml, hownL, htsL⟩ (g_X5_take_0 l D cy q hq z hIC (xs (i + 1)) (xs (i + 2)) (xs (i + 3)) (xs (i + 4))) (cwV 4 htsL gL_law_X5_take rfl rfl rfl (by decide +kernel) ⟨Nat.le_of_ble_eq_true rfl, Nat.le_of_ble_eq_true rfl⟩) hK hZ hPC (by decide) rfl rfl hqA hA hS rfl hl.1 rfl (Nat.le_of_ble_eq_true rfl) ⟨by decide, by decide⟩ dL_law_976 (fun v1 z1 H1 locs1 hp1 hPC1 hk1 hS => ?_)
  refine lv_pop hx hb dL_law_979 rfl ?_
  refine lv_aload_n hx hb dL_law_980 rfl (lv_at hl 1 rfl) ?_
  refine lv_aload_n hx hb dL_law_981 rfl (lv_at hl 3 rfl) ?_
  refine lv_iload_n hx hb dL_law_982 rfl (lv_at hl 0 rfl) ?_
  refine lv_iconst (v := 1) hx hb dL_law_983 (by decide) ?_
  refine lv_iadd hx hb dL_law_984 ?_
  refine b_vi (v := nI (i + 1)) (nI_add i 1) ?_
  refine va_sld hx hb hX hbl hbA hS (vp_in_nI (by omega) (by omega)) dL_law_985 ?_
  refine b_vi (v := xs (i + 1)) (by rw [nI_clamp (by omega)]) ?_
  refine lv_aload_n hx hb dL_law_986 rfl (lv_at hl 3 rfl) ?_
  refine lv_iload_n hx hb dL_law_987 rfl (lv_at hl 0 rfl) ?_
  refine lv_iconst (v := 2) hx hb dL_law_988 (by decide) ?_
  refine lv_iadd hx hb dL_law_989 ?_
  refine b_vi (v := nI (i + 2)) (nI_add i 2) ?_
  refine va_sld hx hb hX hbl hbA hS (vp_in_nI (by omega) (by omega)) dL_law_990 ?_
  refine b_vi (v := xs (i + 2)) (by rw [nI_clamp (by omega)]) ?_
  refine lv_aload_n hx hb dL_law_991 rfl (lv_at hl 3 rfl) ?_
  refine lv_iload_n hx hb dL_law_992 rfl (lv_at hl 0 rfl) ?_
  refine lv_iconst (v := 3) hx hb dL_law_993 (by decide) ?_
  refine lv_iadd hx hb dL_law_994 ?_
  refine b_vi (v := nI (i + 3)) (nI_add i 3) ?_
  refine va_sld hx hb hX hbl hbA hS (vp_in_nI (by omega) (by omega)) dL_law_995 ?_
  refine b_vi (v := xs (i + 3)) (by rw [nI_clamp (by omega)]) ?_
  refine lv_aload_n hx hb dL_law_996 rfl (lv_at hl 3 rfl) ?_
  refine lv_iload_n hx hb dL_law_997 rfl (lv_at hl 0 rfl) ?_
  refine lv_iconst (v := 4) hx hb dL_law_998 (by decide) ?_
  refine lv_iadd hx hb dL_law_999 ?_
  refine b_vi (v := nI (i + 4)) (nI_add i 4) ?_
  refine va_sld hx hb hX hbl hbA hS (vp_in_nI (by omega) (by omega)) dL_law_1000 ?_
  refine b_vi (v := xs (i + 4)) (by rw [nI_clamp (by omega)]) ?_
  refine L_calli2 (ci := 6) (r := (RX6, TX6, 29)) (As := [.int (xs (i + 1)), .int (xs (i + 2)), .int (xs (i + 3)), .int (xs (i + 4))]) (rest := []) (A := fun a : Nat => s.heap.size ≤ a) ⟨hx, hb, hml, hownL, htsL⟩ (g_X6_take_0 l D cy r hrj zm hIM (xs (i + 1)) (xs (i + 2)) (xs (i + 3)) (xs (i + 4))) (cwV 4 htsL gL_law_X6_take rfl rfl rfl (by decide +kernel) ⟨Nat.le_of_ble_eq_true rfl, Nat.le_of_ble_eq_true rfl⟩) hK hZ (kp_of hPM hqr hk1) (by decide) rfl rfl hrA hA hS rfl hl.1 rfl (Nat.le_of_ble_eq_true rfl) ⟨by decide, by decide⟩ dL_law_1001 (fun v2 zm1 H2 locs2 hp2 hPM2 hk2 hS => ?_)
  refine lv_pop hx hb dL_law_1004 rfl ?_
  refine lv_goto (tgt := 1116) hx hb dL_law_1005 (by decide) ?_
  exact kk z1 zm1 H2 locs2 ⟨hK, hZ, kp_of hPC1 (fun i j hi hj q => hqr j i hj hi q.symm) hk2, hPM2, hp1.1.1, hp2.1.1, hq, hrj, hqA, hrA, hqr, hS, ⟨⟨⟨⟨(hp1.1.2.1 0 (by decide)).trans (hR.1.1.1.1.trans (hp2.1.2.1 0 (by decide)).symm), (hp1.1.2.1 6 (by decide)).trans (hR.1.1.1.2.1.trans (hp2.1.2.1 4 (by decide)).symm), (fun q => ((hp1.1.2.1 3 (by decide)).trans (hR.1.1.1.2.2 (by rw [← (hp1.1.2.1 6 (by decide))]; exact q))).trans (congrFun (hp2.1.2.2.1 8 (by decide)) 0).symm)⟩, (fun i hi => (congrFun (hp1.1.2.2.1 7 (by decide)) i).trans ((hR.1.1.2.1 i hi).trans (congrFun (hp2.1.2.2.1 3 (by decide)) i).symm)), (fun q i hi => (congrFun (hp1.1.2.2.1 21 (by decide)) i).trans ((hR.1.1.2.2 (by rw [← (hp1.1.2.1 6 (by decide))]; exact q) i hi).trans (congrFun (hp2.1.2.2.1 8 (by decide)) (36 + i)).symm))⟩, (by rw [(hp1.1.2.1 0 (by decide))]; exact LdI_cg (by have := iv_nat (IvC_s0 hIC) (by decide); have := (IvC_s0 hIC).2; omega) (fun i _ => congrFun (hp1.1.2.2.1 7 (by decide)) i) (fun i _ => congrFun (hp1.1.2.2.1 8 (by decide)) i) hR.1.2.1), (fun q => (by rw [(hp1.1.2.1 3 (by decide))]; exact LdI_cg (by have := iv_nat (IvC_s3 hIC) (by decide); have := (IvC_s3 hIC).2; omega) (fun i _ => congrFun (hp1.1.2.2.1 21 (by decide)) i) (fun i _ => congrFun (hp1.1.2.2.1 22 (by decide)) i) (hR.1.2.2 (by rw [← (hp1.1.2.1 6 (by decide))]; exact q))))⟩, (hp1.1.2.1 7 (by decide)).trans (hR.2.1.trans (hp2.1.2.1 3 (by decide)).symm), (fun i hi => (congrFun (hp1.1.2.2.1 30 (by decide)) i).trans ((hR.2.2 i (by rw [← (hp1.1.2.1 7 (by decide))]; exact hi)).trans (congrFun (hp2.1.2.2.1 7 (by decide)) i).symm))⟩⟩
set_option maxHeartbeats 4000000 in
set_option maxRecDepth 100000 in
theorem law_c30 {p : Program} {e : Env} {s : State} {m : MethodId} {below : List Frame} {meth : Method} {c : Code} (l : Launch) {b L : Nat} {xs : Nat → Int32} (hL : L ≤ 2560) (C0 : lw_At p s m meth c b L xs) {i : Nat} (hi : i + 5 ≤ L) {D : va_G} {cy : Nat → ClassId} {q : Nat → Nat} {z : zS} {r : Nat → Nat} {zm : zS} {H : Heap} {locs : List Loc} (hI : lwJ D cy q z r zm s H locs) {ls : Array Slot} (hl : lv_has ls 4 [(3, .int (nI i)), (2, .ref (r 0)), (1, .ref (q 0)), (0, .ref b)]) (kk : ∀ (z zm : zS) (H : Heap) (locs : List Loc), lwJ D cy q z r zm s H locs → W p l e room_1 s m #[Value.ref b] below meth c H locs 89 47199 (lw_Z below #[Value.ref b] s) (F0 m 1116 ls [])) : W p l e room_1 s m #[Value.ref b] below meth c H locs 89 47199 (lw_Z below #[Value.ref b] s) (F0 m 1008 ls []) := by
  obtain ⟨hx, hb, hr, hml, hown, hts, hX, hbl, hlocks, hgv⟩ := id C0
  have hownL : s.vm.findClass RL = some m.cls := hown
  have htsL : ∀ w ∈ wsL_law, w.before #[Value.ref b] s = true := fun w h => hts w (inL_law w h)
  have hbA : ¬ (fun a : Nat => s.heap.size ≤ a) b := Nat.not_le.mpr hbl
  have hA : ∀ a : Nat, s.heap.size ≤ a → (fun a : Nat => s.heap.size ≤ a) a := fun _ h => h
  obtain ⟨hK, hZ, hPC, hPM, hIC, hIM, hq, hrj, hqA, hrA, hqr, hS, hR⟩ := hI
  refine lv_aload_n hx hb dL_law_1008 rfl (lv_at hl 2 rfl) ?_
  refine lv_aload_n hx hb dL_law_1009 rfl (lv_at hl 3 rfl) ?_
  refine lv_iload_n hx hb dL_law_1010 rfl (lv_at hl 0 rfl) ?_
  refine lv_iconst (v := 1) hx hb dL_law_1011 (by decide) ?_
  refine lv_iadd hx hb dL_law_1012 ?_
  refine b_vi (v := nI (i + 1)) (nI_add i 1) ?_
  refine va_sld hx hb hX hbl hbA hS (vp_in_nI (by omega) (by omega)) dL_law_1013 ?_
  refine b_vi (v := xs (i + 1)) (by rw [nI_clamp (by omega)]) ?_
  refine L_calli2 (ci := 5) (r := (RX5, TX5, 12)) (As := [.int (xs (i + 1))]) (rest := []) (A := fun a : Nat => s.heap.size ≤ a) ⟨hx, hb, hml, hownL, htsL⟩ (g_X5_lose_0 l D cy q hq z hIC (xs (i + 1))) (cwV 1 htsL gL_law_X5_lose rfl rfl rfl (by decide +kernel) ⟨Nat.le_of_ble_eq_true rfl, Nat.le_of_ble_eq_true rfl⟩) hK hZ hPC (by decide) rfl rfl hqA hA hS rfl hl.1 rfl (Nat.le_of_ble_eq_true rfl) ⟨by decide, by decide⟩ dL_law_1014 (fun v1 z1 H1 locs1 hp1 hPC1 hk1 hS => ?_)
  refine lv_pop hx hb dL_law_1017 rfl ?_
  refine lv_aload_n hx hb dL_law_1018 rfl (lv_at hl 1 rfl) ?_
  refine lv_aload_n hx hb dL_law_1019 rfl (lv_at hl 3 rfl) ?_
  refine lv_iload_n hx hb dL_law_1020 rfl (lv_at hl 0 rfl) ?_
  refine lv_iconst (v := 1) hx hb dL_law_1021 (by decide) ?_
  refine lv_iadd hx hb dL_law_1022 ?_
  refine b_vi (v := nI (i + 1)) (nI_add i 1) ?_
  refine va_sld hx hb hX hbl hbA hS (vp_in_nI (by omega) (by omega)) dL_law_1023 ?_
  refine b_vi (v := xs (i + 1)) (by rw [nI_clamp (by omega)]) ?_
  refine L_calli2 (ci := 6) (r := (RX6, TX6, 29)) (As := [.int (xs (i + 1))]) (rest := []) (A := fun a : Nat => s.heap.size ≤ a) ⟨hx, hb, hml, hownL, htsL⟩ (g_X6_lose_0 l D cy r hrj zm hIM (xs (i + 1))) (cwV 1 htsL gL_law_X6_lose rfl rfl rfl (by decide +kernel) ⟨Nat.le_of_ble_eq_true rfl, Nat.le_of_ble_eq_true rfl⟩) hK hZ (kp_of hPM hqr hk1) (by decide) rfl rfl hrA hA hS rfl hl.1 rfl (Nat.le_of_ble_eq_true rfl) ⟨by decide, by decide⟩ dL_law_1024 (fun v2 zm1 H2 locs2 hp2 hPM2 hk2 hS => ?_)
  refine lv_pop hx hb dL_law_1027 rfl ?_
  refine lv_goto (tgt := 1116) hx hb dL_law_1028 (by decide) ?_
  exact kk z1 zm1 H2 locs2 ⟨hK, hZ, kp_of hPC1 (fun i j hi hj q => hqr j i hj hi q.symm) hk2, hPM2, hp1.1.1, hp2.1.1, hq, hrj, hqA, hrA, hqr, hS, ⟨⟨⟨⟨(hp1.1.2.1 0 (by decide)).trans (hR.1.1.1.1.trans (hp2.1.2.1 0 (by decide)).symm), (hp1.1.2.1 6 (by decide)).trans (hR.1.1.1.2.1.trans (hp2.1.2.1 4 (by decide)).symm), (fun q => ((hp1.1.2.1 3 (by decide)).trans (hR.1.1.1.2.2 (by rw [← (hp1.1.2.1 6 (by decide))]; exact q))).trans (congrFun (hp2.1.2.2.1 8 (by decide)) 0).symm)⟩, (fun i hi => (congrFun (hp1.1.2.2.1 7 (by decide)) i).trans ((hR.1.1.2.1 i hi).trans (congrFun (hp2.1.2.2.1 3 (by decide)) i).symm)), (fun q i hi => (congrFun (hp1.1.2.2.1 21 (by decide)) i).trans ((hR.1.1.2.2 (by rw [← (hp1.1.2.1 6 (by decide))]; exact q) i hi).trans (congrFun (hp2.1.2.2.1 8 (by decide)) (36 + i)).symm))⟩, (by rw [(hp1.1.2.1 0 (by decide))]; exact LdI_cg (by have := iv_nat (IvC_s0 hIC) (by decide); have := (IvC_s0 hIC).2; omega) (fun i _ => congrFun (hp1.1.2.2.1 7 (by decide)) i) (fun i _ => congrFun (hp1.1.2.2.1 8 (by decide)) i) hR.1.2.1), (fun q => (by rw [(hp1.1.2.1 3 (by decide))]; exact LdI_cg (by have := iv_nat (IvC_s3 hIC) (by decide); have := (IvC_s3 hIC).2; omega) (fun i _ => congrFun (hp1.1.2.2.1 21 (by decide)) i) (fun i _ => congrFun (hp1.1.2.2.1 22 (by decide)) i) (hR.1.2.2 (by rw [← (hp1.1.2.1 6 (by decide))]; exact q))))⟩, (hp1.1.2.1 7 (by decide)).trans (hR.2.1.trans (hp2.1.2.1 3 (by decide)).symm), (fun i hi => (congrFun (hp1.1.2.2.1 30 (by decide)) i).trans ((hR.2.2 i (by rw [← (hp1.1.2.1 7 (by decide))]; exact hi)).trans (congrFun (hp2.1.2.2.1 7 (by decide)) i).symm))⟩⟩
set_option maxHeartbeats 4000000 in
set_option maxRecDepth 100000 in
theorem law_c31 {p : Program} {e : Env} {s : State} {m : MethodId} {below : List Frame} {meth : Method} {c : Code} (l : Launch) {b L : Nat} {xs : Nat → Int32} (hL : L ≤ 2560) (C0 : lw_At p s m meth c b L xs) {i : Nat} (hi : i + 5 ≤ L) {D : va_G} {cy : Nat → ClassId} {q : Nat → Nat} {z : zS} {r : Nat → Nat} {zm : zS} {H : Heap} {locs : List Loc} (hI : lwJ D cy q z r zm s H locs) {ls : Array Slot} (hl : lv_has ls 4 [(3, .int (nI i)), (2, .ref (r 0)), (1, .ref (q 0)), (0, .ref b)]) (kk : ∀ (z zm : zS) (H : Heap) (locs : List Loc), lwJ D cy q z r zm s H locs → W p l e room_1 s m #[Value.ref b] below meth c H locs 89 47199 (lw_Z below #[Value.ref b] s) (F0 m 1116 ls [])) : W p l e room_1 s m #[Value.ref b] below meth c H locs 89 47199 (lw_Z below #[Value.ref b] s) (F0 m 1031 ls []) := by
  obtain ⟨hx, hb, hr, hml, hown, hts, hX, hbl, hlocks, hgv⟩ := id C0
  have hownL : s.vm.findClass RL = some m.cls := hown
  have htsL : ∀ w ∈ wsL_law, w.before #[Value.ref b] s = true := fun w h => hts w (inL_law w h)
  have hbA : ¬ (fun a : Nat => s.heap.size ≤ a) b := Nat.not_le.mpr hbl
  have hA : ∀ a : Nat, s.heap.size ≤ a → (fun a : Nat => s.heap.size ≤ a) a := fun _ h => h
  obtain ⟨hK, hZ, hPC, hPM, hIC, hIM, hq, hrj, hqA, hrA, hqr, hS, hR⟩ := hI
  refine lv_aload_n hx hb dL_law_1031 rfl (lv_at hl 2 rfl) ?_
  refine lv_aload_n hx hb dL_law_1032 rfl (lv_at hl 3 rfl) ?_
  refine lv_iload_n hx hb dL_law_1033 rfl (lv_at hl 0 rfl) ?_
  refine lv_iconst (v := 1) hx hb dL_law_1034 (by decide) ?_
  refine lv_iadd hx hb dL_law_1035 ?_
  refine b_vi (v := nI (i + 1)) (nI_add i 1) ?_
  refine va_sld hx hb hX hbl hbA hS (vp_in_nI (by omega) (by omega)) dL_law_1036 ?_
  refine b_vi (v := xs (i + 1)) (by rw [nI_clamp (by omega)]) ?_
  refine L_calli2 (ci := 5) (r := (RX5, TX5, 12)) (As := [.int (xs (i + 1))]) (rest := []) (A := fun a : Nat => s.heap.size ≤ a) ⟨hx, hb, hml, hownL, htsL⟩ (g_X5_tell_0 l D cy q hq z hIC (xs (i + 1))) (cwV 1 htsL gL_law_X5_tell rfl rfl rfl (by decide +kernel) ⟨Nat.le_of_ble_eq_true rfl, Nat.le_of_ble_eq_true rfl⟩) hK hZ hPC (by decide) rfl rfl hqA hA hS rfl hl.1 rfl (Nat.le_of_ble_eq_true rfl) ⟨by decide, by decide⟩ dL_law_1037 (fun v1 z1 H1 locs1 hp1 hPC1 hk1 hS => ?_)
  refine lv_pop hx hb dL_law_1040 rfl ?_
  refine lv_aload_n hx hb dL_law_1041 rfl (lv_at hl 1 rfl) ?_
  refine lv_aload_n hx hb dL_law_1042 rfl (lv_at hl 3 rfl) ?_
  refine lv_iload_n hx hb dL_law_1043 rfl (lv_at hl 0 rfl) ?_
  refine lv_iconst (v := 1) hx hb dL_law_1044 (by decide) ?_
  refine lv_iadd hx hb dL_law_1045 ?_
  refine b_vi (v := nI (i + 1)) (nI_add i 1) ?_
  refine va_sld hx hb hX hbl hbA hS (vp_in_nI (by omega) (by omega)) dL_law_1046 ?_
  refine b_vi (v := xs (i + 1)) (by rw [nI_clamp (by omega)]) ?_
  refine L_calli2 (ci := 6) (r := (RX6, TX6, 29)) (As := [.int (xs (i + 1))]) (rest := []) (A := fun a : Nat => s.heap.size ≤ a) ⟨hx, hb, hml, hownL, htsL⟩ (g_X6_tell_0 l D cy r hrj zm hIM (xs (i + 1))) (cwV 1 htsL gL_law_X6_tell rfl rfl rfl (by decide +kernel) ⟨Nat.le_of_ble_eq_true rfl, Nat.le_of_ble_eq_true rfl⟩) hK hZ (kp_of hPM hqr hk1) (by decide) rfl rfl hrA hA hS rfl hl.1 rfl (Nat.le_of_ble_eq_true rfl) ⟨by decide, by decide⟩ dL_law_1047 (fun v2 zm1 H2 locs2 hp2 hPM2 hk2 hS => ?_)
  refine lv_pop hx hb dL_law_1050 rfl ?_
  refine lv_goto (tgt := 1116) hx hb dL_law_1051 (by decide) ?_
  exact kk z1 zm1 H2 locs2 ⟨hK, hZ, kp_of hPC1 (fun i j hi hj q => hqr j i hj hi q.symm) hk2, hPM2, hp1.1.1, hp2.1.1, hq, hrj, hqA, hrA, hqr, hS, ⟨⟨⟨⟨(hp1.1.2.1 0 (by decide)).trans (hR.1.1.1.1.trans (hp2.1.2.1 0 (by decide)).symm), (hp1.1.2.1 6 (by decide)).trans (hR.1.1.1.2.1.trans (hp2.1.2.1 4 (by decide)).symm), (fun q => ((hp1.1.2.1 3 (by decide)).trans (hR.1.1.1.2.2 (by rw [← (hp1.1.2.1 6 (by decide))]; exact q))).trans (congrFun (hp2.1.2.2.1 8 (by decide)) 0).symm)⟩, (fun i hi => (congrFun (hp1.1.2.2.1 7 (by decide)) i).trans ((hR.1.1.2.1 i hi).trans (congrFun (hp2.1.2.2.1 3 (by decide)) i).symm)), (fun q i hi => (congrFun (hp1.1.2.2.1 21 (by decide)) i).trans ((hR.1.1.2.2 (by rw [← (hp1.1.2.1 6 (by decide))]; exact q) i hi).trans (congrFun (hp2.1.2.2.1 8 (by decide)) (36 + i)).symm))⟩, (by rw [(hp1.1.2.1 0 (by decide))]; exact LdI_cg (by have := iv_nat (IvC_s0 hIC) (by decide); have := (IvC_s0 hIC).2; omega) (fun i _ => congrFun (hp1.1.2.2.1 7 (by decide)) i) (fun i _ => congrFun (hp1.1.2.2.1 8 (by decide)) i) hR.1.2.1), (fun q => (by rw [(hp1.1.2.1 3 (by decide))]; exact LdI_cg (by have := iv_nat (IvC_s3 hIC) (by decide); have := (IvC_s3 hIC).2; omega) (fun i _ => congrFun (hp1.1.2.2.1 21 (by decide)) i) (fun i _ => congrFun (hp1.1.2.2.1 22 (by decide)) i) (hR.1.2.2 (by rw [← (hp1.1.2.1 6 (by decide))]; exact q))))⟩, (hp1.1.2.1 7 (by decide)).trans (hR.2.1.trans (hp2.1.2.1 3 (by decide)).symm), (fun i hi => (congrFun (hp1.1.2.2.1 30 (by decide)) i).trans ((hR.2.2 i (by rw [← (hp1.1.2.1 7 (by decide))]; exact hi)).trans (congrFun (hp2.1.2.2.1 7 (by decide)) i).symm))⟩⟩
set_option maxHeartbeats 4000000 in
set_option maxRecDepth 100000 in
theorem law_c32 {p : Program} {e : Env} {s : State} {m : MethodId} {below : List Frame} {meth : Method} {c : Code} (l : Launch) {b L : Nat} {xs : Nat → Int32} (hL : L ≤ 2560) (C0 : lw_At p s m meth c b L xs) {i : Nat} (hi : i + 5 ≤ L) {D : va_G} {cy : Nat → ClassId} {q : Nat → Nat} {z : zS} {r : Nat → Nat} {zm : zS} {H : Heap} {locs : List Loc} (hI : lwJ D cy q z r zm s H locs) {ls : Array Slot} (hl : lv_has ls 4 [(3, .int (nI i)), (2, .ref (r 0)), (1, .ref (q 0)), (0, .ref b)]) (kk : ∀ (z zm : zS) (H : Heap) (locs : List Loc), lwJ D cy q z r zm s H locs → W p l e room_1 s m #[Value.ref b] below meth c H locs 89 47199 (lw_Z below #[Value.ref b] s) (F0 m 1116 ls [])) : W p l e room_1 s m #[Value.ref b] below meth c H locs 89 47199 (lw_Z below #[Value.ref b] s) (F0 m 1054 ls []) := by
  obtain ⟨hx, hb, hr, hml, hown, hts, hX, hbl, hlocks, hgv⟩ := id C0
  have hownL : s.vm.findClass RL = some m.cls := hown
  have htsL : ∀ w ∈ wsL_law, w.before #[Value.ref b] s = true := fun w h => hts w (inL_law w h)
  have hbA : ¬ (fun a : Nat => s.heap.size ≤ a) b := Nat.not_le.mpr hbl
  have hA : ∀ a : Nat, s.heap.size ≤ a → (fun a : Nat => s.heap.size ≤ a) a := fun _ h => h
  obtain ⟨hK, hZ, hPC, hPM, hIC, hIM, hq, hrj, hqA, hrA, hqr, hS, hR⟩ := hI
  refine lv_aload_n hx hb dL_law_1054 rfl (lv_at hl 2 rfl) ?_
  refine L_calli2 (ci := 5) (r := (RX5, TX5, 12)) (As := []) (rest := []) (A := fun a : Nat => s.heap.size ≤ a) ⟨hx, hb, hml, hownL, htsL⟩ (g_X5_check_0 l D cy q hq z hIC ) (cwV 0 htsL gL_law_X5_check rfl rfl rfl (by decide +kernel) ⟨Nat.le_of_ble_eq_true rfl, Nat.le_of_ble_eq_true rfl⟩) hK hZ hPC (by decide) rfl rfl hqA hA hS rfl hl.1 rfl (Nat.le_of_ble_eq_true rfl) ⟨by decide, by decide⟩ dL_law_1055 (fun v1 z1 H1 locs1 hp1 hPC1 hk1 hS => ?_)
  refine lv_pop hx hb dL_law_1058 rfl ?_
  refine lv_aload_n hx hb dL_law_1059 rfl (lv_at hl 1 rfl) ?_
  refine L_calli2 (ci := 6) (r := (RX6, TX6, 29)) (As := []) (rest := []) (A := fun a : Nat => s.heap.size ≤ a) ⟨hx, hb, hml, hownL, htsL⟩ (g_X6_check_0 l D cy r hrj zm hIM ) (cwV 0 htsL gL_law_X6_check rfl rfl rfl (by decide +kernel) ⟨Nat.le_of_ble_eq_true rfl, Nat.le_of_ble_eq_true rfl⟩) hK hZ (kp_of hPM hqr hk1) (by decide) rfl rfl hrA hA hS rfl hl.1 rfl (Nat.le_of_ble_eq_true rfl) ⟨by decide, by decide⟩ dL_law_1060 (fun v2 zm1 H2 locs2 hp2 hPM2 hk2 hS => ?_)
  refine lv_pop hx hb dL_law_1063 rfl ?_
  refine lv_goto (tgt := 1116) hx hb dL_law_1064 (by decide) ?_
  exact kk z1 zm1 H2 locs2 ⟨hK, hZ, kp_of hPC1 (fun i j hi hj q => hqr j i hj hi q.symm) hk2, hPM2, hp1.1.1, hp2.1.1, hq, hrj, hqA, hrA, hqr, hS, ⟨⟨⟨⟨(hp1.1.2.1 0 (by decide)).trans (hR.1.1.1.1.trans (hp2.1.2.1 0 (by decide)).symm), (hp1.1.2.1 6 (by decide)).trans (hR.1.1.1.2.1.trans (hp2.1.2.1 4 (by decide)).symm), (fun q => ((hp1.1.2.1 3 (by decide)).trans (hR.1.1.1.2.2 (by rw [← (hp1.1.2.1 6 (by decide))]; exact q))).trans (congrFun (hp2.1.2.2.1 8 (by decide)) 0).symm)⟩, (fun i hi => (congrFun (hp1.1.2.2.1 7 (by decide)) i).trans ((hR.1.1.2.1 i hi).trans (congrFun (hp2.1.2.2.1 3 (by decide)) i).symm)), (fun q i hi => (congrFun (hp1.1.2.2.1 21 (by decide)) i).trans ((hR.1.1.2.2 (by rw [← (hp1.1.2.1 6 (by decide))]; exact q) i hi).trans (congrFun (hp2.1.2.2.1 8 (by decide)) (36 + i)).symm))⟩, (by rw [(hp1.1.2.1 0 (by decide))]; exact LdI_cg (by have := iv_nat (IvC_s0 hIC) (by decide); have := (IvC_s0 hIC).2; omega) (fun i _ => congrFun (hp1.1.2.2.1 7 (by decide)) i) (fun i _ => congrFun (hp1.1.2.2.1 8 (by decide)) i) hR.1.2.1), (fun q => (by rw [(hp1.1.2.1 3 (by decide))]; exact LdI_cg (by have := iv_nat (IvC_s3 hIC) (by decide); have := (IvC_s3 hIC).2; omega) (fun i _ => congrFun (hp1.1.2.2.1 21 (by decide)) i) (fun i _ => congrFun (hp1.1.2.2.1 22 (by decide)) i) (hR.1.2.2 (by rw [← (hp1.1.2.1 6 (by decide))]; exact q))))⟩, (hp1.1.2.1 7 (by decide)).trans (hR.2.1.trans (hp2.1.2.1 3 (by decide)).symm), (fun i hi => (congrFun (hp1.1.2.2.1 30 (by decide)) i).trans ((hR.2.2 i (by rw [← (hp1.1.2.1 7 (by decide))]; exact hi)).trans (congrFun (hp2.1.2.2.1 7 (by decide)) i).symm))⟩⟩
set_option maxHeartbeats 4000000 in
set_option maxRecDepth 100000 in
theorem law_c33 {p : Program} {e : Env} {s : State} {m : MethodId} {below : List Frame} {meth : Method} {c : Code} (l : Launch) {b L : Nat} {xs : Nat → Int32} (hL : L ≤ 2560) (C0 : lw_At p s m meth c b L xs) {i : Nat} (hi : i + 5 ≤ L) {D : va_G} {cy : Nat → ClassId} {q : Nat → Nat} {z : zS} {r : Nat → Nat} {zm : zS} {H : Heap} {locs : List Loc} (hI : lwJ D cy q z r zm s H locs) {ls : Array Slot} (hl : lv_has ls 4 [(3, .int (nI i)), (2, .ref (r 0)), (1, .ref (q 0)), (0, .ref b)]) (kk : ∀ (z zm : zS) (H : Heap) (locs : List Loc), lwJ D cy q z r zm s H locs → W p l e room_1 s m #[Value.ref b] below meth c H locs 89 47199 (lw_Z below #[Value.ref b] s) (F0 m 1116 ls [])) : W p l e room_1 s m #[Value.ref b] below meth c H locs 89 47199 (lw_Z below #[Value.ref b] s) (F0 m 1067 ls []) := by
  obtain ⟨hx, hb, hr, hml, hown, hts, hX, hbl, hlocks, hgv⟩ := id C0
  have hownL : s.vm.findClass RL = some m.cls := hown
  have htsL : ∀ w ∈ wsL_law, w.before #[Value.ref b] s = true := fun w h => hts w (inL_law w h)
  have hbA : ¬ (fun a : Nat => s.heap.size ≤ a) b := Nat.not_le.mpr hbl
  have hA : ∀ a : Nat, s.heap.size ≤ a → (fun a : Nat => s.heap.size ≤ a) a := fun _ h => h
  obtain ⟨hK, hZ, hPC, hPM, hIC, hIM, hq, hrj, hqA, hrA, hqr, hS, hR⟩ := hI
  refine lv_aload_n hx hb dL_law_1067 rfl (lv_at hl 2 rfl) ?_
  refine L_calli2 (ci := 5) (r := (RX5, TX5, 12)) (As := []) (rest := []) (A := fun a : Nat => s.heap.size ≤ a) ⟨hx, hb, hml, hownL, htsL⟩ (g_X5_keep_0 l D cy q hq z hIC ) (cwV 0 htsL gL_law_X5_keep rfl rfl rfl (by decide +kernel) ⟨Nat.le_of_ble_eq_true rfl, Nat.le_of_ble_eq_true rfl⟩) hK hZ hPC (by decide) rfl rfl hqA hA hS rfl hl.1 rfl (Nat.le_of_ble_eq_true rfl) ⟨by decide, by decide⟩ dL_law_1068 (fun v1 z1 H1 locs1 hp1 hPC1 hk1 hS => ?_)
  refine lv_pop hx hb dL_law_1071 rfl ?_
  refine lv_aload_n hx hb dL_law_1072 rfl (lv_at hl 1 rfl) ?_
  refine L_calli2 (ci := 6) (r := (RX6, TX6, 29)) (As := []) (rest := []) (A := fun a : Nat => s.heap.size ≤ a) ⟨hx, hb, hml, hownL, htsL⟩ (g_X6_keep_0 l D cy r hrj zm hIM ) (cwV 0 htsL gL_law_X6_keep rfl rfl rfl (by decide +kernel) ⟨Nat.le_of_ble_eq_true rfl, Nat.le_of_ble_eq_true rfl⟩) hK hZ (kp_of hPM hqr hk1) (by decide) rfl rfl hrA hA hS rfl hl.1 rfl (Nat.le_of_ble_eq_true rfl) ⟨by decide, by decide⟩ dL_law_1073 (fun v2 zm1 H2 locs2 hp2 hPM2 hk2 hS => ?_)
  refine lv_pop hx hb dL_law_1076 rfl ?_
  refine lv_goto (tgt := 1116) hx hb dL_law_1077 (by decide) ?_
  exact kk z1 zm1 H2 locs2 ⟨hK, hZ, kp_of hPC1 (fun i j hi hj q => hqr j i hj hi q.symm) hk2, hPM2, hp1.1.1, hp2.1.1, hq, hrj, hqA, hrA, hqr, hS, ⟨⟨⟨⟨(hp1.1.2.1 0 (by decide)).trans (hR.1.1.1.1.trans (hp2.2.2.1.2.2.2.2.2.1).symm), (hp1.2.2.1.2.2.2.2).trans (hp2.2.2.1.2.2.2.2.1).symm, fun _ => (hp1.2.2.1.2.1).trans (hR.1.1.1.1.trans (hp2.2.2.1.2.1).symm)⟩, (fun i hi => (congrFun (hp1.1.2.2.1 7 (by decide)) i).trans ((hR.1.1.2.1 i hi).trans (congrFun (hp2.1.2.2.1 3 (by decide)) i).symm)), (fun _ i hi => (hp1.2.2.2.1.1 i hi).trans ((hR.1.1.2.1 i hi).trans (hp2.2.2.2.1.1 i hi).symm))⟩, (by rw [(hp1.1.2.1 0 (by decide))]; exact LdI_cg (by have := iv_nat (IvC_s0 hIC) (by decide); have := (IvC_s0 hIC).2; omega) (fun i _ => congrFun (hp1.1.2.2.1 7 (by decide)) i) (fun i _ => congrFun (hp1.1.2.2.1 8 (by decide)) i) hR.1.2.1), (fun _ => (by rw [hp1.2.2.1.2.1]; exact LdI_cg (by have := iv_nat (IvC_s0 hIC) (by decide); have := (IvC_s0 hIC).2; omega) hp1.2.2.2.1.1 hp1.2.2.2.1.2.1 hR.1.2.1))⟩, (hp1.1.2.1 7 (by decide)).trans (hR.2.1.trans (hp2.1.2.1 3 (by decide)).symm), (fun i hi => (congrFun (hp1.1.2.2.1 30 (by decide)) i).trans ((hR.2.2 i (by rw [← (hp1.1.2.1 7 (by decide))]; exact hi)).trans (congrFun (hp2.1.2.2.1 7 (by decide)) i).symm))⟩⟩
set_option maxHeartbeats 4000000 in
set_option maxRecDepth 100000 in
theorem law_c34 {p : Program} {e : Env} {s : State} {m : MethodId} {below : List Frame} {meth : Method} {c : Code} (l : Launch) {b L : Nat} {xs : Nat → Int32} (hL : L ≤ 2560) (C0 : lw_At p s m meth c b L xs) {i : Nat} (hi : i + 5 ≤ L) {D : va_G} {cy : Nat → ClassId} {q : Nat → Nat} {z : zS} {r : Nat → Nat} {zm : zS} {H : Heap} {locs : List Loc} (hI : lwJ D cy q z r zm s H locs) {ls : Array Slot} (hl : lv_has ls 4 [(3, .int (nI i)), (2, .ref (r 0)), (1, .ref (q 0)), (0, .ref b)]) (kk : ∀ (z zm : zS) (H : Heap) (locs : List Loc), lwJ D cy q z r zm s H locs → W p l e room_1 s m #[Value.ref b] below meth c H locs 89 47199 (lw_Z below #[Value.ref b] s) (F0 m 1116 ls [])) : W p l e room_1 s m #[Value.ref b] below meth c H locs 89 47199 (lw_Z below #[Value.ref b] s) (F0 m 1080 ls []) := by
  obtain ⟨hx, hb, hr, hml, hown, hts, hX, hbl, hlocks, hgv⟩ := id C0
  have hownL : s.vm.findClass RL = some m.cls := hown
  have htsL : ∀ w ∈ wsL_law, w.before #[Value.ref b] s = true := fun w h => hts w (inL_law w h)
  have hbA : ¬ (fun a : Nat => s.heap.size ≤ a) b := Nat.not_le.mpr hbl
  have hA : ∀ a : Nat, s.heap.size ≤ a → (fun a : Nat => s.heap.size ≤ a) a := fun _ h => h
  obtain ⟨hK, hZ, hPC, hPM, hIC, hIM, hq, hrj, hqA, hrA, hqr, hS, hR⟩ := hI
  refine lv_aload_n hx hb dL_law_1080 rfl (lv_at hl 2 rfl) ?_
  refine L_calli2 (ci := 5) (r := (RX5, TX5, 12)) (As := []) (rest := []) (A := fun a : Nat => s.heap.size ≤ a) ⟨hx, hb, hml, hownL, htsL⟩ (g_X5_back_0 l D cy q hq z hIC ) (cwV 0 htsL gL_law_X5_back rfl rfl rfl (by decide +kernel) ⟨Nat.le_of_ble_eq_true rfl, Nat.le_of_ble_eq_true rfl⟩) hK hZ hPC (by decide) rfl rfl hqA hA hS rfl hl.1 rfl (Nat.le_of_ble_eq_true rfl) ⟨by decide, by decide⟩ dL_law_1081 (fun v1 z1 H1 locs1 hp1 hPC1 hk1 hS => ?_)
  refine lv_pop hx hb dL_law_1084 rfl ?_
  refine lv_aload_n hx hb dL_law_1085 rfl (lv_at hl 1 rfl) ?_
  refine L_calli2 (ci := 6) (r := (RX6, TX6, 29)) (As := []) (rest := []) (A := fun a : Nat => s.heap.size ≤ a) ⟨hx, hb, hml, hownL, htsL⟩ (g_X6_back_0 l D cy r hrj zm hIM ) (cwV 0 htsL gL_law_X6_back rfl rfl rfl (by decide +kernel) ⟨Nat.le_of_ble_eq_true rfl, Nat.le_of_ble_eq_true rfl⟩) hK hZ (kp_of hPM hqr hk1) (by decide) rfl rfl hrA hA hS rfl hl.1 rfl (Nat.le_of_ble_eq_true rfl) ⟨by decide, by decide⟩ dL_law_1086 (fun v2 zm1 H2 locs2 hp2 hPM2 hk2 hS => ?_)
  refine lv_pop hx hb dL_law_1089 rfl ?_
  refine lv_goto (tgt := 1116) hx hb dL_law_1090 (by decide) ?_
  exact kk z1 zm1 H2 locs2 ⟨hK, hZ, kp_of hPC1 (fun i j hi hj q => hqr j i hj hi q.symm) hk2, hPM2, hp1.1.1, hp2.1.1, hq, hrj, hqA, hrA, hqr, hS, ⟨⟨⟨⟨((Classical.em (z.1 6 = 0)).elim (fun q => (hp1.2.2.1.1 q).2.1.trans (hR.1.1.1.1.trans (hp2.2.2.1.1 (by rw [← hR.1.1.1.2.1]; exact q)).2.1.symm)) (fun q => (hp1.2.2.1.2 q).2.1.trans ((hR.1.1.1.2.2 q).trans (hp2.2.2.1.2 (by rw [← hR.1.1.1.2.1]; exact q)).2.1.symm))), (hp1.1.2.1 6 (by decide)).trans (hR.1.1.1.2.1.trans (hp2.1.2.1 4 (by decide)).symm), (fun q => ((hp1.1.2.1 3 (by decide)).trans (hR.1.1.1.2.2 (by rw [← (hp1.1.2.1 6 (by decide))]; exact q))).trans (congrFun (hp2.1.2.2.1 8 (by decide)) 0).symm)⟩, (BkR_eq hR.1.1.2.1 hR.1.1.2.2 hp1.2.2.2.1.1 (by rw [hR.1.1.1.2.1]; exact hp2.2.2.2.1.1)), (fun q i hi => (congrFun (hp1.1.2.2.1 21 (by decide)) i).trans ((hR.1.1.2.2 (by rw [← (hp1.1.2.1 6 (by decide))]; exact q) i hi).trans (congrFun (hp2.1.2.2.1 8 (by decide)) (36 + i)).symm))⟩, ((Classical.em (z.1 6 = 0)).elim (fun q => (by rw [(hp1.2.2.1.1 q).2.1, hp1.2.2.2.1.1.1 q, hp1.2.2.2.1.2.1.1 q]; exact hR.1.2.1)) (fun q => (by rw [(hp1.2.2.1.2 q).2.1]; exact LdI_cg (by have := iv_nat (IvC_s3 hIC) (by decide); have := (IvC_s3 hIC).2; omega) (hp1.2.2.2.1.1.2 q) (hp1.2.2.2.1.2.1.2 q) (hR.1.2.2 q)))), (fun q => (by rw [(hp1.1.2.1 3 (by decide))]; exact LdI_cg (by have := iv_nat (IvC_s3 hIC) (by decide); have := (IvC_s3 hIC).2; omega) (fun i _ => congrFun (hp1.1.2.2.1 21 (by decide)) i) (fun i _ => congrFun (hp1.1.2.2.1 22 (by decide)) i) (hR.1.2.2 (by rw [← (hp1.1.2.1 6 (by decide))]; exact q))))⟩, (hp1.1.2.1 7 (by decide)).trans (hR.2.1.trans (hp2.1.2.1 3 (by decide)).symm), (fun i hi => (congrFun (hp1.1.2.2.1 30 (by decide)) i).trans ((hR.2.2 i (by rw [← (hp1.1.2.1 7 (by decide))]; exact hi)).trans (congrFun (hp2.1.2.2.1 7 (by decide)) i).symm))⟩⟩
set_option maxHeartbeats 4000000 in
set_option maxRecDepth 100000 in
theorem law_c35 {p : Program} {e : Env} {s : State} {m : MethodId} {below : List Frame} {meth : Method} {c : Code} (l : Launch) {b L : Nat} {xs : Nat → Int32} (hL : L ≤ 2560) (C0 : lw_At p s m meth c b L xs) {i : Nat} (hi : i + 5 ≤ L) {D : va_G} {cy : Nat → ClassId} {q : Nat → Nat} {z : zS} {r : Nat → Nat} {zm : zS} {H : Heap} {locs : List Loc} (hI : lwJ D cy q z r zm s H locs) {ls : Array Slot} (hl : lv_has ls 4 [(3, .int (nI i)), (2, .ref (r 0)), (1, .ref (q 0)), (0, .ref b)]) (kk : ∀ (z zm : zS) (H : Heap) (locs : List Loc), lwJ D cy q z r zm s H locs → W p l e room_1 s m #[Value.ref b] below meth c H locs 89 47199 (lw_Z below #[Value.ref b] s) (F0 m 1116 ls [])) : W p l e room_1 s m #[Value.ref b] below meth c H locs 89 47199 (lw_Z below #[Value.ref b] s) (F0 m 1093 ls []) := by
  obtain ⟨hx, hb, hr, hml, hown, hts, hX, hbl, hlocks, hgv⟩ := id C0
  have hownL : s.vm.findClass RL = some m.cls := hown
  have htsL : ∀ w ∈ wsL_law, w.before #[Value.ref b] s = true := fun w h => hts w (inL_law w h)
  have hbA : ¬ (fun a : Nat => s.heap.size ≤ a) b := Nat.not_le.mpr hbl
  have hA : ∀ a : Nat, s.heap.size ≤ a → (fun a : Nat => s.heap.size ≤ a) a := fun _ h => h
  obtain ⟨hK, hZ, hPC, hPM, hIC, hIM, hq, hrj, hqA, hrA, hqr, hS, hR⟩ := hI
  refine lv_aload_n hx hb dL_law_1093 rfl (lv_at hl 2 rfl) ?_
  refine lv_aload_n hx hb dL_law_1094 rfl (lv_at hl 3 rfl) ?_
  refine lv_iload_n hx hb dL_law_1095 rfl (lv_at hl 0 rfl) ?_
  refine lv_iconst (v := 1) hx hb dL_law_1096 (by decide) ?_
  refine lv_iadd hx hb dL_law_1097 ?_
  refine b_vi (v := nI (i + 1)) (nI_add i 1) ?_
  refine va_sld hx hb hX hbl hbA hS (vp_in_nI (by omega) (by omega)) dL_law_1098 ?_
  refine b_vi (v := xs (i + 1)) (by rw [nI_clamp (by omega)]) ?_
  refine L_calli2 (ci := 5) (r := (RX5, TX5, 12)) (As := [.int (xs (i + 1))]) (rest := []) (A := fun a : Nat => s.heap.size ≤ a) ⟨hx, hb, hml, hownL, htsL⟩ (g_X5_count_0 l D cy q hq z hIC (xs (i + 1))) (cwV 1 htsL gL_law_X5_count rfl rfl rfl (by decide +kernel) ⟨Nat.le_of_ble_eq_true rfl, Nat.le_of_ble_eq_true rfl⟩) hK hZ hPC (by decide) rfl rfl hqA hA hS rfl hl.1 rfl (Nat.le_of_ble_eq_true rfl) ⟨by decide, by decide⟩ dL_law_1099 (fun v1 z1 H1 locs1 hp1 hPC1 hk1 hS => ?_)
  refine lv_pop hx hb dL_law_1102 rfl ?_
  refine lv_aload_n hx hb dL_law_1103 rfl (lv_at hl 1 rfl) ?_
  refine lv_aload_n hx hb dL_law_1104 rfl (lv_at hl 3 rfl) ?_
  refine lv_iload_n hx hb dL_law_1105 rfl (lv_at hl 0 rfl) ?_
  refine lv_iconst (v := 1) hx hb dL_law_1106 (by decide) ?_
  refine lv_iadd hx hb dL_law_1107 ?_
  refine b_vi (v := nI (i + 1)) (nI_add i 1) ?_
  refine va_sld hx hb hX hbl hbA hS (vp_in_nI (by omega) (by omega)) dL_law_1108 ?_
  refine b_vi (v := xs (i + 1)) (by rw [nI_clamp (by omega)]) ?_
  refine L_calli2 (ci := 6) (r := (RX6, TX6, 29)) (As := [.int (xs (i + 1))]) (rest := []) (A := fun a : Nat => s.heap.size ≤ a) ⟨hx, hb, hml, hownL, htsL⟩ (g_X6_count_0 l D cy r hrj zm hIM (xs (i + 1))) (cwV 1 htsL gL_law_X6_count rfl rfl rfl (by decide +kernel) ⟨Nat.le_of_ble_eq_true rfl, Nat.le_of_ble_eq_true rfl⟩) hK hZ (kp_of hPM hqr hk1) (by decide) rfl rfl hrA hA hS rfl hl.1 rfl (Nat.le_of_ble_eq_true rfl) ⟨by decide, by decide⟩ dL_law_1109 (fun v2 zm1 H2 locs2 hp2 hPM2 hk2 hS => ?_)
  refine lv_pop hx hb dL_law_1112 rfl ?_
  refine lv_goto (tgt := 1116) hx hb dL_law_1113 (by decide) ?_
  exact kk z1 zm1 H2 locs2 ⟨hK, hZ, kp_of hPC1 (fun i j hi hj q => hqr j i hj hi q.symm) hk2, hPM2, hp1.1.1, hp2.1.1, hq, hrj, hqA, hrA, hqr, hS, ⟨⟨⟨⟨(hp1.1.2.1 0 (by decide)).trans (hR.1.1.1.1.trans (hp2.1.2.1 0 (by decide)).symm), (hp1.1.2.1 6 (by decide)).trans (hR.1.1.1.2.1.trans (hp2.1.2.1 4 (by decide)).symm), (fun q => ((hp1.1.2.1 3 (by decide)).trans (hR.1.1.1.2.2 (by rw [← (hp1.1.2.1 6 (by decide))]; exact q))).trans (congrFun (hp2.1.2.2.1 8 (by decide)) 0).symm)⟩, (fun i hi => (congrFun (hp1.1.2.2.1 7 (by decide)) i).trans ((hR.1.1.2.1 i hi).trans (congrFun (hp2.1.2.2.1 3 (by decide)) i).symm)), (fun q i hi => (congrFun (hp1.1.2.2.1 21 (by decide)) i).trans ((hR.1.1.2.2 (by rw [← (hp1.1.2.1 6 (by decide))]; exact q) i hi).trans (congrFun (hp2.1.2.2.1 8 (by decide)) (36 + i)).symm))⟩, (by rw [(hp1.1.2.1 0 (by decide))]; exact LdI_cg (by have := iv_nat (IvC_s0 hIC) (by decide); have := (IvC_s0 hIC).2; omega) (fun i _ => congrFun (hp1.1.2.2.1 7 (by decide)) i) (fun i _ => congrFun (hp1.1.2.2.1 8 (by decide)) i) hR.1.2.1), (fun q => (by rw [(hp1.1.2.1 3 (by decide))]; exact LdI_cg (by have := iv_nat (IvC_s3 hIC) (by decide); have := (IvC_s3 hIC).2; omega) (fun i _ => congrFun (hp1.1.2.2.1 21 (by decide)) i) (fun i _ => congrFun (hp1.1.2.2.1 22 (by decide)) i) (hR.1.2.2 (by rw [← (hp1.1.2.1 6 (by decide))]; exact q))))⟩, (hp1.1.2.1 7 (by decide)).trans (hR.2.1.trans (hp2.1.2.1 3 (by decide)).symm), (fun i hi => (congrFun (hp1.1.2.2.1 30 (by decide)) i).trans ((hR.2.2 i (by rw [← (hp1.1.2.1 7 (by decide))]; exact hi)).trans (congrFun (hp2.1.2.2.1 7 (by decide)) i).symm))⟩⟩
