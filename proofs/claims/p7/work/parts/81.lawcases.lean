set_option maxHeartbeats 4000000 in
set_option maxRecDepth 100000 in
theorem law_c0 {p : Program} {e : Env} {s : State} {m : MethodId} {below : List Frame} {meth : Method} {c : Code} (l : Launch) {b L : Nat} {xs : Nat → Int32} (hL : L ≤ 2560) (C0 : lw_At p s m meth c b L xs) {i : Nat} (hi : i + 5 ≤ L) {D : va_G} {cy : Nat → ClassId} {q : Nat → Nat} {z : zS} {r : Nat → Nat} {zm : zS} {H : Heap} {locs : List Loc} (hI : lwJ D cy q z r zm s H locs) {ls : Array Slot} (hl : lv_has ls 4 [(3, .int (nI i)), (2, .ref (r 0)), (1, .ref (q 0)), (0, .ref b)]) (kk : ∀ (z zm : zS) (H : Heap) (locs : List Loc), lwJ D cy q z r zm s H locs → W p l e room_1 s m #[Value.ref b] below meth c H locs 89 47199 (lw_Z below #[Value.ref b] s) (F0 m 1116 ls [])) : W p l e room_1 s m #[Value.ref b] below meth c H locs 89 47199 (lw_Z below #[Value.ref b] s) (F0 m 192 ls []) := by
  obtain ⟨hx, hb, hr, hml, hown, hts, hX, hbl, hlocks, hgv⟩ := id C0
  have hownL : s.vm.findClass RL = some m.cls := hown
  have htsL : ∀ w ∈ wsL_law, w.before #[Value.ref b] s = true := fun w h => hts w (inL_law w h)
  have hbA : ¬ (fun a : Nat => s.heap.size ≤ a) b := Nat.not_le.mpr hbl
  have hA : ∀ a : Nat, s.heap.size ≤ a → (fun a : Nat => s.heap.size ≤ a) a := fun _ h => h
  obtain ⟨hK, hZ, hPC, hPM, hIC, hIM, hq, hrj, hqA, hrA, hqr, hS, hR⟩ := hI
  refine lv_aload_n hx hb dL_law_192 rfl (lv_at hl 2 rfl) ?_
  refine L_calli2 (ci := 5) (r := (RX5, TX5, 12)) (As := []) (rest := []) (A := fun a : Nat => s.heap.size ≤ a) ⟨hx, hb, hml, hownL, htsL⟩ (g_X5_task_0 l D cy q hq z hIC ) (cwV 0 htsL gL_law_X5_task rfl rfl rfl (by decide +kernel) ⟨Nat.le_of_ble_eq_true rfl, Nat.le_of_ble_eq_true rfl⟩) hK hZ hPC (by decide) rfl rfl hqA hA hS rfl hl.1 rfl (Nat.le_of_ble_eq_true rfl) ⟨by decide, by decide⟩ dL_law_193 (fun v1 z1 H1 locs1 hp1 hPC1 hk1 hS => ?_)
  refine lv_pop hx hb dL_law_196 rfl ?_
  refine lv_aload_n hx hb dL_law_197 rfl (lv_at hl 1 rfl) ?_
  refine L_calli2 (ci := 6) (r := (RX6, TX6, 29)) (As := []) (rest := []) (A := fun a : Nat => s.heap.size ≤ a) ⟨hx, hb, hml, hownL, htsL⟩ (g_X6_task_0 l D cy r hrj zm hIM ) (cwV 0 htsL gL_law_X6_task rfl rfl rfl (by decide +kernel) ⟨Nat.le_of_ble_eq_true rfl, Nat.le_of_ble_eq_true rfl⟩) hK hZ (kp_of hPM hqr hk1) (by decide) rfl rfl hrA hA hS rfl hl.1 rfl (Nat.le_of_ble_eq_true rfl) ⟨by decide, by decide⟩ dL_law_198 (fun v2 zm1 H2 locs2 hp2 hPM2 hk2 hS => ?_)
  refine lv_pop hx hb dL_law_201 rfl ?_
  refine lv_goto (tgt := 1116) hx hb dL_law_202 (by decide) ?_
  exact kk z1 zm1 H2 locs2 ⟨hK, hZ, kp_of hPC1 (fun i j hi hj q => hqr j i hj hi q.symm) hk2, hPM2, hp1.1.1, hp2.1.1, hq, hrj, hqA, hrA, hqr, hS, ⟨⟨⟨⟨(TaskP_eq hp1.2.2.1 (by rw [hR.1.1.1.1]; exact hp2.2.2.1)).2, (hp1.1.2.1 6 (by decide)).trans (hR.1.1.1.2.1.trans (hp2.1.2.1 4 (by decide)).symm), (fun q => ((hp1.1.2.1 3 (by decide)).trans (hR.1.1.1.2.2 (by rw [← (hp1.1.2.1 6 (by decide))]; exact q))).trans (congrFun (hp2.1.2.2.1 8 (by decide)) 0).symm)⟩, (TkR_eq hR.1.1.2.1 hp1.2.2.2.1.1 (by rw [hR.1.1.1.1]; exact hp2.2.2.2.1.1)), (fun q i hi => (congrFun (hp1.1.2.2.1 21 (by decide)) i).trans ((hR.1.1.2.2 (by rw [← (hp1.1.2.1 6 (by decide))]; exact q) i hi).trans (congrFun (hp2.1.2.2.1 8 (by decide)) (36 + i)).symm))⟩, (LdI_task (IvC_s0 hIC) hp1.2.2.2.1.1 hp1.2.2.2.1.2.1 hp1.2.2.1 hR.1.2.1), (fun q => (by rw [(hp1.1.2.1 3 (by decide))]; exact LdI_cg (by have := iv_nat (IvC_s3 hIC) (by decide); have := (IvC_s3 hIC).2; omega) (fun i _ => congrFun (hp1.1.2.2.1 21 (by decide)) i) (fun i _ => congrFun (hp1.1.2.2.1 22 (by decide)) i) (hR.1.2.2 (by rw [← (hp1.1.2.1 6 (by decide))]; exact q))))⟩, (hp1.1.2.1 7 (by decide)).trans (hR.2.1.trans (hp2.1.2.1 3 (by decide)).symm), (fun i hi => (congrFun (hp1.1.2.2.1 30 (by decide)) i).trans ((hR.2.2 i (by rw [← (hp1.1.2.1 7 (by decide))]; exact hi)).trans (congrFun (hp2.1.2.2.1 7 (by decide)) i).symm))⟩⟩
set_option maxHeartbeats 4000000 in
set_option maxRecDepth 100000 in
theorem law_c1 {p : Program} {e : Env} {s : State} {m : MethodId} {below : List Frame} {meth : Method} {c : Code} (l : Launch) {b L : Nat} {xs : Nat → Int32} (hL : L ≤ 2560) (C0 : lw_At p s m meth c b L xs) {i : Nat} (hi : i + 5 ≤ L) {D : va_G} {cy : Nat → ClassId} {q : Nat → Nat} {z : zS} {r : Nat → Nat} {zm : zS} {H : Heap} {locs : List Loc} (hI : lwJ D cy q z r zm s H locs) {ls : Array Slot} (hl : lv_has ls 4 [(3, .int (nI i)), (2, .ref (r 0)), (1, .ref (q 0)), (0, .ref b)]) (kk : ∀ (z zm : zS) (H : Heap) (locs : List Loc), lwJ D cy q z r zm s H locs → W p l e room_1 s m #[Value.ref b] below meth c H locs 89 47199 (lw_Z below #[Value.ref b] s) (F0 m 1116 ls [])) : W p l e room_1 s m #[Value.ref b] below meth c H locs 89 47199 (lw_Z below #[Value.ref b] s) (F0 m 205 ls []) := by
  obtain ⟨hx, hb, hr, hml, hown, hts, hX, hbl, hlocks, hgv⟩ := id C0
  have hownL : s.vm.findClass RL = some m.cls := hown
  have htsL : ∀ w ∈ wsL_law, w.before #[Value.ref b] s = true := fun w h => hts w (inL_law w h)
  have hbA : ¬ (fun a : Nat => s.heap.size ≤ a) b := Nat.not_le.mpr hbl
  have hA : ∀ a : Nat, s.heap.size ≤ a → (fun a : Nat => s.heap.size ≤ a) a := fun _ h => h
  obtain ⟨hK, hZ, hPC, hPM, hIC, hIM, hq, hrj, hqA, hrA, hqr, hS, hR⟩ := hI
  refine lv_aload_n hx hb dL_law_205 rfl (lv_at hl 2 rfl) ?_
  refine lv_aload_n hx hb dL_law_206 rfl (lv_at hl 3 rfl) ?_
  refine lv_iload_n hx hb dL_law_207 rfl (lv_at hl 0 rfl) ?_
  refine lv_iconst (v := 1) hx hb dL_law_208 (by decide) ?_
  refine lv_iadd hx hb dL_law_209 ?_
  refine b_vi (v := nI (i + 1)) (nI_add i 1) ?_
  refine va_sld hx hb hX hbl hbA hS (vp_in_nI (by omega) (by omega)) dL_law_210 ?_
  refine b_vi (v := xs (i + 1)) (by rw [nI_clamp (by omega)]) ?_
  refine lv_aload_n hx hb dL_law_211 rfl (lv_at hl 3 rfl) ?_
  refine lv_iload_n hx hb dL_law_212 rfl (lv_at hl 0 rfl) ?_
  refine lv_iconst (v := 2) hx hb dL_law_213 (by decide) ?_
  refine lv_iadd hx hb dL_law_214 ?_
  refine b_vi (v := nI (i + 2)) (nI_add i 2) ?_
  refine va_sld hx hb hX hbl hbA hS (vp_in_nI (by omega) (by omega)) dL_law_215 ?_
  refine b_vi (v := xs (i + 2)) (by rw [nI_clamp (by omega)]) ?_
  refine lv_aload_n hx hb dL_law_216 rfl (lv_at hl 3 rfl) ?_
  refine lv_iload_n hx hb dL_law_217 rfl (lv_at hl 0 rfl) ?_
  refine lv_iconst (v := 3) hx hb dL_law_218 (by decide) ?_
  refine lv_iadd hx hb dL_law_219 ?_
  refine b_vi (v := nI (i + 3)) (nI_add i 3) ?_
  refine va_sld hx hb hX hbl hbA hS (vp_in_nI (by omega) (by omega)) dL_law_220 ?_
  refine b_vi (v := xs (i + 3)) (by rw [nI_clamp (by omega)]) ?_
  refine L_calli2 (ci := 5) (r := (RX5, TX5, 12)) (As := [.int (xs (i + 1)), .int (xs (i + 2)), .int (xs (i + 3))]) (rest := []) (A := fun a : Nat => s.heap.size ≤ a) ⟨hx, hb, hml, hownL, htsL⟩ (g_X5_time_0 l D cy q hq z hIC (xs (i + 1)) (xs (i + 2)) (xs (i + 3))) (cwV 3 htsL gL_law_X5_time rfl rfl rfl (by decide +kernel) ⟨Nat.le_of_ble_eq_true rfl, Nat.le_of_ble_eq_true rfl⟩) hK hZ hPC (by decide) rfl rfl hqA hA hS rfl hl.1 rfl (Nat.le_of_ble_eq_true rfl) ⟨by decide, by decide⟩ dL_law_221 (fun v1 z1 H1 locs1 hp1 hPC1 hk1 hS => ?_)
  refine lv_pop hx hb dL_law_224 rfl ?_
  refine lv_aload_n hx hb dL_law_225 rfl (lv_at hl 1 rfl) ?_
  refine lv_aload_n hx hb dL_law_226 rfl (lv_at hl 3 rfl) ?_
  refine lv_iload_n hx hb dL_law_227 rfl (lv_at hl 0 rfl) ?_
  refine lv_iconst (v := 1) hx hb dL_law_228 (by decide) ?_
  refine lv_iadd hx hb dL_law_229 ?_
  refine b_vi (v := nI (i + 1)) (nI_add i 1) ?_
  refine va_sld hx hb hX hbl hbA hS (vp_in_nI (by omega) (by omega)) dL_law_230 ?_
  refine b_vi (v := xs (i + 1)) (by rw [nI_clamp (by omega)]) ?_
  refine lv_aload_n hx hb dL_law_231 rfl (lv_at hl 3 rfl) ?_
  refine lv_iload_n hx hb dL_law_232 rfl (lv_at hl 0 rfl) ?_
  refine lv_iconst (v := 2) hx hb dL_law_233 (by decide) ?_
  refine lv_iadd hx hb dL_law_234 ?_
  refine b_vi (v := nI (i + 2)) (nI_add i 2) ?_
  refine va_sld hx hb hX hbl hbA hS (vp_in_nI (by omega) (by omega)) dL_law_235 ?_
  refine b_vi (v := xs (i + 2)) (by rw [nI_clamp (by omega)]) ?_
  refine lv_aload_n hx hb dL_law_236 rfl (lv_at hl 3 rfl) ?_
  refine lv_iload_n hx hb dL_law_237 rfl (lv_at hl 0 rfl) ?_
  refine lv_iconst (v := 3) hx hb dL_law_238 (by decide) ?_
  refine lv_iadd hx hb dL_law_239 ?_
  refine b_vi (v := nI (i + 3)) (nI_add i 3) ?_
  refine va_sld hx hb hX hbl hbA hS (vp_in_nI (by omega) (by omega)) dL_law_240 ?_
  refine b_vi (v := xs (i + 3)) (by rw [nI_clamp (by omega)]) ?_
  refine L_calli2 (ci := 6) (r := (RX6, TX6, 29)) (As := [.int (xs (i + 1)), .int (xs (i + 2)), .int (xs (i + 3))]) (rest := []) (A := fun a : Nat => s.heap.size ≤ a) ⟨hx, hb, hml, hownL, htsL⟩ (g_X6_time_0 l D cy r hrj zm hIM (xs (i + 1)) (xs (i + 2)) (xs (i + 3))) (cwV 3 htsL gL_law_X6_time rfl rfl rfl (by decide +kernel) ⟨Nat.le_of_ble_eq_true rfl, Nat.le_of_ble_eq_true rfl⟩) hK hZ (kp_of hPM hqr hk1) (by decide) rfl rfl hrA hA hS rfl hl.1 rfl (Nat.le_of_ble_eq_true rfl) ⟨by decide, by decide⟩ dL_law_241 (fun v2 zm1 H2 locs2 hp2 hPM2 hk2 hS => ?_)
  refine lv_pop hx hb dL_law_244 rfl ?_
  refine lv_goto (tgt := 1116) hx hb dL_law_245 (by decide) ?_
  exact kk z1 zm1 H2 locs2 ⟨hK, hZ, kp_of hPC1 (fun i j hi hj q => hqr j i hj hi q.symm) hk2, hPM2, hp1.1.1, hp2.1.1, hq, hrj, hqA, hrA, hqr, hS, ⟨⟨⟨⟨(hp1.1.2.1 0 (by decide)).trans (hR.1.1.1.1.trans (hp2.1.2.1 0 (by decide)).symm), (hp1.1.2.1 6 (by decide)).trans (hR.1.1.1.2.1.trans (hp2.1.2.1 4 (by decide)).symm), (fun q => ((hp1.1.2.1 3 (by decide)).trans (hR.1.1.1.2.2 (by rw [← (hp1.1.2.1 6 (by decide))]; exact q))).trans (congrFun (hp2.1.2.2.1 8 (by decide)) 0).symm)⟩, (fun i hi => (congrFun (hp1.1.2.2.1 7 (by decide)) i).trans ((hR.1.1.2.1 i hi).trans (congrFun (hp2.1.2.2.1 3 (by decide)) i).symm)), (fun q i hi => (congrFun (hp1.1.2.2.1 21 (by decide)) i).trans ((hR.1.1.2.2 (by rw [← (hp1.1.2.1 6 (by decide))]; exact q) i hi).trans (congrFun (hp2.1.2.2.1 8 (by decide)) (36 + i)).symm))⟩, (by rw [(hp1.1.2.1 0 (by decide))]; exact LdI_cg (by have := iv_nat (IvC_s0 hIC) (by decide); have := (IvC_s0 hIC).2; omega) (fun i _ => congrFun (hp1.1.2.2.1 7 (by decide)) i) (fun i _ => congrFun (hp1.1.2.2.1 8 (by decide)) i) hR.1.2.1), (fun q => (by rw [(hp1.1.2.1 3 (by decide))]; exact LdI_cg (by have := iv_nat (IvC_s3 hIC) (by decide); have := (IvC_s3 hIC).2; omega) (fun i _ => congrFun (hp1.1.2.2.1 21 (by decide)) i) (fun i _ => congrFun (hp1.1.2.2.1 22 (by decide)) i) (hR.1.2.2 (by rw [← (hp1.1.2.1 6 (by decide))]; exact q))))⟩, (hp1.1.2.1 7 (by decide)).trans (hR.2.1.trans (hp2.1.2.1 3 (by decide)).symm), (fun i hi => (congrFun (hp1.1.2.2.1 30 (by decide)) i).trans ((hR.2.2 i (by rw [← (hp1.1.2.1 7 (by decide))]; exact hi)).trans (congrFun (hp2.1.2.2.1 7 (by decide)) i).symm))⟩⟩
set_option maxHeartbeats 4000000 in
set_option maxRecDepth 100000 in
theorem law_c2 {p : Program} {e : Env} {s : State} {m : MethodId} {below : List Frame} {meth : Method} {c : Code} (l : Launch) {b L : Nat} {xs : Nat → Int32} (hL : L ≤ 2560) (C0 : lw_At p s m meth c b L xs) {i : Nat} (hi : i + 5 ≤ L) {D : va_G} {cy : Nat → ClassId} {q : Nat → Nat} {z : zS} {r : Nat → Nat} {zm : zS} {H : Heap} {locs : List Loc} (hI : lwJ D cy q z r zm s H locs) {ls : Array Slot} (hl : lv_has ls 4 [(3, .int (nI i)), (2, .ref (r 0)), (1, .ref (q 0)), (0, .ref b)]) (kk : ∀ (z zm : zS) (H : Heap) (locs : List Loc), lwJ D cy q z r zm s H locs → W p l e room_1 s m #[Value.ref b] below meth c H locs 89 47199 (lw_Z below #[Value.ref b] s) (F0 m 1116 ls [])) : W p l e room_1 s m #[Value.ref b] below meth c H locs 89 47199 (lw_Z below #[Value.ref b] s) (F0 m 248 ls []) := by
  obtain ⟨hx, hb, hr, hml, hown, hts, hX, hbl, hlocks, hgv⟩ := id C0
  have hownL : s.vm.findClass RL = some m.cls := hown
  have htsL : ∀ w ∈ wsL_law, w.before #[Value.ref b] s = true := fun w h => hts w (inL_law w h)
  have hbA : ¬ (fun a : Nat => s.heap.size ≤ a) b := Nat.not_le.mpr hbl
  have hA : ∀ a : Nat, s.heap.size ≤ a → (fun a : Nat => s.heap.size ≤ a) a := fun _ h => h
  obtain ⟨hK, hZ, hPC, hPM, hIC, hIM, hq, hrj, hqA, hrA, hqr, hS, hR⟩ := hI
  refine lv_aload_n hx hb dL_law_248 rfl (lv_at hl 2 rfl) ?_
  refine lv_aload_n hx hb dL_law_249 rfl (lv_at hl 3 rfl) ?_
  refine lv_iload_n hx hb dL_law_250 rfl (lv_at hl 0 rfl) ?_
  refine lv_iconst (v := 1) hx hb dL_law_251 (by decide) ?_
  refine lv_iadd hx hb dL_law_252 ?_
  refine b_vi (v := nI (i + 1)) (nI_add i 1) ?_
  refine va_sld hx hb hX hbl hbA hS (vp_in_nI (by omega) (by omega)) dL_law_253 ?_
  refine b_vi (v := xs (i + 1)) (by rw [nI_clamp (by omega)]) ?_
  refine lv_aload_n hx hb dL_law_254 rfl (lv_at hl 3 rfl) ?_
  refine lv_iload_n hx hb dL_law_255 rfl (lv_at hl 0 rfl) ?_
  refine lv_iconst (v := 2) hx hb dL_law_256 (by decide) ?_
  refine lv_iadd hx hb dL_law_257 ?_
  refine b_vi (v := nI (i + 2)) (nI_add i 2) ?_
  refine va_sld hx hb hX hbl hbA hS (vp_in_nI (by omega) (by omega)) dL_law_258 ?_
  refine b_vi (v := xs (i + 2)) (by rw [nI_clamp (by omega)]) ?_
  refine L_calli2 (ci := 5) (r := (RX5, TX5, 12)) (As := [.int (xs (i + 1)), .int (xs (i + 2))]) (rest := []) (A := fun a : Nat => s.heap.size ≤ a) ⟨hx, hb, hml, hownL, htsL⟩ (g_X5_share_0 l D cy q hq z hIC (xs (i + 1)) (xs (i + 2))) (cwV 2 htsL gL_law_X5_share rfl rfl rfl (by decide +kernel) ⟨Nat.le_of_ble_eq_true rfl, Nat.le_of_ble_eq_true rfl⟩) hK hZ hPC (by decide) rfl rfl hqA hA hS rfl hl.1 rfl (Nat.le_of_ble_eq_true rfl) ⟨by decide, by decide⟩ dL_law_259 (fun v1 z1 H1 locs1 hp1 hPC1 hk1 hS => ?_)
  refine lv_pop hx hb dL_law_262 rfl ?_
  refine lv_aload_n hx hb dL_law_263 rfl (lv_at hl 1 rfl) ?_
  refine lv_aload_n hx hb dL_law_264 rfl (lv_at hl 3 rfl) ?_
  refine lv_iload_n hx hb dL_law_265 rfl (lv_at hl 0 rfl) ?_
  refine lv_iconst (v := 1) hx hb dL_law_266 (by decide) ?_
  refine lv_iadd hx hb dL_law_267 ?_
  refine b_vi (v := nI (i + 1)) (nI_add i 1) ?_
  refine va_sld hx hb hX hbl hbA hS (vp_in_nI (by omega) (by omega)) dL_law_268 ?_
  refine b_vi (v := xs (i + 1)) (by rw [nI_clamp (by omega)]) ?_
  refine lv_aload_n hx hb dL_law_269 rfl (lv_at hl 3 rfl) ?_
  refine lv_iload_n hx hb dL_law_270 rfl (lv_at hl 0 rfl) ?_
  refine lv_iconst (v := 2) hx hb dL_law_271 (by decide) ?_
  refine lv_iadd hx hb dL_law_272 ?_
  refine b_vi (v := nI (i + 2)) (nI_add i 2) ?_
  refine va_sld hx hb hX hbl hbA hS (vp_in_nI (by omega) (by omega)) dL_law_273 ?_
  refine b_vi (v := xs (i + 2)) (by rw [nI_clamp (by omega)]) ?_
  refine L_calli2 (ci := 6) (r := (RX6, TX6, 29)) (As := [.int (xs (i + 1)), .int (xs (i + 2))]) (rest := []) (A := fun a : Nat => s.heap.size ≤ a) ⟨hx, hb, hml, hownL, htsL⟩ (g_X6_share_0 l D cy r hrj zm hIM (xs (i + 1)) (xs (i + 2))) (cwV 2 htsL gL_law_X6_share rfl rfl rfl (by decide +kernel) ⟨Nat.le_of_ble_eq_true rfl, Nat.le_of_ble_eq_true rfl⟩) hK hZ (kp_of hPM hqr hk1) (by decide) rfl rfl hrA hA hS rfl hl.1 rfl (Nat.le_of_ble_eq_true rfl) ⟨by decide, by decide⟩ dL_law_274 (fun v2 zm1 H2 locs2 hp2 hPM2 hk2 hS => ?_)
  refine lv_pop hx hb dL_law_277 rfl ?_
  refine lv_goto (tgt := 1116) hx hb dL_law_278 (by decide) ?_
  exact kk z1 zm1 H2 locs2 ⟨hK, hZ, kp_of hPC1 (fun i j hi hj q => hqr j i hj hi q.symm) hk2, hPM2, hp1.1.1, hp2.1.1, hq, hrj, hqA, hrA, hqr, hS, ⟨⟨⟨⟨(hp1.1.2.1 0 (by decide)).trans (hR.1.1.1.1.trans (hp2.1.2.1 0 (by decide)).symm), (hp1.1.2.1 6 (by decide)).trans (hR.1.1.1.2.1.trans (hp2.1.2.1 4 (by decide)).symm), (fun q => ((hp1.1.2.1 3 (by decide)).trans (hR.1.1.1.2.2 (by rw [← (hp1.1.2.1 6 (by decide))]; exact q))).trans (congrFun (hp2.1.2.2.1 8 (by decide)) 0).symm)⟩, (fun i hi => (congrFun (hp1.1.2.2.1 7 (by decide)) i).trans ((hR.1.1.2.1 i hi).trans (congrFun (hp2.1.2.2.1 3 (by decide)) i).symm)), (fun q i hi => (congrFun (hp1.1.2.2.1 21 (by decide)) i).trans ((hR.1.1.2.2 (by rw [← (hp1.1.2.1 6 (by decide))]; exact q) i hi).trans (congrFun (hp2.1.2.2.1 8 (by decide)) (36 + i)).symm))⟩, (by rw [(hp1.1.2.1 0 (by decide))]; exact LdI_cg (by have := iv_nat (IvC_s0 hIC) (by decide); have := (IvC_s0 hIC).2; omega) (fun i _ => congrFun (hp1.1.2.2.1 7 (by decide)) i) (fun i _ => congrFun (hp1.1.2.2.1 8 (by decide)) i) hR.1.2.1), (fun q => (by rw [(hp1.1.2.1 3 (by decide))]; exact LdI_cg (by have := iv_nat (IvC_s3 hIC) (by decide); have := (IvC_s3 hIC).2; omega) (fun i _ => congrFun (hp1.1.2.2.1 21 (by decide)) i) (fun i _ => congrFun (hp1.1.2.2.1 22 (by decide)) i) (hR.1.2.2 (by rw [← (hp1.1.2.1 6 (by decide))]; exact q))))⟩, (hp1.1.2.1 7 (by decide)).trans (hR.2.1.trans (hp2.1.2.1 3 (by decide)).symm), (fun i hi => (congrFun (hp1.1.2.2.1 30 (by decide)) i).trans ((hR.2.2 i (by rw [← (hp1.1.2.1 7 (by decide))]; exact hi)).trans (congrFun (hp2.1.2.2.1 7 (by decide)) i).symm))⟩⟩
set_option maxHeartbeats 4000000 in
set_option maxRecDepth 100000 in
theorem law_c3 {p : Program} {e : Env} {s : State} {m : MethodId} {below : List Frame} {meth : Method} {c : Code} (l : Launch) {b L : Nat} {xs : Nat → Int32} (hL : L ≤ 2560) (C0 : lw_At p s m meth c b L xs) {i : Nat} (hi : i + 5 ≤ L) {D : va_G} {cy : Nat → ClassId} {q : Nat → Nat} {z : zS} {r : Nat → Nat} {zm : zS} {H : Heap} {locs : List Loc} (hI : lwJ D cy q z r zm s H locs) {ls : Array Slot} (hl : lv_has ls 4 [(3, .int (nI i)), (2, .ref (r 0)), (1, .ref (q 0)), (0, .ref b)]) (kk : ∀ (z zm : zS) (H : Heap) (locs : List Loc), lwJ D cy q z r zm s H locs → W p l e room_1 s m #[Value.ref b] below meth c H locs 89 47199 (lw_Z below #[Value.ref b] s) (F0 m 1116 ls [])) : W p l e room_1 s m #[Value.ref b] below meth c H locs 89 47199 (lw_Z below #[Value.ref b] s) (F0 m 281 ls []) := by
  obtain ⟨hx, hb, hr, hml, hown, hts, hX, hbl, hlocks, hgv⟩ := id C0
  have hownL : s.vm.findClass RL = some m.cls := hown
  have htsL : ∀ w ∈ wsL_law, w.before #[Value.ref b] s = true := fun w h => hts w (inL_law w h)
  have hbA : ¬ (fun a : Nat => s.heap.size ≤ a) b := Nat.not_le.mpr hbl
  have hA : ∀ a : Nat, s.heap.size ≤ a → (fun a : Nat => s.heap.size ≤ a) a := fun _ h => h
  obtain ⟨hK, hZ, hPC, hPM, hIC, hIM, hq, hrj, hqA, hrA, hqr, hS, hR⟩ := hI
  refine lv_aload_n hx hb dL_law_281 rfl (lv_at hl 2 rfl) ?_
  refine lv_aload_n hx hb dL_law_282 rfl (lv_at hl 3 rfl) ?_
  refine lv_iload_n hx hb dL_law_283 rfl (lv_at hl 0 rfl) ?_
  refine lv_iconst (v := 1) hx hb dL_law_284 (by decide) ?_
  refine lv_iadd hx hb dL_law_285 ?_
  refine b_vi (v := nI (i + 1)) (nI_add i 1) ?_
  refine va_sld hx hb hX hbl hbA hS (vp_in_nI (by omega) (by omega)) dL_law_286 ?_
  refine b_vi (v := xs (i + 1)) (by rw [nI_clamp (by omega)]) ?_
  refine lv_aload_n hx hb dL_law_287 rfl (lv_at hl 3 rfl) ?_
  refine lv_iload_n hx hb dL_law_288 rfl (lv_at hl 0 rfl) ?_
  refine lv_iconst (v := 2) hx hb dL_law_289 (by decide) ?_
  refine lv_iadd hx hb dL_law_290 ?_
  refine b_vi (v := nI (i + 2)) (nI_add i 2) ?_
  refine va_sld hx hb hX hbl hbA hS (vp_in_nI (by omega) (by omega)) dL_law_291 ?_
  refine b_vi (v := xs (i + 2)) (by rw [nI_clamp (by omega)]) ?_
  refine L_calli2 (ci := 5) (r := (RX5, TX5, 12)) (As := [.int (xs (i + 1)), .int (xs (i + 2))]) (rest := []) (A := fun a : Nat => s.heap.size ≤ a) ⟨hx, hb, hml, hownL, htsL⟩ (g_X5_ahead_0 l D cy q hq z hIC (xs (i + 1)) (xs (i + 2))) (cwV 2 htsL gL_law_X5_ahead rfl rfl rfl (by decide +kernel) ⟨Nat.le_of_ble_eq_true rfl, Nat.le_of_ble_eq_true rfl⟩) hK hZ hPC (by decide) rfl rfl hqA hA hS rfl hl.1 rfl (Nat.le_of_ble_eq_true rfl) ⟨by decide, by decide⟩ dL_law_292 (fun v1 z1 H1 locs1 hp1 hPC1 hk1 hS => ?_)
  refine lv_pop hx hb dL_law_295 rfl ?_
  refine lv_aload_n hx hb dL_law_296 rfl (lv_at hl 1 rfl) ?_
  refine lv_aload_n hx hb dL_law_297 rfl (lv_at hl 3 rfl) ?_
  refine lv_iload_n hx hb dL_law_298 rfl (lv_at hl 0 rfl) ?_
  refine lv_iconst (v := 1) hx hb dL_law_299 (by decide) ?_
  refine lv_iadd hx hb dL_law_300 ?_
  refine b_vi (v := nI (i + 1)) (nI_add i 1) ?_
  refine va_sld hx hb hX hbl hbA hS (vp_in_nI (by omega) (by omega)) dL_law_301 ?_
  refine b_vi (v := xs (i + 1)) (by rw [nI_clamp (by omega)]) ?_
  refine lv_aload_n hx hb dL_law_302 rfl (lv_at hl 3 rfl) ?_
  refine lv_iload_n hx hb dL_law_303 rfl (lv_at hl 0 rfl) ?_
  refine lv_iconst (v := 2) hx hb dL_law_304 (by decide) ?_
  refine lv_iadd hx hb dL_law_305 ?_
  refine b_vi (v := nI (i + 2)) (nI_add i 2) ?_
  refine va_sld hx hb hX hbl hbA hS (vp_in_nI (by omega) (by omega)) dL_law_306 ?_
  refine b_vi (v := xs (i + 2)) (by rw [nI_clamp (by omega)]) ?_
  refine L_calli2 (ci := 6) (r := (RX6, TX6, 29)) (As := [.int (xs (i + 1)), .int (xs (i + 2))]) (rest := []) (A := fun a : Nat => s.heap.size ≤ a) ⟨hx, hb, hml, hownL, htsL⟩ (g_X6_ahead_0 l D cy r hrj zm hIM (xs (i + 1)) (xs (i + 2))) (cwV 2 htsL gL_law_X6_ahead rfl rfl rfl (by decide +kernel) ⟨Nat.le_of_ble_eq_true rfl, Nat.le_of_ble_eq_true rfl⟩) hK hZ (kp_of hPM hqr hk1) (by decide) rfl rfl hrA hA hS rfl hl.1 rfl (Nat.le_of_ble_eq_true rfl) ⟨by decide, by decide⟩ dL_law_307 (fun v2 zm1 H2 locs2 hp2 hPM2 hk2 hS => ?_)
  refine lv_pop hx hb dL_law_310 rfl ?_
  refine lv_goto (tgt := 1116) hx hb dL_law_311 (by decide) ?_
  exact kk z1 zm1 H2 locs2 ⟨hK, hZ, kp_of hPC1 (fun i j hi hj q => hqr j i hj hi q.symm) hk2, hPM2, hp1.1.1, hp2.1.1, hq, hrj, hqA, hrA, hqr, hS, ⟨⟨⟨⟨(hp1.1.2.1 0 (by decide)).trans (hR.1.1.1.1.trans (hp2.1.2.1 0 (by decide)).symm), (hp1.1.2.1 6 (by decide)).trans (hR.1.1.1.2.1.trans (hp2.1.2.1 4 (by decide)).symm), (fun q => ((hp1.1.2.1 3 (by decide)).trans (hR.1.1.1.2.2 (by rw [← (hp1.1.2.1 6 (by decide))]; exact q))).trans (congrFun (hp2.1.2.2.1 8 (by decide)) 0).symm)⟩, (AhP_eq (IvC_s0 hIC) hR.1.1.2.1 hR.1.2.1 hp1.2.2.1 (by rw [hR.1.1.1.1]; exact hp2.2.2.1)).2, (fun q i hi => (congrFun (hp1.1.2.2.1 21 (by decide)) i).trans ((hR.1.1.2.2 (by rw [← (hp1.1.2.1 6 (by decide))]; exact q) i hi).trans (congrFun (hp2.1.2.2.1 8 (by decide)) (36 + i)).symm))⟩, (by rw [(hp1.1.2.1 0 (by decide))]; exact hp1.2.2.2.1 hR.1.2.1), (fun q => (by rw [(hp1.1.2.1 3 (by decide))]; exact LdI_cg (by have := iv_nat (IvC_s3 hIC) (by decide); have := (IvC_s3 hIC).2; omega) (fun i _ => congrFun (hp1.1.2.2.1 21 (by decide)) i) (fun i _ => congrFun (hp1.1.2.2.1 22 (by decide)) i) (hR.1.2.2 (by rw [← (hp1.1.2.1 6 (by decide))]; exact q))))⟩, (AhR_eq (IvC_s0 hIC) hR.1.1.2.1 hR.1.2.1 hp1.2.2.2.2 (by rw [hR.1.1.1.1]; exact hp2.2.2.2) hR.2.1 hR.2.2).1, (AhR_eq (IvC_s0 hIC) hR.1.1.2.1 hR.1.2.1 hp1.2.2.2.2 (by rw [hR.1.1.1.1]; exact hp2.2.2.2) hR.2.1 hR.2.2).2⟩⟩
set_option maxHeartbeats 4000000 in
set_option maxRecDepth 100000 in
theorem law_c4 {p : Program} {e : Env} {s : State} {m : MethodId} {below : List Frame} {meth : Method} {c : Code} (l : Launch) {b L : Nat} {xs : Nat → Int32} (hL : L ≤ 2560) (C0 : lw_At p s m meth c b L xs) {i : Nat} (hi : i + 5 ≤ L) {D : va_G} {cy : Nat → ClassId} {q : Nat → Nat} {z : zS} {r : Nat → Nat} {zm : zS} {H : Heap} {locs : List Loc} (hI : lwJ D cy q z r zm s H locs) {ls : Array Slot} (hl : lv_has ls 4 [(3, .int (nI i)), (2, .ref (r 0)), (1, .ref (q 0)), (0, .ref b)]) (kk : ∀ (z zm : zS) (H : Heap) (locs : List Loc), lwJ D cy q z r zm s H locs → W p l e room_1 s m #[Value.ref b] below meth c H locs 89 47199 (lw_Z below #[Value.ref b] s) (F0 m 1116 ls [])) : W p l e room_1 s m #[Value.ref b] below meth c H locs 89 47199 (lw_Z below #[Value.ref b] s) (F0 m 314 ls []) := by
  obtain ⟨hx, hb, hr, hml, hown, hts, hX, hbl, hlocks, hgv⟩ := id C0
  have hownL : s.vm.findClass RL = some m.cls := hown
  have htsL : ∀ w ∈ wsL_law, w.before #[Value.ref b] s = true := fun w h => hts w (inL_law w h)
  have hbA : ¬ (fun a : Nat => s.heap.size ≤ a) b := Nat.not_le.mpr hbl
  have hA : ∀ a : Nat, s.heap.size ≤ a → (fun a : Nat => s.heap.size ≤ a) a := fun _ h => h
  obtain ⟨hK, hZ, hPC, hPM, hIC, hIM, hq, hrj, hqA, hrA, hqr, hS, hR⟩ := hI
  refine lv_aload_n hx hb dL_law_314 rfl (lv_at hl 2 rfl) ?_
  refine lv_aload_n hx hb dL_law_315 rfl (lv_at hl 3 rfl) ?_
  refine lv_iload_n hx hb dL_law_316 rfl (lv_at hl 0 rfl) ?_
  refine lv_iconst (v := 1) hx hb dL_law_317 (by decide) ?_
  refine lv_iadd hx hb dL_law_318 ?_
  refine b_vi (v := nI (i + 1)) (nI_add i 1) ?_
  refine va_sld hx hb hX hbl hbA hS (vp_in_nI (by omega) (by omega)) dL_law_319 ?_
  refine b_vi (v := xs (i + 1)) (by rw [nI_clamp (by omega)]) ?_
  refine lv_aload_n hx hb dL_law_320 rfl (lv_at hl 3 rfl) ?_
  refine lv_iload_n hx hb dL_law_321 rfl (lv_at hl 0 rfl) ?_
  refine lv_iconst (v := 2) hx hb dL_law_322 (by decide) ?_
  refine lv_iadd hx hb dL_law_323 ?_
  refine b_vi (v := nI (i + 2)) (nI_add i 2) ?_
  refine va_sld hx hb hX hbl hbA hS (vp_in_nI (by omega) (by omega)) dL_law_324 ?_
  refine b_vi (v := xs (i + 2)) (by rw [nI_clamp (by omega)]) ?_
  refine L_calli2 (ci := 5) (r := (RX5, TX5, 12)) (As := [.int (xs (i + 1)), .int (xs (i + 2))]) (rest := []) (A := fun a : Nat => s.heap.size ≤ a) ⟨hx, hb, hml, hownL, htsL⟩ (g_X5_free_0 l D cy q hq z hIC (xs (i + 1)) (xs (i + 2))) (cwV 2 htsL gL_law_X5_free rfl rfl rfl (by decide +kernel) ⟨Nat.le_of_ble_eq_true rfl, Nat.le_of_ble_eq_true rfl⟩) hK hZ hPC (by decide) rfl rfl hqA hA hS rfl hl.1 rfl (Nat.le_of_ble_eq_true rfl) ⟨by decide, by decide⟩ dL_law_325 (fun v1 z1 H1 locs1 hp1 hPC1 hk1 hS => ?_)
  refine lv_pop hx hb dL_law_328 rfl ?_
  refine lv_aload_n hx hb dL_law_329 rfl (lv_at hl 1 rfl) ?_
  refine lv_aload_n hx hb dL_law_330 rfl (lv_at hl 3 rfl) ?_
  refine lv_iload_n hx hb dL_law_331 rfl (lv_at hl 0 rfl) ?_
  refine lv_iconst (v := 1) hx hb dL_law_332 (by decide) ?_
  refine lv_iadd hx hb dL_law_333 ?_
  refine b_vi (v := nI (i + 1)) (nI_add i 1) ?_
  refine va_sld hx hb hX hbl hbA hS (vp_in_nI (by omega) (by omega)) dL_law_334 ?_
  refine b_vi (v := xs (i + 1)) (by rw [nI_clamp (by omega)]) ?_
  refine lv_aload_n hx hb dL_law_335 rfl (lv_at hl 3 rfl) ?_
  refine lv_iload_n hx hb dL_law_336 rfl (lv_at hl 0 rfl) ?_
  refine lv_iconst (v := 2) hx hb dL_law_337 (by decide) ?_
  refine lv_iadd hx hb dL_law_338 ?_
  refine b_vi (v := nI (i + 2)) (nI_add i 2) ?_
  refine va_sld hx hb hX hbl hbA hS (vp_in_nI (by omega) (by omega)) dL_law_339 ?_
  refine b_vi (v := xs (i + 2)) (by rw [nI_clamp (by omega)]) ?_
  refine L_calli2 (ci := 6) (r := (RX6, TX6, 29)) (As := [.int (xs (i + 1)), .int (xs (i + 2))]) (rest := []) (A := fun a : Nat => s.heap.size ≤ a) ⟨hx, hb, hml, hownL, htsL⟩ (g_X6_free_0 l D cy r hrj zm hIM (xs (i + 1)) (xs (i + 2))) (cwV 2 htsL gL_law_X6_free rfl rfl rfl (by decide +kernel) ⟨Nat.le_of_ble_eq_true rfl, Nat.le_of_ble_eq_true rfl⟩) hK hZ (kp_of hPM hqr hk1) (by decide) rfl rfl hrA hA hS rfl hl.1 rfl (Nat.le_of_ble_eq_true rfl) ⟨by decide, by decide⟩ dL_law_340 (fun v2 zm1 H2 locs2 hp2 hPM2 hk2 hS => ?_)
  refine lv_pop hx hb dL_law_343 rfl ?_
  refine lv_goto (tgt := 1116) hx hb dL_law_344 (by decide) ?_
  exact kk z1 zm1 H2 locs2 ⟨hK, hZ, kp_of hPC1 (fun i j hi hj q => hqr j i hj hi q.symm) hk2, hPM2, hp1.1.1, hp2.1.1, hq, hrj, hqA, hrA, hqr, hS, ⟨⟨⟨⟨(hp1.1.2.1 0 (by decide)).trans (hR.1.1.1.1.trans (hp2.1.2.1 0 (by decide)).symm), (hp1.1.2.1 6 (by decide)).trans (hR.1.1.1.2.1.trans (hp2.1.2.1 4 (by decide)).symm), (fun q => ((hp1.1.2.1 3 (by decide)).trans (hR.1.1.1.2.2 (by rw [← (hp1.1.2.1 6 (by decide))]; exact q))).trans (congrFun (hp2.1.2.2.1 8 (by decide)) 0).symm)⟩, (FrP_eq (IvC_s0 hIC) hR.1.1.2.1 hp1.2.2.1 (by rw [hR.1.1.1.1]; exact hp2.2.2)).2, (fun q i hi => (congrFun (hp1.1.2.2.1 21 (by decide)) i).trans ((hR.1.1.2.2 (by rw [← (hp1.1.2.1 6 (by decide))]; exact q) i hi).trans (congrFun (hp2.1.2.2.1 8 (by decide)) (36 + i)).symm))⟩, (by rw [(hp1.1.2.1 0 (by decide))]; exact hp1.2.2.2 hR.1.2.1), (fun q => (by rw [(hp1.1.2.1 3 (by decide))]; exact LdI_cg (by have := iv_nat (IvC_s3 hIC) (by decide); have := (IvC_s3 hIC).2; omega) (fun i _ => congrFun (hp1.1.2.2.1 21 (by decide)) i) (fun i _ => congrFun (hp1.1.2.2.1 22 (by decide)) i) (hR.1.2.2 (by rw [← (hp1.1.2.1 6 (by decide))]; exact q))))⟩, (hp1.1.2.1 7 (by decide)).trans (hR.2.1.trans (hp2.1.2.1 3 (by decide)).symm), (fun i hi => (congrFun (hp1.1.2.2.1 30 (by decide)) i).trans ((hR.2.2 i (by rw [← (hp1.1.2.1 7 (by decide))]; exact hi)).trans (congrFun (hp2.1.2.2.1 7 (by decide)) i).symm))⟩⟩
set_option maxHeartbeats 4000000 in
set_option maxRecDepth 100000 in
theorem law_c5 {p : Program} {e : Env} {s : State} {m : MethodId} {below : List Frame} {meth : Method} {c : Code} (l : Launch) {b L : Nat} {xs : Nat → Int32} (hL : L ≤ 2560) (C0 : lw_At p s m meth c b L xs) {i : Nat} (hi : i + 5 ≤ L) {D : va_G} {cy : Nat → ClassId} {q : Nat → Nat} {z : zS} {r : Nat → Nat} {zm : zS} {H : Heap} {locs : List Loc} (hI : lwJ D cy q z r zm s H locs) {ls : Array Slot} (hl : lv_has ls 4 [(3, .int (nI i)), (2, .ref (r 0)), (1, .ref (q 0)), (0, .ref b)]) (kk : ∀ (z zm : zS) (H : Heap) (locs : List Loc), lwJ D cy q z r zm s H locs → W p l e room_1 s m #[Value.ref b] below meth c H locs 89 47199 (lw_Z below #[Value.ref b] s) (F0 m 1116 ls [])) : W p l e room_1 s m #[Value.ref b] below meth c H locs 89 47199 (lw_Z below #[Value.ref b] s) (F0 m 347 ls []) := by
  obtain ⟨hx, hb, hr, hml, hown, hts, hX, hbl, hlocks, hgv⟩ := id C0
  have hownL : s.vm.findClass RL = some m.cls := hown
  have htsL : ∀ w ∈ wsL_law, w.before #[Value.ref b] s = true := fun w h => hts w (inL_law w h)
  have hbA : ¬ (fun a : Nat => s.heap.size ≤ a) b := Nat.not_le.mpr hbl
  have hA : ∀ a : Nat, s.heap.size ≤ a → (fun a : Nat => s.heap.size ≤ a) a := fun _ h => h
  obtain ⟨hK, hZ, hPC, hPM, hIC, hIM, hq, hrj, hqA, hrA, hqr, hS, hR⟩ := hI
  refine lv_aload_n hx hb dL_law_347 rfl (lv_at hl 2 rfl) ?_
  refine lv_aload_n hx hb dL_law_348 rfl (lv_at hl 3 rfl) ?_
  refine lv_iload_n hx hb dL_law_349 rfl (lv_at hl 0 rfl) ?_
  refine lv_iconst (v := 1) hx hb dL_law_350 (by decide) ?_
  refine lv_iadd hx hb dL_law_351 ?_
  refine b_vi (v := nI (i + 1)) (nI_add i 1) ?_
  refine va_sld hx hb hX hbl hbA hS (vp_in_nI (by omega) (by omega)) dL_law_352 ?_
  refine b_vi (v := xs (i + 1)) (by rw [nI_clamp (by omega)]) ?_
  refine L_calli2 (ci := 5) (r := (RX5, TX5, 12)) (As := [.int (xs (i + 1))]) (rest := []) (A := fun a : Nat => s.heap.size ≤ a) ⟨hx, hb, hml, hownL, htsL⟩ (g_X5_ring_0 l D cy q hq z hIC (xs (i + 1))) (cwV 1 htsL gL_law_X5_ring rfl rfl rfl (by decide +kernel) ⟨Nat.le_of_ble_eq_true rfl, Nat.le_of_ble_eq_true rfl⟩) hK hZ hPC (by decide) rfl rfl hqA hA hS rfl hl.1 rfl (Nat.le_of_ble_eq_true rfl) ⟨by decide, by decide⟩ dL_law_353 (fun v1 z1 H1 locs1 hp1 hPC1 hk1 hS => ?_)
  refine lv_aload_n hx hb dL_law_356 rfl (lv_at hl 1 rfl) ?_
  refine lv_aload_n hx hb dL_law_357 rfl (lv_at hl 3 rfl) ?_
  refine lv_iload_n hx hb dL_law_358 rfl (lv_at hl 0 rfl) ?_
  refine lv_iconst (v := 1) hx hb dL_law_359 (by decide) ?_
  refine lv_iadd hx hb dL_law_360 ?_
  refine b_vi (v := nI (i + 1)) (nI_add i 1) ?_
  refine va_sld hx hb hX hbl hbA hS (vp_in_nI (by omega) (by omega)) dL_law_361 ?_
  refine b_vi (v := xs (i + 1)) (by rw [nI_clamp (by omega)]) ?_
  refine L_calli2 (ci := 6) (r := (RX6, TX6, 29)) (As := [.int (xs (i + 1))]) (rest := [.int v1]) (A := fun a : Nat => s.heap.size ≤ a) ⟨hx, hb, hml, hownL, htsL⟩ (g_X6_ring_0 l D cy r hrj zm hIM (xs (i + 1))) (cwV 1 htsL gL_law_X6_ring rfl rfl rfl (by decide +kernel) ⟨Nat.le_of_ble_eq_true rfl, Nat.le_of_ble_eq_true rfl⟩) hK hZ (kp_of hPM hqr hk1) (by decide) rfl rfl hrA hA hS rfl hl.1 rfl (Nat.le_of_ble_eq_true rfl) ⟨by decide, by decide⟩ dL_law_362 (fun v2 zm1 H2 locs2 hp2 hPM2 hk2 hS => ?_)
  refine lv_icmp_eq (tgt := 1116) hx hb dL_law_365 (by decide) (fun _ => ?_) (fun c0 => absurd (RiP_eq (IvC_s7 hIC) hR.2.1 hR.2.2 hp1.2.2 hp2.2.2) c0)
  exact kk z1 zm1 H2 locs2 ⟨hK, hZ, kp_of hPC1 (fun i j hi hj q => hqr j i hj hi q.symm) hk2, hPM2, hp1.1.1, hp2.1.1, hq, hrj, hqA, hrA, hqr, hS, ⟨⟨⟨⟨(hp1.1.2.1 0 (by decide)).trans (hR.1.1.1.1.trans (hp2.1.2.1 0 (by decide)).symm), (hp1.1.2.1 6 (by decide)).trans (hR.1.1.1.2.1.trans (hp2.1.2.1 4 (by decide)).symm), (fun q => ((hp1.1.2.1 3 (by decide)).trans (hR.1.1.1.2.2 (by rw [← (hp1.1.2.1 6 (by decide))]; exact q))).trans (congrFun (hp2.1.2.2.1 8 (by decide)) 0).symm)⟩, (fun i hi => (congrFun (hp1.1.2.2.1 7 (by decide)) i).trans ((hR.1.1.2.1 i hi).trans (congrFun (hp2.1.2.2.1 3 (by decide)) i).symm)), (fun q i hi => (congrFun (hp1.1.2.2.1 21 (by decide)) i).trans ((hR.1.1.2.2 (by rw [← (hp1.1.2.1 6 (by decide))]; exact q) i hi).trans (congrFun (hp2.1.2.2.1 8 (by decide)) (36 + i)).symm))⟩, (by rw [(hp1.1.2.1 0 (by decide))]; exact LdI_cg (by have := iv_nat (IvC_s0 hIC) (by decide); have := (IvC_s0 hIC).2; omega) (fun i _ => congrFun (hp1.1.2.2.1 7 (by decide)) i) (fun i _ => congrFun (hp1.1.2.2.1 8 (by decide)) i) hR.1.2.1), (fun q => (by rw [(hp1.1.2.1 3 (by decide))]; exact LdI_cg (by have := iv_nat (IvC_s3 hIC) (by decide); have := (IvC_s3 hIC).2; omega) (fun i _ => congrFun (hp1.1.2.2.1 21 (by decide)) i) (fun i _ => congrFun (hp1.1.2.2.1 22 (by decide)) i) (hR.1.2.2 (by rw [← (hp1.1.2.1 6 (by decide))]; exact q))))⟩, (hp1.1.2.1 7 (by decide)).trans (hR.2.1.trans (hp2.1.2.1 3 (by decide)).symm), (fun i hi => (congrFun (hp1.1.2.2.1 30 (by decide)) i).trans ((hR.2.2 i (by rw [← (hp1.1.2.1 7 (by decide))]; exact hi)).trans (congrFun (hp2.1.2.2.1 7 (by decide)) i).symm))⟩⟩
set_option maxHeartbeats 4000000 in
set_option maxRecDepth 100000 in
theorem law_c6 {p : Program} {e : Env} {s : State} {m : MethodId} {below : List Frame} {meth : Method} {c : Code} (l : Launch) {b L : Nat} {xs : Nat → Int32} (hL : L ≤ 2560) (C0 : lw_At p s m meth c b L xs) {i : Nat} (hi : i + 5 ≤ L) {D : va_G} {cy : Nat → ClassId} {q : Nat → Nat} {z : zS} {r : Nat → Nat} {zm : zS} {H : Heap} {locs : List Loc} (hI : lwJ D cy q z r zm s H locs) {ls : Array Slot} (hl : lv_has ls 4 [(3, .int (nI i)), (2, .ref (r 0)), (1, .ref (q 0)), (0, .ref b)]) (kk : ∀ (z zm : zS) (H : Heap) (locs : List Loc), lwJ D cy q z r zm s H locs → W p l e room_1 s m #[Value.ref b] below meth c H locs 89 47199 (lw_Z below #[Value.ref b] s) (F0 m 1116 ls [])) : W p l e room_1 s m #[Value.ref b] below meth c H locs 89 47199 (lw_Z below #[Value.ref b] s) (F0 m 370 ls []) := by
  obtain ⟨hx, hb, hr, hml, hown, hts, hX, hbl, hlocks, hgv⟩ := id C0
  have hownL : s.vm.findClass RL = some m.cls := hown
  have htsL : ∀ w ∈ wsL_law, w.before #[Value.ref b] s = true := fun w h => hts w (inL_law w h)
  have hbA : ¬ (fun a : Nat => s.heap.size ≤ a) b := Nat.not_le.mpr hbl
  have hA : ∀ a : Nat, s.heap.size ≤ a → (fun a : Nat => s.heap.size ≤ a) a := fun _ h => h
  obtain ⟨hK, hZ, hPC, hPM, hIC, hIM, hq, hrj, hqA, hrA, hqr, hS, hR⟩ := hI
  refine lv_aload_n hx hb dL_law_370 rfl (lv_at hl 2 rfl) ?_
  refine lv_aload_n hx hb dL_law_371 rfl (lv_at hl 3 rfl) ?_
  refine lv_iload_n hx hb dL_law_372 rfl (lv_at hl 0 rfl) ?_
  refine lv_iconst (v := 1) hx hb dL_law_373 (by decide) ?_
  refine lv_iadd hx hb dL_law_374 ?_
  refine b_vi (v := nI (i + 1)) (nI_add i 1) ?_
  refine va_sld hx hb hX hbl hbA hS (vp_in_nI (by omega) (by omega)) dL_law_375 ?_
  refine b_vi (v := xs (i + 1)) (by rw [nI_clamp (by omega)]) ?_
  refine lv_aload_n hx hb dL_law_376 rfl (lv_at hl 3 rfl) ?_
  refine lv_iload_n hx hb dL_law_377 rfl (lv_at hl 0 rfl) ?_
  refine lv_iconst (v := 2) hx hb dL_law_378 (by decide) ?_
  refine lv_iadd hx hb dL_law_379 ?_
  refine b_vi (v := nI (i + 2)) (nI_add i 2) ?_
  refine va_sld hx hb hX hbl hbA hS (vp_in_nI (by omega) (by omega)) dL_law_380 ?_
  refine b_vi (v := xs (i + 2)) (by rw [nI_clamp (by omega)]) ?_
  refine lv_aload_n hx hb dL_law_381 rfl (lv_at hl 3 rfl) ?_
  refine lv_iload_n hx hb dL_law_382 rfl (lv_at hl 0 rfl) ?_
  refine lv_iconst (v := 3) hx hb dL_law_383 (by decide) ?_
  refine lv_iadd hx hb dL_law_384 ?_
  refine b_vi (v := nI (i + 3)) (nI_add i 3) ?_
  refine va_sld hx hb hX hbl hbA hS (vp_in_nI (by omega) (by omega)) dL_law_385 ?_
  refine b_vi (v := xs (i + 3)) (by rw [nI_clamp (by omega)]) ?_
  refine L_calli2 (ci := 5) (r := (RX5, TX5, 12)) (As := [.int (xs (i + 1)), .int (xs (i + 2)), .int (xs (i + 3))]) (rest := []) (A := fun a : Nat => s.heap.size ≤ a) ⟨hx, hb, hml, hownL, htsL⟩ (g_X5_pair_0 l D cy q hq z hIC (xs (i + 1)) (xs (i + 2)) (xs (i + 3))) (cwV 3 htsL gL_law_X5_pair rfl rfl rfl (by decide +kernel) ⟨Nat.le_of_ble_eq_true rfl, Nat.le_of_ble_eq_true rfl⟩) hK hZ hPC (by decide) rfl rfl hqA hA hS rfl hl.1 rfl (Nat.le_of_ble_eq_true rfl) ⟨by decide, by decide⟩ dL_law_386 (fun v1 z1 H1 locs1 hp1 hPC1 hk1 hS => ?_)
  refine lv_pop hx hb dL_law_389 rfl ?_
  refine lv_aload_n hx hb dL_law_390 rfl (lv_at hl 1 rfl) ?_
  refine lv_aload_n hx hb dL_law_391 rfl (lv_at hl 3 rfl) ?_
  refine lv_iload_n hx hb dL_law_392 rfl (lv_at hl 0 rfl) ?_
  refine lv_iconst (v := 1) hx hb dL_law_393 (by decide) ?_
  refine lv_iadd hx hb dL_law_394 ?_
  refine b_vi (v := nI (i + 1)) (nI_add i 1) ?_
  refine va_sld hx hb hX hbl hbA hS (vp_in_nI (by omega) (by omega)) dL_law_395 ?_
  refine b_vi (v := xs (i + 1)) (by rw [nI_clamp (by omega)]) ?_
  refine lv_aload_n hx hb dL_law_396 rfl (lv_at hl 3 rfl) ?_
  refine lv_iload_n hx hb dL_law_397 rfl (lv_at hl 0 rfl) ?_
  refine lv_iconst (v := 2) hx hb dL_law_398 (by decide) ?_
  refine lv_iadd hx hb dL_law_399 ?_
  refine b_vi (v := nI (i + 2)) (nI_add i 2) ?_
  refine va_sld hx hb hX hbl hbA hS (vp_in_nI (by omega) (by omega)) dL_law_400 ?_
  refine b_vi (v := xs (i + 2)) (by rw [nI_clamp (by omega)]) ?_
  refine lv_aload_n hx hb dL_law_401 rfl (lv_at hl 3 rfl) ?_
  refine lv_iload_n hx hb dL_law_402 rfl (lv_at hl 0 rfl) ?_
  refine lv_iconst (v := 3) hx hb dL_law_403 (by decide) ?_
  refine lv_iadd hx hb dL_law_404 ?_
  refine b_vi (v := nI (i + 3)) (nI_add i 3) ?_
  refine va_sld hx hb hX hbl hbA hS (vp_in_nI (by omega) (by omega)) dL_law_405 ?_
  refine b_vi (v := xs (i + 3)) (by rw [nI_clamp (by omega)]) ?_
  refine L_calli2 (ci := 6) (r := (RX6, TX6, 29)) (As := [.int (xs (i + 1)), .int (xs (i + 2)), .int (xs (i + 3))]) (rest := []) (A := fun a : Nat => s.heap.size ≤ a) ⟨hx, hb, hml, hownL, htsL⟩ (g_X6_pair_0 l D cy r hrj zm hIM (xs (i + 1)) (xs (i + 2)) (xs (i + 3))) (cwV 3 htsL gL_law_X6_pair rfl rfl rfl (by decide +kernel) ⟨Nat.le_of_ble_eq_true rfl, Nat.le_of_ble_eq_true rfl⟩) hK hZ (kp_of hPM hqr hk1) (by decide) rfl rfl hrA hA hS rfl hl.1 rfl (Nat.le_of_ble_eq_true rfl) ⟨by decide, by decide⟩ dL_law_406 (fun v2 zm1 H2 locs2 hp2 hPM2 hk2 hS => ?_)
  refine lv_pop hx hb dL_law_409 rfl ?_
  refine lv_goto (tgt := 1116) hx hb dL_law_410 (by decide) ?_
  exact kk z1 zm1 H2 locs2 ⟨hK, hZ, kp_of hPC1 (fun i j hi hj q => hqr j i hj hi q.symm) hk2, hPM2, hp1.1.1, hp2.1.1, hq, hrj, hqA, hrA, hqr, hS, ⟨⟨⟨⟨(hp1.1.2.1 0 (by decide)).trans (hR.1.1.1.1.trans (hp2.1.2.1 0 (by decide)).symm), (hp1.1.2.1 6 (by decide)).trans (hR.1.1.1.2.1.trans (hp2.1.2.1 4 (by decide)).symm), (fun q => ((hp1.1.2.1 3 (by decide)).trans (hR.1.1.1.2.2 (by rw [← (hp1.1.2.1 6 (by decide))]; exact q))).trans (congrFun (hp2.1.2.2.1 8 (by decide)) 0).symm)⟩, (fun i hi => (congrFun (hp1.1.2.2.1 7 (by decide)) i).trans ((hR.1.1.2.1 i hi).trans (congrFun (hp2.1.2.2.1 3 (by decide)) i).symm)), (fun q i hi => (congrFun (hp1.1.2.2.1 21 (by decide)) i).trans ((hR.1.1.2.2 (by rw [← (hp1.1.2.1 6 (by decide))]; exact q) i hi).trans (congrFun (hp2.1.2.2.1 8 (by decide)) (36 + i)).symm))⟩, (by rw [(hp1.1.2.1 0 (by decide))]; exact LdI_cg (by have := iv_nat (IvC_s0 hIC) (by decide); have := (IvC_s0 hIC).2; omega) (fun i _ => congrFun (hp1.1.2.2.1 7 (by decide)) i) (fun i _ => congrFun (hp1.1.2.2.1 8 (by decide)) i) hR.1.2.1), (fun q => (by rw [(hp1.1.2.1 3 (by decide))]; exact LdI_cg (by have := iv_nat (IvC_s3 hIC) (by decide); have := (IvC_s3 hIC).2; omega) (fun i _ => congrFun (hp1.1.2.2.1 21 (by decide)) i) (fun i _ => congrFun (hp1.1.2.2.1 22 (by decide)) i) (hR.1.2.2 (by rw [← (hp1.1.2.1 6 (by decide))]; exact q))))⟩, (hp1.1.2.1 7 (by decide)).trans (hR.2.1.trans (hp2.1.2.1 3 (by decide)).symm), (fun i hi => (congrFun (hp1.1.2.2.1 30 (by decide)) i).trans ((hR.2.2 i (by rw [← (hp1.1.2.1 7 (by decide))]; exact hi)).trans (congrFun (hp2.1.2.2.1 7 (by decide)) i).symm))⟩⟩
set_option maxHeartbeats 4000000 in
set_option maxRecDepth 100000 in
theorem law_c7 {p : Program} {e : Env} {s : State} {m : MethodId} {below : List Frame} {meth : Method} {c : Code} (l : Launch) {b L : Nat} {xs : Nat → Int32} (hL : L ≤ 2560) (C0 : lw_At p s m meth c b L xs) {i : Nat} (hi : i + 5 ≤ L) {D : va_G} {cy : Nat → ClassId} {q : Nat → Nat} {z : zS} {r : Nat → Nat} {zm : zS} {H : Heap} {locs : List Loc} (hI : lwJ D cy q z r zm s H locs) {ls : Array Slot} (hl : lv_has ls 4 [(3, .int (nI i)), (2, .ref (r 0)), (1, .ref (q 0)), (0, .ref b)]) (kk : ∀ (z zm : zS) (H : Heap) (locs : List Loc), lwJ D cy q z r zm s H locs → W p l e room_1 s m #[Value.ref b] below meth c H locs 89 47199 (lw_Z below #[Value.ref b] s) (F0 m 1116 ls [])) : W p l e room_1 s m #[Value.ref b] below meth c H locs 89 47199 (lw_Z below #[Value.ref b] s) (F0 m 413 ls []) := by
  obtain ⟨hx, hb, hr, hml, hown, hts, hX, hbl, hlocks, hgv⟩ := id C0
  have hownL : s.vm.findClass RL = some m.cls := hown
  have htsL : ∀ w ∈ wsL_law, w.before #[Value.ref b] s = true := fun w h => hts w (inL_law w h)
  have hbA : ¬ (fun a : Nat => s.heap.size ≤ a) b := Nat.not_le.mpr hbl
  have hA : ∀ a : Nat, s.heap.size ≤ a → (fun a : Nat => s.heap.size ≤ a) a := fun _ h => h
  obtain ⟨hK, hZ, hPC, hPM, hIC, hIM, hq, hrj, hqA, hrA, hqr, hS, hR⟩ := hI
  refine lv_aload_n hx hb dL_law_413 rfl (lv_at hl 2 rfl) ?_
  refine lv_aload_n hx hb dL_law_414 rfl (lv_at hl 3 rfl) ?_
  refine lv_iload_n hx hb dL_law_415 rfl (lv_at hl 0 rfl) ?_
  refine lv_iconst (v := 1) hx hb dL_law_416 (by decide) ?_
  refine lv_iadd hx hb dL_law_417 ?_
  refine b_vi (v := nI (i + 1)) (nI_add i 1) ?_
  refine va_sld hx hb hX hbl hbA hS (vp_in_nI (by omega) (by omega)) dL_law_418 ?_
  refine b_vi (v := xs (i + 1)) (by rw [nI_clamp (by omega)]) ?_
  refine lv_aload_n hx hb dL_law_419 rfl (lv_at hl 3 rfl) ?_
  refine lv_iload_n hx hb dL_law_420 rfl (lv_at hl 0 rfl) ?_
  refine lv_iconst (v := 2) hx hb dL_law_421 (by decide) ?_
  refine lv_iadd hx hb dL_law_422 ?_
  refine b_vi (v := nI (i + 2)) (nI_add i 2) ?_
  refine va_sld hx hb hX hbl hbA hS (vp_in_nI (by omega) (by omega)) dL_law_423 ?_
  refine b_vi (v := xs (i + 2)) (by rw [nI_clamp (by omega)]) ?_
  refine L_calli2 (ci := 5) (r := (RX5, TX5, 12)) (As := [.int (xs (i + 1)), .int (xs (i + 2))]) (rest := []) (A := fun a : Nat => s.heap.size ≤ a) ⟨hx, hb, hml, hownL, htsL⟩ (g_X5_hold_0 l D cy q hq z hIC (xs (i + 1)) (xs (i + 2))) (cwV 2 htsL gL_law_X5_hold rfl rfl rfl (by decide +kernel) ⟨Nat.le_of_ble_eq_true rfl, Nat.le_of_ble_eq_true rfl⟩) hK hZ hPC (by decide) rfl rfl hqA hA hS rfl hl.1 rfl (Nat.le_of_ble_eq_true rfl) ⟨by decide, by decide⟩ dL_law_424 (fun v1 z1 H1 locs1 hp1 hPC1 hk1 hS => ?_)
  refine lv_pop hx hb dL_law_427 rfl ?_
  refine lv_aload_n hx hb dL_law_428 rfl (lv_at hl 1 rfl) ?_
  refine lv_aload_n hx hb dL_law_429 rfl (lv_at hl 3 rfl) ?_
  refine lv_iload_n hx hb dL_law_430 rfl (lv_at hl 0 rfl) ?_
  refine lv_iconst (v := 1) hx hb dL_law_431 (by decide) ?_
  refine lv_iadd hx hb dL_law_432 ?_
  refine b_vi (v := nI (i + 1)) (nI_add i 1) ?_
  refine va_sld hx hb hX hbl hbA hS (vp_in_nI (by omega) (by omega)) dL_law_433 ?_
  refine b_vi (v := xs (i + 1)) (by rw [nI_clamp (by omega)]) ?_
  refine lv_aload_n hx hb dL_law_434 rfl (lv_at hl 3 rfl) ?_
  refine lv_iload_n hx hb dL_law_435 rfl (lv_at hl 0 rfl) ?_
  refine lv_iconst (v := 2) hx hb dL_law_436 (by decide) ?_
  refine lv_iadd hx hb dL_law_437 ?_
  refine b_vi (v := nI (i + 2)) (nI_add i 2) ?_
  refine va_sld hx hb hX hbl hbA hS (vp_in_nI (by omega) (by omega)) dL_law_438 ?_
  refine b_vi (v := xs (i + 2)) (by rw [nI_clamp (by omega)]) ?_
  refine L_calli2 (ci := 6) (r := (RX6, TX6, 29)) (As := [.int (xs (i + 1)), .int (xs (i + 2))]) (rest := []) (A := fun a : Nat => s.heap.size ≤ a) ⟨hx, hb, hml, hownL, htsL⟩ (g_X6_hold_0 l D cy r hrj zm hIM (xs (i + 1)) (xs (i + 2))) (cwV 2 htsL gL_law_X6_hold rfl rfl rfl (by decide +kernel) ⟨Nat.le_of_ble_eq_true rfl, Nat.le_of_ble_eq_true rfl⟩) hK hZ (kp_of hPM hqr hk1) (by decide) rfl rfl hrA hA hS rfl hl.1 rfl (Nat.le_of_ble_eq_true rfl) ⟨by decide, by decide⟩ dL_law_439 (fun v2 zm1 H2 locs2 hp2 hPM2 hk2 hS => ?_)
  refine lv_pop hx hb dL_law_442 rfl ?_
  refine lv_goto (tgt := 1116) hx hb dL_law_443 (by decide) ?_
  exact kk z1 zm1 H2 locs2 ⟨hK, hZ, kp_of hPC1 (fun i j hi hj q => hqr j i hj hi q.symm) hk2, hPM2, hp1.1.1, hp2.1.1, hq, hrj, hqA, hrA, hqr, hS, ⟨⟨⟨⟨(hp1.1.2.1 0 (by decide)).trans (hR.1.1.1.1.trans (hp2.1.2.1 0 (by decide)).symm), (hp1.1.2.1 6 (by decide)).trans (hR.1.1.1.2.1.trans (hp2.1.2.1 4 (by decide)).symm), (fun q => ((hp1.1.2.1 3 (by decide)).trans (hR.1.1.1.2.2 (by rw [← (hp1.1.2.1 6 (by decide))]; exact q))).trans (congrFun (hp2.1.2.2.1 8 (by decide)) 0).symm)⟩, (fun i hi => (congrFun (hp1.1.2.2.1 7 (by decide)) i).trans ((hR.1.1.2.1 i hi).trans (congrFun (hp2.1.2.2.1 3 (by decide)) i).symm)), (fun q i hi => (congrFun (hp1.1.2.2.1 21 (by decide)) i).trans ((hR.1.1.2.2 (by rw [← (hp1.1.2.1 6 (by decide))]; exact q) i hi).trans (congrFun (hp2.1.2.2.1 8 (by decide)) (36 + i)).symm))⟩, (by rw [(hp1.1.2.1 0 (by decide))]; exact LdI_cg (by have := iv_nat (IvC_s0 hIC) (by decide); have := (IvC_s0 hIC).2; omega) (fun i _ => congrFun (hp1.1.2.2.1 7 (by decide)) i) (fun i _ => congrFun (hp1.1.2.2.1 8 (by decide)) i) hR.1.2.1), (fun q => (by rw [(hp1.1.2.1 3 (by decide))]; exact LdI_cg (by have := iv_nat (IvC_s3 hIC) (by decide); have := (IvC_s3 hIC).2; omega) (fun i _ => congrFun (hp1.1.2.2.1 21 (by decide)) i) (fun i _ => congrFun (hp1.1.2.2.1 22 (by decide)) i) (hR.1.2.2 (by rw [← (hp1.1.2.1 6 (by decide))]; exact q))))⟩, (hp1.1.2.1 7 (by decide)).trans (hR.2.1.trans (hp2.1.2.1 3 (by decide)).symm), (fun i hi => (congrFun (hp1.1.2.2.1 30 (by decide)) i).trans ((hR.2.2 i (by rw [← (hp1.1.2.1 7 (by decide))]; exact hi)).trans (congrFun (hp2.1.2.2.1 7 (by decide)) i).symm))⟩⟩
set_option maxHeartbeats 4000000 in
set_option maxRecDepth 100000 in
theorem law_c8 {p : Program} {e : Env} {s : State} {m : MethodId} {below : List Frame} {meth : Method} {c : Code} (l : Launch) {b L : Nat} {xs : Nat → Int32} (hL : L ≤ 2560) (C0 : lw_At p s m meth c b L xs) {i : Nat} (hi : i + 5 ≤ L) {D : va_G} {cy : Nat → ClassId} {q : Nat → Nat} {z : zS} {r : Nat → Nat} {zm : zS} {H : Heap} {locs : List Loc} (hI : lwJ D cy q z r zm s H locs) {ls : Array Slot} (hl : lv_has ls 4 [(3, .int (nI i)), (2, .ref (r 0)), (1, .ref (q 0)), (0, .ref b)]) (kk : ∀ (z zm : zS) (H : Heap) (locs : List Loc), lwJ D cy q z r zm s H locs → W p l e room_1 s m #[Value.ref b] below meth c H locs 89 47199 (lw_Z below #[Value.ref b] s) (F0 m 1116 ls [])) : W p l e room_1 s m #[Value.ref b] below meth c H locs 89 47199 (lw_Z below #[Value.ref b] s) (F0 m 446 ls []) := by
  obtain ⟨hx, hb, hr, hml, hown, hts, hX, hbl, hlocks, hgv⟩ := id C0
  have hownL : s.vm.findClass RL = some m.cls := hown
  have htsL : ∀ w ∈ wsL_law, w.before #[Value.ref b] s = true := fun w h => hts w (inL_law w h)
  have hbA : ¬ (fun a : Nat => s.heap.size ≤ a) b := Nat.not_le.mpr hbl
  have hA : ∀ a : Nat, s.heap.size ≤ a → (fun a : Nat => s.heap.size ≤ a) a := fun _ h => h
  obtain ⟨hK, hZ, hPC, hPM, hIC, hIM, hq, hrj, hqA, hrA, hqr, hS, hR⟩ := hI
  refine lv_aload_n hx hb dL_law_446 rfl (lv_at hl 2 rfl) ?_
  refine lv_aload_n hx hb dL_law_447 rfl (lv_at hl 3 rfl) ?_
  refine lv_iload_n hx hb dL_law_448 rfl (lv_at hl 0 rfl) ?_
  refine lv_iconst (v := 1) hx hb dL_law_449 (by decide) ?_
  refine lv_iadd hx hb dL_law_450 ?_
  refine b_vi (v := nI (i + 1)) (nI_add i 1) ?_
  refine va_sld hx hb hX hbl hbA hS (vp_in_nI (by omega) (by omega)) dL_law_451 ?_
  refine b_vi (v := xs (i + 1)) (by rw [nI_clamp (by omega)]) ?_
  refine L_calli2 (ci := 5) (r := (RX5, TX5, 12)) (As := [.int (xs (i + 1))]) (rest := []) (A := fun a : Nat => s.heap.size ≤ a) ⟨hx, hb, hml, hownL, htsL⟩ (g_X5_line_0 l D cy q hq z hIC (xs (i + 1))) (cwV 1 htsL gL_law_X5_line rfl rfl rfl (by decide +kernel) ⟨Nat.le_of_ble_eq_true rfl, Nat.le_of_ble_eq_true rfl⟩) hK hZ hPC (by decide) rfl rfl hqA hA hS rfl hl.1 rfl (Nat.le_of_ble_eq_true rfl) ⟨by decide, by decide⟩ dL_law_452 (fun v1 z1 H1 locs1 hp1 hPC1 hk1 hS => ?_)
  refine lv_pop hx hb dL_law_455 rfl ?_
  refine lv_aload_n hx hb dL_law_456 rfl (lv_at hl 1 rfl) ?_
  refine lv_aload_n hx hb dL_law_457 rfl (lv_at hl 3 rfl) ?_
  refine lv_iload_n hx hb dL_law_458 rfl (lv_at hl 0 rfl) ?_
  refine lv_iconst (v := 1) hx hb dL_law_459 (by decide) ?_
  refine lv_iadd hx hb dL_law_460 ?_
  refine b_vi (v := nI (i + 1)) (nI_add i 1) ?_
  refine va_sld hx hb hX hbl hbA hS (vp_in_nI (by omega) (by omega)) dL_law_461 ?_
  refine b_vi (v := xs (i + 1)) (by rw [nI_clamp (by omega)]) ?_
  refine L_calli2 (ci := 6) (r := (RX6, TX6, 29)) (As := [.int (xs (i + 1))]) (rest := []) (A := fun a : Nat => s.heap.size ≤ a) ⟨hx, hb, hml, hownL, htsL⟩ (g_X6_line_0 l D cy r hrj zm hIM (xs (i + 1))) (cwV 1 htsL gL_law_X6_line rfl rfl rfl (by decide +kernel) ⟨Nat.le_of_ble_eq_true rfl, Nat.le_of_ble_eq_true rfl⟩) hK hZ (kp_of hPM hqr hk1) (by decide) rfl rfl hrA hA hS rfl hl.1 rfl (Nat.le_of_ble_eq_true rfl) ⟨by decide, by decide⟩ dL_law_462 (fun v2 zm1 H2 locs2 hp2 hPM2 hk2 hS => ?_)
  refine lv_pop hx hb dL_law_465 rfl ?_
  refine lv_goto (tgt := 1116) hx hb dL_law_466 (by decide) ?_
  exact kk z1 zm1 H2 locs2 ⟨hK, hZ, kp_of hPC1 (fun i j hi hj q => hqr j i hj hi q.symm) hk2, hPM2, hp1.1.1, hp2.1.1, hq, hrj, hqA, hrA, hqr, hS, ⟨⟨⟨⟨(hp1.1.2.1 0 (by decide)).trans (hR.1.1.1.1.trans (hp2.1.2.1 0 (by decide)).symm), (hp1.1.2.1 6 (by decide)).trans (hR.1.1.1.2.1.trans (hp2.1.2.1 4 (by decide)).symm), (fun q => ((hp1.1.2.1 3 (by decide)).trans (hR.1.1.1.2.2 (by rw [← (hp1.1.2.1 6 (by decide))]; exact q))).trans (congrFun (hp2.1.2.2.1 8 (by decide)) 0).symm)⟩, (fun i hi => (congrFun (hp1.1.2.2.1 7 (by decide)) i).trans ((hR.1.1.2.1 i hi).trans (congrFun (hp2.1.2.2.1 3 (by decide)) i).symm)), (fun q i hi => (congrFun (hp1.1.2.2.1 21 (by decide)) i).trans ((hR.1.1.2.2 (by rw [← (hp1.1.2.1 6 (by decide))]; exact q) i hi).trans (congrFun (hp2.1.2.2.1 8 (by decide)) (36 + i)).symm))⟩, (by rw [(hp1.1.2.1 0 (by decide))]; exact LdI_cg (by have := iv_nat (IvC_s0 hIC) (by decide); have := (IvC_s0 hIC).2; omega) (fun i _ => congrFun (hp1.1.2.2.1 7 (by decide)) i) (fun i _ => congrFun (hp1.1.2.2.1 8 (by decide)) i) hR.1.2.1), (fun q => (by rw [(hp1.1.2.1 3 (by decide))]; exact LdI_cg (by have := iv_nat (IvC_s3 hIC) (by decide); have := (IvC_s3 hIC).2; omega) (fun i _ => congrFun (hp1.1.2.2.1 21 (by decide)) i) (fun i _ => congrFun (hp1.1.2.2.1 22 (by decide)) i) (hR.1.2.2 (by rw [← (hp1.1.2.1 6 (by decide))]; exact q))))⟩, (hp1.1.2.1 7 (by decide)).trans (hR.2.1.trans (hp2.1.2.1 3 (by decide)).symm), (fun i hi => (congrFun (hp1.1.2.2.1 30 (by decide)) i).trans ((hR.2.2 i (by rw [← (hp1.1.2.1 7 (by decide))]; exact hi)).trans (congrFun (hp2.1.2.2.1 7 (by decide)) i).symm))⟩⟩
