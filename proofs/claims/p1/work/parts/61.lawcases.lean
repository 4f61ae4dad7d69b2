set_option maxHeartbeats 4000000 in
set_option maxRecDepth 100000 in
theorem law_c0 {p : Program} {e : Env} {s : State} {m : MethodId} {below : List Frame} {meth : Method} {c : Code} (l : Launch) {b L : Nat} {xs : Nat → Int32} (hL : L = 5) (C0 : lw_At p s m meth c b L xs) {D : va_G} {cy : Nat → ClassId} {q : Nat → Nat} {z : zS} {r : Nat → Nat} {zm : zS} {H : Heap} {locs : List Loc} (hI : lwI D cy q z r zm s H locs) {ls : Array Slot} (hl : lv_has ls 4 [(3, .int 0), (2, .ref (r 0)), (1, .ref (q 0)), (0, .ref b)]) : W p l e room_1 s m #[Value.ref b] below meth c H locs 89 47199 (lw_Z below #[Value.ref b] s) (F0 m 192 ls []) := by
  obtain ⟨hx, hb, hr, hml, hown, hts, hX, hbl, hlocks, hgv⟩ := id C0
  have hownL : s.vm.findClass RL = some m.cls := hown
  have htsL : ∀ w ∈ wsL_law, w.before #[Value.ref b] s = true := fun w h => hts w (inL_law w h)
  have hbA : ¬ (fun a : Nat => s.heap.size ≤ a) b := Nat.not_le.mpr hbl
  have hA : ∀ a : Nat, s.heap.size ≤ a → (fun a : Nat => s.heap.size ≤ a) a := fun _ h => h
  subst hL
  have hI0 := hI
  obtain ⟨hK, hZ, hPC, hPM, hF, hFm, h10, hq, hrj, hqA, hrA, hqr, hS⟩ := hI
  refine lv_aload_n hx hb dL_law_192 rfl (lv_at hl 2 rfl) ?_
  refine L_calli (ci := 5) (r := (RX5, TX5, 12)) (As := []) (rest := []) (A := fun a : Nat => s.heap.size ≤ a) ⟨hx, hb, hml, hownL, htsL⟩ (c_X5_task l D cy q hq z hF ) (cwV 0 htsL gL_law_X5_task rfl rfl rfl (by decide +kernel) ⟨Nat.le_of_ble_eq_true rfl, Nat.le_of_ble_eq_true rfl⟩) hK hZ hPC (by decide) rfl rfl hqA hA hS rfl hl.1 rfl (Nat.le_of_ble_eq_true rfl) ⟨by decide, by decide⟩ dL_law_193 (fun v1 z1 H1 locs1 hp1 hk1 hS => ?_)
  refine lv_aload_n hx hb dL_law_196 rfl (lv_at hl 1 rfl) ?_
  refine L_calli (ci := 6) (r := (RX6, TX6, 29)) (As := []) (rest := [.int v1]) (A := fun a : Nat => s.heap.size ≤ a) ⟨hx, hb, hml, hownL, htsL⟩ (c_X6_task l D cy r hrj zm hFm h10 ) (cwV 0 htsL gL_law_X6_task rfl rfl rfl (by decide +kernel) ⟨Nat.le_of_ble_eq_true rfl, Nat.le_of_ble_eq_true rfl⟩) hK hZ (lwI_kept hI0 hk1) (by decide) rfl rfl hrA hA hS rfl hl.1 rfl (Nat.le_of_ble_eq_true rfl) ⟨by decide, by decide⟩ dL_law_197 (fun v2 z2 H2 locs2 hp2 hk2 hS => ?_)
  refine lv_icmp_eq (tgt := 1119) hx hb dL_law_200 (by decide) (fun _ => ?_) (fun c0 => absurd (hp1.symm.trans hp2) c0)
  exact law_tail l (Nat.le_refl 5) C0 hS hl
set_option maxHeartbeats 4000000 in
set_option maxRecDepth 100000 in
theorem law_c1 {p : Program} {e : Env} {s : State} {m : MethodId} {below : List Frame} {meth : Method} {c : Code} (l : Launch) {b L : Nat} {xs : Nat → Int32} (hL : L = 5) (C0 : lw_At p s m meth c b L xs) {D : va_G} {cy : Nat → ClassId} {q : Nat → Nat} {z : zS} {r : Nat → Nat} {zm : zS} {H : Heap} {locs : List Loc} (hI : lwI D cy q z r zm s H locs) {ls : Array Slot} (hl : lv_has ls 4 [(3, .int 0), (2, .ref (r 0)), (1, .ref (q 0)), (0, .ref b)]) : W p l e room_1 s m #[Value.ref b] below meth c H locs 89 47199 (lw_Z below #[Value.ref b] s) (F0 m 205 ls []) := by
  obtain ⟨hx, hb, hr, hml, hown, hts, hX, hbl, hlocks, hgv⟩ := id C0
  have hownL : s.vm.findClass RL = some m.cls := hown
  have htsL : ∀ w ∈ wsL_law, w.before #[Value.ref b] s = true := fun w h => hts w (inL_law w h)
  have hbA : ¬ (fun a : Nat => s.heap.size ≤ a) b := Nat.not_le.mpr hbl
  have hA : ∀ a : Nat, s.heap.size ≤ a → (fun a : Nat => s.heap.size ≤ a) a := fun _ h => h
  subst hL
  have hI0 := hI
  obtain ⟨hK, hZ, hPC, hPM, hF, hFm, h10, hq, hrj, hqA, hrA, hqr, hS⟩ := hI
  refine lv_aload_n hx hb dL_law_205 rfl (lv_at hl 2 rfl) ?_
  refine lv_aload_n hx hb dL_law_206 rfl (lv_at hl 3 rfl) ?_
  refine lv_iload_n hx hb dL_law_207 rfl (lv_at hl 0 rfl) ?_
  refine lv_iconst (v := 1) hx hb dL_law_208 (by decide) ?_
  refine lv_iadd hx hb dL_law_209 ?_
  refine b_vi (v := 1) (by decide) ?_
  refine va_sld hx hb hX hbl hbA hS (by unfold vp_in; decide) dL_law_210 ?_
  refine b_vi (v := xs 1) rfl ?_
  refine lv_aload_n hx hb dL_law_211 rfl (lv_at hl 3 rfl) ?_
  refine lv_iload_n hx hb dL_law_212 rfl (lv_at hl 0 rfl) ?_
  refine lv_iconst (v := 2) hx hb dL_law_213 (by decide) ?_
  refine lv_iadd hx hb dL_law_214 ?_
  refine b_vi (v := 2) (by decide) ?_
  refine va_sld hx hb hX hbl hbA hS (by unfold vp_in; decide) dL_law_215 ?_
  refine b_vi (v := xs 2) rfl ?_
  refine lv_aload_n hx hb dL_law_216 rfl (lv_at hl 3 rfl) ?_
  refine lv_iload_n hx hb dL_law_217 rfl (lv_at hl 0 rfl) ?_
  refine lv_iconst (v := 3) hx hb dL_law_218 (by decide) ?_
  refine lv_iadd hx hb dL_law_219 ?_
  refine b_vi (v := 3) (by decide) ?_
  refine va_sld hx hb hX hbl hbA hS (by unfold vp_in; decide) dL_law_220 ?_
  refine b_vi (v := xs 3) rfl ?_
  refine L_calli (ci := 5) (r := (RX5, TX5, 12)) (As := [.int (xs 1), .int (xs 2), .int (xs 3)]) (rest := []) (A := fun a : Nat => s.heap.size ≤ a) ⟨hx, hb, hml, hownL, htsL⟩ (c_X5_time l D cy q hq z hF (xs 1) (xs 2) (xs 3)) (cwV 3 htsL gL_law_X5_time rfl rfl rfl (by decide +kernel) ⟨Nat.le_of_ble_eq_true rfl, Nat.le_of_ble_eq_true rfl⟩) hK hZ hPC (by decide) rfl rfl hqA hA hS rfl hl.1 rfl (Nat.le_of_ble_eq_true rfl) ⟨by decide, by decide⟩ dL_law_221 (fun v1 z1 H1 locs1 hp1 hk1 hS => ?_)
  refine lv_aload_n hx hb dL_law_224 rfl (lv_at hl 1 rfl) ?_
  refine lv_aload_n hx hb dL_law_225 rfl (lv_at hl 3 rfl) ?_
  refine lv_iload_n hx hb dL_law_226 rfl (lv_at hl 0 rfl) ?_
  refine lv_iconst (v := 1) hx hb dL_law_227 (by decide) ?_
  refine lv_iadd hx hb dL_law_228 ?_
  refine b_vi (v := 1) (by decide) ?_
  refine va_sld hx hb hX hbl hbA hS (by unfold vp_in; decide) dL_law_229 ?_
  refine b_vi (v := xs 1) rfl ?_
  refine lv_aload_n hx hb dL_law_230 rfl (lv_at hl 3 rfl) ?_
  refine lv_iload_n hx hb dL_law_231 rfl (lv_at hl 0 rfl) ?_
  refine lv_iconst (v := 2) hx hb dL_law_232 (by decide) ?_
  refine lv_iadd hx hb dL_law_233 ?_
  refine b_vi (v := 2) (by decide) ?_
  refine va_sld hx hb hX hbl hbA hS (by unfold vp_in; decide) dL_law_234 ?_
  refine b_vi (v := xs 2) rfl ?_
  refine lv_aload_n hx hb dL_law_235 rfl (lv_at hl 3 rfl) ?_
  refine lv_iload_n hx hb dL_law_236 rfl (lv_at hl 0 rfl) ?_
  refine lv_iconst (v := 3) hx hb dL_law_237 (by decide) ?_
  refine lv_iadd hx hb dL_law_238 ?_
  refine b_vi (v := 3) (by decide) ?_
  refine va_sld hx hb hX hbl hbA hS (by unfold vp_in; decide) dL_law_239 ?_
  refine b_vi (v := xs 3) rfl ?_
  refine L_calli (ci := 6) (r := (RX6, TX6, 29)) (As := [.int (xs 1), .int (xs 2), .int (xs 3)]) (rest := [.int v1]) (A := fun a : Nat => s.heap.size ≤ a) ⟨hx, hb, hml, hownL, htsL⟩ (c_X6_time l D cy r hrj zm hFm h10 (xs 1) (xs 2) (xs 3)) (cwV 3 htsL gL_law_X6_time rfl rfl rfl (by decide +kernel) ⟨Nat.le_of_ble_eq_true rfl, Nat.le_of_ble_eq_true rfl⟩) hK hZ (lwI_kept hI0 hk1) (by decide) rfl rfl hrA hA hS rfl hl.1 rfl (Nat.le_of_ble_eq_true rfl) ⟨by decide, by decide⟩ dL_law_240 (fun v2 z2 H2 locs2 hp2 hk2 hS => ?_)
  refine lv_icmp_eq (tgt := 1119) hx hb dL_law_243 (by decide) (fun _ => ?_) (fun c0 => absurd (hp1.symm.trans hp2) c0)
  exact law_tail l (Nat.le_refl 5) C0 hS hl
set_option maxHeartbeats 4000000 in
set_option maxRecDepth 100000 in
theorem law_c2 {p : Program} {e : Env} {s : State} {m : MethodId} {below : List Frame} {meth : Method} {c : Code} (l : Launch) {b L : Nat} {xs : Nat → Int32} (hL : L = 5) (C0 : lw_At p s m meth c b L xs) {D : va_G} {cy : Nat → ClassId} {q : Nat → Nat} {z : zS} {r : Nat → Nat} {zm : zS} {H : Heap} {locs : List Loc} (hI : lwI D cy q z r zm s H locs) {ls : Array Slot} (hl : lv_has ls 4 [(3, .int 0), (2, .ref (r 0)), (1, .ref (q 0)), (0, .ref b)]) : W p l e room_1 s m #[Value.ref b] below meth c H locs 89 47199 (lw_Z below #[Value.ref b] s) (F0 m 248 ls []) := by
  obtain ⟨hx, hb, hr, hml, hown, hts, hX, hbl, hlocks, hgv⟩ := id C0
  have hownL : s.vm.findClass RL = some m.cls := hown
  have htsL : ∀ w ∈ wsL_law, w.before #[Value.ref b] s = true := fun w h => hts w (inL_law w h)
  have hbA : ¬ (fun a : Nat => s.heap.size ≤ a) b := Nat.not_le.mpr hbl
  have hA : ∀ a : Nat, s.heap.size ≤ a → (fun a : Nat => s.heap.size ≤ a) a := fun _ h => h
  subst hL
  have hI0 := hI
  obtain ⟨hK, hZ, hPC, hPM, hF, hFm, h10, hq, hrj, hqA, hrA, hqr, hS⟩ := hI
  refine lv_aload_n hx hb dL_law_248 rfl (lv_at hl 2 rfl) ?_
  refine lv_aload_n hx hb dL_law_249 rfl (lv_at hl 3 rfl) ?_
  refine lv_iload_n hx hb dL_law_250 rfl (lv_at hl 0 rfl) ?_
  refine lv_iconst (v := 1) hx hb dL_law_251 (by decide) ?_
  refine lv_iadd hx hb dL_law_252 ?_
  refine b_vi (v := 1) (by decide) ?_
  refine va_sld hx hb hX hbl hbA hS (by unfold vp_in; decide) dL_law_253 ?_
  refine b_vi (v := xs 1) rfl ?_
  refine lv_aload_n hx hb dL_law_254 rfl (lv_at hl 3 rfl) ?_
  refine lv_iload_n hx hb dL_law_255 rfl (lv_at hl 0 rfl) ?_
  refine lv_iconst (v := 2) hx hb dL_law_256 (by decide) ?_
  refine lv_iadd hx hb dL_law_257 ?_
  refine b_vi (v := 2) (by decide) ?_
  refine va_sld hx hb hX hbl hbA hS (by unfold vp_in; decide) dL_law_258 ?_
  refine b_vi (v := xs 2) rfl ?_
  refine L_calli (ci := 5) (r := (RX5, TX5, 12)) (As := [.int (xs 1), .int (xs 2)]) (rest := []) (A := fun a : Nat => s.heap.size ≤ a) ⟨hx, hb, hml, hownL, htsL⟩ (c_X5_share l D cy q hq z hF (xs 1) (xs 2)) (cwV 2 htsL gL_law_X5_share rfl rfl rfl (by decide +kernel) ⟨Nat.le_of_ble_eq_true rfl, Nat.le_of_ble_eq_true rfl⟩) hK hZ hPC (by decide) rfl rfl hqA hA hS rfl hl.1 rfl (Nat.le_of_ble_eq_true rfl) ⟨by decide, by decide⟩ dL_law_259 (fun v1 z1 H1 locs1 hp1 hk1 hS => ?_)
  refine lv_aload_n hx hb dL_law_262 rfl (lv_at hl 1 rfl) ?_
  refine lv_aload_n hx hb dL_law_263 rfl (lv_at hl 3 rfl) ?_
  refine lv_iload_n hx hb dL_law_264 rfl (lv_at hl 0 rfl) ?_
  refine lv_iconst (v := 1) hx hb dL_law_265 (by decide) ?_
  refine lv_iadd hx hb dL_law_266 ?_
  refine b_vi (v := 1) (by decide) ?_
  refine va_sld hx hb hX hbl hbA hS (by unfold vp_in; decide) dL_law_267 ?_
  refine b_vi (v := xs 1) rfl ?_
  refine lv_aload_n hx hb dL_law_268 rfl (lv_at hl 3 rfl) ?_
  refine lv_iload_n hx hb dL_law_269 rfl (lv_at hl 0 rfl) ?_
  refine lv_iconst (v := 2) hx hb dL_law_270 (by decide) ?_
  refine lv_iadd hx hb dL_law_271 ?_
  refine b_vi (v := 2) (by decide) ?_
  refine va_sld hx hb hX hbl hbA hS (by unfold vp_in; decide) dL_law_272 ?_
  refine b_vi (v := xs 2) rfl ?_
  refine L_calli (ci := 6) (r := (RX6, TX6, 29)) (As := [.int (xs 1), .int (xs 2)]) (rest := [.int v1]) (A := fun a : Nat => s.heap.size ≤ a) ⟨hx, hb, hml, hownL, htsL⟩ (c_X6_share l D cy r hrj zm hFm h10 (xs 1) (xs 2)) (cwV 2 htsL gL_law_X6_share rfl rfl rfl (by decide +kernel) ⟨Nat.le_of_ble_eq_true rfl, Nat.le_of_ble_eq_true rfl⟩) hK hZ (lwI_kept hI0 hk1) (by decide) rfl rfl hrA hA hS rfl hl.1 rfl (Nat.le_of_ble_eq_true rfl) ⟨by decide, by decide⟩ dL_law_273 (fun v2 z2 H2 locs2 hp2 hk2 hS => ?_)
  refine lv_icmp_eq (tgt := 1119) hx hb dL_law_276 (by decide) (fun _ => ?_) (fun c0 => absurd (hp1.symm.trans hp2) c0)
  exact law_tail l (Nat.le_refl 5) C0 hS hl
set_option maxHeartbeats 4000000 in
set_option maxRecDepth 100000 in
theorem law_c3 {p : Program} {e : Env} {s : State} {m : MethodId} {below : List Frame} {meth : Method} {c : Code} (l : Launch) {b L : Nat} {xs : Nat → Int32} (hL : L = 5) (C0 : lw_At p s m meth c b L xs) {D : va_G} {cy : Nat → ClassId} {q : Nat → Nat} {z : zS} {r : Nat → Nat} {zm : zS} {H : Heap} {locs : List Loc} (hI : lwI D cy q z r zm s H locs) {ls : Array Slot} (hl : lv_has ls 4 [(3, .int 0), (2, .ref (r 0)), (1, .ref (q 0)), (0, .ref b)]) : W p l e room_1 s m #[Value.ref b] below meth c H locs 89 47199 (lw_Z below #[Value.ref b] s) (F0 m 281 ls []) := by
  obtain ⟨hx, hb, hr, hml, hown, hts, hX, hbl, hlocks, hgv⟩ := id C0
  have hownL : s.vm.findClass RL = some m.cls := hown
  have htsL : ∀ w ∈ wsL_law, w.before #[Value.ref b] s = true := fun w h => hts w (inL_law w h)
  have hbA : ¬ (fun a : Nat => s.heap.size ≤ a) b := Nat.not_le.mpr hbl
  have hA : ∀ a : Nat, s.heap.size ≤ a → (fun a : Nat => s.heap.size ≤ a) a := fun _ h => h
  subst hL
  have hI0 := hI
  obtain ⟨hK, hZ, hPC, hPM, hF, hFm, h10, hq, hrj, hqA, hrA, hqr, hS⟩ := hI
  refine lv_aload_n hx hb dL_law_281 rfl (lv_at hl 2 rfl) ?_
  refine lv_aload_n hx hb dL_law_282 rfl (lv_at hl 3 rfl) ?_
  refine lv_iload_n hx hb dL_law_283 rfl (lv_at hl 0 rfl) ?_
  refine lv_iconst (v := 1) hx hb dL_law_284 (by decide) ?_
  refine lv_iadd hx hb dL_law_285 ?_
  refine b_vi (v := 1) (by decide) ?_
  refine va_sld hx hb hX hbl hbA hS (by unfold vp_in; decide) dL_law_286 ?_
  refine b_vi (v := xs 1) rfl ?_
  refine lv_aload_n hx hb dL_law_287 rfl (lv_at hl 3 rfl) ?_
  refine lv_iload_n hx hb dL_law_288 rfl (lv_at hl 0 rfl) ?_
  refine lv_iconst (v := 2) hx hb dL_law_289 (by decide) ?_
  refine lv_iadd hx hb dL_law_290 ?_
  refine b_vi (v := 2) (by decide) ?_
  refine va_sld hx hb hX hbl hbA hS (by unfold vp_in; decide) dL_law_291 ?_
  refine b_vi (v := xs 2) rfl ?_
  refine L_calli (ci := 5) (r := (RX5, TX5, 12)) (As := [.int (xs 1), .int (xs 2)]) (rest := []) (A := fun a : Nat => s.heap.size ≤ a) ⟨hx, hb, hml, hownL, htsL⟩ (c_X5_ahead l D cy q hq z hF (xs 1) (xs 2)) (cwV 2 htsL gL_law_X5_ahead rfl rfl rfl (by decide +kernel) ⟨Nat.le_of_ble_eq_true rfl, Nat.le_of_ble_eq_true rfl⟩) hK hZ hPC (by decide) rfl rfl hqA hA hS rfl hl.1 rfl (Nat.le_of_ble_eq_true rfl) ⟨by decide, by decide⟩ dL_law_292 (fun v1 z1 H1 locs1 hp1 hk1 hS => ?_)
  refine lv_aload_n hx hb dL_law_295 rfl (lv_at hl 1 rfl) ?_
  refine lv_aload_n hx hb dL_law_296 rfl (lv_at hl 3 rfl) ?_
  refine lv_iload_n hx hb dL_law_297 rfl (lv_at hl 0 rfl) ?_
  refine lv_iconst (v := 1) hx hb dL_law_298 (by decide) ?_
  refine lv_iadd hx hb dL_law_299 ?_
  refine b_vi (v := 1) (by decide) ?_
  refine va_sld hx hb hX hbl hbA hS (by unfold vp_in; decide) dL_law_300 ?_
  refine b_vi (v := xs 1) rfl ?_
  refine lv_aload_n hx hb dL_law_301 rfl (lv_at hl 3 rfl) ?_
  refine lv_iload_n hx hb dL_law_302 rfl (lv_at hl 0 rfl) ?_
  refine lv_iconst (v := 2) hx hb dL_law_303 (by decide) ?_
  refine lv_iadd hx hb dL_law_304 ?_
  refine b_vi (v := 2) (by decide) ?_
  refine va_sld hx hb hX hbl hbA hS (by unfold vp_in; decide) dL_law_305 ?_
  refine b_vi (v := xs 2) rfl ?_
  refine L_calli (ci := 6) (r := (RX6, TX6, 29)) (As := [.int (xs 1), .int (xs 2)]) (rest := [.int v1]) (A := fun a : Nat => s.heap.size ≤ a) ⟨hx, hb, hml, hownL, htsL⟩ (c_X6_ahead l D cy r hrj zm hFm h10 (xs 1) (xs 2)) (cwV 2 htsL gL_law_X6_ahead rfl rfl rfl (by decide +kernel) ⟨Nat.le_of_ble_eq_true rfl, Nat.le_of_ble_eq_true rfl⟩) hK hZ (lwI_kept hI0 hk1) (by decide) rfl rfl hrA hA hS rfl hl.1 rfl (Nat.le_of_ble_eq_true rfl) ⟨by decide, by decide⟩ dL_law_306 (fun v2 z2 H2 locs2 hp2 hk2 hS => ?_)
  refine lv_icmp_eq (tgt := 1119) hx hb dL_law_309 (by decide) (fun _ => ?_) (fun c0 => absurd (hp1.symm.trans hp2) c0)
  exact law_tail l (Nat.le_refl 5) C0 hS hl
set_option maxHeartbeats 4000000 in
set_option maxRecDepth 100000 in
theorem law_c4 {p : Program} {e : Env} {s : State} {m : MethodId} {below : List Frame} {meth : Method} {c : Code} (l : Launch) {b L : Nat} {xs : Nat → Int32} (hL : L = 5) (C0 : lw_At p s m meth c b L xs) {D : va_G} {cy : Nat → ClassId} {q : Nat → Nat} {z : zS} {r : Nat → Nat} {zm : zS} {H : Heap} {locs : List Loc} (hI : lwI D cy q z r zm s H locs) {ls : Array Slot} (hl : lv_has ls 4 [(3, .int 0), (2, .ref (r 0)), (1, .ref (q 0)), (0, .ref b)]) : W p l e room_1 s m #[Value.ref b] below meth c H locs 89 47199 (lw_Z below #[Value.ref b] s) (F0 m 314 ls []) := by
  obtain ⟨hx, hb, hr, hml, hown, hts, hX, hbl, hlocks, hgv⟩ := id C0
  have hownL : s.vm.findClass RL = some m.cls := hown
  have htsL : ∀ w ∈ wsL_law, w.before #[Value.ref b] s = true := fun w h => hts w (inL_law w h)
  have hbA : ¬ (fun a : Nat => s.heap.size ≤ a) b := Nat.not_le.mpr hbl
  have hA : ∀ a : Nat, s.heap.size ≤ a → (fun a : Nat => s.heap.size ≤ a) a := fun _ h => h
  subst hL
  have hI0 := hI
  obtain ⟨hK, hZ, hPC, hPM, hF, hFm, h10, hq, hrj, hqA, hrA, hqr, hS⟩ := hI
  refine lv_aload_n hx hb dL_law_314 rfl (lv_at hl 2 rfl) ?_
  refine lv_aload_n hx hb dL_law_315 rfl (lv_at hl 3 rfl) ?_
  refine lv_iload_n hx hb dL_law_316 rfl (lv_at hl 0 rfl) ?_
  refine lv_iconst (v := 1) hx hb dL_law_317 (by decide) ?_
  refine lv_iadd hx hb dL_law_318 ?_
  refine b_vi (v := 1) (by decide) ?_
  refine va_sld hx hb hX hbl hbA hS (by unfold vp_in; decide) dL_law_319 ?_
  refine b_vi (v := xs 1) rfl ?_
  refine lv_aload_n hx hb dL_law_320 rfl (lv_at hl 3 rfl) ?_
  refine lv_iload_n hx hb dL_law_321 rfl (lv_at hl 0 rfl) ?_
  refine lv_iconst (v := 2) hx hb dL_law_322 (by decide) ?_
  refine lv_iadd hx hb dL_law_323 ?_
  refine b_vi (v := 2) (by decide) ?_
  refine va_sld hx hb hX hbl hbA hS (by unfold vp_in; decide) dL_law_324 ?_
  refine b_vi (v := xs 2) rfl ?_
  refine L_calli (ci := 5) (r := (RX5, TX5, 12)) (As := [.int (xs 1), .int (xs 2)]) (rest := []) (A := fun a : Nat => s.heap.size ≤ a) ⟨hx, hb, hml, hownL, htsL⟩ (c_X5_free l D cy q hq z hF (xs 1) (xs 2)) (cwV 2 htsL gL_law_X5_free rfl rfl rfl (by decide +kernel) ⟨Nat.le_of_ble_eq_true rfl, Nat.le_of_ble_eq_true rfl⟩) hK hZ hPC (by decide) rfl rfl hqA hA hS rfl hl.1 rfl (Nat.le_of_ble_eq_true rfl) ⟨by decide, by decide⟩ dL_law_325 (fun v1 z1 H1 locs1 hp1 hk1 hS => ?_)
  refine lv_aload_n hx hb dL_law_328 rfl (lv_at hl 1 rfl) ?_
  refine lv_aload_n hx hb dL_law_329 rfl (lv_at hl 3 rfl) ?_
  refine lv_iload_n hx hb dL_law_330 rfl (lv_at hl 0 rfl) ?_
  refine lv_iconst (v := 1) hx hb dL_law_331 (by decide) ?_
  refine lv_iadd hx hb dL_law_332 ?_
  refine b_vi (v := 1) (by decide) ?_
  refine va_sld hx hb hX hbl hbA hS (by unfold vp_in; decide) dL_law_333 ?_
  refine b_vi (v := xs 1) rfl ?_
  refine lv_aload_n hx hb dL_law_334 rfl (lv_at hl 3 rfl) ?_
  refine lv_iload_n hx hb dL_law_335 rfl (lv_at hl 0 rfl) ?_
  refine lv_iconst (v := 2) hx hb dL_law_336 (by decide) ?_
  refine lv_iadd hx hb dL_law_337 ?_
  refine b_vi (v := 2) (by decide) ?_
  refine va_sld hx hb hX hbl hbA hS (by unfold vp_in; decide) dL_law_338 ?_
  refine b_vi (v := xs 2) rfl ?_
  refine L_calli (ci := 6) (r := (RX6, TX6, 29)) (As := [.int (xs 1), .int (xs 2)]) (rest := [.int v1]) (A := fun a : Nat => s.heap.size ≤ a) ⟨hx, hb, hml, hownL, htsL⟩ (c_X6_free l D cy r hrj zm hFm h10 (xs 1) (xs 2)) (cwV 2 htsL gL_law_X6_free rfl rfl rfl (by decide +kernel) ⟨Nat.le_of_ble_eq_true rfl, Nat.le_of_ble_eq_true rfl⟩) hK hZ (lwI_kept hI0 hk1) (by decide) rfl rfl hrA hA hS rfl hl.1 rfl (Nat.le_of_ble_eq_true rfl) ⟨by decide, by decide⟩ dL_law_339 (fun v2 z2 H2 locs2 hp2 hk2 hS => ?_)
  refine lv_icmp_eq (tgt := 1119) hx hb dL_law_342 (by decide) (fun _ => ?_) (fun c0 => absurd (hp1.symm.trans hp2) c0)
  exact law_tail l (Nat.le_refl 5) C0 hS hl
set_option maxHeartbeats 4000000 in
set_option maxRecDepth 100000 in
theorem law_c5 {p : Program} {e : Env} {s : State} {m : MethodId} {below : List Frame} {meth : Method} {c : Code} (l : Launch) {b L : Nat} {xs : Nat → Int32} (hL : L = 5) (C0 : lw_At p s m meth c b L xs) {D : va_G} {cy : Nat → ClassId} {q : Nat → Nat} {z : zS} {r : Nat → Nat} {zm : zS} {H : Heap} {locs : List Loc} (hI : lwI D cy q z r zm s H locs) {ls : Array Slot} (hl : lv_has ls 4 [(3, .int 0), (2, .ref (r 0)), (1, .ref (q 0)), (0, .ref b)]) : W p l e room_1 s m #[Value.ref b] below meth c H locs 89 47199 (lw_Z below #[Value.ref b] s) (F0 m 347 ls []) := by
  obtain ⟨hx, hb, hr, hml, hown, hts, hX, hbl, hlocks, hgv⟩ := id C0
  have hownL : s.vm.findClass RL = some m.cls := hown
  have htsL : ∀ w ∈ wsL_law, w.before #[Value.ref b] s = true := fun w h => hts w (inL_law w h)
  have hbA : ¬ (fun a : Nat => s.heap.size ≤ a) b := Nat.not_le.mpr hbl
  have hA : ∀ a : Nat, s.heap.size ≤ a → (fun a : Nat => s.heap.size ≤ a) a := fun _ h => h
  subst hL
  have hI0 := hI
  obtain ⟨hK, hZ, hPC, hPM, hF, hFm, h10, hq, hrj, hqA, hrA, hqr, hS⟩ := hI
  refine lv_aload_n hx hb dL_law_347 rfl (lv_at hl 2 rfl) ?_
  refine lv_aload_n hx hb dL_law_348 rfl (lv_at hl 3 rfl) ?_
  refine lv_iload_n hx hb dL_law_349 rfl (lv_at hl 0 rfl) ?_
  refine lv_iconst (v := 1) hx hb dL_law_350 (by decide) ?_
  refine lv_iadd hx hb dL_law_351 ?_
  refine b_vi (v := 1) (by decide) ?_
  refine va_sld hx hb hX hbl hbA hS (by unfold vp_in; decide) dL_law_352 ?_
  refine b_vi (v := xs 1) rfl ?_
  refine L_calli (ci := 5) (r := (RX5, TX5, 12)) (As := [.int (xs 1)]) (rest := []) (A := fun a : Nat => s.heap.size ≤ a) ⟨hx, hb, hml, hownL, htsL⟩ (c_X5_ring l D cy q hq z hF (xs 1)) (cwV 1 htsL gL_law_X5_ring rfl rfl rfl (by decide +kernel) ⟨Nat.le_of_ble_eq_true rfl, Nat.le_of_ble_eq_true rfl⟩) hK hZ hPC (by decide) rfl rfl hqA hA hS rfl hl.1 rfl (Nat.le_of_ble_eq_true rfl) ⟨by decide, by decide⟩ dL_law_353 (fun v1 z1 H1 locs1 hp1 hk1 hS => ?_)
  refine lv_aload_n hx hb dL_law_356 rfl (lv_at hl 1 rfl) ?_
  refine lv_aload_n hx hb dL_law_357 rfl (lv_at hl 3 rfl) ?_
  refine lv_iload_n hx hb dL_law_358 rfl (lv_at hl 0 rfl) ?_
  refine lv_iconst (v := 1) hx hb dL_law_359 (by decide) ?_
  refine lv_iadd hx hb dL_law_360 ?_
  refine b_vi (v := 1) (by decide) ?_
  refine va_sld hx hb hX hbl hbA hS (by unfold vp_in; decide) dL_law_361 ?_
  refine b_vi (v := xs 1) rfl ?_
  refine L_calli (ci := 6) (r := (RX6, TX6, 29)) (As := [.int (xs 1)]) (rest := [.int v1]) (A := fun a : Nat => s.heap.size ≤ a) ⟨hx, hb, hml, hownL, htsL⟩ (c_X6_ring l D cy r hrj zm hFm h10 (xs 1)) (cwV 1 htsL gL_law_X6_ring rfl rfl rfl (by decide +kernel) ⟨Nat.le_of_ble_eq_true rfl, Nat.le_of_ble_eq_true rfl⟩) hK hZ (lwI_kept hI0 hk1) (by decide) rfl rfl hrA hA hS rfl hl.1 rfl (Nat.le_of_ble_eq_true rfl) ⟨by decide, by decide⟩ dL_law_362 (fun v2 z2 H2 locs2 hp2 hk2 hS => ?_)
  refine lv_icmp_eq (tgt := 1119) hx hb dL_law_365 (by decide) (fun _ => ?_) (fun c0 => absurd (hp1.symm.trans hp2) c0)
  exact law_tail l (Nat.le_refl 5) C0 hS hl
set_option maxHeartbeats 4000000 in
set_option maxRecDepth 100000 in
theorem law_c6 {p : Program} {e : Env} {s : State} {m : MethodId} {below : List Frame} {meth : Method} {c : Code} (l : Launch) {b L : Nat} {xs : Nat → Int32} (hL : L = 5) (C0 : lw_At p s m meth c b L xs) {D : va_G} {cy : Nat → ClassId} {q : Nat → Nat} {z : zS} {r : Nat → Nat} {zm : zS} {H : Heap} {locs : List Loc} (hI : lwI D cy q z r zm s H locs) {ls : Array Slot} (hl : lv_has ls 4 [(3, .int 0), (2, .ref (r 0)), (1, .ref (q 0)), (0, .ref b)]) : W p l e room_1 s m #[Value.ref b] below meth c H locs 89 47199 (lw_Z below #[Value.ref b] s) (F0 m 370 ls []) := by
  obtain ⟨hx, hb, hr, hml, hown, hts, hX, hbl, hlocks, hgv⟩ := id C0
  have hownL : s.vm.findClass RL = some m.cls := hown
  have htsL : ∀ w ∈ wsL_law, w.before #[Value.ref b] s = true := fun w h => hts w (inL_law w h)
  have hbA : ¬ (fun a : Nat => s.heap.size ≤ a) b := Nat.not_le.mpr hbl
  have hA : ∀ a : Nat, s.heap.size ≤ a → (fun a : Nat => s.heap.size ≤ a) a := fun _ h => h
  subst hL
  have hI0 := hI
  obtain ⟨hK, hZ, hPC, hPM, hF, hFm, h10, hq, hrj, hqA, hrA, hqr, hS⟩ := hI
  refine lv_aload_n hx hb dL_law_370 rfl (lv_at hl 2 rfl) ?_
  refine lv_aload_n hx hb dL_law_371 rfl (lv_at hl 3 rfl) ?_
  refine lv_iload_n hx hb dL_law_372 rfl (lv_at hl 0 rfl) ?_
  refine lv_iconst (v := 1) hx hb dL_law_373 (by decide) ?_
  refine lv_iadd hx hb dL_law_374 ?_
  refine b_vi (v := 1) (by decide) ?_
  refine va_sld hx hb hX hbl hbA hS (by unfold vp_in; decide) dL_law_375 ?_
  refine b_vi (v := xs 1) rfl ?_
  refine lv_aload_n hx hb dL_law_376 rfl (lv_at hl 3 rfl) ?_
  refine lv_iload_n hx hb dL_law_377 rfl (lv_at hl 0 rfl) ?_
  refine lv_iconst (v := 2) hx hb dL_law_378 (by decide) ?_
  refine lv_iadd hx hb dL_law_379 ?_
  refine b_vi (v := 2) (by decide) ?_
  refine va_sld hx hb hX hbl hbA hS (by unfold vp_in; decide) dL_law_380 ?_
  refine b_vi (v := xs 2) rfl ?_
  refine lv_aload_n hx hb dL_law_381 rfl (lv_at hl 3 rfl) ?_
  refine lv_iload_n hx hb dL_law_382 rfl (lv_at hl 0 rfl) ?_
  refine lv_iconst (v := 3) hx hb dL_law_383 (by decide) ?_
  refine lv_iadd hx hb dL_law_384 ?_
  refine b_vi (v := 3) (by decide) ?_
  refine va_sld hx hb hX hbl hbA hS (by unfold vp_in; decide) dL_law_385 ?_
  refine b_vi (v := xs 3) rfl ?_
  refine L_calli (ci := 5) (r := (RX5, TX5, 12)) (As := [.int (xs 1), .int (xs 2), .int (xs 3)]) (rest := []) (A := fun a : Nat => s.heap.size ≤ a) ⟨hx, hb, hml, hownL, htsL⟩ (c_X5_pair l D cy q hq z hF (xs 1) (xs 2) (xs 3)) (cwV 3 htsL gL_law_X5_pair rfl rfl rfl (by decide +kernel) ⟨Nat.le_of_ble_eq_true rfl, Nat.le_of_ble_eq_true rfl⟩) hK hZ hPC (by decide) rfl rfl hqA hA hS rfl hl.1 rfl (Nat.le_of_ble_eq_true rfl) ⟨by decide, by decide⟩ dL_law_386 (fun v1 z1 H1 locs1 hp1 hk1 hS => ?_)
  refine lv_aload_n hx hb dL_law_389 rfl (lv_at hl 1 rfl) ?_
  refine lv_aload_n hx hb dL_law_390 rfl (lv_at hl 3 rfl) ?_
  refine lv_iload_n hx hb dL_law_391 rfl (lv_at hl 0 rfl) ?_
  refine lv_iconst (v := 1) hx hb dL_law_392 (by decide) ?_
  refine lv_iadd hx hb dL_law_393 ?_
  refine b_vi (v := 1) (by decide) ?_
  refine va_sld hx hb hX hbl hbA hS (by unfold vp_in; decide) dL_law_394 ?_
  refine b_vi (v := xs 1) rfl ?_
  refine lv_aload_n hx hb dL_law_395 rfl (lv_at hl 3 rfl) ?_
  refine lv_iload_n hx hb dL_law_396 rfl (lv_at hl 0 rfl) ?_
  refine lv_iconst (v := 2) hx hb dL_law_397 (by decide) ?_
  refine lv_iadd hx hb dL_law_398 ?_
  refine b_vi (v := 2) (by decide) ?_
  refine va_sld hx hb hX hbl hbA hS (by unfold vp_in; decide) dL_law_399 ?_
  refine b_vi (v := xs 2) rfl ?_
  refine lv_aload_n hx hb dL_law_400 rfl (lv_at hl 3 rfl) ?_
  refine lv_iload_n hx hb dL_law_401 rfl (lv_at hl 0 rfl) ?_
  refine lv_iconst (v := 3) hx hb dL_law_402 (by decide) ?_
  refine lv_iadd hx hb dL_law_403 ?_
  refine b_vi (v := 3) (by decide) ?_
  refine va_sld hx hb hX hbl hbA hS (by unfold vp_in; decide) dL_law_404 ?_
  refine b_vi (v := xs 3) rfl ?_
  refine L_calli (ci := 6) (r := (RX6, TX6, 29)) (As := [.int (xs 1), .int (xs 2), .int (xs 3)]) (rest := [.int v1]) (A := fun a : Nat => s.heap.size ≤ a) ⟨hx, hb, hml, hownL, htsL⟩ (c_X6_pair l D cy r hrj zm hFm h10 (xs 1) (xs 2) (xs 3)) (cwV 3 htsL gL_law_X6_pair rfl rfl rfl (by decide +kernel) ⟨Nat.le_of_ble_eq_true rfl, Nat.le_of_ble_eq_true rfl⟩) hK hZ (lwI_kept hI0 hk1) (by decide) rfl rfl hrA hA hS rfl hl.1 rfl (Nat.le_of_ble_eq_true rfl) ⟨by decide, by decide⟩ dL_law_405 (fun v2 z2 H2 locs2 hp2 hk2 hS => ?_)
  refine lv_icmp_eq (tgt := 1119) hx hb dL_law_408 (by decide) (fun _ => ?_) (fun c0 => absurd (hp1.symm.trans hp2) c0)
  exact law_tail l (Nat.le_refl 5) C0 hS hl
set_option maxHeartbeats 4000000 in
set_option maxRecDepth 100000 in
theorem law_c7 {p : Program} {e : Env} {s : State} {m : MethodId} {below : List Frame} {meth : Method} {c : Code} (l : Launch) {b L : Nat} {xs : Nat → Int32} (hL : L = 5) (C0 : lw_At p s m meth c b L xs) {D : va_G} {cy : Nat → ClassId} {q : Nat → Nat} {z : zS} {r : Nat → Nat} {zm : zS} {H : Heap} {locs : List Loc} (hI : lwI D cy q z r zm s H locs) {ls : Array Slot} (hl : lv_has ls 4 [(3, .int 0), (2, .ref (r 0)), (1, .ref (q 0)), (0, .ref b)]) : W p l e room_1 s m #[Value.ref b] below meth c H locs 89 47199 (lw_Z below #[Value.ref b] s) (F0 m 413 ls []) := by
  obtain ⟨hx, hb, hr, hml, hown, hts, hX, hbl, hlocks, hgv⟩ := id C0
  have hownL : s.vm.findClass RL = some m.cls := hown
  have htsL : ∀ w ∈ wsL_law, w.before #[Value.ref b] s = true := fun w h => hts w (inL_law w h)
  have hbA : ¬ (fun a : Nat => s.heap.size ≤ a) b := Nat.not_le.mpr hbl
  have hA : ∀ a : Nat, s.heap.size ≤ a → (fun a : Nat => s.heap.size ≤ a) a := fun _ h => h
  subst hL
  have hI0 := hI
  obtain ⟨hK, hZ, hPC, hPM, hF, hFm, h10, hq, hrj, hqA, hrA, hqr, hS⟩ := hI
  refine lv_aload_n hx hb dL_law_413 rfl (lv_at hl 2 rfl) ?_
  refine lv_aload_n hx hb dL_law_414 rfl (lv_at hl 3 rfl) ?_
  refine lv_iload_n hx hb dL_law_415 rfl (lv_at hl 0 rfl) ?_
  refine lv_iconst (v := 1) hx hb dL_law_416 (by decide) ?_
  refine lv_iadd hx hb dL_law_417 ?_
  refine b_vi (v := 1) (by decide) ?_
  refine va_sld hx hb hX hbl hbA hS (by unfold vp_in; decide) dL_law_418 ?_
  refine b_vi (v := xs 1) rfl ?_
  refine lv_aload_n hx hb dL_law_419 rfl (lv_at hl 3 rfl) ?_
  refine lv_iload_n hx hb dL_law_420 rfl (lv_at hl 0 rfl) ?_
  refine lv_iconst (v := 2) hx hb dL_law_421 (by decide) ?_
  refine lv_iadd hx hb dL_law_422 ?_
  refine b_vi (v := 2) (by decide) ?_
  refine va_sld hx hb hX hbl hbA hS (by unfold vp_in; decide) dL_law_423 ?_
  refine b_vi (v := xs 2) rfl ?_
  refine L_calli (ci := 5) (r := (RX5, TX5, 12)) (As := [.int (xs 1), .int (xs 2)]) (rest := []) (A := fun a : Nat => s.heap.size ≤ a) ⟨hx, hb, hml, hownL, htsL⟩ (c_X5_hold l D cy q hq z hF (xs 1) (xs 2)) (cwV 2 htsL gL_law_X5_hold rfl rfl rfl (by decide +kernel) ⟨Nat.le_of_ble_eq_true rfl, Nat.le_of_ble_eq_true rfl⟩) hK hZ hPC (by decide) rfl rfl hqA hA hS rfl hl.1 rfl (Nat.le_of_ble_eq_true rfl) ⟨by decide, by decide⟩ dL_law_424 (fun v1 z1 H1 locs1 hp1 hk1 hS => ?_)
  refine lv_aload_n hx hb dL_law_427 rfl (lv_at hl 1 rfl) ?_
  refine lv_aload_n hx hb dL_law_428 rfl (lv_at hl 3 rfl) ?_
  refine lv_iload_n hx hb dL_law_429 rfl (lv_at hl 0 rfl) ?_
  refine lv_iconst (v := 1) hx hb dL_law_430 (by decide) ?_
  refine lv_iadd hx hb dL_law_431 ?_
  refine b_vi (v := 1) (by decide) ?_
  refine va_sld hx hb hX hbl hbA hS (by unfold vp_in; decide) dL_law_432 ?_
  refine b_vi (v := xs 1) rfl ?_
  refine lv_aload_n hx hb dL_law_433 rfl (lv_at hl 3 rfl) ?_
  refine lv_iload_n hx hb dL_law_434 rfl (lv_at hl 0 rfl) ?_
  refine lv_iconst (v := 2) hx hb dL_law_435 (by decide) ?_
  refine lv_iadd hx hb dL_law_436 ?_
  refine b_vi (v := 2) (by decide) ?_
  refine va_sld hx hb hX hbl hbA hS (by unfold vp_in; decide) dL_law_437 ?_
  refine b_vi (v := xs 2) rfl ?_
  refine L_calli (ci := 6) (r := (RX6, TX6, 29)) (As := [.int (xs 1), .int (xs 2)]) (rest := [.int v1]) (A := fun a : Nat => s.heap.size ≤ a) ⟨hx, hb, hml, hownL, htsL⟩ (c_X6_hold l D cy r hrj zm hFm h10 (xs 1) (xs 2)) (cwV 2 htsL gL_law_X6_hold rfl rfl rfl (by decide +kernel) ⟨Nat.le_of_ble_eq_true rfl, Nat.le_of_ble_eq_true rfl⟩) hK hZ (lwI_kept hI0 hk1) (by decide) rfl rfl hrA hA hS rfl hl.1 rfl (Nat.le_of_ble_eq_true rfl) ⟨by decide, by decide⟩ dL_law_438 (fun v2 z2 H2 locs2 hp2 hk2 hS => ?_)
  refine lv_icmp_eq (tgt := 1119) hx hb dL_law_441 (by decide) (fun _ => ?_) (fun c0 => absurd (hp1.symm.trans hp2) c0)
  exact law_tail l (Nat.le_refl 5) C0 hS hl
set_option maxHeartbeats 4000000 in
set_option maxRecDepth 100000 in
theorem law_c8 {p : Program} {e : Env} {s : State} {m : MethodId} {below : List Frame} {meth : Method} {c : Code} (l : Launch) {b L : Nat} {xs : Nat → Int32} (hL : L = 5) (C0 : lw_At p s m meth c b L xs) {D : va_G} {cy : Nat → ClassId} {q : Nat → Nat} {z : zS} {r : Nat → Nat} {zm : zS} {H : Heap} {locs : List Loc} (hI : lwI D cy q z r zm s H locs) {ls : Array Slot} (hl : lv_has ls 4 [(3, .int 0), (2, .ref (r 0)), (1, .ref (q 0)), (0, .ref b)]) : W p l e room_1 s m #[Value.ref b] below meth c H locs 89 47199 (lw_Z below #[Value.ref b] s) (F0 m 446 ls []) := by
  obtain ⟨hx, hb, hr, hml, hown, hts, hX, hbl, hlocks, hgv⟩ := id C0
  have hownL : s.vm.findClass RL = some m.cls := hown
  have htsL : ∀ w ∈ wsL_law, w.before #[Value.ref b] s = true := fun w h => hts w (inL_law w h)
  have hbA : ¬ (fun a : Nat => s.heap.size ≤ a) b := Nat.not_le.mpr hbl
  have hA : ∀ a : Nat, s.heap.size ≤ a → (fun a : Nat => s.heap.size ≤ a) a := fun _ h => h
  subst hL
  have hI0 := hI
  obtain ⟨hK, hZ, hPC, hPM, hF, hFm, h10, hq, hrj, hqA, hrA, hqr, hS⟩ := hI
  refine lv_aload_n hx hb dL_law_446 rfl (lv_at hl 2 rfl) ?_
  refine lv_aload_n hx hb dL_law_447 rfl (lv_at hl 3 rfl) ?_
  refine lv_iload_n hx hb dL_law_448 rfl (lv_at hl 0 rfl) ?_
  refine lv_iconst (v := 1) hx hb dL_law_449 (by decide) ?_
  refine lv_iadd hx hb dL_law_450 ?_
  refine b_vi (v := 1) (by decide) ?_
  refine va_sld hx hb hX hbl hbA hS (by unfold vp_in; decide) dL_law_451 ?_
  refine b_vi (v := xs 1) rfl ?_
  refine L_calli (ci := 5) (r := (RX5, TX5, 12)) (As := [.int (xs 1)]) (rest := []) (A := fun a : Nat => s.heap.size ≤ a) ⟨hx, hb, hml, hownL, htsL⟩ (c_X5_line l D cy q hq z hF (xs 1)) (cwV 1 htsL gL_law_X5_line rfl rfl rfl (by decide +kernel) ⟨Nat.le_of_ble_eq_true rfl, Nat.le_of_ble_eq_true rfl⟩) hK hZ hPC (by decide) rfl rfl hqA hA hS rfl hl.1 rfl (Nat.le_of_ble_eq_true rfl) ⟨by decide, by decide⟩ dL_law_452 (fun v1 z1 H1 locs1 hp1 hk1 hS => ?_)
  refine lv_aload_n hx hb dL_law_455 rfl (lv_at hl 1 rfl) ?_
  refine lv_aload_n hx hb dL_law_456 rfl (lv_at hl 3 rfl) ?_
  refine lv_iload_n hx hb dL_law_457 rfl (lv_at hl 0 rfl) ?_
  refine lv_iconst (v := 1) hx hb dL_law_458 (by decide) ?_
  refine lv_iadd hx hb dL_law_459 ?_
  refine b_vi (v := 1) (by decide) ?_
  refine va_sld hx hb hX hbl hbA hS (by unfold vp_in; decide) dL_law_460 ?_
  refine b_vi (v := xs 1) rfl ?_
  refine L_calli (ci := 6) (r := (RX6, TX6, 29)) (As := [.int (xs 1)]) (rest := [.int v1]) (A := fun a : Nat => s.heap.size ≤ a) ⟨hx, hb, hml, hownL, htsL⟩ (c_X6_line l D cy r hrj zm hFm h10 (xs 1)) (cwV 1 htsL gL_law_X6_line rfl rfl rfl (by decide +kernel) ⟨Nat.le_of_ble_eq_true rfl, Nat.le_of_ble_eq_true rfl⟩) hK hZ (lwI_kept hI0 hk1) (by decide) rfl rfl hrA hA hS rfl hl.1 rfl (Nat.le_of_ble_eq_true rfl) ⟨by decide, by decide⟩ dL_law_461 (fun v2 z2 H2 locs2 hp2 hk2 hS => ?_)
  refine lv_icmp_eq (tgt := 1119) hx hb dL_law_464 (by decide) (fun _ => ?_) (fun c0 => absurd (hp1.symm.trans hp2) c0)
  exact law_tail l (Nat.le_refl 5) C0 hS hl
set_option maxHeartbeats 4000000 in
set_option maxRecDepth 100000 in
theorem law_c9 {p : Program} {e : Env} {s : State} {m : MethodId} {below : List Frame} {meth : Method} {c : Code} (l : Launch) {b L : Nat} {xs : Nat → Int32} (hL : L = 5) (C0 : lw_At p s m meth c b L xs) {D : va_G} {cy : Nat → ClassId} {q : Nat → Nat} {z : zS} {r : Nat → Nat} {zm : zS} {H : Heap} {locs : List Loc} (hI : lwI D cy q z r zm s H locs) {ls : Array Slot} (hl : lv_has ls 4 [(3, .int 0), (2, .ref (r 0)), (1, .ref (q 0)), (0, .ref b)]) : W p l e room_1 s m #[Value.ref b] below meth c H locs 89 47199 (lw_Z below #[Value.ref b] s) (F0 m 469 ls []) := by
  obtain ⟨hx, hb, hr, hml, hown, hts, hX, hbl, hlocks, hgv⟩ := id C0
  have hownL : s.vm.findClass RL = some m.cls := hown
  have htsL : ∀ w ∈ wsL_law, w.before #[Value.ref b] s = true := fun w h => hts w (inL_law w h)
  have hbA : ¬ (fun a : Nat => s.heap.size ≤ a) b := Nat.not_le.mpr hbl
  have hA : ∀ a : Nat, s.heap.size ≤ a → (fun a : Nat => s.heap.size ≤ a) a := fun _ h => h
  subst hL
  have hI0 := hI
  obtain ⟨hK, hZ, hPC, hPM, hF, hFm, h10, hq, hrj, hqA, hrA, hqr, hS⟩ := hI
  refine lv_aload_n hx hb dL_law_469 rfl (lv_at hl 2 rfl) ?_
  refine lv_aload_n hx hb dL_law_470 rfl (lv_at hl 3 rfl) ?_
  refine lv_iload_n hx hb dL_law_471 rfl (lv_at hl 0 rfl) ?_
  refine lv_iconst (v := 1) hx hb dL_law_472 (by decide) ?_
  refine lv_iadd hx hb dL_law_473 ?_
  refine b_vi (v := 1) (by decide) ?_
  refine va_sld hx hb hX hbl hbA hS (by unfold vp_in; decide) dL_law_474 ?_
  refine b_vi (v := xs 1) rfl ?_
  refine L_calli (ci := 5) (r := (RX5, TX5, 12)) (As := [.int (xs 1)]) (rest := []) (A := fun a : Nat => s.heap.size ≤ a) ⟨hx, hb, hml, hownL, htsL⟩ (c_X5_beat l D cy q hq z hF (xs 1)) (cwV 1 htsL gL_law_X5_beat rfl rfl rfl (by decide +kernel) ⟨Nat.le_of_ble_eq_true rfl, Nat.le_of_ble_eq_true rfl⟩) hK hZ hPC (by decide) rfl rfl hqA hA hS rfl hl.1 rfl (Nat.le_of_ble_eq_true rfl) ⟨by decide, by decide⟩ dL_law_475 (fun v1 z1 H1 locs1 hp1 hk1 hS => ?_)
  refine lv_aload_n hx hb dL_law_478 rfl (lv_at hl 1 rfl) ?_
  refine lv_aload_n hx hb dL_law_479 rfl (lv_at hl 3 rfl) ?_
  refine lv_iload_n hx hb dL_law_480 rfl (lv_at hl 0 rfl) ?_
  refine lv_iconst (v := 1) hx hb dL_law_481 (by decide) ?_
  refine lv_iadd hx hb dL_law_482 ?_
  refine b_vi (v := 1) (by decide) ?_
  refine va_sld hx hb hX hbl hbA hS (by unfold vp_in; decide) dL_law_483 ?_
  refine b_vi (v := xs 1) rfl ?_
  refine L_calli (ci := 6) (r := (RX6, TX6, 29)) (As := [.int (xs 1)]) (rest := [.int v1]) (A := fun a : Nat => s.heap.size ≤ a) ⟨hx, hb, hml, hownL, htsL⟩ (c_X6_beat l D cy r hrj zm hFm h10 (xs 1)) (cwV 1 htsL gL_law_X6_beat rfl rfl rfl (by decide +kernel) ⟨Nat.le_of_ble_eq_true rfl, Nat.le_of_ble_eq_true rfl⟩) hK hZ (lwI_kept hI0 hk1) (by decide) rfl rfl hrA hA hS rfl hl.1 rfl (Nat.le_of_ble_eq_true rfl) ⟨by decide, by decide⟩ dL_law_484 (fun v2 z2 H2 locs2 hp2 hk2 hS => ?_)
  refine lv_icmp_eq (tgt := 1119) hx hb dL_law_487 (by decide) (fun _ => ?_) (fun c0 => absurd (hp1.symm.trans hp2) c0)
  exact law_tail l (Nat.le_refl 5) C0 hS hl
set_option maxHeartbeats 4000000 in
set_option maxRecDepth 100000 in
theorem law_c10 {p : Program} {e : Env} {s : State} {m : MethodId} {below : List Frame} {meth : Method} {c : Code} (l : Launch) {b L : Nat} {xs : Nat → Int32} (hL : L = 5) (C0 : lw_At p s m meth c b L xs) {D : va_G} {cy : Nat → ClassId} {q : Nat → Nat} {z : zS} {r : Nat → Nat} {zm : zS} {H : Heap} {locs : List Loc} (hI : lwI D cy q z r zm s H locs) {ls : Array Slot} (hl : lv_has ls 4 [(3, .int 0), (2, .ref (r 0)), (1, .ref (q 0)), (0, .ref b)]) : W p l e room_1 s m #[Value.ref b] below meth c H locs 89 47199 (lw_Z below #[Value.ref b] s) (F0 m 492 ls []) := by
  obtain ⟨hx, hb, hr, hml, hown, hts, hX, hbl, hlocks, hgv⟩ := id C0
  have hownL : s.vm.findClass RL = some m.cls := hown
  have htsL : ∀ w ∈ wsL_law, w.before #[Value.ref b] s = true := fun w h => hts w (inL_law w h)
  have hbA : ¬ (fun a : Nat => s.heap.size ≤ a) b := Nat.not_le.mpr hbl
  have hA : ∀ a : Nat, s.heap.size ≤ a → (fun a : Nat => s.heap.size ≤ a) a := fun _ h => h
  subst hL
  have hI0 := hI
  obtain ⟨hK, hZ, hPC, hPM, hF, hFm, h10, hq, hrj, hqA, hrA, hqr, hS⟩ := hI
  refine lv_aload_n hx hb dL_law_492 rfl (lv_at hl 2 rfl) ?_
  refine lv_aload_n hx hb dL_law_493 rfl (lv_at hl 3 rfl) ?_
  refine lv_iload_n hx hb dL_law_494 rfl (lv_at hl 0 rfl) ?_
  refine lv_iconst (v := 1) hx hb dL_law_495 (by decide) ?_
  refine lv_iadd hx hb dL_law_496 ?_
  refine b_vi (v := 1) (by decide) ?_
  refine va_sld hx hb hX hbl hbA hS (by unfold vp_in; decide) dL_law_497 ?_
  refine b_vi (v := xs 1) rfl ?_
  refine lv_aload_n hx hb dL_law_498 rfl (lv_at hl 3 rfl) ?_
  refine lv_iload_n hx hb dL_law_499 rfl (lv_at hl 0 rfl) ?_
  refine lv_iconst (v := 2) hx hb dL_law_500 (by decide) ?_
  refine lv_iadd hx hb dL_law_501 ?_
  refine b_vi (v := 2) (by decide) ?_
  refine va_sld hx hb hX hbl hbA hS (by unfold vp_in; decide) dL_law_502 ?_
  refine b_vi (v := xs 2) rfl ?_
  refine L_calli (ci := 5) (r := (RX5, TX5, 12)) (As := [.int (xs 1), .int (xs 2)]) (rest := []) (A := fun a : Nat => s.heap.size ≤ a) ⟨hx, hb, hml, hownL, htsL⟩ (c_X5_of l D cy q hq z hF (xs 1) (xs 2)) (cwV 2 htsL gL_law_X5_of rfl rfl rfl (by decide +kernel) ⟨Nat.le_of_ble_eq_true rfl, Nat.le_of_ble_eq_true rfl⟩) hK hZ hPC (by decide) rfl rfl hqA hA hS rfl hl.1 rfl (Nat.le_of_ble_eq_true rfl) ⟨by decide, by decide⟩ dL_law_503 (fun v1 z1 H1 locs1 hp1 hk1 hS => ?_)
  refine lv_aload_n hx hb dL_law_506 rfl (lv_at hl 1 rfl) ?_
  refine lv_aload_n hx hb dL_law_507 rfl (lv_at hl 3 rfl) ?_
  refine lv_iload_n hx hb dL_law_508 rfl (lv_at hl 0 rfl) ?_
  refine lv_iconst (v := 1) hx hb dL_law_509 (by decide) ?_
  refine lv_iadd hx hb dL_law_510 ?_
  refine b_vi (v := 1) (by decide) ?_
  refine va_sld hx hb hX hbl hbA hS (by unfold vp_in; decide) dL_law_511 ?_
  refine b_vi (v := xs 1) rfl ?_
  refine lv_aload_n hx hb dL_law_512 rfl (lv_at hl 3 rfl) ?_
  refine lv_iload_n hx hb dL_law_513 rfl (lv_at hl 0 rfl) ?_
  refine lv_iconst (v := 2) hx hb dL_law_514 (by decide) ?_
  refine lv_iadd hx hb dL_law_515 ?_
  refine b_vi (v := 2) (by decide) ?_
  refine va_sld hx hb hX hbl hbA hS (by unfold vp_in; decide) dL_law_516 ?_
  refine b_vi (v := xs 2) rfl ?_
  refine L_calli (ci := 6) (r := (RX6, TX6, 29)) (As := [.int (xs 1), .int (xs 2)]) (rest := [.int v1]) (A := fun a : Nat => s.heap.size ≤ a) ⟨hx, hb, hml, hownL, htsL⟩ (c_X6_of l D cy r hrj zm hFm h10 (xs 1) (xs 2)) (cwV 2 htsL gL_law_X6_of rfl rfl rfl (by decide +kernel) ⟨Nat.le_of_ble_eq_true rfl, Nat.le_of_ble_eq_true rfl⟩) hK hZ (lwI_kept hI0 hk1) (by decide) rfl rfl hrA hA hS rfl hl.1 rfl (Nat.le_of_ble_eq_true rfl) ⟨by decide, by decide⟩ dL_law_517 (fun v2 z2 H2 locs2 hp2 hk2 hS => ?_)
  refine lv_icmp_eq (tgt := 1119) hx hb dL_law_520 (by decide) (fun _ => ?_) (fun c0 => absurd (hp1.symm.trans hp2) c0)
  exact law_tail l (Nat.le_refl 5) C0 hS hl
set_option maxHeartbeats 4000000 in
set_option maxRecDepth 100000 in
theorem law_c11 {p : Program} {e : Env} {s : State} {m : MethodId} {below : List Frame} {meth : Method} {c : Code} (l : Launch) {b L : Nat} {xs : Nat → Int32} (hL : L = 5) (C0 : lw_At p s m meth c b L xs) {D : va_G} {cy : Nat → ClassId} {q : Nat → Nat} {z : zS} {r : Nat → Nat} {zm : zS} {H : Heap} {locs : List Loc} (hI : lwI D cy q z r zm s H locs) {ls : Array Slot} (hl : lv_has ls 4 [(3, .int 0), (2, .ref (r 0)), (1, .ref (q 0)), (0, .ref b)]) : W p l e room_1 s m #[Value.ref b] below meth c H locs 89 47199 (lw_Z below #[Value.ref b] s) (F0 m 525 ls []) := by
  obtain ⟨hx, hb, hr, hml, hown, hts, hX, hbl, hlocks, hgv⟩ := id C0
  have hownL : s.vm.findClass RL = some m.cls := hown
  have htsL : ∀ w ∈ wsL_law, w.before #[Value.ref b] s = true := fun w h => hts w (inL_law w h)
  have hbA : ¬ (fun a : Nat => s.heap.size ≤ a) b := Nat.not_le.mpr hbl
  have hA : ∀ a : Nat, s.heap.size ≤ a → (fun a : Nat => s.heap.size ≤ a) a := fun _ h => h
  subst hL
  have hI0 := hI
  obtain ⟨hK, hZ, hPC, hPM, hF, hFm, h10, hq, hrj, hqA, hrA, hqr, hS⟩ := hI
  refine lv_aload_n hx hb dL_law_525 rfl (lv_at hl 2 rfl) ?_
  refine lv_aload_n hx hb dL_law_526 rfl (lv_at hl 3 rfl) ?_
  refine lv_iload_n hx hb dL_law_527 rfl (lv_at hl 0 rfl) ?_
  refine lv_iconst (v := 1) hx hb dL_law_528 (by decide) ?_
  refine lv_iadd hx hb dL_law_529 ?_
  refine b_vi (v := 1) (by decide) ?_
  refine va_sld hx hb hX hbl hbA hS (by unfold vp_in; decide) dL_law_530 ?_
  refine b_vi (v := xs 1) rfl ?_
  refine lv_aload_n hx hb dL_law_531 rfl (lv_at hl 3 rfl) ?_
  refine lv_iload_n hx hb dL_law_532 rfl (lv_at hl 0 rfl) ?_
  refine lv_iconst (v := 2) hx hb dL_law_533 (by decide) ?_
  refine lv_iadd hx hb dL_law_534 ?_
  refine b_vi (v := 2) (by decide) ?_
  refine va_sld hx hb hX hbl hbA hS (by unfold vp_in; decide) dL_law_535 ?_
  refine b_vi (v := xs 2) rfl ?_
  refine L_calli (ci := 5) (r := (RX5, TX5, 12)) (As := [.int (xs 1), .int (xs 2)]) (rest := []) (A := fun a : Nat => s.heap.size ≤ a) ⟨hx, hb, hml, hownL, htsL⟩ (c_X5_put l D cy q hq z hF (xs 1) (xs 2)) (cwV 2 htsL gL_law_X5_put rfl rfl rfl (by decide +kernel) ⟨Nat.le_of_ble_eq_true rfl, Nat.le_of_ble_eq_true rfl⟩) hK hZ hPC (by decide) rfl rfl hqA hA hS rfl hl.1 rfl (Nat.le_of_ble_eq_true rfl) ⟨by decide, by decide⟩ dL_law_536 (fun v1 z1 H1 locs1 hp1 hk1 hS => ?_)
  refine lv_aload_n hx hb dL_law_539 rfl (lv_at hl 1 rfl) ?_
  refine lv_aload_n hx hb dL_law_540 rfl (lv_at hl 3 rfl) ?_
  refine lv_iload_n hx hb dL_law_541 rfl (lv_at hl 0 rfl) ?_
  refine lv_iconst (v := 1) hx hb dL_law_542 (by decide) ?_
  refine lv_iadd hx hb dL_law_543 ?_
  refine b_vi (v := 1) (by decide) ?_
  refine va_sld hx hb hX hbl hbA hS (by unfold vp_in; decide) dL_law_544 ?_
  refine b_vi (v := xs 1) rfl ?_
  refine lv_aload_n hx hb dL_law_545 rfl (lv_at hl 3 rfl) ?_
  refine lv_iload_n hx hb dL_law_546 rfl (lv_at hl 0 rfl) ?_
  refine lv_iconst (v := 2) hx hb dL_law_547 (by decide) ?_
  refine lv_iadd hx hb dL_law_548 ?_
  refine b_vi (v := 2) (by decide) ?_
  refine va_sld hx hb hX hbl hbA hS (by unfold vp_in; decide) dL_law_549 ?_
  refine b_vi (v := xs 2) rfl ?_
  refine L_calli (ci := 6) (r := (RX6, TX6, 29)) (As := [.int (xs 1), .int (xs 2)]) (rest := [.int v1]) (A := fun a : Nat => s.heap.size ≤ a) ⟨hx, hb, hml, hownL, htsL⟩ (c_X6_put l D cy r hrj zm hFm h10 (xs 1) (xs 2)) (cwV 2 htsL gL_law_X6_put rfl rfl rfl (by decide +kernel) ⟨Nat.le_of_ble_eq_true rfl, Nat.le_of_ble_eq_true rfl⟩) hK hZ (lwI_kept hI0 hk1) (by decide) rfl rfl hrA hA hS rfl hl.1 rfl (Nat.le_of_ble_eq_true rfl) ⟨by decide, by decide⟩ dL_law_550 (fun v2 z2 H2 locs2 hp2 hk2 hS => ?_)
  refine lv_icmp_eq (tgt := 1119) hx hb dL_law_553 (by decide) (fun _ => ?_) (fun c0 => absurd (hp1.symm.trans hp2) c0)
  exact law_tail l (Nat.le_refl 5) C0 hS hl
set_option maxHeartbeats 4000000 in
set_option maxRecDepth 100000 in
theorem law_c12 {p : Program} {e : Env} {s : State} {m : MethodId} {below : List Frame} {meth : Method} {c : Code} (l : Launch) {b L : Nat} {xs : Nat → Int32} (hL : L = 5) (C0 : lw_At p s m meth c b L xs) {D : va_G} {cy : Nat → ClassId} {q : Nat → Nat} {z : zS} {r : Nat → Nat} {zm : zS} {H : Heap} {locs : List Loc} (hI : lwI D cy q z r zm s H locs) {ls : Array Slot} (hl : lv_has ls 4 [(3, .int 0), (2, .ref (r 0)), (1, .ref (q 0)), (0, .ref b)]) : W p l e room_1 s m #[Value.ref b] below meth c H locs 89 47199 (lw_Z below #[Value.ref b] s) (F0 m 558 ls []) := by
  obtain ⟨hx, hb, hr, hml, hown, hts, hX, hbl, hlocks, hgv⟩ := id C0
  have hownL : s.vm.findClass RL = some m.cls := hown
  have htsL : ∀ w ∈ wsL_law, w.before #[Value.ref b] s = true := fun w h => hts w (inL_law w h)
  have hbA : ¬ (fun a : Nat => s.heap.size ≤ a) b := Nat.not_le.mpr hbl
  have hA : ∀ a : Nat, s.heap.size ≤ a → (fun a : Nat => s.heap.size ≤ a) a := fun _ h => h
  subst hL
  have hI0 := hI
  obtain ⟨hK, hZ, hPC, hPM, hF, hFm, h10, hq, hrj, hqA, hrA, hqr, hS⟩ := hI
  refine lv_aload_n hx hb dL_law_558 rfl (lv_at hl 2 rfl) ?_
  refine lv_aload_n hx hb dL_law_559 rfl (lv_at hl 3 rfl) ?_
  refine lv_iload_n hx hb dL_law_560 rfl (lv_at hl 0 rfl) ?_
  refine lv_iconst (v := 1) hx hb dL_law_561 (by decide) ?_
  refine lv_iadd hx hb dL_law_562 ?_
  refine b_vi (v := 1) (by decide) ?_
  refine va_sld hx hb hX hbl hbA hS (by unfold vp_in; decide) dL_law_563 ?_
  refine b_vi (v := xs 1) rfl ?_
  refine L_calli (ci := 5) (r := (RX5, TX5, 12)) (As := [.int (xs 1)]) (rest := []) (A := fun a : Nat => s.heap.size ≤ a) ⟨hx, hb, hml, hownL, htsL⟩ (c_X5_cause l D cy q hq z hF (xs 1)) (cwV 1 htsL gL_law_X5_cause rfl rfl rfl (by decide +kernel) ⟨Nat.le_of_ble_eq_true rfl, Nat.le_of_ble_eq_true rfl⟩) hK hZ hPC (by decide) rfl rfl hqA hA hS rfl hl.1 rfl (Nat.le_of_ble_eq_true rfl) ⟨by decide, by decide⟩ dL_law_564 (fun v1 z1 H1 locs1 hp1 hk1 hS => ?_)
  refine lv_aload_n hx hb dL_law_567 rfl (lv_at hl 1 rfl) ?_
  refine lv_aload_n hx hb dL_law_568 rfl (lv_at hl 3 rfl) ?_
  refine lv_iload_n hx hb dL_law_569 rfl (lv_at hl 0 rfl) ?_
  refine lv_iconst (v := 1) hx hb dL_law_570 (by decide) ?_
  refine lv_iadd hx hb dL_law_571 ?_
  refine b_vi (v := 1) (by decide) ?_
  refine va_sld hx hb hX hbl hbA hS (by unfold vp_in; decide) dL_law_572 ?_
  refine b_vi (v := xs 1) rfl ?_
  refine L_calli (ci := 6) (r := (RX6, TX6, 29)) (As := [.int (xs 1)]) (rest := [.int v1]) (A := fun a : Nat => s.heap.size ≤ a) ⟨hx, hb, hml, hownL, htsL⟩ (c_X6_cause l D cy r hrj zm hFm h10 (xs 1)) (cwV 1 htsL gL_law_X6_cause rfl rfl rfl (by decide +kernel) ⟨Nat.le_of_ble_eq_true rfl, Nat.le_of_ble_eq_true rfl⟩) hK hZ (lwI_kept hI0 hk1) (by decide) rfl rfl hrA hA hS rfl hl.1 rfl (Nat.le_of_ble_eq_true rfl) ⟨by decide, by decide⟩ dL_law_573 (fun v2 z2 H2 locs2 hp2 hk2 hS => ?_)
  refine lv_icmp_eq (tgt := 1119) hx hb dL_law_576 (by decide) (fun _ => ?_) (fun c0 => absurd (hp1.symm.trans hp2) c0)
  exact law_tail l (Nat.le_refl 5) C0 hS hl
set_option maxHeartbeats 4000000 in
set_option maxRecDepth 100000 in
theorem law_c13 {p : Program} {e : Env} {s : State} {m : MethodId} {below : List Frame} {meth : Method} {c : Code} (l : Launch) {b L : Nat} {xs : Nat → Int32} (hL : L = 5) (C0 : lw_At p s m meth c b L xs) {D : va_G} {cy : Nat → ClassId} {q : Nat → Nat} {z : zS} {r : Nat → Nat} {zm : zS} {H : Heap} {locs : List Loc} (hI : lwI D cy q z r zm s H locs) {ls : Array Slot} (hl : lv_has ls 4 [(3, .int 0), (2, .ref (r 0)), (1, .ref (q 0)), (0, .ref b)]) : W p l e room_1 s m #[Value.ref b] below meth c H locs 89 47199 (lw_Z below #[Value.ref b] s) (F0 m 581 ls []) := by
  obtain ⟨hx, hb, hr, hml, hown, hts, hX, hbl, hlocks, hgv⟩ := id C0
  have hownL : s.vm.findClass RL = some m.cls := hown
  have htsL : ∀ w ∈ wsL_law, w.before #[Value.ref b] s = true := fun w h => hts w (inL_law w h)
  have hbA : ¬ (fun a : Nat => s.heap.size ≤ a) b := Nat.not_le.mpr hbl
  have hA : ∀ a : Nat, s.heap.size ≤ a → (fun a : Nat => s.heap.size ≤ a) a := fun _ h => h
  subst hL
  have hI0 := hI
  obtain ⟨hK, hZ, hPC, hPM, hF, hFm, h10, hq, hrj, hqA, hrA, hqr, hS⟩ := hI
  refine lv_aload_n hx hb dL_law_581 rfl (lv_at hl 2 rfl) ?_
  refine L_calli (ci := 5) (r := (RX5, TX5, 12)) (As := []) (rest := []) (A := fun a : Nat => s.heap.size ≤ a) ⟨hx, hb, hml, hownL, htsL⟩ (c_X5_clash l D cy q hq z hF ) (cwV 0 htsL gL_law_X5_clash rfl rfl rfl (by decide +kernel) ⟨Nat.le_of_ble_eq_true rfl, Nat.le_of_ble_eq_true rfl⟩) hK hZ hPC (by decide) rfl rfl hqA hA hS rfl hl.1 rfl (Nat.le_of_ble_eq_true rfl) ⟨by decide, by decide⟩ dL_law_582 (fun v1 z1 H1 locs1 hp1 hk1 hS => ?_)
  refine lv_aload_n hx hb dL_law_585 rfl (lv_at hl 1 rfl) ?_
  refine L_calli (ci := 6) (r := (RX6, TX6, 29)) (As := []) (rest := [.int v1]) (A := fun a : Nat => s.heap.size ≤ a) ⟨hx, hb, hml, hownL, htsL⟩ (c_X6_clash l D cy r hrj zm hFm h10 ) (cwV 0 htsL gL_law_X6_clash rfl rfl rfl (by decide +kernel) ⟨Nat.le_of_ble_eq_true rfl, Nat.le_of_ble_eq_true rfl⟩) hK hZ (lwI_kept hI0 hk1) (by decide) rfl rfl hrA hA hS rfl hl.1 rfl (Nat.le_of_ble_eq_true rfl) ⟨by decide, by decide⟩ dL_law_586 (fun v2 z2 H2 locs2 hp2 hk2 hS => ?_)
  refine lv_icmp_eq (tgt := 1119) hx hb dL_law_589 (by decide) (fun _ => ?_) (fun c0 => absurd (hp1.symm.trans hp2) c0)
  exact law_tail l (Nat.le_refl 5) C0 hS hl
set_option maxHeartbeats 4000000 in
set_option maxRecDepth 100000 in
theorem law_c14 {p : Program} {e : Env} {s : State} {m : MethodId} {below : List Frame} {meth : Method} {c : Code} (l : Launch) {b L : Nat} {xs : Nat → Int32} (hL : L = 5) (C0 : lw_At p s m meth c b L xs) {D : va_G} {cy : Nat → ClassId} {q : Nat → Nat} {z : zS} {r : Nat → Nat} {zm : zS} {H : Heap} {locs : List Loc} (hI : lwI D cy q z r zm s H locs) {ls : Array Slot} (hl : lv_has ls 4 [(3, .int 0), (2, .ref (r 0)), (1, .ref (q 0)), (0, .ref b)]) : W p l e room_1 s m #[Value.ref b] below meth c H locs 89 47199 (lw_Z below #[Value.ref b] s) (F0 m 594 ls []) := by
  obtain ⟨hx, hb, hr, hml, hown, hts, hX, hbl, hlocks, hgv⟩ := id C0
  have hownL : s.vm.findClass RL = some m.cls := hown
  have htsL : ∀ w ∈ wsL_law, w.before #[Value.ref b] s = true := fun w h => hts w (inL_law w h)
  have hbA : ¬ (fun a : Nat => s.heap.size ≤ a) b := Nat.not_le.mpr hbl
  have hA : ∀ a : Nat, s.heap.size ≤ a → (fun a : Nat => s.heap.size ≤ a) a := fun _ h => h
  subst hL
  have hI0 := hI
  obtain ⟨hK, hZ, hPC, hPM, hF, hFm, h10, hq, hrj, hqA, hrA, hqr, hS⟩ := hI
  refine lv_aload_n hx hb dL_law_594 rfl (lv_at hl 2 rfl) ?_
  refine lv_aload_n hx hb dL_law_595 rfl (lv_at hl 3 rfl) ?_
  refine lv_iload_n hx hb dL_law_596 rfl (lv_at hl 0 rfl) ?_
  refine lv_iconst (v := 1) hx hb dL_law_597 (by decide) ?_
  refine lv_iadd hx hb dL_law_598 ?_
  refine b_vi (v := 1) (by decide) ?_
  refine va_sld hx hb hX hbl hbA hS (by unfold vp_in; decide) dL_law_599 ?_
  refine b_vi (v := xs 1) rfl ?_
  refine lv_aload_n hx hb dL_law_600 rfl (lv_at hl 3 rfl) ?_
  refine lv_iload_n hx hb dL_law_601 rfl (lv_at hl 0 rfl) ?_
  refine lv_iconst (v := 2) hx hb dL_law_602 (by decide) ?_
  refine lv_iadd hx hb dL_law_603 ?_
  refine b_vi (v := 2) (by decide) ?_
  refine va_sld hx hb hX hbl hbA hS (by unfold vp_in; decide) dL_law_604 ?_
  refine b_vi (v := xs 2) rfl ?_
  refine L_calli (ci := 5) (r := (RX5, TX5, 12)) (As := [.int (xs 1), .int (xs 2)]) (rest := []) (A := fun a : Nat => s.heap.size ≤ a) ⟨hx, hb, hml, hownL, htsL⟩ (c_X5_station l D cy q hq z hF (xs 1) (xs 2)) (cwV 2 htsL gL_law_X5_station rfl rfl rfl (by decide +kernel) ⟨Nat.le_of_ble_eq_true rfl, Nat.le_of_ble_eq_true rfl⟩) hK hZ hPC (by decide) rfl rfl hqA hA hS rfl hl.1 rfl (Nat.le_of_ble_eq_true rfl) ⟨by decide, by decide⟩ dL_law_605 (fun v1 z1 H1 locs1 hp1 hk1 hS => ?_)
  refine lv_aload_n hx hb dL_law_608 rfl (lv_at hl 1 rfl) ?_
  refine lv_aload_n hx hb dL_law_609 rfl (lv_at hl 3 rfl) ?_
  refine lv_iload_n hx hb dL_law_610 rfl (lv_at hl 0 rfl) ?_
  refine lv_iconst (v := 1) hx hb dL_law_611 (by decide) ?_
  refine lv_iadd hx hb dL_law_612 ?_
  refine b_vi (v := 1) (by decide) ?_
  refine va_sld hx hb hX hbl hbA hS (by unfold vp_in; decide) dL_law_613 ?_
  refine b_vi (v := xs 1) rfl ?_
  refine lv_aload_n hx hb dL_law_614 rfl (lv_at hl 3 rfl) ?_
  refine lv_iload_n hx hb dL_law_615 rfl (lv_at hl 0 rfl) ?_
  refine lv_iconst (v := 2) hx hb dL_law_616 (by decide) ?_
  refine lv_iadd hx hb dL_law_617 ?_
  refine b_vi (v := 2) (by decide) ?_
  refine va_sld hx hb hX hbl hbA hS (by unfold vp_in; decide) dL_law_618 ?_
  refine b_vi (v := xs 2) rfl ?_
  refine L_calli (ci := 6) (r := (RX6, TX6, 29)) (As := [.int (xs 1), .int (xs 2)]) (rest := [.int v1]) (A := fun a : Nat => s.heap.size ≤ a) ⟨hx, hb, hml, hownL, htsL⟩ (c_X6_station l D cy r hrj zm hFm h10 (xs 1) (xs 2)) (cwV 2 htsL gL_law_X6_station rfl rfl rfl (by decide +kernel) ⟨Nat.le_of_ble_eq_true rfl, Nat.le_of_ble_eq_true rfl⟩) hK hZ (lwI_kept hI0 hk1) (by decide) rfl rfl hrA hA hS rfl hl.1 rfl (Nat.le_of_ble_eq_true rfl) ⟨by decide, by decide⟩ dL_law_619 (fun v2 z2 H2 locs2 hp2 hk2 hS => ?_)
  refine lv_icmp_eq (tgt := 1119) hx hb dL_law_622 (by decide) (fun _ => ?_) (fun c0 => absurd (hp1.symm.trans hp2) c0)
  exact law_tail l (Nat.le_refl 5) C0 hS hl
set_option maxHeartbeats 4000000 in
set_option maxRecDepth 100000 in
theorem law_c15 {p : Program} {e : Env} {s : State} {m : MethodId} {below : List Frame} {meth : Method} {c : Code} (l : Launch) {b L : Nat} {xs : Nat → Int32} (hL : L = 5) (C0 : lw_At p s m meth c b L xs) {D : va_G} {cy : Nat → ClassId} {q : Nat → Nat} {z : zS} {r : Nat → Nat} {zm : zS} {H : Heap} {locs : List Loc} (hI : lwI D cy q z r zm s H locs) {ls : Array Slot} (hl : lv_has ls 4 [(3, .int 0), (2, .ref (r 0)), (1, .ref (q 0)), (0, .ref b)]) : W p l e room_1 s m #[Value.ref b] below meth c H locs 89 47199 (lw_Z below #[Value.ref b] s) (F0 m 627 ls []) := by
  obtain ⟨hx, hb, hr, hml, hown, hts, hX, hbl, hlocks, hgv⟩ := id C0
  have hownL : s.vm.findClass RL = some m.cls := hown
  have htsL : ∀ w ∈ wsL_law, w.before #[Value.ref b] s = true := fun w h => hts w (inL_law w h)
  have hbA : ¬ (fun a : Nat => s.heap.size ≤ a) b := Nat.not_le.mpr hbl
  have hA : ∀ a : Nat, s.heap.size ≤ a → (fun a : Nat => s.heap.size ≤ a) a := fun _ h => h
  subst hL
  have hI0 := hI
  obtain ⟨hK, hZ, hPC, hPM, hF, hFm, h10, hq, hrj, hqA, hrA, hqr, hS⟩ := hI
  refine lv_aload_n hx hb dL_law_627 rfl (lv_at hl 2 rfl) ?_
  refine L_calli (ci := 5) (r := (RX5, TX5, 12)) (As := []) (rest := []) (A := fun a : Nat => s.heap.size ≤ a) ⟨hx, hb, hml, hownL, htsL⟩ (c_X5_length l D cy q hq z hF ) (cwV 0 htsL gL_law_X5_length rfl rfl rfl (by decide +kernel) ⟨Nat.le_of_ble_eq_true rfl, Nat.le_of_ble_eq_true rfl⟩) hK hZ hPC (by decide) rfl rfl hqA hA hS rfl hl.1 rfl (Nat.le_of_ble_eq_true rfl) ⟨by decide, by decide⟩ dL_law_628 (fun v1 z1 H1 locs1 hp1 hk1 hS => ?_)
  refine lv_aload_n hx hb dL_law_631 rfl (lv_at hl 1 rfl) ?_
  refine L_calli (ci := 6) (r := (RX6, TX6, 29)) (As := []) (rest := [.int v1]) (A := fun a : Nat => s.heap.size ≤ a) ⟨hx, hb, hml, hownL, htsL⟩ (c_X6_length l D cy r hrj zm hFm h10 ) (cwV 0 htsL gL_law_X6_length rfl rfl rfl (by decide +kernel) ⟨Nat.le_of_ble_eq_true rfl, Nat.le_of_ble_eq_true rfl⟩) hK hZ (lwI_kept hI0 hk1) (by decide) rfl rfl hrA hA hS rfl hl.1 rfl (Nat.le_of_ble_eq_true rfl) ⟨by decide, by decide⟩ dL_law_632 (fun v2 z2 H2 locs2 hp2 hk2 hS => ?_)
  refine lv_icmp_eq (tgt := 1119) hx hb dL_law_635 (by decide) (fun _ => ?_) (fun c0 => absurd (hp1.symm.trans hp2) c0)
  exact law_tail l (Nat.le_refl 5) C0 hS hl
set_option maxHeartbeats 4000000 in
set_option maxRecDepth 100000 in
theorem law_c16 {p : Program} {e : Env} {s : State} {m : MethodId} {below : List Frame} {meth : Method} {c : Code} (l : Launch) {b L : Nat} {xs : Nat → Int32} (hL : L = 5) (C0 : lw_At p s m meth c b L xs) {D : va_G} {cy : Nat → ClassId} {q : Nat → Nat} {z : zS} {r : Nat → Nat} {zm : zS} {H : Heap} {locs : List Loc} (hI : lwI D cy q z r zm s H locs) {ls : Array Slot} (hl : lv_has ls 4 [(3, .int 0), (2, .ref (r 0)), (1, .ref (q 0)), (0, .ref b)]) : W p l e room_1 s m #[Value.ref b] below meth c H locs 89 47199 (lw_Z below #[Value.ref b] s) (F0 m 640 ls []) := by
  obtain ⟨hx, hb, hr, hml, hown, hts, hX, hbl, hlocks, hgv⟩ := id C0
  have hownL : s.vm.findClass RL = some m.cls := hown
  have htsL : ∀ w ∈ wsL_law, w.before #[Value.ref b] s = true := fun w h => hts w (inL_law w h)
  have hbA : ¬ (fun a : Nat => s.heap.size ≤ a) b := Nat.not_le.mpr hbl
  have hA : ∀ a : Nat, s.heap.size ≤ a → (fun a : Nat => s.heap.size ≤ a) a := fun _ h => h
  subst hL
  have hI0 := hI
  obtain ⟨hK, hZ, hPC, hPM, hF, hFm, h10, hq, hrj, hqA, hrA, hqr, hS⟩ := hI
  refine lv_aload_n hx hb dL_law_640 rfl (lv_at hl 2 rfl) ?_
  refine L_calll (ci := 5) (r := (RX5, TX5, 12)) (As := []) (rest := []) (A := fun a : Nat => s.heap.size ≤ a) ⟨hx, hb, hml, hownL, htsL⟩ (c_X5_squares l D cy q hq z hF ) (cwV 0 htsL gL_law_X5_squares rfl rfl rfl (by decide +kernel) ⟨Nat.le_of_ble_eq_true rfl, Nat.le_of_ble_eq_true rfl⟩) hK hZ hPC (by decide) rfl rfl hqA hA hS rfl hl.1 rfl (Nat.le_of_ble_eq_true rfl) ⟨by decide, by decide⟩ dL_law_641 (fun v1 z1 H1 locs1 hp1 hk1 hS => ?_)
  refine lv_aload_n hx hb dL_law_644 rfl (lv_at hl 1 rfl) ?_
  refine L_calll (ci := 6) (r := (RX6, TX6, 29)) (As := []) (rest := [.long v1]) (A := fun a : Nat => s.heap.size ≤ a) ⟨hx, hb, hml, hownL, htsL⟩ (c_X6_squares l D cy r hrj zm hFm h10 ) (cwV 0 htsL gL_law_X6_squares rfl rfl rfl (by decide +kernel) ⟨Nat.le_of_ble_eq_true rfl, Nat.le_of_ble_eq_true rfl⟩) hK hZ (lwI_kept hI0 hk1) (by decide) rfl rfl hrA hA hS rfl hl.1 rfl (Nat.le_of_ble_eq_true rfl) ⟨by decide, by decide⟩ dL_law_645 (fun v2 z2 H2 locs2 hp2 hk2 hS => ?_)
  refine W.lcmp hx hb dL_law_648 ?_
  refine lv_if_eq (tgt := 1119) hx hb dL_law_649 (by decide) (fun _ => ?_) (fun c0 => absurd ((by rw [show v1 = v2 from hp1.symm.trans hp2]; exact lg_cmp_self v2)) c0)
  exact law_tail l (Nat.le_refl 5) C0 hS hl
set_option maxHeartbeats 4000000 in
set_option maxRecDepth 100000 in
theorem law_c17 {p : Program} {e : Env} {s : State} {m : MethodId} {below : List Frame} {meth : Method} {c : Code} (l : Launch) {b L : Nat} {xs : Nat → Int32} (hL : L = 5) (C0 : lw_At p s m meth c b L xs) {D : va_G} {cy : Nat → ClassId} {q : Nat → Nat} {z : zS} {r : Nat → Nat} {zm : zS} {H : Heap} {locs : List Loc} (hI : lwI D cy q z r zm s H locs) {ls : Array Slot} (hl : lv_has ls 4 [(3, .int 0), (2, .ref (r 0)), (1, .ref (q 0)), (0, .ref b)]) : W p l e room_1 s m #[Value.ref b] below meth c H locs 89 47199 (lw_Z below #[Value.ref b] s) (F0 m 654 ls []) := by
  obtain ⟨hx, hb, hr, hml, hown, hts, hX, hbl, hlocks, hgv⟩ := id C0
  have hownL : s.vm.findClass RL = some m.cls := hown
  have htsL : ∀ w ∈ wsL_law, w.before #[Value.ref b] s = true := fun w h => hts w (inL_law w h)
  have hbA : ¬ (fun a : Nat => s.heap.size ≤ a) b := Nat.not_le.mpr hbl
  have hA : ∀ a : Nat, s.heap.size ≤ a → (fun a : Nat => s.heap.size ≤ a) a := fun _ h => h
  subst hL
  have hI0 := hI
  obtain ⟨hK, hZ, hPC, hPM, hF, hFm, h10, hq, hrj, hqA, hrA, hqr, hS⟩ := hI
  refine lv_aload_n hx hb dL_law_654 rfl (lv_at hl 2 rfl) ?_
  refine L_calli (ci := 5) (r := (RX5, TX5, 12)) (As := []) (rest := []) (A := fun a : Nat => s.heap.size ≤ a) ⟨hx, hb, hml, hownL, htsL⟩ (c_X5_fewest l D cy q hq z hF ) (cwV 0 htsL gL_law_X5_fewest rfl rfl rfl (by decide +kernel) ⟨Nat.le_of_ble_eq_true rfl, Nat.le_of_ble_eq_true rfl⟩) hK hZ hPC (by decide) rfl rfl hqA hA hS rfl hl.1 rfl (Nat.le_of_ble_eq_true rfl) ⟨by decide, by decide⟩ dL_law_655 (fun v1 z1 H1 locs1 hp1 hk1 hS => ?_)
  refine lv_aload_n hx hb dL_law_658 rfl (lv_at hl 1 rfl) ?_
  refine L_calli (ci := 6) (r := (RX6, TX6, 29)) (As := []) (rest := [.int v1]) (A := fun a : Nat => s.heap.size ≤ a) ⟨hx, hb, hml, hownL, htsL⟩ (c_X6_fewest l D cy r hrj zm hFm h10 ) (cwV 0 htsL gL_law_X6_fewest rfl rfl rfl (by decide +kernel) ⟨Nat.le_of_ble_eq_true rfl, Nat.le_of_ble_eq_true rfl⟩) hK hZ (lwI_kept hI0 hk1) (by decide) rfl rfl hrA hA hS rfl hl.1 rfl (Nat.le_of_ble_eq_true rfl) ⟨by decide, by decide⟩ dL_law_659 (fun v2 z2 H2 locs2 hp2 hk2 hS => ?_)
  refine lv_icmp_eq (tgt := 1119) hx hb dL_law_662 (by decide) (fun _ => ?_) (fun c0 => absurd (hp1.symm.trans hp2) c0)
  exact law_tail l (Nat.le_refl 5) C0 hS hl
