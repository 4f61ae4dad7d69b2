set_option maxHeartbeats 4000000 in
set_option maxRecDepth 100000 in
theorem law_loop {p : Program} {e : Env} {s : State} {m : MethodId} {below : List Frame} {meth : Method} {c : Code} (l : Launch) {b L : Nat} {xs : Nat → Int32} (hL : L ≤ 2560) (C0 : lw_At p s m meth c b L xs) {D : va_G} {cy : Nat → ClassId} {q : Nat → Nat} {r : Nat → Nat} : ∀ (n i : Nat), i ≤ L → L - i = n → ∀ (z zm : zS) (H : Heap) (locs : List Loc) (ls : Array Slot), lwJ D cy q z r zm s H locs → lv_has ls 4 [(3, .int (nI i)), (2, .ref (r 0)), (1, .ref (q 0)), (0, .ref b)] → W p l e room_1 s m #[Value.ref b] below meth c H locs 89 47199 (lw_Z below #[Value.ref b] s) (F0 m 18 ls []) := by
  obtain ⟨hx, hb, hr, hml, hown, hts, hX, hbl, hlocks, hgv⟩ := id C0
  have hownL : s.vm.findClass RL = some m.cls := hown
  have hbA : ¬ (fun a : Nat => s.heap.size ≤ a) b := Nat.not_le.mpr hbl
  intro n
  induction n using Nat.strongRecOn with
  | ind n ih =>
    intro i hiL hn z zm H locs ls hI hl
    have hS := hI.2.2.2.2.2.2.2.2.2.2.2.1
    refine lv_iload_n hx hb dL_law_18 rfl (lv_at hl 0 rfl) ?_
    refine lv_aload_n hx hb dL_law_19 rfl (lv_at hl 3 rfl) ?_
    refine va_slen hx hb hX hbl hbA hS dL_law_20 ?_
    refine lv_iconst (v := 5) hx hb dL_law_21 (by decide) ?_
    refine lv_isub hx hb dL_law_22 ?_
    refine lv_icmp_gt (tgt := 1122) hx hb dL_law_23 (by decide) (fun _ => ?_) (fun c0 => ?_)
    · refine lv_iconst (v := 1) hx hb dL_law_1122 (by decide) ?_
      refine va_forget (fun q hq => hS.2.2 q hq) ?_
      refine W.widen (k := 600000) (n := 7302250) (by decide) (by decide) ?_
      exact lw_ret hx hb hr hlocks dL_law_1123
    · have hi5 : i + 5 ≤ L := by have := mt (lw_gt hL (by omega)).mpr c0; omega
      refine lv_aload_n hx hb dL_law_26 rfl (lv_at hl 3 rfl) ?_
      refine lv_iload_n hx hb dL_law_27 rfl (lv_at hl 0 rfl) ?_
      refine va_sld hx hb hX hbl hbA hS (vp_in_nI (by omega) (by omega)) dL_law_28 ?_
      refine lv_bipush (v := 63) hx hb dL_law_29 (by decide) ?_
      refine lv_iand hx hb dL_law_31 ?_
      refine lv_topi (fun w _ => ?_)
      have kk : ∀ (z zm : zS) (H : Heap) (locs : List Loc), lwJ D cy q z r zm s H locs → W p l e room_1 s m #[Value.ref b] below meth c H locs 89 47199 (lw_Z below #[Value.ref b] s) (F0 m 1116 ls []) := by
        intro z zm H locs hI
        refine lv_iinc (v := nI (i + 5)) (lv' := [(3, .int (nI (i + 5))), (2, .ref (r 0)), (1, .ref (q 0)), (0, .ref b)]) hx hb dL_law_1116 hl (k := 0) rfl (nI_add i 5) (by decide) rfl (fun ls hl => ?_)
        refine lv_goto (tgt := 18) hx hb dL_law_1119 (by decide) ?_
        exact ih (L - (i + 5)) (by omega) (i + 5) (by omega) rfl z zm H locs ls hI hl
      rcases (show (w.toInt < 0 ∨ 35 < w.toInt) ∨ (¬ w.toInt < 0 ∧ ¬ 35 < w.toInt) by omega) with hw | hw
      · refine lv_tableOut (tgt := 1116) hx hb dL_law_32 hw (by decide) ?_
        exact kk z zm H locs hI
      · rcases (show w.toInt = 0 ∨ w.toInt = 1 ∨ w.toInt = 2 ∨ w.toInt = 3 ∨ w.toInt = 4 ∨ w.toInt = 5 ∨ w.toInt = 6 ∨ w.toInt = 7 ∨ w.toInt = 8 ∨ w.toInt = 9 ∨ w.toInt = 10 ∨ w.toInt = 11 ∨ w.toInt = 12 ∨ w.toInt = 13 ∨ w.toInt = 14 ∨ w.toInt = 15 ∨ w.toInt = 16 ∨ w.toInt = 17 ∨ w.toInt = 18 ∨ w.toInt = 19 ∨ w.toInt = 20 ∨ w.toInt = 21 ∨ w.toInt = 22 ∨ w.toInt = 23 ∨ w.toInt = 24 ∨ w.toInt = 25 ∨ w.toInt = 26 ∨ w.toInt = 27 ∨ w.toInt = 28 ∨ w.toInt = 29 ∨ w.toInt = 30 ∨ w.toInt = 31 ∨ w.toInt = 32 ∨ w.toInt = 33 ∨ w.toInt = 34 ∨ w.toInt = 35 by omega) with ew | ew | ew | ew | ew | ew | ew | ew | ew | ew | ew | ew | ew | ew | ew | ew | ew | ew | ew | ew | ew | ew | ew | ew | ew | ew | ew | ew | ew | ew | ew | ew | ew | ew | ew | ew
        · refine lv_tableIn (off := 160) (tgt := 192) hx hb dL_law_32 hw.1 hw.2 (by rw [ew]; rfl) (by decide) ?_
          exact law_c0 l hL C0 hi5 hI hl kk
        · refine lv_tableIn (off := 173) (tgt := 205) hx hb dL_law_32 hw.1 hw.2 (by rw [ew]; rfl) (by decide) ?_
          exact law_c1 l hL C0 hi5 hI hl kk
        · refine lv_tableIn (off := 216) (tgt := 248) hx hb dL_law_32 hw.1 hw.2 (by rw [ew]; rfl) (by decide) ?_
          exact law_c2 l hL C0 hi5 hI hl kk
        · refine lv_tableIn (off := 249) (tgt := 281) hx hb dL_law_32 hw.1 hw.2 (by rw [ew]; rfl) (by decide) ?_
          exact law_c3 l hL C0 hi5 hI hl kk
        · refine lv_tableIn (off := 282) (tgt := 314) hx hb dL_law_32 hw.1 hw.2 (by rw [ew]; rfl) (by decide) ?_
          exact law_c4 l hL C0 hi5 hI hl kk
        · refine lv_tableIn (off := 315) (tgt := 347) hx hb dL_law_32 hw.1 hw.2 (by rw [ew]; rfl) (by decide) ?_
          exact law_c5 l hL C0 hi5 hI hl kk
        · refine lv_tableIn (off := 338) (tgt := 370) hx hb dL_law_32 hw.1 hw.2 (by rw [ew]; rfl) (by decide) ?_
          exact law_c6 l hL C0 hi5 hI hl kk
        · refine lv_tableIn (off := 381) (tgt := 413) hx hb dL_law_32 hw.1 hw.2 (by rw [ew]; rfl) (by decide) ?_
          exact law_c7 l hL C0 hi5 hI hl kk
        · refine lv_tableIn (off := 414) (tgt := 446) hx hb dL_law_32 hw.1 hw.2 (by rw [ew]; rfl) (by decide) ?_
          exact law_c8 l hL C0 hi5 hI hl kk
        · refine lv_tableIn (off := 437) (tgt := 469) hx hb dL_law_32 hw.1 hw.2 (by rw [ew]; rfl) (by decide) ?_
          exact law_c9 l hL C0 hi5 hI hl kk
        · refine lv_tableIn (off := 460) (tgt := 492) hx hb dL_law_32 hw.1 hw.2 (by rw [ew]; rfl) (by decide) ?_
          exact law_c10 l hL C0 hi5 hI hl kk
        · refine lv_tableIn (off := 493) (tgt := 525) hx hb dL_law_32 hw.1 hw.2 (by rw [ew]; rfl) (by decide) ?_
          exact law_c11 l hL C0 hi5 hI hl kk
        · refine lv_tableIn (off := 526) (tgt := 558) hx hb dL_law_32 hw.1 hw.2 (by rw [ew]; rfl) (by decide) ?_
          exact law_c12 l hL C0 hi5 hI hl kk
        · refine lv_tableIn (off := 549) (tgt := 581) hx hb dL_law_32 hw.1 hw.2 (by rw [ew]; rfl) (by decide) ?_
          exact law_c13 l hL C0 hi5 hI hl kk
        · refine lv_tableIn (off := 562) (tgt := 594) hx hb dL_law_32 hw.1 hw.2 (by rw [ew]; rfl) (by decide) ?_
          exact law_c14 l hL C0 hi5 hI hl kk
        · refine lv_tableIn (off := 595) (tgt := 627) hx hb dL_law_32 hw.1 hw.2 (by rw [ew]; rfl) (by decide) ?_
          exact law_c15 l hL C0 hi5 hI hl kk
        · refine lv_tableIn (off := 608) (tgt := 640) hx hb dL_law_32 hw.1 hw.2 (by rw [ew]; rfl) (by decide) ?_
          exact law_c16 l hL C0 hi5 hI hl kk
        · refine lv_tableIn (off := 621) (tgt := 653) hx hb dL_law_32 hw.1 hw.2 (by rw [ew]; rfl) (by decide) ?_
          exact law_c17 l hL C0 hi5 hI hl kk
        · refine lv_tableIn (off := 634) (tgt := 666) hx hb dL_law_32 hw.1 hw.2 (by rw [ew]; rfl) (by decide) ?_
          exact law_c18 l hL C0 hi5 hI hl kk
        · refine lv_tableIn (off := 647) (tgt := 679) hx hb dL_law_32 hw.1 hw.2 (by rw [ew]; rfl) (by decide) ?_
          exact law_c19 l hL C0 hi5 hI hl kk
        · refine lv_tableIn (off := 686) (tgt := 718) hx hb dL_law_32 hw.1 hw.2 (by rw [ew]; rfl) (by decide) ?_
          exact law_c20 l hL C0 hi5 hI hl kk
        · refine lv_tableIn (off := 699) (tgt := 731) hx hb dL_law_32 hw.1 hw.2 (by rw [ew]; rfl) (by decide) ?_
          exact law_c21 l hL C0 hi5 hI hl kk
        · refine lv_tableIn (off := 722) (tgt := 754) hx hb dL_law_32 hw.1 hw.2 (by rw [ew]; rfl) (by decide) ?_
          exact law_c22 l hL C0 hi5 hI hl kk
        · refine lv_tableIn (off := 745) (tgt := 777) hx hb dL_law_32 hw.1 hw.2 (by rw [ew]; rfl) (by decide) ?_
          exact law_c23 l hL C0 hi5 hI hl kk
        · refine lv_tableIn (off := 768) (tgt := 800) hx hb dL_law_32 hw.1 hw.2 (by rw [ew]; rfl) (by decide) ?_
          exact law_c24 l hL C0 hi5 hI hl kk
        · refine lv_tableIn (off := 801) (tgt := 833) hx hb dL_law_32 hw.1 hw.2 (by rw [ew]; rfl) (by decide) ?_
          exact law_c25 l hL C0 hi5 hI hl kk
        · refine lv_tableIn (off := 824) (tgt := 856) hx hb dL_law_32 hw.1 hw.2 (by rw [ew]; rfl) (by decide) ?_
          exact law_c26 l hL C0 hi5 hI hl kk
        · refine lv_tableIn (off := 837) (tgt := 869) hx hb dL_law_32 hw.1 hw.2 (by rw [ew]; rfl) (by decide) ?_
          exact law_c27 l hL C0 hi5 hI hl kk
        · refine lv_tableIn (off := 880) (tgt := 912) hx hb dL_law_32 hw.1 hw.2 (by rw [ew]; rfl) (by decide) ?_
          exact law_c28 l hL C0 hi5 hI hl kk
        · refine lv_tableIn (off := 923) (tgt := 955) hx hb dL_law_32 hw.1 hw.2 (by rw [ew]; rfl) (by decide) ?_
          exact law_c29 l hL C0 hi5 hI hl kk
        · refine lv_tableIn (off := 976) (tgt := 1008) hx hb dL_law_32 hw.1 hw.2 (by rw [ew]; rfl) (by decide) ?_
          exact law_c30 l hL C0 hi5 hI hl kk
        · refine lv_tableIn (off := 999) (tgt := 1031) hx hb dL_law_32 hw.1 hw.2 (by rw [ew]; rfl) (by decide) ?_
          exact law_c31 l hL C0 hi5 hI hl kk
        · refine lv_tableIn (off := 1022) (tgt := 1054) hx hb dL_law_32 hw.1 hw.2 (by rw [ew]; rfl) (by decide) ?_
          exact law_c32 l hL C0 hi5 hI hl kk
        · refine lv_tableIn (off := 1035) (tgt := 1067) hx hb dL_law_32 hw.1 hw.2 (by rw [ew]; rfl) (by decide) ?_
          exact law_c33 l hL C0 hi5 hI hl kk
        · refine lv_tableIn (off := 1048) (tgt := 1080) hx hb dL_law_32 hw.1 hw.2 (by rw [ew]; rfl) (by decide) ?_
          exact law_c34 l hL C0 hi5 hI hl kk
        · refine lv_tableIn (off := 1061) (tgt := 1093) hx hb dL_law_32 hw.1 hw.2 (by rw [ew]; rfl) (by decide) ?_
          exact law_c35 l hL C0 hi5 hI hl kk
set_option maxHeartbeats 4000000 in
set_option maxRecDepth 100000 in
theorem whole_start {p : Program} {e : Env} {s : State} {m : MethodId} {below : List Frame} {meth : Method} {c : Code} (l : Launch) {b L : Nat} {xs : Nat → Int32} (hL : L ≤ 2560) (C0 : lw_At p s m meth c b L xs) : W p l e room_1 s m #[Value.ref b] below meth c s.heap [] 0 0 (lw_Z below #[Value.ref b] s) (entryFrame m ([Value.ref b] : List Value).toArray 4) := by
  obtain ⟨hx, hb, hr, hml, hown, hts, hX, hbl, hlocks, hgv⟩ := id C0
  have hownL : s.vm.findClass RL = some m.cls := hown
  have htsL : ∀ w ∈ wsL_law, w.before #[Value.ref b] s = true := fun w h => hts w (inL_law w h)
  have hA : ∀ a : Nat, s.heap.size ≤ a → (fun a : Nat => s.heap.size ≤ a) a := fun _ h => h
  obtain ⟨c0, iS0, hKn0⟩ := u_known (C := RX0) (T := TX0) (N := 11) (n := 11) hts inL_X0 (htsL (.instantiable RX0 11) (List.mem_of_getElem? (i := 13) (by decide +kernel)))
  obtain ⟨c1, iS1, hKn1⟩ := u_known (C := RX1) (T := TX1) (N := 2) (n := 2) hts inL_X1 (htsL (.instantiable RX1 2) (List.mem_of_getElem? (i := 17) (by decide +kernel)))
  obtain ⟨c2, iS2, hKn2⟩ := u_known (C := RX2) (T := TX2) (N := 3) (n := 3) hts inL_X2 (htsL (.instantiable RX2 3) (List.mem_of_getElem? (i := 24) (by decide +kernel)))
  obtain ⟨c3, iS3, hKn3⟩ := u_known (C := RX3) (T := TX3) (N := 11) (n := 11) hts inL_X3 (htsL (.instantiable RX3 11) (List.mem_of_getElem? (i := 28) (by decide +kernel)))
  obtain ⟨c4, iS4, hKn4⟩ := u_known (C := RX4) (T := TX4) (N := 3) (n := 3) hts inL_X4 (htsL (.instantiable RX4 3) (List.mem_of_getElem? (i := 33) (by decide +kernel)))
  obtain ⟨c5, iS5, hKn5⟩ := u_known (C := RX5) (T := TX5) (N := 12) (n := 12) hts inL_X5 (htsL (.instantiable RX5 12) (List.mem_of_getElem? (i := 1) (by decide +kernel)))
  obtain ⟨c6, iS6, hKn6⟩ := u_known (C := RX6) (T := TX6) (N := 29) (n := 29) hts inL_X6 (htsL (.instantiable RX6 29) (List.mem_of_getElem? (i := 4) (by decide +kernel)))
  obtain ⟨dC, dI, hKc⟩ : ∃ (dC : Nat → ClassId) (dI : Nat → Nat → Nat), ∀ (k : Nat) (q : vw_C), vwCl[k]? = some q → u_Kn s q.1 q.2.1 q.2.2 (dC k) (dI k) := by
    refine ⟨fun k => if k = 0 then c0 else if k = 1 then c1 else if k = 2 then c2 else if k = 3 then c3 else if k = 4 then c4 else if k = 5 then c5 else c6, fun k => if k = 0 then iS0 else if k = 1 then iS1 else if k = 2 then iS2 else if k = 3 then iS3 else if k = 4 then iS4 else if k = 5 then iS5 else iS6, ?_⟩
    intro k q hq
    match k, hq with
    | 0, hq => cases hq; exact hKn0
    | 1, hq => cases hq; exact hKn1
    | 2, hq => cases hq; exact hKn2
    | 3, hq => cases hq; exact hKn3
    | 4, hq => cases hq; exact hKn4
    | 5, hq => cases hq; exact hKn5
    | 6, hq => cases hq; exact hKn6
    | k + 7, hq => simp [vwCl] at hq
  obtain ⟨cI, kI, pI, fI1, fI2, fI3⟩ := Cond.arrayClass_spec (hts (.arrayClass .int) (List.mem_of_getElem? (i := 134) (by decide +kernel)))
  obtain ⟨cJ, kJ, pJ, fJ1, fJ2, fJ3⟩ := Cond.arrayClass_spec (hts (.arrayClass .long) (List.mem_of_getElem? (i := 210) (by decide +kernel)))
  obtain ⟨cZ, kZ, pZ, fZ1, fZ2, fZ3⟩ := Cond.arrayClass_spec (hts (.arrayClass .boolean) (List.mem_of_getElem? (i := 209) (by decide +kernel)))
  have hO1 : bO .int s := (hts (.arrayOver (.array .int)) (List.mem_of_getElem? (i := 78) (by decide +kernel)))
  have hO2 : bO .long s := (hts (.arrayOver (.array .long)) (List.mem_of_getElem? (i := 174) (by decide +kernel)))
  have hZ : bZ s := ⟨va_Nw.of rfl (hts (.methodLinkNest RX0 91 yX5_takenUp RX5) (List.mem_of_getElem? (i := 591) (by decide +kernel))), va_Nw.of rfl (hts (.methodLinkNest RX3 66 yX5_takenUp RX5) (List.mem_of_getElem? (i := 571) (by decide +kernel)))⟩
  obtain ⟨qI, cII, kII, gI1, -, gI2, gI3, gI4⟩ := arrayOverA_spec hO1
  obtain ⟨qJ, cJJ, kJJ, gJ1, -, gJ2, gJ3, gJ4⟩ := arrayOverA_spec hO2
  obtain ⟨cy, hcy0, hcy1, hcy2, hcy3, hcy4⟩ : ∃ cy : Nat → ClassId, cy 0 = cI ∧ cy 1 = cJ ∧ cy 2 = cZ ∧ cy 3 = cII ∧ cy 4 = cJJ := ⟨fun k => if k = 0 then cI else if k = 1 then cJ else if k = 2 then cZ else if k = 3 then cII else cJJ, rfl, rfl, rfl, rfl, rfl⟩
  have hK : bK (dC, dI) cy s := by
    refine ⟨hKc, fun k q hq => ?_⟩
    match k, hq with
    | 0, hq => cases hq; rw [hcy0]; exact ⟨fun n z => ⟨fun k h => (by cases h), kI, fI2, pI, fI3⟩, fI1⟩
    | 1, hq => cases hq; rw [hcy1]; exact ⟨fun n z => ⟨fun k h => (by cases h), kJ, fJ2, pJ, fJ3⟩, fJ1⟩
    | 2, hq => cases hq; rw [hcy2]; exact ⟨fun n z => ⟨fun k h => (by cases h), kZ, fZ2, pZ, fZ3⟩, fZ1⟩
    | 3, hq => cases hq; rw [hcy3]; exact ⟨fun n z => ⟨fun k h => (by cases h), kII, gI2, qI, gI3⟩, gI4⟩
    | 4, hq => cases hq; rw [hcy4]; exact ⟨fun n z => ⟨fun k h => (by cases h), kJJ, gJ2, qJ, gJ3⟩, gJ4⟩
    | k + 5, hq => simp [bT] at hq
  have hl := lv_entry ([.ref b]) (n := 4) (Nat.le_of_ble_eq_true rfl)
  rw [lg_entry_eq]
  generalize (lg_sl ([.ref b]) ++ List.replicate (4 - (lg_sl ([.ref b])).length) Slot.unset).toArray = ls at hl ⊢
  have hl : lv_has ls 4 [(0, .ref b)] := hl
  have hH : dH (dC, dI) (fun a : Nat => s.heap.size ≤ a) 0 (fun _ => 0) (fun _ => .inl (cy 0, 0, .inl (fun _ => 0))) s.heap s.heap [] := ⟨fun k x h => absurd (dW_lt h).1 (Nat.not_lt_zero k), ⟨fun i j x y h => absurd (dW_lt h).1 (Nat.not_lt_zero i), fun k x h => absurd (dW_lt h).1 (Nat.not_lt_zero k)⟩, va_S.rf⟩
  refine d_new (ci := 5) (fs := [.null, .null, .null, .null, .int 0, .null, .null, .null, .null, .null, .int 0, .int 0]) (C := RX5) (T := TX5) (Nf := 12) hx hb hts inL_X5 tyX5 tyX5_ok hown (htsL (.classLink RL 7 RX5) (List.mem_of_getElem? (i := 0) (by decide +kernel))) (htsL (.instantiable RX5 12) (List.mem_of_getElem? (i := 1) (by decide +kernel))) (htsL (.initialized RX5) (List.mem_of_getElem? (i := 2) (by decide +kernel))) hK hH hA rfl (fun j hj => by rcases (show j = 0 ∨ j = 1 ∨ j = 2 ∨ j = 3 ∨ j = 4 ∨ j = 5 ∨ j = 6 ∨ j = 7 ∨ j = 8 ∨ j = 9 ∨ j = 10 ∨ j = 11 by omega) with rfl | rfl | rfl | rfl | rfl | rfl | rfl | rfl | rfl | rfl | rfl | rfl <;> rfl) (by decide +kernel) (by decide +kernel) dL_law_0 (fun a5 H hH => ?_)
  refine lv_dup hx hb dL_law_3 rfl ?_
  refine d_init (As := []) (rest := [.ref a5]) (mc := 65) (ms := 20973) (Su := (Nat → Nat) × (Nat → Int32)) (Bh := fun (u : (Nat → Nat) × (Nat → Int32)) sz Hp => cB (dC, dI) (fX5 cy u.1 u.2) 66 a5 sz u.1 Hp) ⟨hx, hb, hml, hownL, htsL⟩ 0 (c_X5_init l (dC, dI) cy a5) (cwI 0 htsL gL_law_X5_init rfl rfl rfl (htsL (.initialized RX5) (List.mem_of_getElem? (i := 2) (by decide +kernel))) (htsL (.methodLink RL 9 yX5_init) (List.mem_of_getElem? (i := 6) (by decide +kernel))) (htsL (.instanceMethod yX5_init) (List.mem_of_getElem? (i := 7) (by decide +kernel))) rfl (by decide +kernel) ⟨Nat.le_of_ble_eq_true rfl, Nat.le_of_ble_eq_true rfl⟩) hK hO1 hO2 hZ hH hA (by decide) rfl rfl hl.1 rfl (Nat.le_of_ble_eq_true rfl) ⟨by decide +kernel, by decide +kernel⟩ dL_law_4 (fun u5 HX5 locs hpX5 hB hkeep hAk hS => ?_)
  obtain ⟨hq5, hP5, hD5⟩ := hB
  have hH : dH (dC, dI) (fun a : Nat => s.heap.size ≤ a) 66 u5.1 (fX5 cy u5.1 u5.2) s.heap HX5 locs := ⟨hP5, hD5.weaken (fun k x _ h => hAk x.1 h), hS⟩
  have hj5 : bJ 66 u5.1 := fun i j hi hj e => hD5.1 i j _ _ (dW_at hi) (dW_at hj) e
  refine lv_astore_n (lv' := [(1, .ref a5), (0, .ref b)]) hx hb dL_law_7 rfl hl (by decide) rfl (fun ls hl => ?_)
  refine d_new (ci := 6) (fs := [.int 0, .null, .null, .null, .null, .null, .null, .int 0, .int 0, .int 0, .null, .int 0, .null, .null, .null, .null, .int 0, .null, .int 0, .null, .null, .null, .null, .null, .null, .null, .null, .null, .null]) (C := RX6) (T := TX6) (Nf := 29) hx hb hts inL_X6 tyX6 tyX6_ok hown (htsL (.classLink RL 10 RX6) (List.mem_of_getElem? (i := 3) (by decide +kernel))) (htsL (.instantiable RX6 29) (List.mem_of_getElem? (i := 4) (by decide +kernel))) (htsL (.initialized RX6) (List.mem_of_getElem? (i := 5) (by decide +kernel))) hK hH hA rfl (fun j hj => by rcases (show j = 0 ∨ j = 1 ∨ j = 2 ∨ j = 3 ∨ j = 4 ∨ j = 5 ∨ j = 6 ∨ j = 7 ∨ j = 8 ∨ j = 9 ∨ j = 10 ∨ j = 11 ∨ j = 12 ∨ j = 13 ∨ j = 14 ∨ j = 15 ∨ j = 16 ∨ j = 17 ∨ j = 18 ∨ j = 19 ∨ j = 20 ∨ j = 21 ∨ j = 22 ∨ j = 23 ∨ j = 24 ∨ j = 25 ∨ j = 26 ∨ j = 27 ∨ j = 28 by omega) with rfl | rfl | rfl | rfl | rfl | rfl | rfl | rfl | rfl | rfl | rfl | rfl | rfl | rfl | rfl | rfl | rfl | rfl | rfl | rfl | rfl | rfl | rfl | rfl | rfl | rfl | rfl | rfl | rfl <;> rfl) (by decide +kernel) (by decide +kernel) dL_law_8 (fun a6 H6 hH => ?_)
  refine lv_dup hx hb dL_law_11 rfl ?_
  refine d_init (As := []) (rest := [.ref a6]) (mc := 22) (ms := 26185) (Su := (Nat → Nat) × (Nat → Int32)) (Bh := fun (u : (Nat → Nat) × (Nat → Int32)) sz Hp => cB (dC, dI) (fX6 cy u.1 u.2) 23 a6 sz u.1 Hp) ⟨hx, hb, hml, hownL, htsL⟩ 66 (c_X6_init l (dC, dI) cy a6) (cwI 0 htsL gL_law_X6_init rfl rfl rfl (htsL (.initialized RX6) (List.mem_of_getElem? (i := 5) (by decide +kernel))) (htsL (.methodLink RL 12 yX6_init) (List.mem_of_getElem? (i := 99) (by decide +kernel))) (htsL (.instanceMethod yX6_init) (List.mem_of_getElem? (i := 100) (by decide +kernel))) rfl (by decide +kernel) ⟨Nat.le_of_ble_eq_true rfl, Nat.le_of_ble_eq_true rfl⟩) hK hO1 hO2 hZ hH hA (by decide) rfl rfl hl.1 rfl (Nat.le_of_ble_eq_true rfl) ⟨by decide +kernel, by decide +kernel⟩ dL_law_12 (fun u6 HX6 locs hpX6 hB hkeep hAk hS => ?_)
  obtain ⟨hq6, hP6, hD6⟩ := hB
  have hj6 : bJ 23 u6.1 := fun i j hi hj e => hD6.1 i j _ _ (dW_at hi) (dW_at hj) e
  have hup : ∀ k, k < 66 → va_up u5.1 66 a6 k = u5.1 k := fun k hk => va_up_ne _ _ (Nat.ne_of_lt hk)
  have hlt5 : ∀ k, k < 66 → u5.1 k < H6.size := fun k hk => by
    have h := (hH.1 k _ (dW_at (by omega))).lt
    rw [← hup k hk]
    exact h
  have hne5 : ∀ k, k < 66 → u5.1 k ≠ a6 := fun k hk h => by
    have e6 : va_up u5.1 66 a6 66 = a6 := va_up_self _ _ _
    exact absurd (hH.2.1.1 k 66 _ _ (dW_at (by omega)) (dW_at (by omega)) ((hup k hk).trans (h.trans e6.symm))) (by omega)
  have hPC : va_P (dC, dI) vwCl (bW 66 (enC cy) u5.1 (zF u5.2)) HX6 := fun k x hx => by
    obtain ⟨hk, rfl⟩ := bW_lt hx
    have h := hH.1 k _ (dW_at (show k < 67 by omega))
    rw [hup k hk, va_up_ne _ _ (Nat.ne_of_lt hk)] at h
    exact h.kept (hkeep _ (hlt5 k hk) (fun h => h.elim (hne5 k hk) (fun h => by have := hlt5 k hk; omega)))
  have hI : lwJ (dC, dI) cy u5.1 (zF u5.2) u6.1 zM s HX6 locs := ⟨hK, hZ, hPC, hP6, IvC_zF hpX5, IvM_zM, hj5, hj6, fun k hk => by
      have h := hH.2.1.2 k _ (dW_at (show k < 67 by omega))
      rw [hup k hk] at h
      exact h, fun k hk => hAk _ (hD6.2 k _ (dW_at hk)), fun i j hi hj e => by
      rcases hD6.2 j _ (dW_at hj) with h | h
      · exact hne5 i hi (e.trans h)
      · have := hlt5 i hi
        have h : H6.size ≤ u6.1 j := h
        omega, hS, ⟨⟨⟨⟨rfl, rfl, fun q => absurd rfl q⟩, fun _ _ => rfl, fun q => absurd rfl q⟩, (fun t ht => absurd ht (Nat.not_lt_zero t)), fun q => absurd rfl q⟩, rfl, fun i hi => absurd hi (by show ¬ ((i : Int) < (0 : Int32).toInt); rw [show (0 : Int32).toInt = 0 by decide]; omega)⟩⟩
  refine lv_astore_n (lv' := [(2, .ref a6), (1, .ref a5), (0, .ref b)]) hx hb dL_law_15 rfl hl (by decide) rfl (fun ls hl => ?_)
  refine lv_iconst (v := 0) hx hb dL_law_16 (by decide) ?_
  refine lv_istore_n (lv' := [(3, .int 0), (2, .ref a6), (1, .ref a5), (0, .ref b)]) hx hb dL_law_17 rfl hl (by decide) rfl (fun ls hl => ?_)
  refine W.widen (k := 89) (n := 47199) (by decide +kernel) (by decide +kernel) ?_
  exact law_loop l hL C0 L 0 (Nat.zero_le _) rfl _ _ _ _ _ hI (by rw [hq5, hq6]; exact hl)
