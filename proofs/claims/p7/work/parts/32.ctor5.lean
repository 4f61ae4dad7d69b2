/-- the numbers of a fresh object -/
def zF (g : Nat → Int32) : zS := (fun k => if k = 2 then 10 else if k = 5 then 10 else 0, fun k => if k = 2 then upd (fun _ => 0) (0 : Int32).toNatClampNeg 1 else if k = 16 then upd (fun _ => 0) (0 : Int32).toNatClampNeg 1 else if k = 59 then g else fun _ => 0, fun _ _ => 0)
theorem Fr_zF {g : Nat → Int32} (h : ∀ j : Nat, j < 4 → g j = -1) : Fr (zF g) := ⟨rfl, rfl, rfl, rfl, rfl, rfl, rfl, rfl, rfl, rfl, h⟩
def fX5 (cy : Nat → ClassId) (q : Nat → Nat) (g : Nat → Int32) : Nat → va_E := enC cy q (zF g)
set_option maxHeartbeats 4000000 in
set_option maxRecDepth 100000 in
theorem c_X5_init (l : Launch) (D : va_G) (cy : Nat → ClassId) (h0 : Nat)  : ∀ sz : Nat, Met l yX5_init wsX5_init ({ frames := 2, cells := 65, slots := 20973, locals := 43 }) (va_Pc [.ref h0] (dPre D cy h0 (.inr (5, [.null, .null, .null, .null, .int 0, .null, .null, .null, .null, .null, .int 0, .int 0])) sz)) (va_Qv (fun u : (Nat → Nat) × (Nat → Int32) => ∀ j : Nat, j < 4 → u.2 j = -1) (fun u t => cB D (fX5 cy  u.1 u.2) 66 h0 sz u.1 t.heap) (bA1 h0 sz)) 65 20973 (bA1 h0 sz) := by
  intro sz
  refine Met.ofW (cc := cX5_init) (maxL := 1) (ret := none) (by decide) rfl ?_
  intro p e s m args below meth c s₁ B hml hv
  obtain ⟨rfl, hsz, hP, hK, hO1, hO2, hZ⟩ := hv
  have hx := B.exec
  have hb := B.bytes
  have hr := B.returns
  have hts := atoms_spec (ws := wsX5_init) B.pre
  have hown : s.vm.findClass RX5 = some m.cls := findClass_of_methodNamed B.named
  have hlocks := B.notSynchronized
  have hin : meth.name = "<init>" := (name_of_methodNamed B.named B.method).1
  subst hsz
  have hA : ∀ a : Nat, s.heap.size ≤ a → bA1 h0 s.heap.size a := bA1_hA
  have hH := dH_in hP
  have hl := lv_entry ([.ref h0]) (n := 1) (Nat.le_of_ble_eq_true rfl)
  rw [lg_entry_eq]
  generalize (lg_sl ([.ref h0]) ++ List.replicate (1 - (lg_sl ([.ref h0])).length) Slot.unset).toArray = ls at hl ⊢
  have hl : lv_has ls 1 [(0, .ref h0)] := hl
  refine lv_aload_n hx hb dX5_init_0 rfl (lv_at hl 0 rfl) ?_
  refine W.objInit hx hb hown (hts (.methodLink RX5 3 objectInit) (List.mem_of_getElem? (i := 1) rfl)) (hts (.instanceMethod objectInit) (List.mem_of_getElem? (i := 2) rfl)) (hts (.code objectInit ⟨#[0xb1]⟩ 1 none) (List.mem_of_getElem? (i := 3) rfl)) rfl (by rw [hml]; exact hl.1) rfl dX5_init_1 (Nat.le_of_ble_eq_true rfl) (Nat.le_of_ble_eq_true rfl) ?_
  refine W.eq (g2 := F0 m 4 ls []) rfl ?_
  refine lv_aload_n hx hb dX5_init_4 rfl (lv_at hl 0 rfl) ?_
  refine d_new (ci := 0) (fs := [.int 0, .int 0, .int 0, .null, .null, .null, .null, .null, .null, .null, .null]) (C := RX0) (T := TX0) (Nf := 11) hx hb hts in_X5_init_X0 tyX0 tyX0_ok hown (hts (.classLink RX5 9 RX0) (List.mem_of_getElem? (i := 4) rfl)) (hts (.instantiable RX0 11) (List.mem_of_getElem? (i := 5) rfl)) (hts (.initialized RX0) (List.mem_of_getElem? (i := 6) rfl)) hK hH hA rfl (fun j hj => by rcases (show j = 0 ∨ j = 1 ∨ j = 2 ∨ j = 3 ∨ j = 4 ∨ j = 5 ∨ j = 6 ∨ j = 7 ∨ j = 8 ∨ j = 9 ∨ j = 10 by omega) with rfl | rfl | rfl | rfl | rfl | rfl | rfl | rfl | rfl | rfl | rfl <;> rfl) (by decide +kernel) (by decide +kernel) dX5_init_5 (fun a1 H hH => ?_)
  refine lv_dup hx hb dX5_init_8 rfl ?_
  refine d_init (As := []) (rest := [.ref a1, .ref h0]) (mc := 11) (ms := 96) (Su := (Nat → Nat) × (Nat → Int32)) (Bh := fun (u : (Nat → Nat) × (Nat → Int32)) sz Hp => cB D (fX0 cy  u.1 u.2) 12 a1 sz u.1 Hp) ⟨hx, hb, hml, hown, hts⟩ 1 (c_X0_init l D cy a1 ) (cwI 0 hts gX5_init_X0_init rfl rfl rfl (hts (.initialized RX0) (List.mem_of_getElem? (i := 6) rfl)) (hts (.methodLink RX5 11 yX0_init) (List.mem_of_getElem? (i := 32) rfl)) (hts (.instanceMethod yX0_init) (List.mem_of_getElem? (i := 33) rfl)) rfl (by decide +kernel) ⟨Nat.le_of_ble_eq_true rfl, Nat.le_of_ble_eq_true rfl⟩) hK hO1 hO2 hZ hH hA (by decide) rfl rfl hl.1 rfl (Nat.le_of_ble_eq_true rfl) ⟨Nat.le_of_ble_eq_true rfl, Nat.le_of_ble_eq_true rfl⟩ dX5_init_9 (fun u2 H1 locs hpu hB hkeep hAk hS => ?_)
  obtain ⟨hq0, hP1, hD1⟩ := hB
  obtain ⟨hP, hD⟩ := d_join (M := 13) hH.1 hH.2.1 (by decide) hq0 (by decide) rfl hkeep hAk hP1 hD1
  have hH := (⟨hP, hD, hS⟩ : dH D (bA1 h0 s.heap.size) 13 _ _ s.heap H1 locs)
  clear hP hD hP1 hD1 hkeep hAk hS
  refine d_putF (ci := 5) (C := RX5) (T := TX5) (Nf := 12) (ty := tyX5 0) (v := .ref a1) hx hb hts in_X5_init_X5 tyX5 tyX5_ok nmX5 hown hK hH 0 (by decide) rfl rfl 0 (by decide) (hts (.fieldLink RX5 12 "StationLine" "bench" "LStationLine$Bench;") (List.mem_of_getElem? (i := 7) rfl)) rfl hin rfl (by decide +kernel) rfl rfl (Nat.le_of_ble_eq_true rfl) dX5_init_12 (fun H locs hH => ?_)
  refine lv_aload_n hx hb dX5_init_15 rfl (lv_at hl 0 rfl) ?_
  refine d_new (ci := 1) (fs := [.null, .null]) (C := RX1) (T := TX1) (Nf := 2) hx hb hts in_X5_init_X1 tyX1 tyX1_ok hown (hts (.classLink RX5 16 RX1) (List.mem_of_getElem? (i := 8) rfl)) (hts (.instantiable RX1 2) (List.mem_of_getElem? (i := 9) rfl)) (hts (.initialized RX1) (List.mem_of_getElem? (i := 10) rfl)) hK hH hA rfl (fun j hj => by rcases (show j = 0 ∨ j = 1 by omega) with rfl | rfl <;> rfl) (by decide +kernel) (by decide +kernel) dX5_init_16 (fun a13 H hH => ?_)
  refine lv_dup hx hb dX5_init_19 rfl ?_
  refine lv_aload_n hx hb dX5_init_20 rfl (lv_at hl 0 rfl) ?_
  refine d_get (ci := 5) (C := RX5) (T := TX5) (Nf := 12) (v := .ref a1) hx hb hts in_X5_init_X5 hown hK hH 0 (by decide) rfl rfl 0 (by decide) (hts (.fieldLink RX5 12 "StationLine" "bench" "LStationLine$Bench;") (List.mem_of_getElem? (i := 7) rfl)) rfl dX5_init_21 ?_
  refine d_init (As := [.ref a1]) (rest := [.ref a13, .ref h0]) (mc := 1) (ms := 10) (Su := (Nat → Nat) × (Nat → Int32)) (Bh := fun (u : (Nat → Nat) × (Nat → Int32)) sz Hp => cB D (fX1 cy a1 u.1 u.2) 2 a13 sz u.1 Hp) ⟨hx, hb, hml, hown, hts⟩ 13 (c_X1_init l D cy a13 a1) (cwI 1 hts gX5_init_X1_init rfl rfl rfl (hts (.initialized RX1) (List.mem_of_getElem? (i := 10) rfl)) (hts (.methodLink RX5 18 yX1_init) (List.mem_of_getElem? (i := 48) rfl)) (hts (.instanceMethod yX1_init) (List.mem_of_getElem? (i := 49) rfl)) rfl (by decide +kernel) ⟨Nat.le_of_ble_eq_true rfl, Nat.le_of_ble_eq_true rfl⟩) hK hO1 hO2 hZ hH hA (by decide) rfl rfl hl.1 rfl (Nat.le_of_ble_eq_true rfl) ⟨Nat.le_of_ble_eq_true rfl, Nat.le_of_ble_eq_true rfl⟩ dX5_init_24 (fun u14 H1 locs hpu hB hkeep hAk hS => ?_)
  obtain ⟨hq0, hP1, hD1⟩ := hB
  obtain ⟨hP, hD⟩ := d_join (M := 15) hH.1 hH.2.1 (by decide) hq0 (by decide) rfl hkeep hAk hP1 hD1
  have hH := (⟨hP, hD, hS⟩ : dH D (bA1 h0 s.heap.size) 15 _ _ s.heap H1 locs)
  clear hP hD hP1 hD1 hkeep hAk hS
  refine d_putF (ci := 5) (C := RX5) (T := TX5) (Nf := 12) (ty := tyX5 1) (v := .ref a13) hx hb hts in_X5_init_X5 tyX5 tyX5_ok nmX5 hown hK hH 0 (by decide) rfl rfl 1 (by decide) (hts (.fieldLink RX5 21 "StationLine" "hand" "LStationLine$Putting;") (List.mem_of_getElem? (i := 11) rfl)) rfl hin rfl (by decide +kernel) rfl rfl (Nat.le_of_ble_eq_true rfl) dX5_init_27 (fun H locs hH => ?_)
  refine lv_aload_n hx hb dX5_init_30 rfl (lv_at hl 0 rfl) ?_
  refine d_new (ci := 0) (fs := [.int 0, .int 0, .int 0, .null, .null, .null, .null, .null, .null, .null, .null]) (C := RX0) (T := TX0) (Nf := 11) hx hb hts in_X5_init_X0 tyX0 tyX0_ok hown (hts (.classLink RX5 9 RX0) (List.mem_of_getElem? (i := 4) rfl)) (hts (.instantiable RX0 11) (List.mem_of_getElem? (i := 5) rfl)) (hts (.initialized RX0) (List.mem_of_getElem? (i := 6) rfl)) hK hH hA rfl (fun j hj => by rcases (show j = 0 ∨ j = 1 ∨ j = 2 ∨ j = 3 ∨ j = 4 ∨ j = 5 ∨ j = 6 ∨ j = 7 ∨ j = 8 ∨ j = 9 ∨ j = 10 by omega) with rfl | rfl | rfl | rfl | rfl | rfl | rfl | rfl | rfl | rfl | rfl <;> rfl) (by decide +kernel) (by decide +kernel) dX5_init_31 (fun a15 H hH => ?_)
  refine lv_dup hx hb dX5_init_34 rfl ?_
  refine d_init (As := []) (rest := [.ref a15, .ref h0]) (mc := 11) (ms := 96) (Su := (Nat → Nat) × (Nat → Int32)) (Bh := fun (u : (Nat → Nat) × (Nat → Int32)) sz Hp => cB D (fX0 cy  u.1 u.2) 12 a15 sz u.1 Hp) ⟨hx, hb, hml, hown, hts⟩ 15 (c_X0_init l D cy a15 ) (cwI 0 hts gX5_init_X0_init rfl rfl rfl (hts (.initialized RX0) (List.mem_of_getElem? (i := 6) rfl)) (hts (.methodLink RX5 11 yX0_init) (List.mem_of_getElem? (i := 32) rfl)) (hts (.instanceMethod yX0_init) (List.mem_of_getElem? (i := 33) rfl)) rfl (by decide +kernel) ⟨Nat.le_of_ble_eq_true rfl, Nat.le_of_ble_eq_true rfl⟩) hK hO1 hO2 hZ hH hA (by decide) rfl rfl hl.1 rfl (Nat.le_of_ble_eq_true rfl) ⟨Nat.le_of_ble_eq_true rfl, Nat.le_of_ble_eq_true rfl⟩ dX5_init_35 (fun u16 H1 locs hpu hB hkeep hAk hS => ?_)
  obtain ⟨hq0, hP1, hD1⟩ := hB
  obtain ⟨hP, hD⟩ := d_join (M := 27) hH.1 hH.2.1 (by decide) hq0 (by decide) rfl hkeep hAk hP1 hD1
  have hH := (⟨hP, hD, hS⟩ : dH D (bA1 h0 s.heap.size) 27 _ _ s.heap H1 locs)
  clear hP hD hP1 hD1 hkeep hAk hS
  refine d_putF (ci := 5) (C := RX5) (T := TX5) (Nf := 12) (ty := tyX5 2) (v := .ref a15) hx hb hts in_X5_init_X5 tyX5 tyX5_ok nmX5 hown hK hH 0 (by decide) rfl rfl 2 (by decide) (hts (.fieldLink RX5 25 "StationLine" "keptBench" "LStationLine$Bench;") (List.mem_of_getElem? (i := 12) rfl)) rfl hin rfl (by decide +kernel) rfl rfl (Nat.le_of_ble_eq_true rfl) dX5_init_38 (fun H locs hH => ?_)
  refine lv_aload_n hx hb dX5_init_41 rfl (lv_at hl 0 rfl) ?_
  refine d_new (ci := 1) (fs := [.null, .null]) (C := RX1) (T := TX1) (Nf := 2) hx hb hts in_X5_init_X1 tyX1 tyX1_ok hown (hts (.classLink RX5 16 RX1) (List.mem_of_getElem? (i := 8) rfl)) (hts (.instantiable RX1 2) (List.mem_of_getElem? (i := 9) rfl)) (hts (.initialized RX1) (List.mem_of_getElem? (i := 10) rfl)) hK hH hA rfl (fun j hj => by rcases (show j = 0 ∨ j = 1 by omega) with rfl | rfl <;> rfl) (by decide +kernel) (by decide +kernel) dX5_init_42 (fun a27 H hH => ?_)
  refine lv_dup hx hb dX5_init_45 rfl ?_
  refine lv_aload_n hx hb dX5_init_46 rfl (lv_at hl 0 rfl) ?_
  refine d_get (ci := 5) (C := RX5) (T := TX5) (Nf := 12) (v := .ref a15) hx hb hts in_X5_init_X5 hown hK hH 0 (by decide) rfl rfl 2 (by decide) (hts (.fieldLink RX5 25 "StationLine" "keptBench" "LStationLine$Bench;") (List.mem_of_getElem? (i := 12) rfl)) rfl dX5_init_47 ?_
  refine d_init (As := [.ref a15]) (rest := [.ref a27, .ref h0]) (mc := 1) (ms := 10) (Su := (Nat → Nat) × (Nat → Int32)) (Bh := fun (u : (Nat → Nat) × (Nat → Int32)) sz Hp => cB D (fX1 cy a15 u.1 u.2) 2 a27 sz u.1 Hp) ⟨hx, hb, hml, hown, hts⟩ 27 (c_X1_init l D cy a27 a15) (cwI 1 hts gX5_init_X1_init rfl rfl rfl (hts (.initialized RX1) (List.mem_of_getElem? (i := 10) rfl)) (hts (.methodLink RX5 18 yX1_init) (List.mem_of_getElem? (i := 48) rfl)) (hts (.instanceMethod yX1_init) (List.mem_of_getElem? (i := 49) rfl)) rfl (by decide +kernel) ⟨Nat.le_of_ble_eq_true rfl, Nat.le_of_ble_eq_true rfl⟩) hK hO1 hO2 hZ hH hA (by decide) rfl rfl hl.1 rfl (Nat.le_of_ble_eq_true rfl) ⟨Nat.le_of_ble_eq_true rfl, Nat.le_of_ble_eq_true rfl⟩ dX5_init_50 (fun u28 H1 locs hpu hB hkeep hAk hS => ?_)
  obtain ⟨hq0, hP1, hD1⟩ := hB
  obtain ⟨hP, hD⟩ := d_join (M := 29) hH.1 hH.2.1 (by decide) hq0 (by decide) rfl hkeep hAk hP1 hD1
  have hH := (⟨hP, hD, hS⟩ : dH D (bA1 h0 s.heap.size) 29 _ _ s.heap H1 locs)
  clear hP hD hP1 hD1 hkeep hAk hS
  refine d_putF (ci := 5) (C := RX5) (T := TX5) (Nf := 12) (ty := tyX5 3) (v := .ref a27) hx hb hts in_X5_init_X5 tyX5 tyX5_ok nmX5 hown hK hH 0 (by decide) rfl rfl 3 (by decide) (hts (.fieldLink RX5 28 "StationLine" "keptHand" "LStationLine$Putting;") (List.mem_of_getElem? (i := 13) rfl)) rfl hin rfl (by decide +kernel) rfl rfl (Nat.le_of_ble_eq_true rfl) dX5_init_53 (fun H locs hH => ?_)
  refine lv_aload_n hx hb dX5_init_56 rfl (lv_at hl 0 rfl) ?_
  refine lv_iconst (v := 0) hx hb dX5_init_57 (by decide) ?_
  refine d_put (ci := 5) (C := RX5) (T := TX5) (Nf := 12) (ty := .boolean) (v := .int 0) hx hb hts in_X5_init_X5 tyX5 tyX5_ok nmX5 hown hK hH 0 (by decide) rfl rfl 4 (by decide) (hts (.fieldLink RX5 31 "StationLine" "isKept" "Z") (List.mem_of_getElem? (i := 14) rfl)) rfl (by decide +kernel) rfl rfl (Nat.le_of_ble_eq_true rfl) dX5_init_58 (fun H locs hH => ?_)
  refine lv_aload_n hx hb dX5_init_61 rfl (lv_at hl 0 rfl) ?_
  refine d_new (ci := 2) (fs := [.null, .int 0, .null]) (C := RX2) (T := TX2) (Nf := 3) hx hb hts in_X5_init_X2 tyX2 tyX2_ok hown (hts (.classLink RX5 35 RX2) (List.mem_of_getElem? (i := 15) rfl)) (hts (.instantiable RX2 3) (List.mem_of_getElem? (i := 16) rfl)) (hts (.initialized RX2) (List.mem_of_getElem? (i := 17) rfl)) hK hH hA rfl (fun j hj => by rcases (show j = 0 ∨ j = 1 ∨ j = 2 by omega) with rfl | rfl | rfl <;> rfl) (by decide +kernel) (by decide +kernel) dX5_init_62 (fun a29 H hH => ?_)
  refine lv_dup hx hb dX5_init_65 rfl ?_
  refine d_init (As := []) (rest := [.ref a29, .ref h0]) (mc := 2) (ms := 21) (Su := (Nat → Nat) × (Nat → Int32)) (Bh := fun (u : (Nat → Nat) × (Nat → Int32)) sz Hp => cB D (fX2 cy  u.1 u.2) 3 a29 sz u.1 Hp) ⟨hx, hb, hml, hown, hts⟩ 29 (c_X2_init l D cy a29 ) (cwI 0 hts gX5_init_X2_init rfl rfl rfl (hts (.initialized RX2) (List.mem_of_getElem? (i := 17) rfl)) (hts (.methodLink RX5 37 yX2_init) (List.mem_of_getElem? (i := 54) rfl)) (hts (.instanceMethod yX2_init) (List.mem_of_getElem? (i := 55) rfl)) rfl (by decide +kernel) ⟨Nat.le_of_ble_eq_true rfl, Nat.le_of_ble_eq_true rfl⟩) hK hO1 hO2 hZ hH hA (by decide) rfl rfl hl.1 rfl (Nat.le_of_ble_eq_true rfl) ⟨Nat.le_of_ble_eq_true rfl, Nat.le_of_ble_eq_true rfl⟩ dX5_init_66 (fun u30 H1 locs hpu hB hkeep hAk hS => ?_)
  obtain ⟨hq0, hP1, hD1⟩ := hB
  obtain ⟨hP, hD⟩ := d_join (M := 32) hH.1 hH.2.1 (by decide) hq0 (by decide) rfl hkeep hAk hP1 hD1
  have hH := (⟨hP, hD, hS⟩ : dH D (bA1 h0 s.heap.size) 32 _ _ s.heap H1 locs)
  clear hP hD hP1 hD1 hkeep hAk hS
  refine d_putF (ci := 5) (C := RX5) (T := TX5) (Nf := 12) (ty := tyX5 5) (v := .ref a29) hx hb hts in_X5_init_X5 tyX5 tyX5_ok nmX5 hown hK hH 0 (by decide) rfl rfl 5 (by decide) (hts (.fieldLink RX5 38 "StationLine" "ring" "LStationLine$Ring;") (List.mem_of_getElem? (i := 18) rfl)) rfl hin rfl (by decide +kernel) rfl rfl (Nat.le_of_ble_eq_true rfl) dX5_init_69 (fun H locs hH => ?_)
  refine lv_aload_n hx hb dX5_init_72 rfl (lv_at hl 0 rfl) ?_
  refine d_new (ci := 3) (fs := [.null, .int 0, .null, .null, .null, .null, .null, .null, .null, .null, .null]) (C := RX3) (T := TX3) (Nf := 11) hx hb hts in_X5_init_X3 tyX3 tyX3_ok hown (hts (.classLink RX5 42 RX3) (List.mem_of_getElem? (i := 19) rfl)) (hts (.instantiable RX3 11) (List.mem_of_getElem? (i := 20) rfl)) (hts (.initialized RX3) (List.mem_of_getElem? (i := 21) rfl)) hK hH hA rfl (fun j hj => by rcases (show j = 0 ∨ j = 1 ∨ j = 2 ∨ j = 3 ∨ j = 4 ∨ j = 5 ∨ j = 6 ∨ j = 7 ∨ j = 8 ∨ j = 9 ∨ j = 10 by omega) with rfl | rfl | rfl | rfl | rfl | rfl | rfl | rfl | rfl | rfl | rfl <;> rfl) (by decide +kernel) (by decide +kernel) dX5_init_73 (fun a32 H hH => ?_)
  refine lv_dup hx hb dX5_init_76 rfl ?_
  refine lv_aload_n hx hb dX5_init_77 rfl (lv_at hl 0 rfl) ?_
  refine d_get (ci := 5) (C := RX5) (T := TX5) (Nf := 12) (v := .ref a1) hx hb hts in_X5_init_X5 hown hK hH 0 (by decide) rfl rfl 0 (by decide) (hts (.fieldLink RX5 12 "StationLine" "bench" "LStationLine$Bench;") (List.mem_of_getElem? (i := 7) rfl)) rfl dX5_init_78 ?_
  refine d_init (As := [.ref a1]) (rest := [.ref a32, .ref h0]) (mc := 22) (ms := 20493) (Su := (Nat → Nat) × (Nat → Int32)) (Bh := fun (u : (Nat → Nat) × (Nat → Int32)) sz Hp => cB D (fX3 cy a1 u.1 u.2) 23 a32 sz u.1 Hp) ⟨hx, hb, hml, hown, hts⟩ 32 (c_X3_init l D cy a32 a1) (cwI 1 hts gX5_init_X3_init rfl rfl rfl (hts (.initialized RX3) (List.mem_of_getElem? (i := 21) rfl)) (hts (.methodLink RX5 44 yX3_init) (List.mem_of_getElem? (i := 61) rfl)) (hts (.instanceMethod yX3_init) (List.mem_of_getElem? (i := 62) rfl)) rfl (by decide +kernel) ⟨Nat.le_of_ble_eq_true rfl, Nat.le_of_ble_eq_true rfl⟩) hK hO1 hO2 hZ hH hA (by decide) rfl rfl hl.1 rfl (Nat.le_of_ble_eq_true rfl) ⟨Nat.le_of_ble_eq_true rfl, Nat.le_of_ble_eq_true rfl⟩ dX5_init_81 (fun u33 H1 locs hpu hB hkeep hAk hS => ?_)
  obtain ⟨hq0, hP1, hD1⟩ := hB
  obtain ⟨hP, hD⟩ := d_join (M := 55) hH.1 hH.2.1 (by decide) hq0 (by decide) rfl hkeep hAk hP1 hD1
  have hH := (⟨hP, hD, hS⟩ : dH D (bA1 h0 s.heap.size) 55 _ _ s.heap H1 locs)
  clear hP hD hP1 hD1 hkeep hAk hS
  refine d_putF (ci := 5) (C := RX5) (T := TX5) (Nf := 12) (ty := tyX5 6) (v := .ref a32) hx hb hts in_X5_init_X5 tyX5 tyX5_ok nmX5 hown hK hH 0 (by decide) rfl rfl 6 (by decide) (hts (.fieldLink RX5 45 "StationLine" "search" "LStationLine$Search;") (List.mem_of_getElem? (i := 22) rfl)) rfl hin rfl (by decide +kernel) rfl rfl (Nat.le_of_ble_eq_true rfl) dX5_init_84 (fun H locs hH => ?_)
  refine lv_aload_n hx hb dX5_init_87 rfl (lv_at hl 0 rfl) ?_
  refine d_new (ci := 1) (fs := [.null, .null]) (C := RX1) (T := TX1) (Nf := 2) hx hb hts in_X5_init_X1 tyX1 tyX1_ok hown (hts (.classLink RX5 16 RX1) (List.mem_of_getElem? (i := 8) rfl)) (hts (.instantiable RX1 2) (List.mem_of_getElem? (i := 9) rfl)) (hts (.initialized RX1) (List.mem_of_getElem? (i := 10) rfl)) hK hH hA rfl (fun j hj => by rcases (show j = 0 ∨ j = 1 by omega) with rfl | rfl <;> rfl) (by decide +kernel) (by decide +kernel) dX5_init_88 (fun a55 H hH => ?_)
  refine lv_dup hx hb dX5_init_91 rfl ?_
  refine lv_aload_n hx hb dX5_init_92 rfl (lv_at hl 0 rfl) ?_
  refine d_get (ci := 5) (C := RX5) (T := TX5) (Nf := 12) (v := .ref a1) hx hb hts in_X5_init_X5 hown hK hH 0 (by decide) rfl rfl 0 (by decide) (hts (.fieldLink RX5 12 "StationLine" "bench" "LStationLine$Bench;") (List.mem_of_getElem? (i := 7) rfl)) rfl dX5_init_93 ?_
  refine d_init (As := [.ref a1]) (rest := [.ref a55, .ref h0]) (mc := 1) (ms := 10) (Su := (Nat → Nat) × (Nat → Int32)) (Bh := fun (u : (Nat → Nat) × (Nat → Int32)) sz Hp => cB D (fX1 cy a1 u.1 u.2) 2 a55 sz u.1 Hp) ⟨hx, hb, hml, hown, hts⟩ 55 (c_X1_init l D cy a55 a1) (cwI 1 hts gX5_init_X1_init rfl rfl rfl (hts (.initialized RX1) (List.mem_of_getElem? (i := 10) rfl)) (hts (.methodLink RX5 18 yX1_init) (List.mem_of_getElem? (i := 48) rfl)) (hts (.instanceMethod yX1_init) (List.mem_of_getElem? (i := 49) rfl)) rfl (by decide +kernel) ⟨Nat.le_of_ble_eq_true rfl, Nat.le_of_ble_eq_true rfl⟩) hK hO1 hO2 hZ hH hA (by decide) rfl rfl hl.1 rfl (Nat.le_of_ble_eq_true rfl) ⟨Nat.le_of_ble_eq_true rfl, Nat.le_of_ble_eq_true rfl⟩ dX5_init_96 (fun u56 H1 locs hpu hB hkeep hAk hS => ?_)
  obtain ⟨hq0, hP1, hD1⟩ := hB
  obtain ⟨hP, hD⟩ := d_join (M := 57) hH.1 hH.2.1 (by decide) hq0 (by decide) rfl hkeep hAk hP1 hD1
  have hH := (⟨hP, hD, hS⟩ : dH D (bA1 h0 s.heap.size) 57 _ _ s.heap H1 locs)
  clear hP hD hP1 hD1 hkeep hAk hS
  refine d_putF (ci := 5) (C := RX5) (T := TX5) (Nf := 12) (ty := tyX5 7) (v := .ref a55) hx hb hts in_X5_init_X5 tyX5 tyX5_ok nmX5 hown hK hH 0 (by decide) rfl rfl 7 (by decide) (hts (.fieldLink RX5 49 "StationLine" "trial" "LStationLine$Putting;") (List.mem_of_getElem? (i := 23) rfl)) rfl hin rfl (by decide +kernel) rfl rfl (Nat.le_of_ble_eq_true rfl) dX5_init_99 (fun H locs hH => ?_)
  refine lv_aload_n hx hb dX5_init_102 rfl (lv_at hl 0 rfl) ?_
  refine d_new (ci := 4) (fs := [.null, .null, .null]) (C := RX4) (T := TX4) (Nf := 3) hx hb hts in_X5_init_X4 tyX4 tyX4_ok hown (hts (.classLink RX5 52 RX4) (List.mem_of_getElem? (i := 24) rfl)) (hts (.instantiable RX4 3) (List.mem_of_getElem? (i := 25) rfl)) (hts (.initialized RX4) (List.mem_of_getElem? (i := 26) rfl)) hK hH hA rfl (fun j hj => by rcases (show j = 0 ∨ j = 1 ∨ j = 2 by omega) with rfl | rfl | rfl <;> rfl) (by decide +kernel) (by decide +kernel) dX5_init_103 (fun a57 H hH => ?_)
  refine lv_dup hx hb dX5_init_106 rfl ?_
  refine d_init (As := []) (rest := [.ref a57, .ref h0]) (mc := 7) (ms := 172) (Su := (Nat → Nat) × (Nat → Int32)) (Bh := fun (u : (Nat → Nat) × (Nat → Int32)) sz Hp => cB D (fX4 cy  u.1 u.2) 8 a57 sz u.1 Hp) ⟨hx, hb, hml, hown, hts⟩ 57 (c_X4_init l D cy a57 ) (cwI 0 hts gX5_init_X4_init rfl rfl rfl (hts (.initialized RX4) (List.mem_of_getElem? (i := 26) rfl)) (hts (.methodLink RX5 54 yX4_init) (List.mem_of_getElem? (i := 79) rfl)) (hts (.instanceMethod yX4_init) (List.mem_of_getElem? (i := 80) rfl)) rfl (by decide +kernel) ⟨Nat.le_of_ble_eq_true rfl, Nat.le_of_ble_eq_true rfl⟩) hK hO1 hO2 hZ hH hA (by decide) rfl rfl hl.1 rfl (Nat.le_of_ble_eq_true rfl) ⟨Nat.le_of_ble_eq_true rfl, Nat.le_of_ble_eq_true rfl⟩ dX5_init_107 (fun u58 H1 locs hpu hB hkeep hAk hS => ?_)
  obtain ⟨hq0, hP1, hD1⟩ := hB
  obtain ⟨hP, hD⟩ := d_join (M := 65) hH.1 hH.2.1 (by decide) hq0 (by decide) rfl hkeep hAk hP1 hD1
  have hH := (⟨hP, hD, hS⟩ : dH D (bA1 h0 s.heap.size) 65 _ _ s.heap H1 locs)
  clear hP hD hP1 hD1 hkeep hAk hS
  have hpg := hpu
  refine d_putF (ci := 5) (C := RX5) (T := TX5) (Nf := 12) (ty := tyX5 8) (v := .ref a57) hx hb hts in_X5_init_X5 tyX5 tyX5_ok nmX5 hown hK hH 0 (by decide) rfl rfl 8 (by decide) (hts (.fieldLink RX5 55 "StationLine" "sheets" "LStationLine$Sheets;") (List.mem_of_getElem? (i := 27) rfl)) rfl hin rfl (by decide +kernel) rfl rfl (Nat.le_of_ble_eq_true rfl) dX5_init_110 (fun H locs hH => ?_)
  refine lv_aload_n hx hb dX5_init_113 rfl (lv_at hl 0 rfl) ?_
  refine lv_bipush (v := 20) hx hb dX5_init_114 (by decide) ?_
  refine d_newa (atype := .int) (n := 20) (N' := 20) (a0 := (20, .inl (fun _ => 0))) hx hb 0 (hts (.arrayClass .int) (List.mem_of_getElem? (i := 28) rfl)) hK hH hA rfl (fun _ => rfl) (by decide) (by decide) (by decide +kernel) (by decide +kernel) (by decide +kernel) dX5_init_116 (fun a65 H hH => ?_)
  refine d_putF (ci := 5) (C := RX5) (T := TX5) (Nf := 12) (ty := tyX5 9) (v := .ref a65) hx hb hts in_X5_init_X5 tyX5 tyX5_ok nmX5 hown hK hH 0 (by decide) rfl rfl 9 (by decide) (hts (.fieldLink RX5 59 "StationLine" "waiting" "[I") (List.mem_of_getElem? (i := 29) rfl)) rfl hin rfl (by decide +kernel) rfl rfl (Nat.le_of_ble_eq_true rfl) dX5_init_118 (fun H locs hH => ?_)
  refine lv_aload_n hx hb dX5_init_121 rfl (lv_at hl 0 rfl) ?_
  refine lv_iconst (v := 0) hx hb dX5_init_122 (by decide) ?_
  refine d_put (ci := 5) (C := RX5) (T := TX5) (Nf := 12) (ty := .int) (v := .int 0) hx hb hts in_X5_init_X5 tyX5 tyX5_ok nmX5 hown hK hH 0 (by decide) rfl rfl 10 (by decide) (hts (.fieldLink RX5 63 "StationLine" "waitingCount" "I") (List.mem_of_getElem? (i := 30) rfl)) rfl (by decide +kernel) rfl rfl (Nat.le_of_ble_eq_true rfl) dX5_init_123 (fun H locs hH => ?_)
  refine lv_aload_n hx hb dX5_init_126 rfl (lv_at hl 0 rfl) ?_
  refine lv_iconst (v := 0) hx hb dX5_init_127 (by decide) ?_
  refine d_put (ci := 5) (C := RX5) (T := TX5) (Nf := 12) (ty := .int) (v := .int 0) hx hb hts in_X5_init_X5 tyX5 tyX5_ok nmX5 hown hK hH 0 (by decide) rfl rfl 11 (by decide) (hts (.fieldLink RX5 67 "StationLine" "hostFindings" "I") (List.mem_of_getElem? (i := 31) rfl)) rfl (by decide +kernel) rfl rfl (Nat.le_of_ble_eq_true rfl) dX5_init_128 (fun H locs hH => ?_)
  have hH := dH_to (f' := fX5 cy  (va_up (jq 58 (va_up (jq 56 (va_up (jq 33 (va_up (jq 30 (va_up (jq 28 (va_up (jq 16 (va_up (jq 14 (va_up (jq 2 (va_up (fun _ => h0) 1 a1) u2.1) 13 a13) u14.1) 15 a15) u16.1) 27 a27) u28.1) 29 a29) u30.1) 32 a32) u33.1) 55 a55) u56.1) 57 a57) u58.1) 65 a65) (u58.2)) hH (fun k hk => match k, hk with
    | 0, _ => rfl
    | 1, _ => rfl
    | 2, _ => rfl
    | 3, _ => (congrArg (fun w => (.inl (cy 3, 3, .inr (.inr (.inr (.inr w)))) : va_E)) (rfs_ext (fun i hi => match i, hi with | 0, _ => rfl | 1, _ => rfl | 2, _ => rfl | i + 3, h => absurd h (by omega))))
    | 4, _ => rfl
    | 5, _ => rfl
    | 6, _ => rfl
    | 7, _ => rfl
    | 8, _ => rfl
    | 9, _ => rfl
    | 10, _ => rfl
    | 11, _ => rfl
    | 12, _ => rfl
    | 13, _ => rfl
    | 14, _ => rfl
    | 15, _ => rfl
    | 16, _ => rfl
    | 17, _ => (congrArg (fun w => (.inl (cy 3, 3, .inr (.inr (.inr (.inr w)))) : va_E)) (rfs_ext (fun i hi => match i, hi with | 0, _ => rfl | 1, _ => rfl | 2, _ => rfl | i + 3, h => absurd h (by omega))))
    | 18, _ => rfl
    | 19, _ => rfl
    | 20, _ => rfl
    | 21, _ => rfl
    | 22, _ => rfl
    | 23, _ => rfl
    | 24, _ => rfl
    | 25, _ => rfl
    | 26, _ => rfl
    | 27, _ => rfl
    | 28, _ => rfl
    | 29, _ => rfl
    | 30, _ => rfl
    | 31, _ => rfl
    | 32, _ => rfl
    | 33, _ => rfl
    | 34, _ => rfl
    | 35, _ => rfl
    | 36, _ => rfl
    | 37, _ => rfl
    | 38, _ => rfl
    | 39, _ => rfl
    | 40, _ => (congrArg (fun w => (.inl (cy 4, 11, .inr (.inr (.inr (.inr w)))) : va_E)) (rfs_ext (fun i hi => match i, hi with | 0, _ => rfl | 1, _ => rfl | 2, _ => rfl | 3, _ => rfl | 4, _ => rfl | 5, _ => rfl | 6, _ => rfl | 7, _ => rfl | 8, _ => rfl | 9, _ => rfl | 10, _ => rfl | i + 11, h => absurd h (by omega))))
    | 41, _ => rfl
    | 42, _ => rfl
    | 43, _ => rfl
    | 44, _ => rfl
    | 45, _ => rfl
    | 46, _ => rfl
    | 47, _ => rfl
    | 48, _ => rfl
    | 49, _ => rfl
    | 50, _ => rfl
    | 51, _ => rfl
    | 52, _ => (congrArg (fun w => (.inl (cy 4, 2, .inr (.inr (.inr (.inr w)))) : va_E)) (rfs_ext (fun i hi => match i, hi with | 0, _ => rfl | 1, _ => rfl | i + 2, h => absurd h (by omega))))
    | 53, _ => rfl
    | 54, _ => rfl
    | 55, _ => rfl
    | 56, _ => rfl
    | 57, _ => rfl
    | 58, _ => rfl
    | 59, _ => rfl
    | 60, _ => (congrArg (fun w => (.inl (cy 3, 4, .inr (.inr (.inr (.inr w)))) : va_E)) (rfs_ext (fun i hi => match i, hi with | 0, _ => rfl | 1, _ => rfl | 2, _ => rfl | 3, _ => rfl | i + 4, h => absurd h (by omega))))
    | 61, _ => rfl
    | 62, _ => rfl
    | 63, _ => rfl
    | 64, _ => rfl
    | 65, _ => rfl
    | k + 66, h => absurd h (by omega))
  refine W.widen (k := 65) (n := 20973) (Nat.le_of_ble_eq_true rfl) (Nat.le_of_ble_eq_true rfl) ?_
  exact d_vret hx hb hr hlocks (⟨(va_up (jq 58 (va_up (jq 56 (va_up (jq 33 (va_up (jq 30 (va_up (jq 28 (va_up (jq 16 (va_up (jq 14 (va_up (jq 2 (va_up (fun _ => h0) 1 a1) u2.1) 13 a13) u14.1) 15 a15) u16.1) 27 a27) u28.1) 29 a29) u30.1) 32 a32) u33.1) 55 a55) u56.1) 57 a57) u58.1) 65 a65), (u58.2)⟩ : (Nat → Nat) × (Nat → Int32)) hpg (fun t ht => ⟨rfl, by rw [ht]; exact hH.1, hH.2.1⟩) hH.2.2 dX5_init_131
