def fX0 (cy : Nat → ClassId)  (q : Nat → Nat) (g : Nat → Int32) : Nat → va_E := fun k => match k with
  | 0 => .inr (0, [.int 0, .int 0, .int 10, .ref (q 1), .ref (q 2), .ref (q 6), .ref (q 7), .ref (q 8), .ref (q 9), .ref (q 10), .ref (q 11)])
  | 1 => .inl (cy 0, 3, .inl (upd (fun _ => 0) (0 : Int32).toNatClampNeg 1))
  | 2 => .inl (cy 3, 3, .inr (.inr (.inr (.inr (rfs 3 (fun i => q (3 + i)))))))
  | 3 => .inl (cy 0, 10, .inl (fun _ => 0))
  | 4 => .inl (cy 0, 10, .inl (fun _ => 0))
  | 5 => .inl (cy 0, 10, .inl (fun _ => 0))
  | 6 => .inl (cy 0, 10, .inl (fun _ => 0))
  | 7 => .inl (cy 0, 10, .inl (fun _ => 0))
  | 8 => .inl (cy 0, 10, .inl (fun _ => 0))
  | 9 => .inl (cy 0, 10, .inl (fun _ => 0))
  | 10 => .inl (cy 0, 10, .inl (fun _ => 0))
  | 11 => .inl (cy 0, 10, .inl (fun _ => 0))
  | _ => .inl (cy 0, 0, .inl (fun _ => 0))
set_option maxHeartbeats 4000000 in
set_option maxRecDepth 100000 in
theorem c_X0_init (l : Launch) (D : va_G) (cy : Nat → ClassId) (h0 : Nat)  : ∀ sz : Nat, Met l yX0_init wsX0_init ({ frames := 1, cells := 11, slots := 96, locals := 20 }) (va_Pc [.ref h0] (dPre D cy h0 (.inr (0, [.int 0, .int 0, .int 0, .null, .null, .null, .null, .null, .null, .null, .null])) sz)) (va_Qv (fun u : (Nat → Nat) × (Nat → Int32) => True) (fun u t => cB D (fX0 cy  u.1 u.2) 12 h0 sz u.1 t.heap) (bA1 h0 sz)) 11 96 (bA1 h0 sz) := by
  intro sz
  refine Met.ofW (cc := cX0_init) (maxL := 1) (ret := none) (by decide) rfl ?_
  intro p e s m args below meth c s₁ B hml hv
  obtain ⟨rfl, hsz, hP, hK, hO1, hO2, hZ⟩ := hv
  have hx := B.exec
  have hb := B.bytes
  have hr := B.returns
  have hts := atoms_spec (ws := wsX0_init) B.pre
  have hown : s.vm.findClass RX0 = some m.cls := findClass_of_methodNamed B.named
  have hlocks := B.notSynchronized
  have hin : meth.name = "<init>" := (name_of_methodNamed B.named B.method).1
  subst hsz
  have hA : ∀ a : Nat, s.heap.size ≤ a → bA1 h0 s.heap.size a := bA1_hA
  have hH := dH_in hP
  have hl := lv_entry ([.ref h0]) (n := 1) (Nat.le_of_ble_eq_true rfl)
  rw [lg_entry_eq]
  generalize (lg_sl ([.ref h0]) ++ List.replicate (1 - (lg_sl ([.ref h0])).length) Slot.unset).toArray = ls at hl ⊢
  have hl : lv_has ls 1 [(0, .ref h0)] := hl
  refine lv_aload_n hx hb dX0_init_0 rfl (lv_at hl 0 rfl) ?_
  refine W.objInit hx hb hown (hts (.methodLink RX0 3 objectInit) (List.mem_of_getElem? (i := 1) rfl)) (hts (.instanceMethod objectInit) (List.mem_of_getElem? (i := 2) rfl)) (hts (.code objectInit ⟨#[0xb1]⟩ 1 none) (List.mem_of_getElem? (i := 3) rfl)) rfl (by rw [hml]; exact hl.1) rfl dX0_init_1 (Nat.le_of_ble_eq_true rfl) (Nat.le_of_ble_eq_true rfl) ?_
  refine W.eq (g2 := F0 m 4 ls []) rfl ?_
  refine lv_aload_n hx hb dX0_init_4 rfl (lv_at hl 0 rfl) ?_
  refine lv_iconst (v := 0) hx hb dX0_init_5 (by decide) ?_
  refine d_put (ci := 0) (C := RX0) (T := TX0) (Nf := 11) (ty := .int) (v := .int 0) hx hb hts in_X0_init_X0 tyX0 tyX0_ok nmX0 hown hK hH 0 (by decide) rfl rfl 0 (by decide) (hts (.fieldLink RX0 9 "StationLine$Bench" "size" "I") (List.mem_of_getElem? (i := 4) rfl)) rfl (by decide +kernel) rfl rfl (Nat.le_of_ble_eq_true rfl) dX0_init_6 (fun H locs hH => ?_)
  refine lv_aload_n hx hb dX0_init_9 rfl (lv_at hl 0 rfl) ?_
  refine lv_iconst (v := 0) hx hb dX0_init_10 (by decide) ?_
  refine d_put (ci := 0) (C := RX0) (T := TX0) (Nf := 11) (ty := .int) (v := .int 0) hx hb hts in_X0_init_X0 tyX0 tyX0_ok nmX0 hown hK hH 0 (by decide) rfl rfl 1 (by decide) (hts (.fieldLink RX0 15 "StationLine$Bench" "kind" "I") (List.mem_of_getElem? (i := 5) rfl)) rfl (by decide +kernel) rfl rfl (Nat.le_of_ble_eq_true rfl) dX0_init_11 (fun H locs hH => ?_)
  refine lv_aload_n hx hb dX0_init_14 rfl (lv_at hl 0 rfl) ?_
  refine lv_bipush (v := 10) hx hb dX0_init_15 (by decide) ?_
  refine d_put (ci := 0) (C := RX0) (T := TX0) (Nf := 11) (ty := .int) (v := .int 10) hx hb hts in_X0_init_X0 tyX0 tyX0_ok nmX0 hown hK hH 0 (by decide) rfl rfl 2 (by decide) (hts (.fieldLink RX0 18 "StationLine$Bench" "beat" "I") (List.mem_of_getElem? (i := 6) rfl)) rfl (by decide +kernel) rfl rfl (Nat.le_of_ble_eq_true rfl) dX0_init_17 (fun H locs hH => ?_)
  refine lv_aload_n hx hb dX0_init_20 rfl (lv_at hl 0 rfl) ?_
  refine lv_iconst (v := 3) hx hb dX0_init_21 (by decide) ?_
  refine d_newa (atype := .int) (n := 3) (N' := 3) (a0 := (3, .inl (fun _ => 0))) hx hb 0 (hts (.arrayClass .int) (List.mem_of_getElem? (i := 7) rfl)) hK hH hA rfl (fun _ => rfl) (by decide) (by decide) (by decide +kernel) (by decide +kernel) (by decide +kernel) dX0_init_22 (fun a1 H hH => ?_)
  refine d_putF (ci := 0) (C := RX0) (T := TX0) (Nf := 11) (ty := tyX0 3) (v := .ref a1) hx hb hts in_X0_init_X0 tyX0 tyX0_ok nmX0 hown hK hH 0 (by decide) rfl rfl 3 (by decide) (hts (.fieldLink RX0 21 "StationLine$Bench" "shares" "[I") (List.mem_of_getElem? (i := 8) rfl)) rfl hin rfl (by decide +kernel) rfl rfl (Nat.le_of_ble_eq_true rfl) dX0_init_24 (fun H locs hH => ?_)
  refine lv_aload_n hx hb dX0_init_27 rfl (lv_at hl 0 rfl) ?_
  refine lv_iconst (v := 3) hx hb dX0_init_28 (by decide) ?_
  refine lv_bipush (v := 10) hx hb dX0_init_29 (by decide) ?_
  refine d_mna (n := 3) (k := 10) (N' := 3) (K' := 10) (z := (10, .inl (fun _ => 0))) (ty := .int) hx hb 0 3 hown (hts (.classLink RX0 25 "[[I") (List.mem_of_getElem? (i := 9) rfl)) hO1 (hts (.arrayClass .int) (List.mem_of_getElem? (i := 7) rfl)) ((hK.2 0 _ rfl).2) ((hK.2 3 _ rfl).2) hH hA (fun _ => rfl) (by decide) (by decide) (by decide) (by decide) (by decide +kernel) (by decide +kernel) (by decide +kernel) rfl rfl (by decide +kernel) (by decide +kernel) dX0_init_31 (fun a2 r2 H hH => ?_)
  refine d_putF (ci := 0) (C := RX0) (T := TX0) (Nf := 11) (ty := tyX0 4) (v := .ref a2) hx hb hts in_X0_init_X0 tyX0 tyX0_ok nmX0 hown hK hH 0 (by decide) rfl rfl 4 (by decide) (hts (.fieldLink RX0 27 "StationLine$Bench" "times" "[[I") (List.mem_of_getElem? (i := 10) rfl)) rfl hin rfl (by decide +kernel) rfl rfl (Nat.le_of_ble_eq_true rfl) dX0_init_35 (fun H locs hH => ?_)
  refine lv_aload_n hx hb dX0_init_38 rfl (lv_at hl 0 rfl) ?_
  refine lv_bipush (v := 10) hx hb dX0_init_39 (by decide) ?_
  refine d_newa (atype := .int) (n := 10) (N' := 10) (a0 := (10, .inl (fun _ => 0))) hx hb 0 (hts (.arrayClass .int) (List.mem_of_getElem? (i := 7) rfl)) hK hH hA rfl (fun _ => rfl) (by decide) (by decide) (by decide +kernel) (by decide +kernel) (by decide +kernel) dX0_init_41 (fun a6 H hH => ?_)
  refine d_putF (ci := 0) (C := RX0) (T := TX0) (Nf := 11) (ty := tyX0 5) (v := .ref a6) hx hb hts in_X0_init_X0 tyX0 tyX0_ok nmX0 hown hK hH 0 (by decide) rfl rfl 5 (by decide) (hts (.fieldLink RX0 30 "StationLine$Bench" "before" "[I") (List.mem_of_getElem? (i := 11) rfl)) rfl hin rfl (by decide +kernel) rfl rfl (Nat.le_of_ble_eq_true rfl) dX0_init_43 (fun H locs hH => ?_)
  refine lv_aload_n hx hb dX0_init_46 rfl (lv_at hl 0 rfl) ?_
  refine lv_bipush (v := 10) hx hb dX0_init_47 (by decide) ?_
  refine d_newa (atype := .int) (n := 10) (N' := 10) (a0 := (10, .inl (fun _ => 0))) hx hb 0 (hts (.arrayClass .int) (List.mem_of_getElem? (i := 7) rfl)) hK hH hA rfl (fun _ => rfl) (by decide) (by decide) (by decide +kernel) (by decide +kernel) (by decide +kernel) dX0_init_49 (fun a7 H hH => ?_)
  refine d_putF (ci := 0) (C := RX0) (T := TX0) (Nf := 11) (ty := tyX0 6) (v := .ref a7) hx hb hts in_X0_init_X0 tyX0 tyX0_ok nmX0 hown hK hH 0 (by decide) rfl rfl 6 (by decide) (hts (.fieldLink RX0 33 "StationLine$Bench" "leading" "[I") (List.mem_of_getElem? (i := 12) rfl)) rfl hin rfl (by decide +kernel) rfl rfl (Nat.le_of_ble_eq_true rfl) dX0_init_51 (fun H locs hH => ?_)
  refine lv_aload_n hx hb dX0_init_54 rfl (lv_at hl 0 rfl) ?_
  refine lv_bipush (v := 10) hx hb dX0_init_55 (by decide) ?_
  refine d_newa (atype := .int) (n := 10) (N' := 10) (a0 := (10, .inl (fun _ => 0))) hx hb 0 (hts (.arrayClass .int) (List.mem_of_getElem? (i := 7) rfl)) hK hH hA rfl (fun _ => rfl) (by decide) (by decide) (by decide +kernel) (by decide +kernel) (by decide +kernel) dX0_init_57 (fun a8 H hH => ?_)
  refine d_putF (ci := 0) (C := RX0) (T := TX0) (Nf := 11) (ty := tyX0 7) (v := .ref a8) hx hb hts in_X0_init_X0 tyX0 tyX0_ok nmX0 hown hK hH 0 (by decide) rfl rfl 7 (by decide) (hts (.fieldLink RX0 36 "StationLine$Bench" "following" "[I") (List.mem_of_getElem? (i := 13) rfl)) rfl hin rfl (by decide +kernel) rfl rfl (Nat.le_of_ble_eq_true rfl) dX0_init_59 (fun H locs hH => ?_)
  refine lv_aload_n hx hb dX0_init_62 rfl (lv_at hl 0 rfl) ?_
  refine lv_bipush (v := 10) hx hb dX0_init_63 (by decide) ?_
  refine d_newa (atype := .int) (n := 10) (N' := 10) (a0 := (10, .inl (fun _ => 0))) hx hb 0 (hts (.arrayClass .int) (List.mem_of_getElem? (i := 7) rfl)) hK hH hA rfl (fun _ => rfl) (by decide) (by decide) (by decide +kernel) (by decide +kernel) (by decide +kernel) dX0_init_65 (fun a9 H hH => ?_)
  refine d_putF (ci := 0) (C := RX0) (T := TX0) (Nf := 11) (ty := tyX0 8) (v := .ref a9) hx hb hts in_X0_init_X0 tyX0 tyX0_ok nmX0 hown hK hH 0 (by decide) rfl rfl 8 (by decide) (hts (.fieldLink RX0 39 "StationLine$Bench" "together" "[I") (List.mem_of_getElem? (i := 14) rfl)) rfl hin rfl (by decide +kernel) rfl rfl (Nat.le_of_ble_eq_true rfl) dX0_init_67 (fun H locs hH => ?_)
  refine lv_aload_n hx hb dX0_init_70 rfl (lv_at hl 0 rfl) ?_
  refine lv_bipush (v := 10) hx hb dX0_init_71 (by decide) ?_
  refine d_newa (atype := .int) (n := 10) (N' := 10) (a0 := (10, .inl (fun _ => 0))) hx hb 0 (hts (.arrayClass .int) (List.mem_of_getElem? (i := 7) rfl)) hK hH hA rfl (fun _ => rfl) (by decide) (by decide) (by decide +kernel) (by decide +kernel) (by decide +kernel) dX0_init_73 (fun a10 H hH => ?_)
  refine d_putF (ci := 0) (C := RX0) (T := TX0) (Nf := 11) (ty := tyX0 9) (v := .ref a10) hx hb hts in_X0_init_X0 tyX0 tyX0_ok nmX0 hown hK hH 0 (by decide) rfl rfl 9 (by decide) (hts (.fieldLink RX0 42 "StationLine$Bench" "apart" "[I") (List.mem_of_getElem? (i := 15) rfl)) rfl hin rfl (by decide +kernel) rfl rfl (Nat.le_of_ble_eq_true rfl) dX0_init_75 (fun H locs hH => ?_)
  refine lv_aload_n hx hb dX0_init_78 rfl (lv_at hl 0 rfl) ?_
  refine lv_bipush (v := 10) hx hb dX0_init_79 (by decide) ?_
  refine d_newa (atype := .int) (n := 10) (N' := 10) (a0 := (10, .inl (fun _ => 0))) hx hb 0 (hts (.arrayClass .int) (List.mem_of_getElem? (i := 7) rfl)) hK hH hA rfl (fun _ => rfl) (by decide) (by decide) (by decide +kernel) (by decide +kernel) (by decide +kernel) dX0_init_81 (fun a11 H hH => ?_)
  refine d_putF (ci := 0) (C := RX0) (T := TX0) (Nf := 11) (ty := tyX0 10) (v := .ref a11) hx hb hts in_X0_init_X0 tyX0 tyX0_ok nmX0 hown hK hH 0 (by decide) rfl rfl 10 (by decide) (hts (.fieldLink RX0 45 "StationLine$Bench" "held" "[I") (List.mem_of_getElem? (i := 16) rfl)) rfl hin rfl (by decide +kernel) rfl rfl (Nat.le_of_ble_eq_true rfl) dX0_init_83 (fun H locs hH => ?_)
  refine lv_aload_n hx hb dX0_init_86 rfl (lv_at hl 0 rfl) ?_
  refine d_get (ci := 0) (C := RX0) (T := TX0) (Nf := 11) (v := .ref a1) hx hb hts in_X0_init_X0 hown hK hH 0 (by decide) rfl rfl 3 (by decide) (hts (.fieldLink RX0 21 "StationLine$Bench" "shares" "[I") (List.mem_of_getElem? (i := 8) rfl)) rfl dX0_init_87 ?_
  refine lv_iconst (v := 0) hx hb dX0_init_90 (by decide) ?_
  refine lv_iconst (v := 1) hx hb dX0_init_91 (by decide) ?_
  refine d_iast hx hb hK hH 1 (by decide) rfl (by unfold vp_in; decide) dX0_init_92 (fun H locs hH => ?_)
  have hH := dH_to (f' := fX0 cy  (va_up (va_up (va_up (va_up (va_up (va_up (mq 2 (va_up (fun _ => h0) 1 a1) a2 r2) 6 a6) 7 a7) 8 a8) 9 a9) 10 a10) 11 a11) (fun _ => 0)) hH (fun k hk => match k, hk with
    | 0, _ => rfl
    | 1, _ => rfl
    | 2, _ => (congrArg (fun w => (.inl (cy 3, 3, .inr (.inr (.inr (.inr w)))) : va_E)) (rfs_ext (fun i hi => match i, hi with | 0, _ => rfl | 1, _ => rfl | 2, _ => rfl | i + 3, h => absurd h (by omega))))
    | 3, _ => rfl
    | 4, _ => rfl
    | 5, _ => rfl
    | 6, _ => rfl
    | 7, _ => rfl
    | 8, _ => rfl
    | 9, _ => rfl
    | 10, _ => rfl
    | 11, _ => rfl
    | k + 12, h => absurd h (by omega))
  refine W.widen (k := 11) (n := 96) (Nat.le_of_ble_eq_true rfl) (Nat.le_of_ble_eq_true rfl) ?_
  exact d_vret hx hb hr hlocks (⟨(va_up (va_up (va_up (va_up (va_up (va_up (mq 2 (va_up (fun _ => h0) 1 a1) a2 r2) 6 a6) 7 a7) 8 a8) 9 a9) 10 a10) 11 a11), (fun _ => 0)⟩ : (Nat → Nat) × (Nat → Int32)) trivial (fun t ht => ⟨rfl, by rw [ht]; exact hH.1, hH.2.1⟩) hH.2.2 dX0_init_93
def fX1 (cy : Nat → ClassId) (b : Nat) (q : Nat → Nat) (g : Nat → Int32) : Nat → va_E := fun k => match k with
  | 0 => .inr (1, [.ref b, .ref (q 1)])
  | 1 => .inl (cy 0, 10, .inl (fun _ => 0))
  | _ => .inl (cy 0, 0, .inl (fun _ => 0))
set_option maxHeartbeats 4000000 in
set_option maxRecDepth 100000 in
theorem c_X1_init (l : Launch) (D : va_G) (cy : Nat → ClassId) (h0 : Nat) (b : Nat) : ∀ sz : Nat, Met l yX1_init wsX1_init ({ frames := 1, cells := 1, slots := 10, locals := 20 }) (va_Pc [.ref h0, .ref b] (dPre D cy h0 (.inr (1, [.null, .null])) sz)) (va_Qv (fun u : (Nat → Nat) × (Nat → Int32) => True) (fun u t => cB D (fX1 cy b u.1 u.2) 2 h0 sz u.1 t.heap) (bA1 h0 sz)) 1 10 (bA1 h0 sz) := by
  intro sz
  refine Met.ofW (cc := cX1_init) (maxL := 2) (ret := none) (by decide) rfl ?_
  intro p e s m args below meth c s₁ B hml hv
  obtain ⟨rfl, hsz, hP, hK, hO1, hO2, hZ⟩ := hv
  have hx := B.exec
  have hb := B.bytes
  have hr := B.returns
  have hts := atoms_spec (ws := wsX1_init) B.pre
  have hown : s.vm.findClass RX1 = some m.cls := findClass_of_methodNamed B.named
  have hlocks := B.notSynchronized
  have hin : meth.name = "<init>" := (name_of_methodNamed B.named B.method).1
  subst hsz
  have hA : ∀ a : Nat, s.heap.size ≤ a → bA1 h0 s.heap.size a := bA1_hA
  have hH := dH_in hP
  have hl := lv_entry ([.ref h0, .ref b]) (n := 2) (Nat.le_of_ble_eq_true rfl)
  rw [lg_entry_eq]
  generalize (lg_sl ([.ref h0, .ref b]) ++ List.replicate (2 - (lg_sl ([.ref h0, .ref b])).length) Slot.unset).toArray = ls at hl ⊢
  have hl : lv_has ls 2 [(0, .ref h0), (1, .ref b)] := hl
  refine lv_aload_n hx hb dX1_init_0 rfl (lv_at hl 0 rfl) ?_
  refine W.objInit hx hb hown (hts (.methodLink RX1 3 objectInit) (List.mem_of_getElem? (i := 1) rfl)) (hts (.instanceMethod objectInit) (List.mem_of_getElem? (i := 2) rfl)) (hts (.code objectInit ⟨#[0xb1]⟩ 1 none) (List.mem_of_getElem? (i := 3) rfl)) rfl (by rw [hml]; exact hl.1) rfl dX1_init_1 (Nat.le_of_ble_eq_true rfl) (Nat.le_of_ble_eq_true rfl) ?_
  refine W.eq (g2 := F0 m 4 ls []) rfl ?_
  refine lv_aload_n hx hb dX1_init_4 rfl (lv_at hl 0 rfl) ?_
  refine lv_bipush (v := 10) hx hb dX1_init_5 (by decide) ?_
  refine d_newa (atype := .int) (n := 10) (N' := 10) (a0 := (10, .inl (fun _ => 0))) hx hb 0 (hts (.arrayClass .int) (List.mem_of_getElem? (i := 4) rfl)) hK hH hA rfl (fun _ => rfl) (by decide) (by decide) (by decide +kernel) (by decide +kernel) (by decide +kernel) dX1_init_7 (fun a1 H hH => ?_)
  refine d_putF (ci := 1) (C := RX1) (T := TX1) (Nf := 2) (ty := tyX1 1) (v := .ref a1) hx hb hts in_X1_init_X1 tyX1 tyX1_ok nmX1 hown hK hH 0 (by decide) rfl rfl 1 (by decide) (hts (.fieldLink RX1 9 "StationLine$Putting" "row" "[I") (List.mem_of_getElem? (i := 5) rfl)) rfl hin rfl (by decide +kernel) rfl rfl (Nat.le_of_ble_eq_true rfl) dX1_init_9 (fun H locs hH => ?_)
  refine lv_aload_n hx hb dX1_init_12 rfl (lv_at hl 0 rfl) ?_
  refine lv_aload_n hx hb dX1_init_13 rfl (lv_at hl 1 rfl) ?_
  refine d_putF (ci := 1) (C := RX1) (T := TX1) (Nf := 2) (ty := tyX1 0) (v := .ref b) hx hb hts in_X1_init_X1 tyX1 tyX1_ok nmX1 hown hK hH 0 (by decide) rfl rfl 0 (by decide) (hts (.fieldLink RX1 15 "StationLine$Putting" "bench" "LStationLine$Bench;") (List.mem_of_getElem? (i := 6) rfl)) rfl hin rfl (by decide +kernel) rfl rfl (Nat.le_of_ble_eq_true rfl) dX1_init_14 (fun H locs hH => ?_)
  have hH := dH_to (f' := fX1 cy b (va_up (fun _ => h0) 1 a1) (fun _ => 0)) hH (fun k hk => match k, hk with
    | 0, _ => rfl
    | 1, _ => rfl
    | k + 2, h => absurd h (by omega))
  refine W.widen (k := 1) (n := 10) (Nat.le_of_ble_eq_true rfl) (Nat.le_of_ble_eq_true rfl) ?_
  exact d_vret hx hb hr hlocks (⟨(va_up (fun _ => h0) 1 a1), (fun _ => 0)⟩ : (Nat → Nat) × (Nat → Int32)) trivial (fun t ht => ⟨rfl, by rw [ht]; exact hH.1, hH.2.1⟩) hH.2.2 dX1_init_17
def fX2 (cy : Nat → ClassId)  (q : Nat → Nat) (g : Nat → Int32) : Nat → va_E := fun k => match k with
  | 0 => .inr (2, [.ref (q 1), .int 0, .ref (q 2)])
  | 1 => .inl (cy 0, 10, .inl (fun _ => 0))
  | 2 => .inl (cy 0, 11, .inl (fun _ => 0))
  | _ => .inl (cy 0, 0, .inl (fun _ => 0))
set_option maxHeartbeats 4000000 in
set_option maxRecDepth 100000 in
theorem c_X2_init (l : Launch) (D : va_G) (cy : Nat → ClassId) (h0 : Nat)  : ∀ sz : Nat, Met l yX2_init wsX2_init ({ frames := 1, cells := 2, slots := 21, locals := 20 }) (va_Pc [.ref h0] (dPre D cy h0 (.inr (2, [.null, .int 0, .null])) sz)) (va_Qv (fun u : (Nat → Nat) × (Nat → Int32) => True) (fun u t => cB D (fX2 cy  u.1 u.2) 3 h0 sz u.1 t.heap) (bA1 h0 sz)) 2 21 (bA1 h0 sz) := by
  intro sz
  refine Met.ofW (cc := cX2_init) (maxL := 1) (ret := none) (by decide) rfl ?_
  intro p e s m args below meth c s₁ B hml hv
  obtain ⟨rfl, hsz, hP, hK, hO1, hO2, hZ⟩ := hv
  have hx := B.exec
  have hb := B.bytes
  have hr := B.returns
  have hts := atoms_spec (ws := wsX2_init) B.pre
  have hown : s.vm.findClass RX2 = some m.cls := findClass_of_methodNamed B.named
  have hlocks := B.notSynchronized
  have hin : meth.name = "<init>" := (name_of_methodNamed B.named B.method).1
  subst hsz
  have hA : ∀ a : Nat, s.heap.size ≤ a → bA1 h0 s.heap.size a := bA1_hA
  have hH := dH_in hP
  have hl := lv_entry ([.ref h0]) (n := 1) (Nat.le_of_ble_eq_true rfl)
  rw [lg_entry_eq]
  generalize (lg_sl ([.ref h0]) ++ List.replicate (1 - (lg_sl ([.ref h0])).length) Slot.unset).toArray = ls at hl ⊢
  have hl : lv_has ls 1 [(0, .ref h0)] := hl
  refine lv_aload_n hx hb dX2_init_0 rfl (lv_at hl 0 rfl) ?_
  refine W.objInit hx hb hown (hts (.methodLink RX2 3 objectInit) (List.mem_of_getElem? (i := 1) rfl)) (hts (.instanceMethod objectInit) (List.mem_of_getElem? (i := 2) rfl)) (hts (.code objectInit ⟨#[0xb1]⟩ 1 none) (List.mem_of_getElem? (i := 3) rfl)) rfl (by rw [hml]; exact hl.1) rfl dX2_init_1 (Nat.le_of_ble_eq_true rfl) (Nat.le_of_ble_eq_true rfl) ?_
  refine W.eq (g2 := F0 m 4 ls []) rfl ?_
  refine lv_aload_n hx hb dX2_init_4 rfl (lv_at hl 0 rfl) ?_
  refine lv_bipush (v := 10) hx hb dX2_init_5 (by decide) ?_
  refine d_newa (atype := .int) (n := 10) (N' := 10) (a0 := (10, .inl (fun _ => 0))) hx hb 0 (hts (.arrayClass .int) (List.mem_of_getElem? (i := 4) rfl)) hK hH hA rfl (fun _ => rfl) (by decide) (by decide) (by decide +kernel) (by decide +kernel) (by decide +kernel) dX2_init_7 (fun a1 H hH => ?_)
  refine d_putF (ci := 2) (C := RX2) (T := TX2) (Nf := 3) (ty := tyX2 0) (v := .ref a1) hx hb hts in_X2_init_X2 tyX2 tyX2_ok nmX2 hown hK hH 0 (by decide) rfl rfl 0 (by decide) (hts (.fieldLink RX2 9 "StationLine$Ring" "row" "[I") (List.mem_of_getElem? (i := 5) rfl)) rfl hin rfl (by decide +kernel) rfl rfl (Nat.le_of_ble_eq_true rfl) dX2_init_9 (fun H locs hH => ?_)
  refine lv_aload_n hx hb dX2_init_12 rfl (lv_at hl 0 rfl) ?_
  refine lv_iconst (v := 0) hx hb dX2_init_13 (by decide) ?_
  refine d_put (ci := 2) (C := RX2) (T := TX2) (Nf := 3) (ty := .int) (v := .int 0) hx hb hts in_X2_init_X2 tyX2 tyX2_ok nmX2 hown hK hH 0 (by decide) rfl rfl 1 (by decide) (hts (.fieldLink RX2 15 "StationLine$Ring" "size" "I") (List.mem_of_getElem? (i := 6) rfl)) rfl (by decide +kernel) rfl rfl (Nat.le_of_ble_eq_true rfl) dX2_init_14 (fun H locs hH => ?_)
  refine lv_aload_n hx hb dX2_init_17 rfl (lv_at hl 0 rfl) ?_
  refine lv_bipush (v := 11) hx hb dX2_init_18 (by decide) ?_
  refine d_newa (atype := .int) (n := 11) (N' := 11) (a0 := (11, .inl (fun _ => 0))) hx hb 0 (hts (.arrayClass .int) (List.mem_of_getElem? (i := 4) rfl)) hK hH hA rfl (fun _ => rfl) (by decide) (by decide) (by decide +kernel) (by decide +kernel) (by decide +kernel) dX2_init_20 (fun a2 H hH => ?_)
  refine d_putF (ci := 2) (C := RX2) (T := TX2) (Nf := 3) (ty := tyX2 2) (v := .ref a2) hx hb hts in_X2_init_X2 tyX2 tyX2_ok nmX2 hown hK hH 0 (by decide) rfl rfl 2 (by decide) (hts (.fieldLink RX2 19 "StationLine$Ring" "layers" "[I") (List.mem_of_getElem? (i := 7) rfl)) rfl hin rfl (by decide +kernel) rfl rfl (Nat.le_of_ble_eq_true rfl) dX2_init_22 (fun H locs hH => ?_)
  have hH := dH_to (f' := fX2 cy  (va_up (va_up (fun _ => h0) 1 a1) 2 a2) (fun _ => 0)) hH (fun k hk => match k, hk with
    | 0, _ => rfl
    | 1, _ => rfl
    | 2, _ => rfl
    | k + 3, h => absurd h (by omega))
  refine W.widen (k := 2) (n := 21) (Nat.le_of_ble_eq_true rfl) (Nat.le_of_ble_eq_true rfl) ?_
  exact d_vret hx hb hr hlocks (⟨(va_up (va_up (fun _ => h0) 1 a1) 2 a2), (fun _ => 0)⟩ : (Nat → Nat) × (Nat → Int32)) trivial (fun t ht => ⟨rfl, by rw [ht]; exact hH.1, hH.2.1⟩) hH.2.2 dX2_init_25
def fX3 (cy : Nat → ClassId) (b : Nat) (q : Nat → Nat) (g : Nat → Int32) : Nat → va_E := fun k => match k with
  | 0 => .inr (3, [.ref b, .int 0, .ref (q 1), .ref (q 2), .ref (q 3), .ref (q 4), .ref (q 5), .ref (q 6), .ref (q 7), .ref (q 8), .ref (q 20)])
  | 1 => .inl (cy 0, 1024, .inl (fun _ => 0))
  | 2 => .inl (cy 2, 1024, .inl (fun _ => 0))
  | 3 => .inl (cy 0, 1024, .inl (fun _ => 0))
  | 4 => .inl (cy 0, 1024, .inl (fun _ => 0))
  | 5 => .inl (cy 0, 1024, .inl (fun _ => 0))
  | 6 => .inl (cy 0, 1024, .inl (fun _ => 0))
  | 7 => .inl (cy 0, 1024, .inl (fun _ => 0))
  | 8 => .inl (cy 4, 11, .inr (.inr (.inr (.inr (rfs 11 (fun i => q (9 + i)))))))
  | 9 => .inl (cy 1, 1024, .inr (.inl (fun _ => 0)))
  | 10 => .inl (cy 1, 1024, .inr (.inl (fun _ => 0)))
  | 11 => .inl (cy 1, 1024, .inr (.inl (fun _ => 0)))
  | 12 => .inl (cy 1, 1024, .inr (.inl (fun _ => 0)))
  | 13 => .inl (cy 1, 1024, .inr (.inl (fun _ => 0)))
  | 14 => .inl (cy 1, 1024, .inr (.inl (fun _ => 0)))
  | 15 => .inl (cy 1, 1024, .inr (.inl (fun _ => 0)))
  | 16 => .inl (cy 1, 1024, .inr (.inl (fun _ => 0)))
  | 17 => .inl (cy 1, 1024, .inr (.inl (fun _ => 0)))
  | 18 => .inl (cy 1, 1024, .inr (.inl (fun _ => 0)))
  | 19 => .inl (cy 1, 1024, .inr (.inl (fun _ => 0)))
  | 20 => .inl (cy 4, 2, .inr (.inr (.inr (.inr (rfs 2 (fun i => q (21 + i)))))))
  | 21 => .inl (cy 1, 1024, .inr (.inl (fun _ => 0)))
  | 22 => .inl (cy 1, 1024, .inr (.inl (fun _ => 0)))
  | _ => .inl (cy 0, 0, .inl (fun _ => 0))
set_option maxHeartbeats 4000000 in
set_option maxRecDepth 100000 in
theorem c_X3_init (l : Launch) (D : va_G) (cy : Nat → ClassId) (h0 : Nat) (b : Nat) : ∀ sz : Nat, Met l yX3_init wsX3_init ({ frames := 1, cells := 22, slots := 20493, locals := 20 }) (va_Pc [.ref h0, .ref b] (dPre D cy h0 (.inr (3, [.null, .int 0, .null, .null, .null, .null, .null, .null, .null, .null, .null])) sz)) (va_Qv (fun u : (Nat → Nat) × (Nat → Int32) => True) (fun u t => cB D (fX3 cy b u.1 u.2) 23 h0 sz u.1 t.heap) (bA1 h0 sz)) 22 20493 (bA1 h0 sz) := by
  intro sz
  refine Met.ofW (cc := cX3_init) (maxL := 2) (ret := none) (by decide) rfl ?_
  intro p e s m args below meth c s₁ B hml hv
  obtain ⟨rfl, hsz, hP, hK, hO1, hO2, hZ⟩ := hv
  have hx := B.exec
  have hb := B.bytes
  have hr := B.returns
  have hts := atoms_spec (ws := wsX3_init) B.pre
  have hown : s.vm.findClass RX3 = some m.cls := findClass_of_methodNamed B.named
  have hlocks := B.notSynchronized
  have hin : meth.name = "<init>" := (name_of_methodNamed B.named B.method).1
  subst hsz
  have hA : ∀ a : Nat, s.heap.size ≤ a → bA1 h0 s.heap.size a := bA1_hA
  have hH := dH_in hP
  have hl := lv_entry ([.ref h0, .ref b]) (n := 2) (Nat.le_of_ble_eq_true rfl)
  rw [lg_entry_eq]
  generalize (lg_sl ([.ref h0, .ref b]) ++ List.replicate (2 - (lg_sl ([.ref h0, .ref b])).length) Slot.unset).toArray = ls at hl ⊢
  have hl : lv_has ls 2 [(0, .ref h0), (1, .ref b)] := hl
  refine lv_aload_n hx hb dX3_init_0 rfl (lv_at hl 0 rfl) ?_
  refine W.objInit hx hb hown (hts (.methodLink RX3 3 objectInit) (List.mem_of_getElem? (i := 1) rfl)) (hts (.instanceMethod objectInit) (List.mem_of_getElem? (i := 2) rfl)) (hts (.code objectInit ⟨#[0xb1]⟩ 1 none) (List.mem_of_getElem? (i := 3) rfl)) rfl (by rw [hml]; exact hl.1) rfl dX3_init_1 (Nat.le_of_ble_eq_true rfl) (Nat.le_of_ble_eq_true rfl) ?_
  refine W.eq (g2 := F0 m 4 ls []) rfl ?_
  refine lv_aload_n hx hb dX3_init_4 rfl (lv_at hl 0 rfl) ?_
  refine lv_iconst (v := 0) hx hb dX3_init_5 (by decide) ?_
  refine d_put (ci := 3) (C := RX3) (T := TX3) (Nf := 11) (ty := .int) (v := .int 0) hx hb hts in_X3_init_X3 tyX3 tyX3_ok nmX3 hown hK hH 0 (by decide) rfl rfl 1 (by decide) (hts (.fieldLink RX3 9 "StationLine$Search" "all" "I") (List.mem_of_getElem? (i := 4) rfl)) rfl (by decide +kernel) rfl rfl (Nat.le_of_ble_eq_true rfl) dX3_init_6 (fun H locs hH => ?_)
  refine lv_aload_n hx hb dX3_init_9 rfl (lv_at hl 0 rfl) ?_
  refine lv_sipush (v := 1024) hx hb dX3_init_10 (by decide) ?_
  refine d_newa (atype := .int) (n := 1024) (N' := 1024) (a0 := (1024, .inl (fun _ => 0))) hx hb 0 (hts (.arrayClass .int) (List.mem_of_getElem? (i := 5) rfl)) hK hH hA rfl (fun _ => rfl) (by decide) (by decide) (by decide +kernel) (by decide +kernel) (by decide +kernel) dX3_init_13 (fun a1 H hH => ?_)
  refine d_putF (ci := 3) (C := RX3) (T := TX3) (Nf := 11) (ty := tyX3 2) (v := .ref a1) hx hb hts in_X3_init_X3 tyX3 tyX3_ok nmX3 hown hK hH 0 (by decide) rfl rfl 2 (by decide) (hts (.fieldLink RX3 15 "StationLine$Search" "loads" "[I") (List.mem_of_getElem? (i := 6) rfl)) rfl hin rfl (by decide +kernel) rfl rfl (Nat.le_of_ble_eq_true rfl) dX3_init_15 (fun H locs hH => ?_)
  refine lv_aload_n hx hb dX3_init_18 rfl (lv_at hl 0 rfl) ?_
  refine lv_sipush (v := 1024) hx hb dX3_init_19 (by decide) ?_
  refine d_newa (atype := .boolean) (n := 1024) (N' := 1024) (a0 := (1024, .inl (fun _ => 0))) hx hb 2 (hts (.arrayClass .boolean) (List.mem_of_getElem? (i := 7) rfl)) hK hH hA rfl (fun _ => rfl) (by decide) (by decide) (by decide +kernel) (by decide +kernel) (by decide +kernel) dX3_init_22 (fun a2 H hH => ?_)
  refine d_putF (ci := 3) (C := RX3) (T := TX3) (Nf := 11) (ty := tyX3 3) (v := .ref a2) hx hb hts in_X3_init_X3 tyX3 tyX3_ok nmX3 hown hK hH 0 (by decide) rfl rfl 3 (by decide) (hts (.fieldLink RX3 19 "StationLine$Search" "fine" "[Z") (List.mem_of_getElem? (i := 8) rfl)) rfl hin rfl (by decide +kernel) rfl rfl (Nat.le_of_ble_eq_true rfl) dX3_init_24 (fun H locs hH => ?_)
  refine lv_aload_n hx hb dX3_init_27 rfl (lv_at hl 0 rfl) ?_
  refine lv_sipush (v := 1024) hx hb dX3_init_28 (by decide) ?_
  refine d_newa (atype := .int) (n := 1024) (N' := 1024) (a0 := (1024, .inl (fun _ => 0))) hx hb 0 (hts (.arrayClass .int) (List.mem_of_getElem? (i := 5) rfl)) hK hH hA rfl (fun _ => rfl) (by decide) (by decide) (by decide +kernel) (by decide +kernel) (by decide +kernel) dX3_init_31 (fun a3 H hH => ?_)
  refine d_putF (ci := 3) (C := RX3) (T := TX3) (Nf := 11) (ty := tyX3 4) (v := .ref a3) hx hb hts in_X3_init_X3 tyX3 tyX3_ok nmX3 hown hK hH 0 (by decide) rfl rfl 4 (by decide) (hts (.fieldLink RX3 23 "StationLine$Search" "allowed" "[I") (List.mem_of_getElem? (i := 9) rfl)) rfl hin rfl (by decide +kernel) rfl rfl (Nat.le_of_ble_eq_true rfl) dX3_init_33 (fun H locs hH => ?_)
  refine lv_aload_n hx hb dX3_init_36 rfl (lv_at hl 0 rfl) ?_
  refine lv_sipush (v := 1024) hx hb dX3_init_37 (by decide) ?_
  refine d_newa (atype := .int) (n := 1024) (N' := 1024) (a0 := (1024, .inl (fun _ => 0))) hx hb 0 (hts (.arrayClass .int) (List.mem_of_getElem? (i := 5) rfl)) hK hH hA rfl (fun _ => rfl) (by decide) (by decide) (by decide +kernel) (by decide +kernel) (by decide +kernel) dX3_init_40 (fun a4 H hH => ?_)
  refine d_putF (ci := 3) (C := RX3) (T := TX3) (Nf := 11) (ty := tyX3 5) (v := .ref a4) hx hb hts in_X3_init_X3 tyX3 tyX3_ok nmX3 hown hK hH 0 (by decide) rfl rfl 5 (by decide) (hts (.fieldLink RX3 26 "StationLine$Search" "places" "[I") (List.mem_of_getElem? (i := 10) rfl)) rfl hin rfl (by decide +kernel) rfl rfl (Nat.le_of_ble_eq_true rfl) dX3_init_42 (fun H locs hH => ?_)
  refine lv_aload_n hx hb dX3_init_45 rfl (lv_at hl 0 rfl) ?_
  refine lv_sipush (v := 1024) hx hb dX3_init_46 (by decide) ?_
  refine d_newa (atype := .int) (n := 1024) (N' := 1024) (a0 := (1024, .inl (fun _ => 0))) hx hb 0 (hts (.arrayClass .int) (List.mem_of_getElem? (i := 5) rfl)) hK hH hA rfl (fun _ => rfl) (by decide) (by decide) (by decide +kernel) (by decide +kernel) (by decide +kernel) dX3_init_49 (fun a5 H hH => ?_)
  refine d_putF (ci := 3) (C := RX3) (T := TX3) (Nf := 11) (ty := tyX3 6) (v := .ref a5) hx hb hts in_X3_init_X3 tyX3 tyX3_ok nmX3 hown hK hH 0 (by decide) rfl rfl 6 (by decide) (hts (.fieldLink RX3 29 "StationLine$Search" "soonest" "[I") (List.mem_of_getElem? (i := 11) rfl)) rfl hin rfl (by decide +kernel) rfl rfl (Nat.le_of_ble_eq_true rfl) dX3_init_51 (fun H locs hH => ?_)
  refine lv_aload_n hx hb dX3_init_54 rfl (lv_at hl 0 rfl) ?_
  refine lv_sipush (v := 1024) hx hb dX3_init_55 (by decide) ?_
  refine d_newa (atype := .int) (n := 1024) (N' := 1024) (a0 := (1024, .inl (fun _ => 0))) hx hb 0 (hts (.arrayClass .int) (List.mem_of_getElem? (i := 5) rfl)) hK hH hA rfl (fun _ => rfl) (by decide) (by decide) (by decide +kernel) (by decide +kernel) (by decide +kernel) dX3_init_58 (fun a6 H hH => ?_)
  refine d_putF (ci := 3) (C := RX3) (T := TX3) (Nf := 11) (ty := tyX3 7) (v := .ref a6) hx hb hts in_X3_init_X3 tyX3 tyX3_ok nmX3 hown hK hH 0 (by decide) rfl rfl 7 (by decide) (hts (.fieldLink RX3 32 "StationLine$Search" "latest" "[I") (List.mem_of_getElem? (i := 12) rfl)) rfl hin rfl (by decide +kernel) rfl rfl (Nat.le_of_ble_eq_true rfl) dX3_init_60 (fun H locs hH => ?_)
  refine lv_aload_n hx hb dX3_init_63 rfl (lv_at hl 0 rfl) ?_
  refine lv_sipush (v := 1024) hx hb dX3_init_64 (by decide) ?_
  refine d_newa (atype := .int) (n := 1024) (N' := 1024) (a0 := (1024, .inl (fun _ => 0))) hx hb 0 (hts (.arrayClass .int) (List.mem_of_getElem? (i := 5) rfl)) hK hH hA rfl (fun _ => rfl) (by decide) (by decide) (by decide +kernel) (by decide +kernel) (by decide +kernel) dX3_init_67 (fun a7 H hH => ?_)
  refine d_putF (ci := 3) (C := RX3) (T := TX3) (Nf := 11) (ty := tyX3 8) (v := .ref a7) hx hb hts in_X3_init_X3 tyX3 tyX3_ok nmX3 hown hK hH 0 (by decide) rfl rfl 8 (by decide) (hts (.fieldLink RX3 35 "StationLine$Search" "scratch" "[I") (List.mem_of_getElem? (i := 13) rfl)) rfl hin rfl (by decide +kernel) rfl rfl (Nat.le_of_ble_eq_true rfl) dX3_init_69 (fun H locs hH => ?_)
  refine lv_aload_n hx hb dX3_init_72 rfl (lv_at hl 0 rfl) ?_
  refine lv_bipush (v := 11) hx hb dX3_init_73 (by decide) ?_
  refine lv_sipush (v := 1024) hx hb dX3_init_75 (by decide) ?_
  refine d_mna (n := 11) (k := 1024) (N' := 11) (K' := 1024) (z := (1024, .inr (.inl (fun _ => 0)))) (ty := .long) hx hb 1 4 hown (hts (.classLink RX3 38 "[[J") (List.mem_of_getElem? (i := 14) rfl)) hO2 (hts (.arrayClass .long) (List.mem_of_getElem? (i := 15) rfl)) ((hK.2 1 _ rfl).2) ((hK.2 4 _ rfl).2) hH hA (fun _ => rfl) (by decide) (by decide) (by decide) (by decide) (by decide +kernel) (by decide +kernel) (by decide +kernel) rfl rfl (by decide +kernel) (by decide +kernel) dX3_init_78 (fun a8 r8 H hH => ?_)
  refine d_putF (ci := 3) (C := RX3) (T := TX3) (Nf := 11) (ty := tyX3 9) (v := .ref a8) hx hb hts in_X3_init_X3 tyX3 tyX3_ok nmX3 hown hK hH 0 (by decide) rfl rfl 9 (by decide) (hts (.fieldLink RX3 40 "StationLine$Search" "costs" "[[J") (List.mem_of_getElem? (i := 16) rfl)) rfl hin rfl (by decide +kernel) rfl rfl (Nat.le_of_ble_eq_true rfl) dX3_init_82 (fun H locs hH => ?_)
  refine lv_aload_n hx hb dX3_init_85 rfl (lv_at hl 0 rfl) ?_
  refine lv_iconst (v := 2) hx hb dX3_init_86 (by decide) ?_
  refine lv_sipush (v := 1024) hx hb dX3_init_87 (by decide) ?_
  refine d_mna (n := 2) (k := 1024) (N' := 2) (K' := 1024) (z := (1024, .inr (.inl (fun _ => 0)))) (ty := .long) hx hb 1 4 hown (hts (.classLink RX3 38 "[[J") (List.mem_of_getElem? (i := 14) rfl)) hO2 (hts (.arrayClass .long) (List.mem_of_getElem? (i := 15) rfl)) ((hK.2 1 _ rfl).2) ((hK.2 4 _ rfl).2) hH hA (fun _ => rfl) (by decide) (by decide) (by decide) (by decide) (by decide +kernel) (by decide +kernel) (by decide +kernel) rfl rfl (by decide +kernel) (by decide +kernel) dX3_init_90 (fun a20 r20 H hH => ?_)
  refine d_putF (ci := 3) (C := RX3) (T := TX3) (Nf := 11) (ty := tyX3 10) (v := .ref a20) hx hb hts in_X3_init_X3 tyX3 tyX3_ok nmX3 hown hK hH 0 (by decide) rfl rfl 10 (by decide) (hts (.fieldLink RX3 43 "StationLine$Search" "ways" "[[J") (List.mem_of_getElem? (i := 17) rfl)) rfl hin rfl (by decide +kernel) rfl rfl (Nat.le_of_ble_eq_true rfl) dX3_init_94 (fun H locs hH => ?_)
  refine lv_aload_n hx hb dX3_init_97 rfl (lv_at hl 0 rfl) ?_
  refine lv_aload_n hx hb dX3_init_98 rfl (lv_at hl 1 rfl) ?_
  refine d_putF (ci := 3) (C := RX3) (T := TX3) (Nf := 11) (ty := tyX3 0) (v := .ref b) hx hb hts in_X3_init_X3 tyX3 tyX3_ok nmX3 hown hK hH 0 (by decide) rfl rfl 0 (by decide) (hts (.fieldLink RX3 46 "StationLine$Search" "bench" "LStationLine$Bench;") (List.mem_of_getElem? (i := 18) rfl)) rfl hin rfl (by decide +kernel) rfl rfl (Nat.le_of_ble_eq_true rfl) dX3_init_99 (fun H locs hH => ?_)
  have hH := dH_to (f' := fX3 cy b (mq 20 (mq 8 (va_up (va_up (va_up (va_up (va_up (va_up (va_up (fun _ => h0) 1 a1) 2 a2) 3 a3) 4 a4) 5 a5) 6 a6) 7 a7) a8 r8) a20 r20) (fun _ => 0)) hH (fun k hk => match k, hk with
    | 0, _ => rfl
    | 1, _ => rfl
    | 2, _ => rfl
    | 3, _ => rfl
    | 4, _ => rfl
    | 5, _ => rfl
    | 6, _ => rfl
    | 7, _ => rfl
    | 8, _ => (congrArg (fun w => (.inl (cy 4, 11, .inr (.inr (.inr (.inr w)))) : va_E)) (rfs_ext (fun i hi => match i, hi with | 0, _ => rfl | 1, _ => rfl | 2, _ => rfl | 3, _ => rfl | 4, _ => rfl | 5, _ => rfl | 6, _ => rfl | 7, _ => rfl | 8, _ => rfl | 9, _ => rfl | 10, _ => rfl | i + 11, h => absurd h (by omega))))
    | 9, _ => rfl
    | 10, _ => rfl
    | 11, _ => rfl
    | 12, _ => rfl
    | 13, _ => rfl
    | 14, _ => rfl
    | 15, _ => rfl
    | 16, _ => rfl
    | 17, _ => rfl
    | 18, _ => rfl
    | 19, _ => rfl
    | 20, _ => (congrArg (fun w => (.inl (cy 4, 2, .inr (.inr (.inr (.inr w)))) : va_E)) (rfs_ext (fun i hi => match i, hi with | 0, _ => rfl | 1, _ => rfl | i + 2, h => absurd h (by omega))))
    | 21, _ => rfl
    | 22, _ => rfl
    | k + 23, h => absurd h (by omega))
  refine W.widen (k := 22) (n := 20493) (Nat.le_of_ble_eq_true rfl) (Nat.le_of_ble_eq_true rfl) ?_
  exact d_vret hx hb hr hlocks (⟨(mq 20 (mq 8 (va_up (va_up (va_up (va_up (va_up (va_up (va_up (fun _ => h0) 1 a1) 2 a2) 3 a3) 4 a4) 5 a5) 6 a6) 7 a7) a8 r8) a20 r20), (fun _ => 0)⟩ : (Nat → Nat) × (Nat → Int32)) trivial (fun t ht => ⟨rfl, by rw [ht]; exact hH.1, hH.2.1⟩) hH.2.2 dX3_init_102
def fX4 (cy : Nat → ClassId)  (q : Nat → Nat) (g : Nat → Int32) : Nat → va_E := fun k => match k with
  | 0 => .inr (4, [.ref (q 1), .ref (q 2), .ref (q 3)])
  | 1 => .inl (cy 0, 4, .inl (fun _ => 0))
  | 2 => .inl (cy 0, 4, .inl g)
  | 3 => .inl (cy 3, 4, .inr (.inr (.inr (.inr (rfs 4 (fun i => q (4 + i)))))))
  | 4 => .inl (cy 0, 40, .inl (fun _ => 0))
  | 5 => .inl (cy 0, 40, .inl (fun _ => 0))
  | 6 => .inl (cy 0, 40, .inl (fun _ => 0))
  | 7 => .inl (cy 0, 40, .inl (fun _ => 0))
  | _ => .inl (cy 0, 0, .inl (fun _ => 0))
set_option maxHeartbeats 4000000 in
set_option maxRecDepth 100000 in
theorem c_X4_init (l : Launch) (D : va_G) (cy : Nat → ClassId) (h0 : Nat)  : ∀ sz : Nat, Met l yX4_init wsX4_init ({ frames := 1, cells := 7, slots := 172, locals := 23 }) (va_Pc [.ref h0] (dPre D cy h0 (.inr (4, [.null, .null, .null])) sz)) (va_Qv (fun u : (Nat → Nat) × (Nat → Int32) => ∀ j : Nat, j < 4 → u.2 j = -1) (fun u t => cB D (fX4 cy  u.1 u.2) 8 h0 sz u.1 t.heap) (bA1 h0 sz)) 7 172 (bA1 h0 sz) := by
  intro sz
  refine Met.ofW (cc := cX4_init) (maxL := 1) (ret := none) (by decide) rfl ?_
  intro p e s m args below meth c s₁ B hml hv
  obtain ⟨rfl, hsz, hP, hK, hO1, hO2, hZ⟩ := hv
  have hx := B.exec
  have hb := B.bytes
  have hr := B.returns
  have hts := atoms_spec (ws := wsX4_init) B.pre
  have hown : s.vm.findClass RX4 = some m.cls := findClass_of_methodNamed B.named
  have hlocks := B.notSynchronized
  have hin : meth.name = "<init>" := (name_of_methodNamed B.named B.method).1
  subst hsz
  have hA : ∀ a : Nat, s.heap.size ≤ a → bA1 h0 s.heap.size a := bA1_hA
  have hH := dH_in hP
  have hl := lv_entry ([.ref h0]) (n := 1) (Nat.le_of_ble_eq_true rfl)
  rw [lg_entry_eq]
  generalize (lg_sl ([.ref h0]) ++ List.replicate (1 - (lg_sl ([.ref h0])).length) Slot.unset).toArray = ls at hl ⊢
  have hl : lv_has ls 1 [(0, .ref h0)] := hl
  refine lv_aload_n hx hb dX4_init_0 rfl (lv_at hl 0 rfl) ?_
  refine W.objInit hx hb hown (hts (.methodLink RX4 3 objectInit) (List.mem_of_getElem? (i := 1) rfl)) (hts (.instanceMethod objectInit) (List.mem_of_getElem? (i := 2) rfl)) (hts (.code objectInit ⟨#[0xb1]⟩ 1 none) (List.mem_of_getElem? (i := 3) rfl)) rfl (by rw [hml]; exact hl.1) rfl dX4_init_1 (Nat.le_of_ble_eq_true rfl) (Nat.le_of_ble_eq_true rfl) ?_
  refine W.eq (g2 := F0 m 4 ls []) rfl ?_
  refine lv_aload_n hx hb dX4_init_4 rfl (lv_at hl 0 rfl) ?_
  refine lv_iconst (v := 4) hx hb dX4_init_5 (by decide) ?_
  refine d_newa (atype := .int) (n := 4) (N' := 4) (a0 := (4, .inl (fun _ => 0))) hx hb 0 (hts (.arrayClass .int) (List.mem_of_getElem? (i := 4) rfl)) hK hH hA rfl (fun _ => rfl) (by decide) (by decide) (by decide +kernel) (by decide +kernel) (by decide +kernel) dX4_init_6 (fun a1 H hH => ?_)
  refine d_putF (ci := 4) (C := RX4) (T := TX4) (Nf := 3) (ty := tyX4 0) (v := .ref a1) hx hb hts in_X4_init_X4 tyX4 tyX4_ok nmX4 hown hK hH 0 (by decide) rfl rfl 0 (by decide) (hts (.fieldLink RX4 9 "StationLine$Sheets" "sorts" "[I") (List.mem_of_getElem? (i := 5) rfl)) rfl hin rfl (by decide +kernel) rfl rfl (Nat.le_of_ble_eq_true rfl) dX4_init_8 (fun H locs hH => ?_)
  refine lv_aload_n hx hb dX4_init_11 rfl (lv_at hl 0 rfl) ?_
  refine lv_iconst (v := 4) hx hb dX4_init_12 (by decide) ?_
  refine d_newa (atype := .int) (n := 4) (N' := 4) (a0 := (4, .inl (fun _ => 0))) hx hb 0 (hts (.arrayClass .int) (List.mem_of_getElem? (i := 4) rfl)) hK hH hA rfl (fun _ => rfl) (by decide) (by decide) (by decide +kernel) (by decide +kernel) (by decide +kernel) dX4_init_13 (fun a2 H hH => ?_)
  refine d_putF (ci := 4) (C := RX4) (T := TX4) (Nf := 3) (ty := tyX4 1) (v := .ref a2) hx hb hts in_X4_init_X4 tyX4 tyX4_ok nmX4 hown hK hH 0 (by decide) rfl rfl 1 (by decide) (hts (.fieldLink RX4 15 "StationLine$Sheets" "sizes" "[I") (List.mem_of_getElem? (i := 6) rfl)) rfl hin rfl (by decide +kernel) rfl rfl (Nat.le_of_ble_eq_true rfl) dX4_init_15 (fun H locs hH => ?_)
  refine lv_aload_n hx hb dX4_init_18 rfl (lv_at hl 0 rfl) ?_
  refine lv_iconst (v := 4) hx hb dX4_init_19 (by decide) ?_
  refine lv_bipush (v := 40) hx hb dX4_init_20 (by decide) ?_
  refine d_mna (n := 4) (k := 40) (N' := 4) (K' := 40) (z := (40, .inl (fun _ => 0))) (ty := .int) hx hb 0 3 hown (hts (.classLink RX4 18 "[[I") (List.mem_of_getElem? (i := 7) rfl)) hO1 (hts (.arrayClass .int) (List.mem_of_getElem? (i := 4) rfl)) ((hK.2 0 _ rfl).2) ((hK.2 3 _ rfl).2) hH hA (fun _ => rfl) (by decide) (by decide) (by decide) (by decide) (by decide +kernel) (by decide +kernel) (by decide +kernel) rfl rfl (by decide +kernel) (by decide +kernel) dX4_init_22 (fun a3 r3 H hH => ?_)
  refine d_putF (ci := 4) (C := RX4) (T := TX4) (Nf := 3) (ty := tyX4 2) (v := .ref a3) hx hb hts in_X4_init_X4 tyX4 tyX4_ok nmX4 hown hK hH 0 (by decide) rfl rfl 2 (by decide) (hts (.fieldLink RX4 20 "StationLine$Sheets" "rows" "[[I") (List.mem_of_getElem? (i := 8) rfl)) rfl hin rfl (by decide +kernel) rfl rfl (Nat.le_of_ble_eq_true rfl) dX4_init_26 (fun H locs hH => ?_)
  refine lv_aload_n hx hb dX4_init_29 rfl (lv_at hl 0 rfl) ?_
  refine d_get (ci := 4) (C := RX4) (T := TX4) (Nf := 3) (v := .ref a2) hx hb hts in_X4_init_X4 hown hK hH 0 (by decide) rfl rfl 1 (by decide) (hts (.fieldLink RX4 15 "StationLine$Sheets" "sizes" "[I") (List.mem_of_getElem? (i := 6) rfl)) rfl dX4_init_30 ?_
  refine lv_iconst (v := (-1)) hx hb dX4_init_33 (by decide) ?_
  refine d_fill (n := 4) (v := (-1)) (rest := []) ⟨hx, hb, hml, hown, hts⟩ 2 (va_cwS 2 hts gX4_init_J7_fill_53178 rfl rfl rfl (by decide +kernel) ⟨Nat.le_of_ble_eq_true rfl, Nat.le_of_ble_eq_true rfl⟩) hK hZ hH hA (by decide) rfl (by decide) rfl hl.1 rfl (Nat.le_of_ble_eq_true rfl) ⟨Nat.le_of_ble_eq_true rfl, Nat.le_of_ble_eq_true rfl⟩ dX4_init_34 (fun gf H locs hgf hH => ?_)
  have hH := dH_to (f' := fX4 cy  (mq 3 (va_up (va_up (fun _ => h0) 1 a1) 2 a2) a3 r3) (gf)) hH (fun k hk => match k, hk with
    | 0, _ => rfl
    | 1, _ => rfl
    | 2, _ => rfl
    | 3, _ => (congrArg (fun w => (.inl (cy 3, 4, .inr (.inr (.inr (.inr w)))) : va_E)) (rfs_ext (fun i hi => match i, hi with | 0, _ => rfl | 1, _ => rfl | 2, _ => rfl | 3, _ => rfl | i + 4, h => absurd h (by omega))))
    | 4, _ => rfl
    | 5, _ => rfl
    | 6, _ => rfl
    | 7, _ => rfl
    | k + 8, h => absurd h (by omega))
  refine W.widen (k := 7) (n := 172) (Nat.le_of_ble_eq_true rfl) (Nat.le_of_ble_eq_true rfl) ?_
  exact d_vret hx hb hr hlocks (⟨(mq 3 (va_up (va_up (fun _ => h0) 1 a1) 2 a2) a3 r3), (gf)⟩ : (Nat → Nat) × (Nat → Int32)) hgf (fun t ht => ⟨rfl, by rw [ht]; exact hH.1, hH.2.1⟩) hH.2.2 dX4_init_37
