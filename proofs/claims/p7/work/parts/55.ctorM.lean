section DP2
variable {p : Program} {l : Launch} {e : Env} {R : Room} {s : State} {m : MethodId} {args : Array Value} {below : List Frame} {meth : Method} {c : Code} {H : Heap} {locs : List Loc} {cells slots : Nat} {Q : State → Prop}
variable {cc : ByteArray} {pc : Nat} {ls : Array Slot} {rest st0 : List Value} {D : va_G} {cy : Nat → ClassId} {H0 : Heap} {A : Nat → Prop} {N : Nat} {q : Nat → Nat} {f : Nat → va_E}
theorem d_put2 (hx : p.tables.exec = Jvm.exec) (hb : c.code = cc) {own C : String} {T : u_T} {Nf ci index : Nat} {Ts : List Cond} (hts : ∀ w ∈ Ts, w.before args s = true) (hin : ∀ w ∈ u_ws C T Nf, w ∈ Ts) (ty0 : Nat → FieldType) (hty : ∀ k, k < Nf → parseFieldDescriptor (T k).2.2.1 = some (ty0 k)) (hnm : ∀ a, a < Nf → ∀ b, b < Nf → a ≠ b → (T a).2.1 ≠ (T b).2.1) (hown : s.vm.findClass own = some m.cls) (hK : bK D cy s) (hH : dH D A N q f H0 H locs) (k : Nat) {fs : List Value} (hk : k < N) (he : f k = .inr (ci, fs)) (hc : vwCl[ci]? = some (C, T, Nf)) (j : Nat) (hj : j < Nf) (hlink : (Cond.fieldLink own index (T j).1 (T j).2.1 (T j).2.2.1).before args s = true) (hfin : (T j).2.2.2 = false) {ty : FieldType} {v : Value} (hd : parseFieldDescriptor (T j).2.2.1 = some ty) (hn : narrow ty v = v) (hfit : fits ty v = true) (hl : j < fs.length) {fs' : List Value} (hs : fs.set j v = fs') (hdg : decode cc pc = .ok (.putfield index, 3))
    (kk : ∀ (H1 : Heap) (locs1 : List Loc), dH D A N q (va_up f k (.inr (ci, fs'))) H0 H1 locs1 → W p l e R s m args below meth c H1 locs1 cells slots Q (F0 m (pc + 3) ls rest)) : W p l e R s m args below meth c H locs cells slots Q (F0 m pc ls (v :: .ref (q k) :: rest)) :=
  d_put hx hb hts hin ty0 hty hnm hown hK hH k hk he hc j hj hlink hfin hd hn hfit hl hdg (fun H1 locs1 h => kk H1 locs1 (by rw [← hs]; exact h))
theorem d_putF2 (hx : p.tables.exec = Jvm.exec) (hb : c.code = cc) {own C : String} {T : u_T} {Nf ci index : Nat} {Ts : List Cond} (hts : ∀ w ∈ Ts, w.before args s = true) (hin : ∀ w ∈ u_ws C T Nf, w ∈ Ts) (ty0 : Nat → FieldType) (hty : ∀ k, k < Nf → parseFieldDescriptor (T k).2.2.1 = some (ty0 k)) (hnm : ∀ a, a < Nf → ∀ b, b < Nf → a ≠ b → (T a).2.1 ≠ (T b).2.1) (hown : s.vm.findClass own = some m.cls) (hK : bK D cy s) (hH : dH D A N q f H0 H locs) (k : Nat) {fs : List Value} (hk : k < N) (he : f k = .inr (ci, fs)) (hc : vwCl[ci]? = some (C, T, Nf)) (j : Nat) (hj : j < Nf) (hlink : (Cond.fieldLink own index (T j).1 (T j).2.1 (T j).2.2.1).before args s = true) (hfin : (T j).2.2.2 = true) (hin2 : meth.name = "<init>") (hdecl : (T j).1 = own) {ty : FieldType} {v : Value} (hd : parseFieldDescriptor (T j).2.2.1 = some ty) (hn : narrow ty v = v) (hfit : fits ty v = true) (hl : j < fs.length) {fs' : List Value} (hs : fs.set j v = fs') (hdg : decode cc pc = .ok (.putfield index, 3))
    (kk : ∀ (H1 : Heap) (locs1 : List Loc), dH D A N q (va_up f k (.inr (ci, fs'))) H0 H1 locs1 → W p l e R s m args below meth c H1 locs1 cells slots Q (F0 m (pc + 3) ls rest)) : W p l e R s m args below meth c H locs cells slots Q (F0 m pc ls (v :: .ref (q k) :: rest)) :=
  d_putF hx hb hts hin ty0 hty hnm hown hK hH k hk he hc j hj hlink hfin hin2 hdecl hd hn hfit hl hdg (fun H1 locs1 h => kk H1 locs1 (by rw [← hs]; exact h))
end DP2
/-- the numbers of a fresh reference -/
def zM : zS := (fun k => if k = 2 then 10 else 0, fun k => if k = 2 then upd (upd (upd (fun _ => 0) (0 : Int32).toNatClampNeg 1) (1 : Int32).toNatClampNeg 0) (2 : Int32).toNatClampNeg 0 else if k = 10 then upd (upd (upd (upd (fun _ => 0) (0 : Int32).toNatClampNeg (-1)) (1 : Int32).toNatClampNeg (-1)) (2 : Int32).toNatClampNeg (-1)) (3 : Int32).toNatClampNeg (-1) else fun _ => 0, fun _ _ => 0)
theorem Fm_zM : Fm zM := ⟨rfl, rfl, rfl, rfl, rfl, rfl, rfl, rfl, rfl, fun j hj => match j, hj with | 0, _ => rfl | 1, _ => rfl | 2, _ => rfl | 3, _ => rfl | j + 4, h => absurd h (by omega)⟩
theorem zM_10 : zM.1 2 = 10 := rfl
def fX6 (cy : Nat → ClassId) (q : Nat → Nat) (_ : Nat → Int32) : Nat → va_E := enM cy q zM
set_option maxHeartbeats 4000000 in
set_option maxRecDepth 100000 in
theorem c_X6_init (l : Launch) (D : va_G) (cy : Nat → ClassId) (h0 : Nat)  : ∀ sz : Nat, Met l yX6_init wsX6_init ({ frames := 1, cells := 22, slots := 26185, locals := 20 }) (va_Pc [.ref h0] (dPre D cy h0 (.inr (6, [.int 0, .null, .null, .null, .null, .null, .null, .int 0, .int 0, .int 0, .null, .int 0, .null, .null, .null, .null, .int 0, .null, .int 0, .null, .null, .null, .null, .null, .null, .null, .null, .null, .null])) sz)) (va_Qv (fun u : (Nat → Nat) × (Nat → Int32) => True) (fun u t => cB D (fX6 cy  u.1 u.2) 23 h0 sz u.1 t.heap) (bA1 h0 sz)) 22 26185 (bA1 h0 sz) := by
  intro sz
  refine Met.ofW (cc := cX6_init) (maxL := 2) (ret := none) (by decide) rfl ?_
  intro p e s m args below meth c s₁ B hml hv
  obtain ⟨rfl, hsz, hP, hK, hO1, hO2, hZ⟩ := hv
  have hx := B.exec
  have hb := B.bytes
  have hr := B.returns
  have hts := atoms_spec (ws := wsX6_init) B.pre
  have hown : s.vm.findClass RX6 = some m.cls := findClass_of_methodNamed B.named
  have hlocks := B.notSynchronized
  have hin : meth.name = "<init>" := (name_of_methodNamed B.named B.method).1
  subst hsz
  have hA : ∀ a : Nat, s.heap.size ≤ a → bA1 h0 s.heap.size a := bA1_hA
  have hH := dH_in hP
  have hl := lv_entry ([.ref h0]) (n := 2) (Nat.le_of_ble_eq_true rfl)
  rw [lg_entry_eq]
  generalize (lg_sl ([.ref h0]) ++ List.replicate (2 - (lg_sl ([.ref h0])).length) Slot.unset).toArray = ls at hl ⊢
  have hl : lv_has ls 2 [(0, .ref h0)] := hl
  refine lv_aload_n hx hb dX6_init_0 rfl (lv_at hl 0 rfl) ?_
  refine W.objInit hx hb hown (hts (.methodLink RX6 1 objectInit) (List.mem_of_getElem? (i := 1) rfl)) (hts (.instanceMethod objectInit) (List.mem_of_getElem? (i := 2) rfl)) (hts (.code objectInit ⟨#[0xb1]⟩ 1 none) (List.mem_of_getElem? (i := 3) rfl)) rfl (by rw [hml]; exact hl.1) rfl dX6_init_1 (Nat.le_of_ble_eq_true rfl) (Nat.le_of_ble_eq_true rfl) ?_
  refine W.eq (g2 := F0 m 4 ls []) rfl ?_
  refine lv_aload_n hx hb dX6_init_4 rfl (lv_at hl 0 rfl) ?_
  refine lv_bipush (v := 30) hx hb dX6_init_5 (by decide) ?_
  refine d_newa (atype := .int) (n := 30) (N' := 30) (a0 := (30, .inl (fun _ => 0))) hx hb 0 (hts (.arrayClass .int) (List.mem_of_getElem? (i := 4) rfl)) hK hH hA rfl (fun _ => rfl) (by decide) (by decide) (by decide +kernel) (by decide +kernel) (by decide +kernel) dX6_init_7 (fun a1 H hH => ?_)
  refine d_putF2 (ci := 6) (C := RX6) (T := TX6) (Nf := 29) (ty := tyX6 1) (v := .ref a1) (fs := [.int 0, .null, .null, .null, .null, .null, .null, .int 0, .int 0, .int 0, .null, .int 0, .null, .null, .null, .null, .int 0, .null, .int 0, .null, .null, .null, .null, .null, .null, .null, .null, .null, .null]) (fs' := [.int 0, .ref a1, .null, .null, .null, .null, .null, .int 0, .int 0, .int 0, .null, .int 0, .null, .null, .null, .null, .int 0, .null, .int 0, .null, .null, .null, .null, .null, .null, .null, .null, .null, .null]) hx hb hts in_X6_init_X6 tyX6 tyX6_ok nmX6 hown hK hH 0 (by decide) rfl rfl 1 (by decide) (hts (.fieldLink RX6 7 "StationLineModel" "times" "[I") (List.mem_of_getElem? (i := 5) rfl)) rfl hin rfl (by decide +kernel) rfl rfl (Nat.le_of_ble_eq_true rfl) rfl dX6_init_9 (fun H locs hH => ?_)
  refine lv_aload_n hx hb dX6_init_12 rfl (lv_at hl 0 rfl) ?_
  refine lv_iconst (v := 3) hx hb dX6_init_13 (by decide) ?_
  refine d_newa (atype := .int) (n := 3) (N' := 3) (a0 := (3, .inl (fun _ => 0))) hx hb 0 (hts (.arrayClass .int) (List.mem_of_getElem? (i := 4) rfl)) hK hH hA rfl (fun _ => rfl) (by decide) (by decide) (by decide +kernel) (by decide +kernel) (by decide +kernel) dX6_init_14 (fun a2 H hH => ?_)
  refine lv_dup hx hb dX6_init_16 rfl ?_
  refine lv_iconst (v := 0) hx hb dX6_init_17 (by decide) ?_
  refine lv_iconst (v := 1) hx hb dX6_init_18 (by decide) ?_
  refine d_iast hx hb hK hH 2 (by decide) rfl (by unfold vp_in; decide) dX6_init_19 (fun H locs hH => ?_)
  refine lv_dup hx hb dX6_init_20 rfl ?_
  refine lv_iconst (v := 1) hx hb dX6_init_21 (by decide) ?_
  refine lv_iconst (v := 0) hx hb dX6_init_22 (by decide) ?_
  refine d_iast hx hb hK hH 2 (by decide) rfl (by unfold vp_in; decide) dX6_init_23 (fun H locs hH => ?_)
  refine lv_dup hx hb dX6_init_24 rfl ?_
  refine lv_iconst (v := 2) hx hb dX6_init_25 (by decide) ?_
  refine lv_iconst (v := 0) hx hb dX6_init_26 (by decide) ?_
  refine d_iast hx hb hK hH 2 (by decide) rfl (by unfold vp_in; decide) dX6_init_27 (fun H locs hH => ?_)
  refine d_putF2 (ci := 6) (C := RX6) (T := TX6) (Nf := 29) (ty := tyX6 2) (v := .ref a2) (fs := [.int 0, .ref a1, .null, .null, .null, .null, .null, .int 0, .int 0, .int 0, .null, .int 0, .null, .null, .null, .null, .int 0, .null, .int 0, .null, .null, .null, .null, .null, .null, .null, .null, .null, .null]) (fs' := [.int 0, .ref a1, .ref a2, .null, .null, .null, .null, .int 0, .int 0, .int 0, .null, .int 0, .null, .null, .null, .null, .int 0, .null, .int 0, .null, .null, .null, .null, .null, .null, .null, .null, .null, .null]) hx hb hts in_X6_init_X6 tyX6 tyX6_ok nmX6 hown hK hH 0 (by decide) rfl rfl 2 (by decide) (hts (.fieldLink RX6 13 "StationLineModel" "shares" "[I") (List.mem_of_getElem? (i := 6) rfl)) rfl hin rfl (by decide +kernel) rfl rfl (Nat.le_of_ble_eq_true rfl) rfl dX6_init_28 (fun H locs hH => ?_)
  refine lv_aload_n hx hb dX6_init_31 rfl (lv_at hl 0 rfl) ?_
  refine lv_bipush (v := 10) hx hb dX6_init_32 (by decide) ?_
  refine d_newa (atype := .int) (n := 10) (N' := 10) (a0 := (10, .inl (fun _ => 0))) hx hb 0 (hts (.arrayClass .int) (List.mem_of_getElem? (i := 4) rfl)) hK hH hA rfl (fun _ => rfl) (by decide) (by decide) (by decide +kernel) (by decide +kernel) (by decide +kernel) dX6_init_34 (fun a3 H hH => ?_)
  refine d_putF2 (ci := 6) (C := RX6) (T := TX6) (Nf := 29) (ty := tyX6 3) (v := .ref a3) (fs := [.int 0, .ref a1, .ref a2, .null, .null, .null, .null, .int 0, .int 0, .int 0, .null, .int 0, .null, .null, .null, .null, .int 0, .null, .int 0, .null, .null, .null, .null, .null, .null, .null, .null, .null, .null]) (fs' := [.int 0, .ref a1, .ref a2, .ref a3, .null, .null, .null, .int 0, .int 0, .int 0, .null, .int 0, .null, .null, .null, .null, .int 0, .null, .int 0, .null, .null, .null, .null, .null, .null, .null, .null, .null, .null]) hx hb hts in_X6_init_X6 tyX6 tyX6_ok nmX6 hown hK hH 0 (by decide) rfl rfl 3 (by decide) (hts (.fieldLink RX6 16 "StationLineModel" "straight" "[I") (List.mem_of_getElem? (i := 7) rfl)) rfl hin rfl (by decide +kernel) rfl rfl (Nat.le_of_ble_eq_true rfl) rfl dX6_init_36 (fun H locs hH => ?_)
  refine lv_aload_n hx hb dX6_init_39 rfl (lv_at hl 0 rfl) ?_
  refine lv_bipush (v := 100) hx hb dX6_init_40 (by decide) ?_
  refine d_newa (atype := .int) (n := 100) (N' := 100) (a0 := (100, .inl (fun _ => 0))) hx hb 0 (hts (.arrayClass .int) (List.mem_of_getElem? (i := 4) rfl)) hK hH hA rfl (fun _ => rfl) (by decide) (by decide) (by decide +kernel) (by decide +kernel) (by decide +kernel) dX6_init_42 (fun a4 H hH => ?_)
  refine d_putF2 (ci := 6) (C := RX6) (T := TX6) (Nf := 29) (ty := tyX6 4) (v := .ref a4) (fs := [.int 0, .ref a1, .ref a2, .ref a3, .null, .null, .null, .int 0, .int 0, .int 0, .null, .int 0, .null, .null, .null, .null, .int 0, .null, .int 0, .null, .null, .null, .null, .null, .null, .null, .null, .null, .null]) (fs' := [.int 0, .ref a1, .ref a2, .ref a3, .ref a4, .null, .null, .int 0, .int 0, .int 0, .null, .int 0, .null, .null, .null, .null, .int 0, .null, .int 0, .null, .null, .null, .null, .null, .null, .null, .null, .null, .null]) hx hb hts in_X6_init_X6 tyX6 tyX6_ok nmX6 hown hK hH 0 (by decide) rfl rfl 4 (by decide) (hts (.fieldLink RX6 19 "StationLineModel" "pairs" "[I") (List.mem_of_getElem? (i := 8) rfl)) rfl hin rfl (by decide +kernel) rfl rfl (Nat.le_of_ble_eq_true rfl) rfl dX6_init_44 (fun H locs hH => ?_)
  refine lv_aload_n hx hb dX6_init_47 rfl (lv_at hl 0 rfl) ?_
  refine lv_bipush (v := 10) hx hb dX6_init_48 (by decide) ?_
  refine d_newa (atype := .int) (n := 10) (N' := 10) (a0 := (10, .inl (fun _ => 0))) hx hb 0 (hts (.arrayClass .int) (List.mem_of_getElem? (i := 4) rfl)) hK hH hA rfl (fun _ => rfl) (by decide) (by decide) (by decide +kernel) (by decide +kernel) (by decide +kernel) dX6_init_50 (fun a5 H hH => ?_)
  refine d_putF2 (ci := 6) (C := RX6) (T := TX6) (Nf := 29) (ty := tyX6 5) (v := .ref a5) (fs := [.int 0, .ref a1, .ref a2, .ref a3, .ref a4, .null, .null, .int 0, .int 0, .int 0, .null, .int 0, .null, .null, .null, .null, .int 0, .null, .int 0, .null, .null, .null, .null, .null, .null, .null, .null, .null, .null]) (fs' := [.int 0, .ref a1, .ref a2, .ref a3, .ref a4, .ref a5, .null, .int 0, .int 0, .int 0, .null, .int 0, .null, .null, .null, .null, .int 0, .null, .int 0, .null, .null, .null, .null, .null, .null, .null, .null, .null, .null]) hx hb hts in_X6_init_X6 tyX6 tyX6_ok nmX6 hown hK hH 0 (by decide) rfl rfl 5 (by decide) (hts (.fieldLink RX6 22 "StationLineModel" "held" "[I") (List.mem_of_getElem? (i := 9) rfl)) rfl hin rfl (by decide +kernel) rfl rfl (Nat.le_of_ble_eq_true rfl) rfl dX6_init_52 (fun H locs hH => ?_)
  refine lv_aload_n hx hb dX6_init_55 rfl (lv_at hl 0 rfl) ?_
  refine lv_bipush (v := 10) hx hb dX6_init_56 (by decide) ?_
  refine d_newa (atype := .int) (n := 10) (N' := 10) (a0 := (10, .inl (fun _ => 0))) hx hb 0 (hts (.arrayClass .int) (List.mem_of_getElem? (i := 4) rfl)) hK hH hA rfl (fun _ => rfl) (by decide) (by decide) (by decide +kernel) (by decide +kernel) (by decide +kernel) dX6_init_58 (fun a6 H hH => ?_)
  refine d_putF2 (ci := 6) (C := RX6) (T := TX6) (Nf := 29) (ty := tyX6 6) (v := .ref a6) (fs := [.int 0, .ref a1, .ref a2, .ref a3, .ref a4, .ref a5, .null, .int 0, .int 0, .int 0, .null, .int 0, .null, .null, .null, .null, .int 0, .null, .int 0, .null, .null, .null, .null, .null, .null, .null, .null, .null, .null]) (fs' := [.int 0, .ref a1, .ref a2, .ref a3, .ref a4, .ref a5, .ref a6, .int 0, .int 0, .int 0, .null, .int 0, .null, .null, .null, .null, .int 0, .null, .int 0, .null, .null, .null, .null, .null, .null, .null, .null, .null, .null]) hx hb hts in_X6_init_X6 tyX6 tyX6_ok nmX6 hown hK hH 0 (by decide) rfl rfl 6 (by decide) (hts (.fieldLink RX6 25 "StationLineModel" "hand" "[I") (List.mem_of_getElem? (i := 10) rfl)) rfl hin rfl (by decide +kernel) rfl rfl (Nat.le_of_ble_eq_true rfl) rfl dX6_init_60 (fun H locs hH => ?_)
  refine lv_aload_n hx hb dX6_init_63 rfl (lv_at hl 0 rfl) ?_
  refine lv_bipush (v := 10) hx hb dX6_init_64 (by decide) ?_
  refine d_put2 (ci := 6) (C := RX6) (T := TX6) (Nf := 29) (ty := .int) (v := .int 10) (fs := [.int 0, .ref a1, .ref a2, .ref a3, .ref a4, .ref a5, .ref a6, .int 0, .int 0, .int 0, .null, .int 0, .null, .null, .null, .null, .int 0, .null, .int 0, .null, .null, .null, .null, .null, .null, .null, .null, .null, .null]) (fs' := [.int 0, .ref a1, .ref a2, .ref a3, .ref a4, .ref a5, .ref a6, .int 0, .int 10, .int 0, .null, .int 0, .null, .null, .null, .null, .int 0, .null, .int 0, .null, .null, .null, .null, .null, .null, .null, .null, .null, .null]) hx hb hts in_X6_init_X6 tyX6 tyX6_ok nmX6 hown hK hH 0 (by decide) rfl rfl 8 (by decide) (hts (.fieldLink RX6 28 "StationLineModel" "beat" "I") (List.mem_of_getElem? (i := 11) rfl)) rfl (by decide +kernel) rfl rfl (Nat.le_of_ble_eq_true rfl) rfl dX6_init_66 (fun H locs hH => ?_)
  refine lv_aload_n hx hb dX6_init_69 rfl (lv_at hl 0 rfl) ?_
  refine lv_bipush (v := 11) hx hb dX6_init_70 (by decide) ?_
  refine d_newa (atype := .int) (n := 11) (N' := 11) (a0 := (11, .inl (fun _ => 0))) hx hb 0 (hts (.arrayClass .int) (List.mem_of_getElem? (i := 4) rfl)) hK hH hA rfl (fun _ => rfl) (by decide) (by decide) (by decide +kernel) (by decide +kernel) (by decide +kernel) dX6_init_72 (fun a7 H hH => ?_)
  refine d_putF2 (ci := 6) (C := RX6) (T := TX6) (Nf := 29) (ty := tyX6 10) (v := .ref a7) (fs := [.int 0, .ref a1, .ref a2, .ref a3, .ref a4, .ref a5, .ref a6, .int 0, .int 10, .int 0, .null, .int 0, .null, .null, .null, .null, .int 0, .null, .int 0, .null, .null, .null, .null, .null, .null, .null, .null, .null, .null]) (fs' := [.int 0, .ref a1, .ref a2, .ref a3, .ref a4, .ref a5, .ref a6, .int 0, .int 10, .int 0, .ref a7, .int 0, .null, .null, .null, .null, .int 0, .null, .int 0, .null, .null, .null, .null, .null, .null, .null, .null, .null, .null]) hx hb hts in_X6_init_X6 tyX6 tyX6_ok nmX6 hown hK hH 0 (by decide) rfl rfl 10 (by decide) (hts (.fieldLink RX6 32 "StationLineModel" "ring" "[I") (List.mem_of_getElem? (i := 12) rfl)) rfl hin rfl (by decide +kernel) rfl rfl (Nat.le_of_ble_eq_true rfl) rfl dX6_init_74 (fun H locs hH => ?_)
  refine lv_aload_n hx hb dX6_init_77 rfl (lv_at hl 0 rfl) ?_
  refine lv_sipush (v := 180) hx hb dX6_init_78 (by decide) ?_
  refine d_newa (atype := .int) (n := 180) (N' := 180) (a0 := (180, .inl (fun _ => 0))) hx hb 0 (hts (.arrayClass .int) (List.mem_of_getElem? (i := 4) rfl)) hK hH hA rfl (fun _ => rfl) (by decide) (by decide) (by decide +kernel) (by decide +kernel) (by decide +kernel) dX6_init_81 (fun a8 H hH => ?_)
  refine d_putF2 (ci := 6) (C := RX6) (T := TX6) (Nf := 29) (ty := tyX6 12) (v := .ref a8) (fs := [.int 0, .ref a1, .ref a2, .ref a3, .ref a4, .ref a5, .ref a6, .int 0, .int 10, .int 0, .ref a7, .int 0, .null, .null, .null, .null, .int 0, .null, .int 0, .null, .null, .null, .null, .null, .null, .null, .null, .null, .null]) (fs' := [.int 0, .ref a1, .ref a2, .ref a3, .ref a4, .ref a5, .ref a6, .int 0, .int 10, .int 0, .ref a7, .int 0, .ref a8, .null, .null, .null, .int 0, .null, .int 0, .null, .null, .null, .null, .null, .null, .null, .null, .null, .null]) hx hb hts in_X6_init_X6 tyX6 tyX6_ok nmX6 hown hK hH 0 (by decide) rfl rfl 12 (by decide) (hts (.fieldLink RX6 35 "StationLineModel" "kept" "[I") (List.mem_of_getElem? (i := 13) rfl)) rfl hin rfl (by decide +kernel) rfl rfl (Nat.le_of_ble_eq_true rfl) rfl dX6_init_83 (fun H locs hH => ?_)
  refine lv_aload_n hx hb dX6_init_86 rfl (lv_at hl 0 rfl) ?_
  refine lv_iconst (v := 4) hx hb dX6_init_87 (by decide) ?_
  refine d_newa (atype := .int) (n := 4) (N' := 4) (a0 := (4, .inl (fun _ => 0))) hx hb 0 (hts (.arrayClass .int) (List.mem_of_getElem? (i := 4) rfl)) hK hH hA rfl (fun _ => rfl) (by decide) (by decide) (by decide +kernel) (by decide +kernel) (by decide +kernel) dX6_init_88 (fun a9 H hH => ?_)
  refine d_putF2 (ci := 6) (C := RX6) (T := TX6) (Nf := 29) (ty := tyX6 13) (v := .ref a9) (fs := [.int 0, .ref a1, .ref a2, .ref a3, .ref a4, .ref a5, .ref a6, .int 0, .int 10, .int 0, .ref a7, .int 0, .ref a8, .null, .null, .null, .int 0, .null, .int 0, .null, .null, .null, .null, .null, .null, .null, .null, .null, .null]) (fs' := [.int 0, .ref a1, .ref a2, .ref a3, .ref a4, .ref a5, .ref a6, .int 0, .int 10, .int 0, .ref a7, .int 0, .ref a8, .ref a9, .null, .null, .int 0, .null, .int 0, .null, .null, .null, .null, .null, .null, .null, .null, .null, .null]) hx hb hts in_X6_init_X6 tyX6 tyX6_ok nmX6 hown hK hH 0 (by decide) rfl rfl 13 (by decide) (hts (.fieldLink RX6 38 "StationLineModel" "sheetSort" "[I") (List.mem_of_getElem? (i := 14) rfl)) rfl hin rfl (by decide +kernel) rfl rfl (Nat.le_of_ble_eq_true rfl) rfl dX6_init_90 (fun H locs hH => ?_)
  refine lv_aload_n hx hb dX6_init_93 rfl (lv_at hl 0 rfl) ?_
  refine lv_iconst (v := 4) hx hb dX6_init_94 (by decide) ?_
  refine d_newa (atype := .int) (n := 4) (N' := 4) (a0 := (4, .inl (fun _ => 0))) hx hb 0 (hts (.arrayClass .int) (List.mem_of_getElem? (i := 4) rfl)) hK hH hA rfl (fun _ => rfl) (by decide) (by decide) (by decide +kernel) (by decide +kernel) (by decide +kernel) dX6_init_95 (fun a10 H hH => ?_)
  refine d_putF2 (ci := 6) (C := RX6) (T := TX6) (Nf := 29) (ty := tyX6 14) (v := .ref a10) (fs := [.int 0, .ref a1, .ref a2, .ref a3, .ref a4, .ref a5, .ref a6, .int 0, .int 10, .int 0, .ref a7, .int 0, .ref a8, .ref a9, .null, .null, .int 0, .null, .int 0, .null, .null, .null, .null, .null, .null, .null, .null, .null, .null]) (fs' := [.int 0, .ref a1, .ref a2, .ref a3, .ref a4, .ref a5, .ref a6, .int 0, .int 10, .int 0, .ref a7, .int 0, .ref a8, .ref a9, .ref a10, .null, .int 0, .null, .int 0, .null, .null, .null, .null, .null, .null, .null, .null, .null, .null]) hx hb hts in_X6_init_X6 tyX6 tyX6_ok nmX6 hown hK hH 0 (by decide) rfl rfl 14 (by decide) (hts (.fieldLink RX6 41 "StationLineModel" "sheetSize" "[I") (List.mem_of_getElem? (i := 15) rfl)) rfl hin rfl (by decide +kernel) rfl rfl (Nat.le_of_ble_eq_true rfl) rfl dX6_init_97 (fun H locs hH => ?_)
  refine lv_aload_n hx hb dX6_init_100 rfl (lv_at hl 0 rfl) ?_
  refine lv_sipush (v := 160) hx hb dX6_init_101 (by decide) ?_
  refine d_newa (atype := .int) (n := 160) (N' := 160) (a0 := (160, .inl (fun _ => 0))) hx hb 0 (hts (.arrayClass .int) (List.mem_of_getElem? (i := 4) rfl)) hK hH hA rfl (fun _ => rfl) (by decide) (by decide) (by decide +kernel) (by decide +kernel) (by decide +kernel) dX6_init_104 (fun a11 H hH => ?_)
  refine d_putF2 (ci := 6) (C := RX6) (T := TX6) (Nf := 29) (ty := tyX6 15) (v := .ref a11) (fs := [.int 0, .ref a1, .ref a2, .ref a3, .ref a4, .ref a5, .ref a6, .int 0, .int 10, .int 0, .ref a7, .int 0, .ref a8, .ref a9, .ref a10, .null, .int 0, .null, .int 0, .null, .null, .null, .null, .null, .null, .null, .null, .null, .null]) (fs' := [.int 0, .ref a1, .ref a2, .ref a3, .ref a4, .ref a5, .ref a6, .int 0, .int 10, .int 0, .ref a7, .int 0, .ref a8, .ref a9, .ref a10, .ref a11, .int 0, .null, .int 0, .null, .null, .null, .null, .null, .null, .null, .null, .null, .null]) hx hb hts in_X6_init_X6 tyX6 tyX6_ok nmX6 hown hK hH 0 (by decide) rfl rfl 15 (by decide) (hts (.fieldLink RX6 44 "StationLineModel" "sheet" "[I") (List.mem_of_getElem? (i := 16) rfl)) rfl hin rfl (by decide +kernel) rfl rfl (Nat.le_of_ble_eq_true rfl) rfl dX6_init_106 (fun H locs hH => ?_)
  refine lv_aload_n hx hb dX6_init_109 rfl (lv_at hl 0 rfl) ?_
  refine lv_bipush (v := 20) hx hb dX6_init_110 (by decide) ?_
  refine d_newa (atype := .int) (n := 20) (N' := 20) (a0 := (20, .inl (fun _ => 0))) hx hb 0 (hts (.arrayClass .int) (List.mem_of_getElem? (i := 4) rfl)) hK hH hA rfl (fun _ => rfl) (by decide) (by decide) (by decide +kernel) (by decide +kernel) (by decide +kernel) dX6_init_112 (fun a12 H hH => ?_)
  refine d_putF2 (ci := 6) (C := RX6) (T := TX6) (Nf := 29) (ty := tyX6 17) (v := .ref a12) (fs := [.int 0, .ref a1, .ref a2, .ref a3, .ref a4, .ref a5, .ref a6, .int 0, .int 10, .int 0, .ref a7, .int 0, .ref a8, .ref a9, .ref a10, .ref a11, .int 0, .null, .int 0, .null, .null, .null, .null, .null, .null, .null, .null, .null, .null]) (fs' := [.int 0, .ref a1, .ref a2, .ref a3, .ref a4, .ref a5, .ref a6, .int 0, .int 10, .int 0, .ref a7, .int 0, .ref a8, .ref a9, .ref a10, .ref a11, .int 0, .ref a12, .int 0, .null, .null, .null, .null, .null, .null, .null, .null, .null, .null]) hx hb hts in_X6_init_X6 tyX6 tyX6_ok nmX6 hown hK hH 0 (by decide) rfl rfl 17 (by decide) (hts (.fieldLink RX6 47 "StationLineModel" "waiting" "[I") (List.mem_of_getElem? (i := 17) rfl)) rfl hin rfl (by decide +kernel) rfl rfl (Nat.le_of_ble_eq_true rfl) rfl dX6_init_114 (fun H locs hH => ?_)
  refine lv_aload_n hx hb dX6_init_117 rfl (lv_at hl 0 rfl) ?_
  refine lv_bipush (v := 10) hx hb dX6_init_118 (by decide) ?_
  refine d_newa (atype := .int) (n := 10) (N' := 10) (a0 := (10, .inl (fun _ => 0))) hx hb 0 (hts (.arrayClass .int) (List.mem_of_getElem? (i := 4) rfl)) hK hH hA rfl (fun _ => rfl) (by decide) (by decide) (by decide +kernel) (by decide +kernel) (by decide +kernel) dX6_init_120 (fun a13 H hH => ?_)
  refine d_putF2 (ci := 6) (C := RX6) (T := TX6) (Nf := 29) (ty := tyX6 19) (v := .ref a13) (fs := [.int 0, .ref a1, .ref a2, .ref a3, .ref a4, .ref a5, .ref a6, .int 0, .int 10, .int 0, .ref a7, .int 0, .ref a8, .ref a9, .ref a10, .ref a11, .int 0, .ref a12, .int 0, .null, .null, .null, .null, .null, .null, .null, .null, .null, .null]) (fs' := [.int 0, .ref a1, .ref a2, .ref a3, .ref a4, .ref a5, .ref a6, .int 0, .int 10, .int 0, .ref a7, .int 0, .ref a8, .ref a9, .ref a10, .ref a11, .int 0, .ref a12, .int 0, .ref a13, .null, .null, .null, .null, .null, .null, .null, .null, .null]) hx hb hts in_X6_init_X6 tyX6 tyX6_ok nmX6 hown hK hH 0 (by decide) rfl rfl 19 (by decide) (hts (.fieldLink RX6 50 "StationLineModel" "steps" "[I") (List.mem_of_getElem? (i := 18) rfl)) rfl hin rfl (by decide +kernel) rfl rfl (Nat.le_of_ble_eq_true rfl) rfl dX6_init_122 (fun H locs hH => ?_)
  refine lv_aload_n hx hb dX6_init_125 rfl (lv_at hl 0 rfl) ?_
  refine lv_sipush (v := 1024) hx hb dX6_init_126 (by decide) ?_
  refine d_newa (atype := .boolean) (n := 1024) (N' := 1024) (a0 := (1024, .inl (fun _ => 0))) hx hb 2 (hts (.arrayClass .boolean) (List.mem_of_getElem? (i := 19) rfl)) hK hH hA rfl (fun _ => rfl) (by decide) (by decide) (by decide +kernel) (by decide +kernel) (by decide +kernel) dX6_init_129 (fun a14 H hH => ?_)
  refine d_putF2 (ci := 6) (C := RX6) (T := TX6) (Nf := 29) (ty := tyX6 20) (v := .ref a14) (fs := [.int 0, .ref a1, .ref a2, .ref a3, .ref a4, .ref a5, .ref a6, .int 0, .int 10, .int 0, .ref a7, .int 0, .ref a8, .ref a9, .ref a10, .ref a11, .int 0, .ref a12, .int 0, .ref a13, .null, .null, .null, .null, .null, .null, .null, .null, .null]) (fs' := [.int 0, .ref a1, .ref a2, .ref a3, .ref a4, .ref a5, .ref a6, .int 0, .int 10, .int 0, .ref a7, .int 0, .ref a8, .ref a9, .ref a10, .ref a11, .int 0, .ref a12, .int 0, .ref a13, .ref a14, .null, .null, .null, .null, .null, .null, .null, .null]) hx hb hts in_X6_init_X6 tyX6 tyX6_ok nmX6 hown hK hH 0 (by decide) rfl rfl 20 (by decide) (hts (.fieldLink RX6 53 "StationLineModel" "isOne" "[Z") (List.mem_of_getElem? (i := 20) rfl)) rfl hin rfl (by decide +kernel) rfl rfl (Nat.le_of_ble_eq_true rfl) rfl dX6_init_131 (fun H locs hH => ?_)
  refine lv_aload_n hx hb dX6_init_134 rfl (lv_at hl 0 rfl) ?_
  refine lv_sipush (v := 1024) hx hb dX6_init_135 (by decide) ?_
  refine d_newa (atype := .int) (n := 1024) (N' := 1024) (a0 := (1024, .inl (fun _ => 0))) hx hb 0 (hts (.arrayClass .int) (List.mem_of_getElem? (i := 4) rfl)) hK hH hA rfl (fun _ => rfl) (by decide) (by decide) (by decide +kernel) (by decide +kernel) (by decide +kernel) dX6_init_138 (fun a15 H hH => ?_)
  refine d_putF2 (ci := 6) (C := RX6) (T := TX6) (Nf := 29) (ty := tyX6 21) (v := .ref a15) (fs := [.int 0, .ref a1, .ref a2, .ref a3, .ref a4, .ref a5, .ref a6, .int 0, .int 10, .int 0, .ref a7, .int 0, .ref a8, .ref a9, .ref a10, .ref a11, .int 0, .ref a12, .int 0, .ref a13, .ref a14, .null, .null, .null, .null, .null, .null, .null, .null]) (fs' := [.int 0, .ref a1, .ref a2, .ref a3, .ref a4, .ref a5, .ref a6, .int 0, .int 10, .int 0, .ref a7, .int 0, .ref a8, .ref a9, .ref a10, .ref a11, .int 0, .ref a12, .int 0, .ref a13, .ref a14, .ref a15, .null, .null, .null, .null, .null, .null, .null]) hx hb hts in_X6_init_X6 tyX6 tyX6_ok nmX6 hown hK hH 0 (by decide) rfl rfl 21 (by decide) (hts (.fieldLink RX6 57 "StationLineModel" "needs" "[I") (List.mem_of_getElem? (i := 21) rfl)) rfl hin rfl (by decide +kernel) rfl rfl (Nat.le_of_ble_eq_true rfl) rfl dX6_init_140 (fun H locs hH => ?_)
  refine lv_aload_n hx hb dX6_init_143 rfl (lv_at hl 0 rfl) ?_
  refine lv_sipush (v := 1024) hx hb dX6_init_144 (by decide) ?_
  refine d_newa (atype := .int) (n := 1024) (N' := 1024) (a0 := (1024, .inl (fun _ => 0))) hx hb 0 (hts (.arrayClass .int) (List.mem_of_getElem? (i := 4) rfl)) hK hH hA rfl (fun _ => rfl) (by decide) (by decide) (by decide +kernel) (by decide +kernel) (by decide +kernel) dX6_init_147 (fun a16 H hH => ?_)
  refine d_putF2 (ci := 6) (C := RX6) (T := TX6) (Nf := 29) (ty := tyX6 22) (v := .ref a16) (fs := [.int 0, .ref a1, .ref a2, .ref a3, .ref a4, .ref a5, .ref a6, .int 0, .int 10, .int 0, .ref a7, .int 0, .ref a8, .ref a9, .ref a10, .ref a11, .int 0, .ref a12, .int 0, .ref a13, .ref a14, .ref a15, .null, .null, .null, .null, .null, .null, .null]) (fs' := [.int 0, .ref a1, .ref a2, .ref a3, .ref a4, .ref a5, .ref a6, .int 0, .int 10, .int 0, .ref a7, .int 0, .ref a8, .ref a9, .ref a10, .ref a11, .int 0, .ref a12, .int 0, .ref a13, .ref a14, .ref a15, .ref a16, .null, .null, .null, .null, .null, .null]) hx hb hts in_X6_init_X6 tyX6 tyX6_ok nmX6 hown hK hH 0 (by decide) rfl rfl 22 (by decide) (hts (.fieldLink RX6 60 "StationLineModel" "loads" "[I") (List.mem_of_getElem? (i := 22) rfl)) rfl hin rfl (by decide +kernel) rfl rfl (Nat.le_of_ble_eq_true rfl) rfl dX6_init_149 (fun H locs hH => ?_)
  refine lv_aload_n hx hb dX6_init_152 rfl (lv_at hl 0 rfl) ?_
  refine lv_bipush (v := 10) hx hb dX6_init_153 (by decide) ?_
  refine d_newa (atype := .int) (n := 10) (N' := 10) (a0 := (10, .inl (fun _ => 0))) hx hb 0 (hts (.arrayClass .int) (List.mem_of_getElem? (i := 4) rfl)) hK hH hA rfl (fun _ => rfl) (by decide) (by decide) (by decide +kernel) (by decide +kernel) (by decide +kernel) dX6_init_155 (fun a17 H hH => ?_)
  refine d_putF2 (ci := 6) (C := RX6) (T := TX6) (Nf := 29) (ty := tyX6 23) (v := .ref a17) (fs := [.int 0, .ref a1, .ref a2, .ref a3, .ref a4, .ref a5, .ref a6, .int 0, .int 10, .int 0, .ref a7, .int 0, .ref a8, .ref a9, .ref a10, .ref a11, .int 0, .ref a12, .int 0, .ref a13, .ref a14, .ref a15, .ref a16, .null, .null, .null, .null, .null, .null]) (fs' := [.int 0, .ref a1, .ref a2, .ref a3, .ref a4, .ref a5, .ref a6, .int 0, .int 10, .int 0, .ref a7, .int 0, .ref a8, .ref a9, .ref a10, .ref a11, .int 0, .ref a12, .int 0, .ref a13, .ref a14, .ref a15, .ref a16, .ref a17, .null, .null, .null, .null, .null]) hx hb hts in_X6_init_X6 tyX6 tyX6_ok nmX6 hown hK hH 0 (by decide) rfl rfl 23 (by decide) (hts (.fieldLink RX6 63 "StationLineModel" "followers" "[I") (List.mem_of_getElem? (i := 23) rfl)) rfl hin rfl (by decide +kernel) rfl rfl (Nat.le_of_ble_eq_true rfl) rfl dX6_init_157 (fun H locs hH => ?_)
  refine lv_aload_n hx hb dX6_init_160 rfl (lv_at hl 0 rfl) ?_
  refine lv_bipush (v := 10) hx hb dX6_init_161 (by decide) ?_
  refine d_newa (atype := .int) (n := 10) (N' := 10) (a0 := (10, .inl (fun _ => 0))) hx hb 0 (hts (.arrayClass .int) (List.mem_of_getElem? (i := 4) rfl)) hK hH hA rfl (fun _ => rfl) (by decide) (by decide) (by decide +kernel) (by decide +kernel) (by decide +kernel) dX6_init_163 (fun a18 H hH => ?_)
  refine d_putF2 (ci := 6) (C := RX6) (T := TX6) (Nf := 29) (ty := tyX6 24) (v := .ref a18) (fs := [.int 0, .ref a1, .ref a2, .ref a3, .ref a4, .ref a5, .ref a6, .int 0, .int 10, .int 0, .ref a7, .int 0, .ref a8, .ref a9, .ref a10, .ref a11, .int 0, .ref a12, .int 0, .ref a13, .ref a14, .ref a15, .ref a16, .ref a17, .null, .null, .null, .null, .null]) (fs' := [.int 0, .ref a1, .ref a2, .ref a3, .ref a4, .ref a5, .ref a6, .int 0, .int 10, .int 0, .ref a7, .int 0, .ref a8, .ref a9, .ref a10, .ref a11, .int 0, .ref a12, .int 0, .ref a13, .ref a14, .ref a15, .ref a16, .ref a17, .ref a18, .null, .null, .null, .null]) hx hb hts in_X6_init_X6 tyX6 tyX6_ok nmX6 hown hK hH 0 (by decide) rfl rfl 24 (by decide) (hts (.fieldLink RX6 66 "StationLineModel" "leaders" "[I") (List.mem_of_getElem? (i := 24) rfl)) rfl hin rfl (by decide +kernel) rfl rfl (Nat.le_of_ble_eq_true rfl) rfl dX6_init_165 (fun H locs hH => ?_)
  refine lv_aload_n hx hb dX6_init_168 rfl (lv_at hl 0 rfl) ?_
  refine lv_sipush (v := 11264) hx hb dX6_init_169 (by decide) ?_
  refine d_newa (atype := .long) (n := 11264) (N' := 11264) (a0 := (11264, .inr (.inl (fun _ => 0)))) hx hb 1 (hts (.arrayClass .long) (List.mem_of_getElem? (i := 25) rfl)) hK hH hA rfl (fun _ => rfl) (by decide) (by decide) (by decide +kernel) (by decide +kernel) (by decide +kernel) dX6_init_172 (fun a19 H hH => ?_)
  refine d_putF2 (ci := 6) (C := RX6) (T := TX6) (Nf := 29) (ty := tyX6 25) (v := .ref a19) (fs := [.int 0, .ref a1, .ref a2, .ref a3, .ref a4, .ref a5, .ref a6, .int 0, .int 10, .int 0, .ref a7, .int 0, .ref a8, .ref a9, .ref a10, .ref a11, .int 0, .ref a12, .int 0, .ref a13, .ref a14, .ref a15, .ref a16, .ref a17, .ref a18, .null, .null, .null, .null]) (fs' := [.int 0, .ref a1, .ref a2, .ref a3, .ref a4, .ref a5, .ref a6, .int 0, .int 10, .int 0, .ref a7, .int 0, .ref a8, .ref a9, .ref a10, .ref a11, .int 0, .ref a12, .int 0, .ref a13, .ref a14, .ref a15, .ref a16, .ref a17, .ref a18, .ref a19, .null, .null, .null]) hx hb hts in_X6_init_X6 tyX6 tyX6_ok nmX6 hown hK hH 0 (by decide) rfl rfl 25 (by decide) (hts (.fieldLink RX6 69 "StationLineModel" "ways" "[J") (List.mem_of_getElem? (i := 26) rfl)) rfl hin rfl (by decide +kernel) rfl rfl (Nat.le_of_ble_eq_true rfl) rfl dX6_init_174 (fun H locs hH => ?_)
  refine lv_aload_n hx hb dX6_init_177 rfl (lv_at hl 0 rfl) ?_
  refine lv_sipush (v := 11264) hx hb dX6_init_178 (by decide) ?_
  refine d_newa (atype := .long) (n := 11264) (N' := 11264) (a0 := (11264, .inr (.inl (fun _ => 0)))) hx hb 1 (hts (.arrayClass .long) (List.mem_of_getElem? (i := 25) rfl)) hK hH hA rfl (fun _ => rfl) (by decide) (by decide) (by decide +kernel) (by decide +kernel) (by decide +kernel) dX6_init_181 (fun a20 H hH => ?_)
  refine d_putF2 (ci := 6) (C := RX6) (T := TX6) (Nf := 29) (ty := tyX6 26) (v := .ref a20) (fs := [.int 0, .ref a1, .ref a2, .ref a3, .ref a4, .ref a5, .ref a6, .int 0, .int 10, .int 0, .ref a7, .int 0, .ref a8, .ref a9, .ref a10, .ref a11, .int 0, .ref a12, .int 0, .ref a13, .ref a14, .ref a15, .ref a16, .ref a17, .ref a18, .ref a19, .null, .null, .null]) (fs' := [.int 0, .ref a1, .ref a2, .ref a3, .ref a4, .ref a5, .ref a6, .int 0, .int 10, .int 0, .ref a7, .int 0, .ref a8, .ref a9, .ref a10, .ref a11, .int 0, .ref a12, .int 0, .ref a13, .ref a14, .ref a15, .ref a16, .ref a17, .ref a18, .ref a19, .ref a20, .null, .null]) hx hb hts in_X6_init_X6 tyX6 tyX6_ok nmX6 hown hK hH 0 (by decide) rfl rfl 26 (by decide) (hts (.fieldLink RX6 73 "StationLineModel" "least" "[J") (List.mem_of_getElem? (i := 27) rfl)) rfl hin rfl (by decide +kernel) rfl rfl (Nat.le_of_ble_eq_true rfl) rfl dX6_init_183 (fun H locs hH => ?_)
  refine lv_aload_n hx hb dX6_init_186 rfl (lv_at hl 0 rfl) ?_
  refine lv_bipush (v := 10) hx hb dX6_init_187 (by decide) ?_
  refine d_newa (atype := .int) (n := 10) (N' := 10) (a0 := (10, .inl (fun _ => 0))) hx hb 0 (hts (.arrayClass .int) (List.mem_of_getElem? (i := 4) rfl)) hK hH hA rfl (fun _ => rfl) (by decide) (by decide) (by decide +kernel) (by decide +kernel) (by decide +kernel) dX6_init_189 (fun a21 H hH => ?_)
  refine d_putF2 (ci := 6) (C := RX6) (T := TX6) (Nf := 29) (ty := tyX6 27) (v := .ref a21) (fs := [.int 0, .ref a1, .ref a2, .ref a3, .ref a4, .ref a5, .ref a6, .int 0, .int 10, .int 0, .ref a7, .int 0, .ref a8, .ref a9, .ref a10, .ref a11, .int 0, .ref a12, .int 0, .ref a13, .ref a14, .ref a15, .ref a16, .ref a17, .ref a18, .ref a19, .ref a20, .null, .null]) (fs' := [.int 0, .ref a1, .ref a2, .ref a3, .ref a4, .ref a5, .ref a6, .int 0, .int 10, .int 0, .ref a7, .int 0, .ref a8, .ref a9, .ref a10, .ref a11, .int 0, .ref a12, .int 0, .ref a13, .ref a14, .ref a15, .ref a16, .ref a17, .ref a18, .ref a19, .ref a20, .ref a21, .null]) hx hb hts in_X6_init_X6 tyX6 tyX6_ok nmX6 hown hK hH 0 (by decide) rfl rfl 27 (by decide) (hts (.fieldLink RX6 76 "StationLineModel" "trial" "[I") (List.mem_of_getElem? (i := 28) rfl)) rfl hin rfl (by decide +kernel) rfl rfl (Nat.le_of_ble_eq_true rfl) rfl dX6_init_191 (fun H locs hH => ?_)
  refine lv_aload_n hx hb dX6_init_194 rfl (lv_at hl 0 rfl) ?_
  refine lv_iconst (v := 3) hx hb dX6_init_195 (by decide) ?_
  refine d_newa (atype := .int) (n := 3) (N' := 3) (a0 := (3, .inl (fun _ => 0))) hx hb 0 (hts (.arrayClass .int) (List.mem_of_getElem? (i := 4) rfl)) hK hH hA rfl (fun _ => rfl) (by decide) (by decide) (by decide +kernel) (by decide +kernel) (by decide +kernel) dX6_init_196 (fun a22 H hH => ?_)
  refine d_putF2 (ci := 6) (C := RX6) (T := TX6) (Nf := 29) (ty := tyX6 28) (v := .ref a22) (fs := [.int 0, .ref a1, .ref a2, .ref a3, .ref a4, .ref a5, .ref a6, .int 0, .int 10, .int 0, .ref a7, .int 0, .ref a8, .ref a9, .ref a10, .ref a11, .int 0, .ref a12, .int 0, .ref a13, .ref a14, .ref a15, .ref a16, .ref a17, .ref a18, .ref a19, .ref a20, .ref a21, .null]) (fs' := [.int 0, .ref a1, .ref a2, .ref a3, .ref a4, .ref a5, .ref a6, .int 0, .int 10, .int 0, .ref a7, .int 0, .ref a8, .ref a9, .ref a10, .ref a11, .int 0, .ref a12, .int 0, .ref a13, .ref a14, .ref a15, .ref a16, .ref a17, .ref a18, .ref a19, .ref a20, .ref a21, .ref a22]) hx hb hts in_X6_init_X6 tyX6 tyX6_ok nmX6 hown hK hH 0 (by decide) rfl rfl 28 (by decide) (hts (.fieldLink RX6 79 "StationLineModel" "some" "[I") (List.mem_of_getElem? (i := 29) rfl)) rfl hin rfl (by decide +kernel) rfl rfl (Nat.le_of_ble_eq_true rfl) rfl dX6_init_198 (fun H locs hH => ?_)
  refine lv_iconst (v := 0) hx hb dX6_init_201 (by decide) ?_
  refine lv_istore_n (lv' := [(1, .int 0), (0, .ref h0)]) hx hb dX6_init_202 rfl hl (by decide) rfl (fun ls hl => ?_)
  refine lv_iload_n hx hb dX6_init_203 rfl (lv_at hl 0 rfl) ?_
  refine lv_iconst (v := 4) hx hb dX6_init_204 (by decide) ?_
  refine lv_icmp_ge (tgt := 221) hx hb dX6_init_205 (by decide) (fun c0 => absurd c0 (by decide)) (fun _ => ?_)
  refine lv_aload_n hx hb dX6_init_208 rfl (lv_at hl 1 rfl) ?_
  refine d_get (ci := 6) (C := RX6) (T := TX6) (Nf := 29) (v := .ref a10) hx hb hts in_X6_init_X6 hown hK hH 0 (by decide) rfl rfl 14 (by decide) (hts (.fieldLink RX6 41 "StationLineModel" "sheetSize" "[I") (List.mem_of_getElem? (i := 15) rfl)) rfl dX6_init_209 ?_
  refine lv_iload_n hx hb dX6_init_212 rfl (lv_at hl 0 rfl) ?_
  refine lv_iconst (v := (-1)) hx hb dX6_init_213 (by decide) ?_
  refine d_iast hx hb hK hH 10 (by decide) rfl (by unfold vp_in; decide) dX6_init_214 (fun H locs hH => ?_)
  refine lv_iinc (v := 1) (lv' := [(1, .int 1), (0, .ref h0)]) hx hb dX6_init_215 hl (k := 0) rfl (by decide) (by decide) rfl (fun ls hl => ?_)
  refine lv_goto (tgt := 203) hx hb dX6_init_218 (by decide) ?_
  refine lv_iload_n hx hb dX6_init_203 rfl (lv_at hl 0 rfl) ?_
  refine lv_iconst (v := 4) hx hb dX6_init_204 (by decide) ?_
  refine lv_icmp_ge (tgt := 221) hx hb dX6_init_205 (by decide) (fun c0 => absurd c0 (by decide)) (fun _ => ?_)
  refine lv_aload_n hx hb dX6_init_208 rfl (lv_at hl 1 rfl) ?_
  refine d_get (ci := 6) (C := RX6) (T := TX6) (Nf := 29) (v := .ref a10) hx hb hts in_X6_init_X6 hown hK hH 0 (by decide) rfl rfl 14 (by decide) (hts (.fieldLink RX6 41 "StationLineModel" "sheetSize" "[I") (List.mem_of_getElem? (i := 15) rfl)) rfl dX6_init_209 ?_
  refine lv_iload_n hx hb dX6_init_212 rfl (lv_at hl 0 rfl) ?_
  refine lv_iconst (v := (-1)) hx hb dX6_init_213 (by decide) ?_
  refine d_iast hx hb hK hH 10 (by decide) rfl (by unfold vp_in; decide) dX6_init_214 (fun H locs hH => ?_)
  refine lv_iinc (v := 2) (lv' := [(1, .int 2), (0, .ref h0)]) hx hb dX6_init_215 hl (k := 0) rfl (by decide) (by decide) rfl (fun ls hl => ?_)
  refine lv_goto (tgt := 203) hx hb dX6_init_218 (by decide) ?_
  refine lv_iload_n hx hb dX6_init_203 rfl (lv_at hl 0 rfl) ?_
  refine lv_iconst (v := 4) hx hb dX6_init_204 (by decide) ?_
  refine lv_icmp_ge (tgt := 221) hx hb dX6_init_205 (by decide) (fun c0 => absurd c0 (by decide)) (fun _ => ?_)
  refine lv_aload_n hx hb dX6_init_208 rfl (lv_at hl 1 rfl) ?_
  refine d_get (ci := 6) (C := RX6) (T := TX6) (Nf := 29) (v := .ref a10) hx hb hts in_X6_init_X6 hown hK hH 0 (by decide) rfl rfl 14 (by decide) (hts (.fieldLink RX6 41 "StationLineModel" "sheetSize" "[I") (List.mem_of_getElem? (i := 15) rfl)) rfl dX6_init_209 ?_
  refine lv_iload_n hx hb dX6_init_212 rfl (lv_at hl 0 rfl) ?_
  refine lv_iconst (v := (-1)) hx hb dX6_init_213 (by decide) ?_
  refine d_iast hx hb hK hH 10 (by decide) rfl (by unfold vp_in; decide) dX6_init_214 (fun H locs hH => ?_)
  refine lv_iinc (v := 3) (lv' := [(1, .int 3), (0, .ref h0)]) hx hb dX6_init_215 hl (k := 0) rfl (by decide) (by decide) rfl (fun ls hl => ?_)
  refine lv_goto (tgt := 203) hx hb dX6_init_218 (by decide) ?_
  refine lv_iload_n hx hb dX6_init_203 rfl (lv_at hl 0 rfl) ?_
  refine lv_iconst (v := 4) hx hb dX6_init_204 (by decide) ?_
  refine lv_icmp_ge (tgt := 221) hx hb dX6_init_205 (by decide) (fun c0 => absurd c0 (by decide)) (fun _ => ?_)
  refine lv_aload_n hx hb dX6_init_208 rfl (lv_at hl 1 rfl) ?_
  refine d_get (ci := 6) (C := RX6) (T := TX6) (Nf := 29) (v := .ref a10) hx hb hts in_X6_init_X6 hown hK hH 0 (by decide) rfl rfl 14 (by decide) (hts (.fieldLink RX6 41 "StationLineModel" "sheetSize" "[I") (List.mem_of_getElem? (i := 15) rfl)) rfl dX6_init_209 ?_
  refine lv_iload_n hx hb dX6_init_212 rfl (lv_at hl 0 rfl) ?_
  refine lv_iconst (v := (-1)) hx hb dX6_init_213 (by decide) ?_
  refine d_iast hx hb hK hH 10 (by decide) rfl (by unfold vp_in; decide) dX6_init_214 (fun H locs hH => ?_)
  refine lv_iinc (v := 4) (lv' := [(1, .int 4), (0, .ref h0)]) hx hb dX6_init_215 hl (k := 0) rfl (by decide) (by decide) rfl (fun ls hl => ?_)
  refine lv_goto (tgt := 203) hx hb dX6_init_218 (by decide) ?_
  refine lv_iload_n hx hb dX6_init_203 rfl (lv_at hl 0 rfl) ?_
  refine lv_iconst (v := 4) hx hb dX6_init_204 (by decide) ?_
  refine lv_icmp_ge (tgt := 221) hx hb dX6_init_205 (by decide) (fun _ => ?_) (fun c0 => absurd c0 (by decide))
  have hH := dH_to (f' := fX6 cy  (va_up (va_up (va_up (va_up (va_up (va_up (va_up (va_up (va_up (va_up (va_up (va_up (va_up (va_up (va_up (va_up (va_up (va_up (va_up (va_up (va_up (va_up (fun _ => h0) 1 a1) 2 a2) 3 a3) 4 a4) 5 a5) 6 a6) 7 a7) 8 a8) 9 a9) 10 a10) 11 a11) 12 a12) 13 a13) 14 a14) 15 a15) 16 a16) 17 a17) 18 a18) 19 a19) 20 a20) 21 a21) 22 a22) (fun _ => 0)) hH (fun k hk => match k, hk with
    | 0, _ => rfl
    | 1, _ => rfl
    | 2, _ => rfl
    | 3, _ => rfl
    | 4, _ => rfl
    | 5, _ => rfl
    | 6, _ => rfl
    | 7, _ => rfl
    | 8, _ => rfl
    | 9, _ => rfl
    | 10, _ => rfl
    | 11, _ => rfl
    | 12, _ => rfl
    | 13, _ => rfl
    | 14, _ => rfl
    | 15, _ => rfl
    | 16, _ => rfl
    | 17, _ => rfl
    | 18, _ => rfl
    | 19, _ => rfl
    | 20, _ => rfl
    | 21, _ => rfl
    | 22, _ => rfl
    | k + 23, h => absurd h (by omega))
  refine W.widen (k := 22) (n := 26185) (Nat.le_of_ble_eq_true rfl) (Nat.le_of_ble_eq_true rfl) ?_
  exact d_vret hx hb hr hlocks (⟨(va_up (va_up (va_up (va_up (va_up (va_up (va_up (va_up (va_up (va_up (va_up (va_up (va_up (va_up (va_up (va_up (va_up (va_up (va_up (va_up (va_up (va_up (fun _ => h0) 1 a1) 2 a2) 3 a3) 4 a4) 5 a5) 6 a6) 7 a7) 8 a8) 9 a9) 10 a10) 11 a11) 12 a12) 13 a13) 14 a14) 15 a15) 16 a16) 17 a17) 18 a18) 19 a19) 20 a20) 21 a21) 22 a22), (fun _ => 0)⟩ : (Nat → Nat) × (Nat → Int32)) trivial (fun t ht => ⟨rfl, by rw [ht]; exact hH.1, hH.2.1⟩) hH.2.2 dX6_init_221
