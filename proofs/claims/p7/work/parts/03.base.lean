/-! BASE: worlds of a fixed number N of cells at addresses q 0 .. q (N-1), whose contents are given by a value z (numbers, int rows, long rows). -/
abbrev zS : Type := (Nat → Int32) × (Nat → Nat → Int32) × (Nat → Nat → Int64)
def upS (z : zS) (k : Nat) (v : Int32) : zS := (va_up z.1 k v, z.2.1, z.2.2)
def upA (z : zS) (k : Nat) (f : Nat → Int32) : zS := (z.1, va_up z.2.1 k f, z.2.2)
def upL (z : zS) (k : Nat) (f : Nat → Int64) : zS := (z.1, z.2.1, va_up z.2.2 k f)
abbrev bN : Type := (Nat → Nat) → zS → Nat → va_E
def bW (N : Nat) (en : bN) (q : Nat → Nat) (z : zS) : va_W := (List.range N).map (fun k => (q k, en q z k))
def bA (N : Nat) (q : Nat → Nat) (sz : Nat) : Nat → Prop := fun a => (∃ k, k < N ∧ a = q k) ∨ sz ≤ a
def bJ (N : Nat) (q : Nat → Nat) : Prop := ∀ i j : Nat, i < N → j < N → q i = q j → i = j
abbrev bT (cy : Nat → ClassId) : List (ClassId × FieldType) := [(cy 0, .int), (cy 1, .long), (cy 2, .boolean), (cy 3, .array .int), (cy 4, .array .long)]
abbrev bK (D : va_G) (cy : Nat → ClassId) (U : State) : Prop := va_K D vwCl (bT cy) U
theorem bW_at {N : Nat} {en : bN} {q : Nat → Nat} {z : zS} {k : Nat} (hk : k < N) : (bW N en q z)[k]? = some (q k, en q z k) := by
  simp [bW, List.getElem?_map, List.getElem?_range hk]
theorem bW_len {N : Nat} {en : bN} {q : Nat → Nat} {z : zS} : (bW N en q z).length = N := by simp [bW]
theorem bW_lt {N : Nat} {en : bN} {q : Nat → Nat} {z : zS} {k : Nat} {x : Nat × va_E} (h : (bW N en q z)[k]? = some x) : k < N ∧ x = (q k, en q z k) := by
  have hl := (List.getElem?_eq_some_iff.mp h).1
  rw [bW_len] at hl
  rw [bW_at hl] at h
  exact ⟨hl, (Option.some.inj h).symm⟩
theorem bW_set {N : Nat} {en : bN} {q : Nat → Nat} {z z' : zS} {k : Nat} {x : va_E} (hk : k < N) (hx : en q z' k = x) (he : ∀ i, i < N → i ≠ k → en q z' i = en q z i) : (bW N en q z).set k (q k, x) = bW N en q z' := by
  subst hx
  refine List.ext_getElem? (fun i => ?_)
  by_cases hi : i < N
  · rw [bW_at hi]
    by_cases e : i = k
    · subst e
      rw [List.getElem?_set_self (by rw [bW_len]; exact hk)]
    · rw [List.getElem?_set_ne (fun h => e h.symm), bW_at hi, he i hi e]
  · rw [List.getElem?_eq_none (by rw [List.length_set, bW_len]; omega), List.getElem?_eq_none (by rw [bW_len]; omega)]
theorem bD_of {N : Nat} {en : bN} {q : Nat → Nat} {z : zS} {sz : Nat} (hq : bJ N q) : va_D (bA N q sz) (bW N en q z) := by
  refine ⟨fun i j x y hi hj h => ?_, fun k x hk => ?_⟩
  · obtain ⟨h1, rfl⟩ := bW_lt hi
    obtain ⟨h2, rfl⟩ := bW_lt hj
    exact hq i j h1 h2 h
  · obtain ⟨h1, rfl⟩ := bW_lt hk
    exact Or.inl ⟨k, h1, rfl⟩
def bH (D : va_G) (N : Nat) (en : bN) (q : Nat → Nat) (z : zS) (H0 H : Heap) (locs : List Loc) : Prop := va_P D vwCl (bW N en q z) H ∧ bJ N q ∧ va_S (bA N q H0.size) H0 H locs
/-- the links of private statics across the nest -/
def bZ (U : State) : Prop := va_Nw (.methodLinkNest RX0 91 yX5_takenUp RX5) U ∧ va_Nw (.methodLinkNest RX3 66 yX5_takenUp RX5) U
theorem bZ_warm {s U : State} (hW : s.WarmedH U.vm) (h : bZ s) : bZ U := ⟨va_Nw.warmM hW h.1, va_Nw.warmM hW h.2⟩
theorem bZ_same {s U : State} (hv : s.vm = U.vm) (h : bZ s) : bZ U := ⟨va_Nw.same rfl hv h.1, va_Nw.same rfl hv h.2⟩
def bPre (D : va_G) (cy : Nat → ClassId) (N : Nat) (en : bN) (q : Nat → Nat) (z : zS) (sz : Nat) : State → Prop := fun U => U.heap.size = sz ∧ va_P D vwCl (bW N en q z) U.heap ∧ bK D cy U ∧ bZ U
def bPos (D : va_G) (N : Nat) (en : bN) (q : Nat → Nat) (z : zS) (t : State) : Prop := va_P D vwCl (bW N en q z) t.heap
def bCi (l : Launch) (y : MethodName) (ws : List Cond) (rm : Room) (D : va_G) (cy : Nat → ClassId) (N : Nat) (en : bN) (q : Nat → Nat) (z : zS) (av : List Value) (post : Int32 → zS → Prop) : Prop := ∀ sz : Nat, Met l y ws rm (va_Pc av (bPre D cy N en q z sz)) (va_Qi post (bPos D N en q) (bA N q sz)) 0 0 (bA N q sz)
def bCl (l : Launch) (y : MethodName) (ws : List Cond) (rm : Room) (D : va_G) (cy : Nat → ClassId) (N : Nat) (en : bN) (q : Nat → Nat) (z : zS) (av : List Value) (post : Int64 → zS → Prop) : Prop := ∀ sz : Nat, Met l y ws rm (va_Pc av (bPre D cy N en q z sz)) (va_Ql post (bPos D N en q) (bA N q sz)) 0 0 (bA N q sz)
def bCv (l : Launch) (y : MethodName) (ws : List Cond) (rm : Room) (D : va_G) (cy : Nat → ClassId) (N : Nat) (en : bN) (q : Nat → Nat) (z : zS) (av : List Value) (post : zS → Prop) : Prop := ∀ sz : Nat, Met l y ws rm (va_Pc av (bPre D cy N en q z sz)) (va_Qv post (bPos D N en q) (bA N q sz)) 0 0 (bA N q sz)
theorem bBlind {D : va_G} {cy : Nat → ClassId} {N : Nat} {en : bN} {q : Nat → Nat} {z : zS} {sz : Nat} {av : List Value} : FrameBlind (va_Pc av (bPre D cy N en q z sz)) := fun a U g mk h => by
  obtain ⟨h0, h1, h2, h3, h4⟩ := h
  exact ⟨h0, h1, h2, va_K.moved (u := U) (U := U.calling g mk a) (Vm.Alike.refl U.vm) h3, bZ_same (s := U) (U := U.calling g mk a) rfl h4⟩
section WB
variable {p : Program} {l : Launch} {e : Env} {R : Room} {s : State} {m : MethodId} {args : Array Value} {below : List Frame} {meth : Method} {c : Code} {H : Heap} {locs : List Loc} {cells slots : Nat} {Q : State → Prop}
variable {cc : ByteArray} {pc : Nat} {ls : Array Slot} {rest st0 : List Value} {D : va_G} {cy : Nat → ClassId} {H0 : Heap} {N : Nat} {en : bN} {q : Nat → Nat} {z : zS}
theorem bH_in (hq : bJ N q) (hP : va_P D vwCl (bW N en q z) H) : bH D N en q z H H [] := ⟨hP, hq, va_S.rf⟩
theorem bH_D (hH : bH D N en q z H0 H locs) : va_D (bA N q H0.size) (bW N en q z) := bD_of hH.2.1
theorem b_iald (hx : p.tables.exec = Jvm.exec) (hb : c.code = cc) (hK : bK D cy s) (hH : bH D N en q z H0 H locs) (k : Nat) {n : Nat} {f : Nat → Int32} (hk : k < N) (he : en q z k = .inl (cy 0, n, .inl f)) {i v : Int32} (hin : vp_in i n) (hv : f i.toNatClampNeg = v) (hdg : decode cc pc = .ok (.iaload, 1))
    (kk : W p l e R s m args below meth c H locs cells slots Q (F0 m (pc + 1) ls (.int v :: rest))) : W p l e R s m args below meth c H locs cells slots Q (F0 m pc ls (.int i :: .ref (q k) :: rest)) := by
  subst hv
  exact va_iald hx hb hK hH.1 k 0 (by rw [bW_at hk, he]) rfl hin hdg kk
theorem b_zald (hx : p.tables.exec = Jvm.exec) (hb : c.code = cc) (hK : bK D cy s) (hH : bH D N en q z H0 H locs) (k : Nat) {n : Nat} {f : Nat → Int32} (hk : k < N) (he : en q z k = .inl (cy 2, n, .inl f)) {i v : Int32} (hin : vp_in i n) (hv : f i.toNatClampNeg = v) (hdg : decode cc pc = .ok (.baload, 1))
    (kk : W p l e R s m args below meth c H locs cells slots Q (F0 m (pc + 1) ls (.int v :: rest))) : W p l e R s m args below meth c H locs cells slots Q (F0 m pc ls (.int i :: .ref (q k) :: rest)) := by
  subst hv
  exact va_zald hx hb hK hH.1 k 2 (by rw [bW_at hk, he]) rfl hin hdg kk
theorem b_lald (hx : p.tables.exec = Jvm.exec) (hb : c.code = cc) (hK : bK D cy s) (hH : bH D N en q z H0 H locs) (k : Nat) {n : Nat} {f : Nat → Int64} (hk : k < N) (he : en q z k = .inl (cy 1, n, .inr (.inl f))) {i : Int32} {v : Int64} (hin : vp_in i n) (hv : f i.toNatClampNeg = v) (hdg : decode cc pc = .ok (.laload, 1))
    (kk : W p l e R s m args below meth c H locs cells slots Q (F0 m (pc + 1) ls (.long v :: rest))) : W p l e R s m args below meth c H locs cells slots Q (F0 m pc ls (.int i :: .ref (q k) :: rest)) := by
  subst hv
  exact va_lald hx hb hK hH.1 k 1 (by rw [bW_at hk, he]) rfl hin hdg kk
theorem b_aald (hx : p.tables.exec = Jvm.exec) (hb : c.code = cc) (hK : bK D cy s) (hH : bH D N en q z H0 H locs) (k t0 : Nat) {n cA : Nat} {ty : FieldType} {f : Nat → Option Nat} (hk : k < N) (he : en q z k = .inl (cA, n, .inr (.inr (.inr (.inr f))))) (ht : (bT cy)[t0]? = some (cA, .array ty)) {i : Int32} {a : Nat} (hin : vp_in i n) (hv : f i.toNatClampNeg = some a) (hdg : decode cc pc = .ok (.aaload, 1))
    (kk : W p l e R s m args below meth c H locs cells slots Q (F0 m (pc + 1) ls (.ref a :: rest))) : W p l e R s m args below meth c H locs cells slots Q (F0 m pc ls (.int i :: .ref (q k) :: rest)) := by
  have hlt : i.toNatClampNeg < n := Nat.not_le.mp fun q => hin (Or.inr q)
  have hc : H[q k]? = some (vp_cell cA (n, .inr (.inr (.inr (.inr f))))) := hH.1 k (q k, .inl (cA, n, .inr (.inr (.inr (.inr f))))) (by rw [bW_at hk, he])
  rw [vp_cell_q] at hc
  exact W.aald (v := .ref a) (ty := .array ty) hx hb hc ((hK.2 t0 _ ht).1 n (fun j => va_rf (f j))) rfl (fun q => by cases q) (by rw [arrV_size]; exact hin) (by rw [arrV_read _ _ hlt, hv]; rfl) rfl rfl hdg kk
theorem b_iast (hx : p.tables.exec = Jvm.exec) (hb : c.code = cc) (hK : bK D cy s) (hH : bH D N en q z H0 H locs) (k : Nat) {n : Nat} {f : Nat → Int32} (hk : k < N) (he : en q z k = .inl (cy 0, n, .inl f)) {i x : Int32} (hin : vp_in i n) (z' : zS) (hz : en q z' k = .inl (cy 0, n, .inl (upd f i.toNatClampNeg x))) (ho : ∀ j, j < N → j ≠ k → en q z' j = en q z j) (hdg : decode cc pc = .ok (.iastore, 1))
    (kk : ∀ (H1 : Heap) (locs1 : List Loc), bH D N en q z' H0 H1 locs1 → W p l e R s m args below meth c H1 locs1 cells slots Q (F0 m (pc + 1) ls rest)) : W p l e R s m args below meth c H locs cells slots Q (F0 m pc ls (.int x :: .int i :: .ref (q k) :: rest)) := by
  refine va_iast hx hb hK hH.1 (bH_D hH) hH.2.2 k 0 (by rw [bW_at hk, he]) rfl hin hdg (fun H1 locs1 hP _ hS => kk H1 locs1 ⟨?_, hH.2.1, hS⟩)
  rw [bW_set hk hz ho] at hP
  exact hP
theorem b_zast (hx : p.tables.exec = Jvm.exec) (hb : c.code = cc) (hK : bK D cy s) (hH : bH D N en q z H0 H locs) (k : Nat) {n : Nat} {f : Nat → Int32} (hk : k < N) (he : en q z k = .inl (cy 2, n, .inl f)) {i x : Int32} (hin : vp_in i n) (z' : zS) (hz : en q z' k = .inl (cy 2, n, .inl (upd f i.toNatClampNeg (vp_nar .boolean x)))) (ho : ∀ j, j < N → j ≠ k → en q z' j = en q z j) (hdg : decode cc pc = .ok (.bastore, 1))
    (kk : ∀ (H1 : Heap) (locs1 : List Loc), bH D N en q z' H0 H1 locs1 → W p l e R s m args below meth c H1 locs1 cells slots Q (F0 m (pc + 1) ls rest)) : W p l e R s m args below meth c H locs cells slots Q (F0 m pc ls (.int x :: .int i :: .ref (q k) :: rest)) := by
  refine va_zast hx hb hK hH.1 (bH_D hH) hH.2.2 k 2 (by rw [bW_at hk, he]) rfl hin hdg (fun H1 locs1 hP _ hS => kk H1 locs1 ⟨?_, hH.2.1, hS⟩)
  rw [bW_set hk hz ho] at hP
  exact hP
theorem b_last (hx : p.tables.exec = Jvm.exec) (hb : c.code = cc) (hK : bK D cy s) (hH : bH D N en q z H0 H locs) (k : Nat) {n : Nat} {f : Nat → Int64} (hk : k < N) (he : en q z k = .inl (cy 1, n, .inr (.inl f))) {i : Int32} {x : Int64} (hin : vp_in i n) (z' : zS) (hz : en q z' k = .inl (cy 1, n, .inr (.inl (vp_updL f i.toNatClampNeg x)))) (ho : ∀ j, j < N → j ≠ k → en q z' j = en q z j) (hdg : decode cc pc = .ok (.lastore, 1))
    (kk : ∀ (H1 : Heap) (locs1 : List Loc), bH D N en q z' H0 H1 locs1 → W p l e R s m args below meth c H1 locs1 cells slots Q (F0 m (pc + 1) ls rest)) : W p l e R s m args below meth c H locs cells slots Q (F0 m pc ls (.long x :: .int i :: .ref (q k) :: rest)) := by
  refine va_last hx hb hK hH.1 (bH_D hH) hH.2.2 k 1 (by rw [bW_at hk, he]) rfl hin hdg (fun H1 locs1 hP _ hS => kk H1 locs1 ⟨?_, hH.2.1, hS⟩)
  rw [bW_set hk hz ho] at hP
  exact hP
theorem b_alen (hx : p.tables.exec = Jvm.exec) (hb : c.code = cc) (hK : bK D cy s) (hH : bH D N en q z H0 H locs) (k t0 : Nat) {cA : ClassId} {x : vp_A} (hk : k < N) (he : en q z k = .inl (cA, x)) {ty : FieldType} (ht : (bT cy)[t0]? = some (cA, ty)) {v : Int32} (hv : Int32.ofNat x.1 = v) (hdg : decode cc pc = .ok (.arraylength, 1))
    (kk : W p l e R s m args below meth c H locs cells slots Q (F0 m (pc + 1) ls (.int v :: rest))) : W p l e R s m args below meth c H locs cells slots Q (F0 m pc ls (.ref (q k) :: rest)) :=
  va_alen hx hb hK hH.1 k t0 (by rw [bW_at hk, he]) ht hv hdg kk
theorem b_get (hx : p.tables.exec = Jvm.exec) (hb : c.code = cc) {own C : String} {T : u_T} {Nf ci index : Nat} {Ts : List Cond} (hts : ∀ w ∈ Ts, w.before args s = true) (hin : ∀ w ∈ u_ws C T Nf, w ∈ Ts) (hown : s.vm.findClass own = some m.cls) (hK : bK D cy s) (hH : bH D N en q z H0 H locs) (k : Nat) {fs : List Value} (hk : k < N) (he : en q z k = .inr (ci, fs)) (hc : vwCl[ci]? = some (C, T, Nf)) (j : Nat) (hj : j < Nf) (hlink : (Cond.fieldLink own index (T j).1 (T j).2.1 (T j).2.2.1).before args s = true) {v : Value} (hv : fs[j]? = some v) (hdg : decode cc pc = .ok (.getfield index, 3))
    (kk : W p l e R s m args below meth c H locs cells slots Q (F0 m (pc + 3) ls (v :: rest))) : W p l e R s m args below meth c H locs cells slots Q (F0 m pc ls (.ref (q k) :: rest)) :=
  va_get hx hb hts hin hown hK hH.1 k (by rw [bW_at hk, he]) hc j hj hlink (fun _ h => h) hv hdg kk
theorem b_put (hx : p.tables.exec = Jvm.exec) (hb : c.code = cc) {own C : String} {T : u_T} {Nf ci index : Nat} {Ts : List Cond} (hts : ∀ w ∈ Ts, w.before args s = true) (hin : ∀ w ∈ u_ws C T Nf, w ∈ Ts) (ty0 : Nat → FieldType) (hty : ∀ k, k < Nf → parseFieldDescriptor (T k).2.2.1 = some (ty0 k)) (hnm : ∀ a, a < Nf → ∀ b, b < Nf → a ≠ b → (T a).2.1 ≠ (T b).2.1) (hown : s.vm.findClass own = some m.cls) (hK : bK D cy s) (hH : bH D N en q z H0 H locs) (k : Nat) {fs : List Value} (hk : k < N) (he : en q z k = .inr (ci, fs)) (hc : vwCl[ci]? = some (C, T, Nf)) (j : Nat) (hj : j < Nf) (hlink : (Cond.fieldLink own index (T j).1 (T j).2.1 (T j).2.2.1).before args s = true) (hfin : (T j).2.2.2 = false) {ty : FieldType} {v : Value} (hd : parseFieldDescriptor (T j).2.2.1 = some ty) (hn : narrow ty v = v) (hfit : fits ty v = true) (hl : j < fs.length)
    (z' : zS) (hz : en q z' k = .inr (ci, fs.set j v)) (ho : ∀ j, j < N → j ≠ k → en q z' j = en q z j) (hdg : decode cc pc = .ok (.putfield index, 3))
    (kk : ∀ (H1 : Heap) (locs1 : List Loc), bH D N en q z' H0 H1 locs1 → W p l e R s m args below meth c H1 locs1 cells slots Q (F0 m (pc + 3) ls rest)) : W p l e R s m args below meth c H locs cells slots Q (F0 m pc ls (v :: .ref (q k) :: rest)) := by
  refine va_put hx hb hts hin ty0 hty hnm hown hK hH.1 (bH_D hH) hH.2.2 k (by rw [bW_at hk, he]) hc j hj hlink (fun _ h => h) hfin hd hn hfit hl hdg (fun H1 locs1 hP _ hS => kk H1 locs1 ⟨?_, hH.2.1, hS⟩)
  rw [bW_set hk hz ho] at hP
  exact hP
theorem b_iret (hx : p.tables.exec = Jvm.exec) (hb : c.code = cc) (hr : meth.sig.returnType = some .int) (hlocks : meth.locks = false) {post : Int32 → zS → Prop} {v : Int32} (hH : bH D N en q z s.heap H locs) (hp : post v z) (hdg : decode cc pc = .ok (.ireturn, 1)) : W p l e R s m args below meth c H locs cells slots (MQ below (va_Qi post (bPos D N en q) (bA N q s.heap.size)) args s cells slots (bA N q s.heap.size)) (F0 m pc ls [.int v]) :=
  W.iret hx hb hr (fun t ht _ => ⟨⟨v, z, rfl, hp, by show va_P D vwCl (bW N en q z) t.heap; rw [ht]; exact hH.1⟩, hH.2.2.F ht⟩) hH.2.2.2.2 hdg hlocks
theorem b_zret (hx : p.tables.exec = Jvm.exec) (hb : c.code = cc) (hr : meth.sig.returnType = some .boolean) (hlocks : meth.locks = false) {post : Int32 → zS → Prop} {v : Int32} (hn : narrow .boolean (.int v) = .int v) (hH : bH D N en q z s.heap H locs) (hp : post v z) (hdg : decode cc pc = .ok (.ireturn, 1)) : W p l e R s m args below meth c H locs cells slots (MQ below (va_Qi post (bPos D N en q) (bA N q s.heap.size)) args s cells slots (bA N q s.heap.size)) (F0 m pc ls [.int v]) :=
  W.zret hx hb hr hn (fun t ht _ => ⟨⟨v, z, rfl, hp, by show va_P D vwCl (bW N en q z) t.heap; rw [ht]; exact hH.1⟩, hH.2.2.F ht⟩) hH.2.2.2.2 hdg hlocks
theorem b_lret (hx : p.tables.exec = Jvm.exec) (hb : c.code = cc) (hr : meth.sig.returnType = some .long) (hlocks : meth.locks = false) {post : Int64 → zS → Prop} {v : Int64} (hH : bH D N en q z s.heap H locs) (hp : post v z) (hdg : decode cc pc = .ok (.lreturn, 1)) : W p l e R s m args below meth c H locs cells slots (MQ below (va_Ql post (bPos D N en q) (bA N q s.heap.size)) args s cells slots (bA N q s.heap.size)) (F0 m pc ls [.long v]) :=
  W.lret hx hb hr (fun t ht _ => ⟨⟨v, z, rfl, hp, by show va_P D vwCl (bW N en q z) t.heap; rw [ht]; exact hH.1⟩, hH.2.2.F ht⟩) hH.2.2.2.2 hdg hlocks
theorem b_vret (hx : p.tables.exec = Jvm.exec) (hb : c.code = cc) (hr : meth.sig.returnType = none) (hlocks : meth.locks = false) {post : zS → Prop} (hH : bH D N en q z s.heap H locs) (hp : post z) (hdg : decode cc pc = .ok (.return_, 1)) : W p l e R s m args below meth c H locs cells slots (MQ below (va_Qv post (bPos D N en q) (bA N q s.heap.size)) args s cells slots (bA N q s.heap.size)) (F0 m pc ls []) :=
  W.vret hx hb hr (fun t ht _ => ⟨⟨z, rfl, hp, by show va_P D vwCl (bW N en q z) t.heap; rw [ht]; exact hH.1⟩, hH.2.2.F ht⟩) hH.2.2.2.2 hdg hlocks
theorem bA_up (hH : bH D N en q z H0 H locs) (a : Nat) (h : bA N q H.size a) : bA N q H0.size a := by
  rcases h with h | h
  · exact Or.inl h
  · exact Or.inr (Nat.le_trans hH.2.2.1 h)
theorem bRecv (hK : bK D cy s) (hH : bH D N en q z H0 H locs) {k ci : Nat} {fs : List Value} {r : vw_C} (hk : k < N) (he : en q z k = .inr (ci, fs)) (hc : vwCl[ci]? = some r) : ∃ cell : Cell, H[q k]? = some cell ∧ cell.vm.isStatics = false ∧ s.vm.findClass r.1 = some cell.cls := va_recv hK hH.1 hc (by rw [bW_at hk, he])
variable {y : MethodName} {bytes : ByteArray} {maxL nL n index : Nat} {ret : Option FieldType} {ws Ts : List Cond} {rm : Room} {own : String} {As : List Value}
theorem b_calli (S : CallFix p m c cc nL s args Ts own) (k ci : Nat) {fs : List Value} {r : vw_C} {post : Int32 → zS → Prop} (hM : bCi l y ws rm D cy N en q z (.ref (q k) :: As) post) (cw : CallW R s args own r.1 index y bytes maxL ret ws rm 0 0 n) (hK : bK D cy s) (hZ : bZ s) (hH : bH D N en q z H0 H locs) (hk : k < N) (he : en q z k = .inr (ci, fs)) (hc : vwCl[ci]? = some r) (hn : As.length = n) (hsz : ls.size = nL) (hst : st0 = As.reverse ++ .ref (q k) :: rest) (hW : (rest.map fun v => v.category).sum ≤ 8) (hf : cells ≤ R.cells ∧ slots ≤ R.slots) (hdg : decode cc pc = .ok (.invokevirtual index, 3))
    (kk : ∀ (v : Int32) (z' : zS) (H1 : Heap) (locs1 : List Loc), post v z' → bH D N en q z' H0 H1 locs1 → W p l e R s m args below meth c H1 locs1 cells slots Q (F0 m (pc + 3) ls (.int v :: rest))) : W p l e R s m args below meth c H locs cells slots Q (F0 m pc ls st0) :=
  va_calli (va_runV (As := As) (rest := rest) S (hM H.size) cw ⟨bBlind, bRecv hK hH hk he hc, fun U hU hW => ⟨rfl, by rw [hU], by rw [hU]; exact hH.1, va_K.moved hW.alike hK, bZ_warm hW hZ⟩⟩ rfl hn hsz hst (lv_room hW) hdg hf) hH.2.2 (fun a _ h => bA_up hH a h) (fun a h => bA_up hH a h) (fun v u t H1 locs1 ht _ hp hB _ _ hS => kk v u H1 locs1 hp ⟨by rw [← ht]; exact hB, hH.2.1, hS⟩)
theorem b_calll (S : CallFix p m c cc nL s args Ts own) (k ci : Nat) {fs : List Value} {r : vw_C} {post : Int64 → zS → Prop} (hM : bCl l y ws rm D cy N en q z (.ref (q k) :: As) post) (cw : CallW R s args own r.1 index y bytes maxL ret ws rm 0 0 n) (hK : bK D cy s) (hZ : bZ s) (hH : bH D N en q z H0 H locs) (hk : k < N) (he : en q z k = .inr (ci, fs)) (hc : vwCl[ci]? = some r) (hn : As.length = n) (hsz : ls.size = nL) (hst : st0 = As.reverse ++ .ref (q k) :: rest) (hW : (rest.map fun v => v.category).sum ≤ 8) (hf : cells ≤ R.cells ∧ slots ≤ R.slots) (hdg : decode cc pc = .ok (.invokevirtual index, 3))
    (kk : ∀ (v : Int64) (z' : zS) (H1 : Heap) (locs1 : List Loc), post v z' → bH D N en q z' H0 H1 locs1 → W p l e R s m args below meth c H1 locs1 cells slots Q (F0 m (pc + 3) ls (.long v :: rest))) : W p l e R s m args below meth c H locs cells slots Q (F0 m pc ls st0) :=
  va_calll (va_runV (As := As) (rest := rest) S (hM H.size) cw ⟨bBlind, bRecv hK hH hk he hc, fun U hU hW => ⟨rfl, by rw [hU], by rw [hU]; exact hH.1, va_K.moved hW.alike hK, bZ_warm hW hZ⟩⟩ rfl hn hsz hst (lv_room hW) hdg hf) hH.2.2 (fun a _ h => bA_up hH a h) (fun a h => bA_up hH a h) (fun v u t H1 locs1 ht _ hp hB _ _ hS => kk v u H1 locs1 hp ⟨by rw [← ht]; exact hB, hH.2.1, hS⟩)
theorem b_callv (S : CallFix p m c cc nL s args Ts own) (k ci : Nat) {fs : List Value} {r : vw_C} {post : zS → Prop} (hM : bCv l y ws rm D cy N en q z (.ref (q k) :: As) post) (cw : CallW R s args own r.1 index y bytes maxL ret ws rm 0 0 n) (hK : bK D cy s) (hZ : bZ s) (hH : bH D N en q z H0 H locs) (hk : k < N) (he : en q z k = .inr (ci, fs)) (hc : vwCl[ci]? = some r) (hn : As.length = n) (hsz : ls.size = nL) (hst : st0 = As.reverse ++ .ref (q k) :: rest) (hW : (rest.map fun v => v.category).sum ≤ 8) (hf : cells ≤ R.cells ∧ slots ≤ R.slots) (hdg : decode cc pc = .ok (.invokevirtual index, 3))
    (kk : ∀ (z' : zS) (H1 : Heap) (locs1 : List Loc), post z' → bH D N en q z' H0 H1 locs1 → W p l e R s m args below meth c H1 locs1 cells slots Q (F0 m (pc + 3) ls rest)) : W p l e R s m args below meth c H locs cells slots Q (F0 m pc ls st0) :=
  va_callv (va_runV (As := As) (rest := rest) S (hM H.size) cw ⟨bBlind, bRecv hK hH hk he hc, fun U hU hW => ⟨rfl, by rw [hU], by rw [hU]; exact hH.1, va_K.moved hW.alike hK, bZ_warm hW hZ⟩⟩ rfl hn hsz hst (lv_room hW) hdg hf) hH.2.2 (fun a _ h => bA_up hH a h) (fun a h => bA_up hH a h) (fun u t H1 locs1 ht _ hp hB _ _ hS => kk u H1 locs1 hp ⟨by rw [← ht]; exact hB, hH.2.1, hS⟩)
theorem b_stati (S : CallFix p m c cc nL s args Ts own) {post : Int32 → zS → Prop} (hM : bCi l y ws rm D cy N en q z As post) (cw : CallB R s args own index y bytes maxL ret ws rm 0 0 n ∧ (Cond.static y).before args s = true) (hK : bK D cy s) (hZ : bZ s) (hH : bH D N en q z H0 H locs) (hn : As.length = n) (hsz : ls.size = nL) (hst : st0 = As.reverse ++ rest) (hW : (rest.map fun v => v.category).sum ≤ 8) (hf : cells ≤ R.cells ∧ slots ≤ R.slots) (hdg : decode cc pc = .ok (.invokestatic index, 3))
    (kk : ∀ (v : Int32) (z' : zS) (H1 : Heap) (locs1 : List Loc), post v z' → bH D N en q z' H0 H1 locs1 → W p l e R s m args below meth c H1 locs1 cells slots Q (F0 m (pc + 3) ls (.int v :: rest))) : W p l e R s m args below meth c H locs cells slots Q (F0 m pc ls st0) :=
  va_calli (va_runS (As := As) (rest := rest) S (hM H.size) cw ⟨bBlind, fun U hU hW => ⟨rfl, by rw [hU], by rw [hU]; exact hH.1, va_K.moved hW.alike hK, bZ_warm hW hZ⟩⟩ rfl hn hsz hst (lv_room hW) hdg hf) hH.2.2 (fun a _ h => bA_up hH a h) (fun a h => bA_up hH a h) (fun v u t H1 locs1 ht _ hp hB _ _ hS => kk v u H1 locs1 hp ⟨by rw [← ht]; exact hB, hH.2.1, hS⟩)
theorem b_statv (S : CallFix p m c cc nL s args Ts own) {post : zS → Prop} (hM : bCv l y ws rm D cy N en q z As post) (cw : CallB R s args own index y bytes maxL ret ws rm 0 0 n ∧ (Cond.static y).before args s = true) (hK : bK D cy s) (hZ : bZ s) (hH : bH D N en q z H0 H locs) (hn : As.length = n) (hsz : ls.size = nL) (hst : st0 = As.reverse ++ rest) (hW : (rest.map fun v => v.category).sum ≤ 8) (hf : cells ≤ R.cells ∧ slots ≤ R.slots) (hdg : decode cc pc = .ok (.invokestatic index, 3))
    (kk : ∀ (z' : zS) (H1 : Heap) (locs1 : List Loc), post z' → bH D N en q z' H0 H1 locs1 → W p l e R s m args below meth c H1 locs1 cells slots Q (F0 m (pc + 3) ls rest)) : W p l e R s m args below meth c H locs cells slots Q (F0 m pc ls st0) :=
  va_callv (va_runS (As := As) (rest := rest) S (hM H.size) cw ⟨bBlind, fun U hU hW => ⟨rfl, by rw [hU], by rw [hU]; exact hH.1, va_K.moved hW.alike hK, bZ_warm hW hZ⟩⟩ rfl hn hsz hst (lv_room hW) hdg hf) hH.2.2 (fun a _ h => bA_up hH a h) (fun a h => bA_up hH a h) (fun u t H1 locs1 ht _ hp hB _ _ hS => kk u H1 locs1 hp ⟨by rw [← ht]; exact hB, hH.2.1, hS⟩)
theorem b_statN {host : String} (S : CallFix p m c cc nL s args Ts own) {post : Int32 → zS → Prop} (hM : bCi l y ws rm D cy N en q z As post) (cw : va_CN R s args own index y host bytes maxL ret ws rm 0 0 n ∧ (Cond.static y).before args s = true ∧ True) (hK : bK D cy s) (hZ : bZ s) (hH : bH D N en q z H0 H locs) (hn : As.length = n) (hsz : ls.size = nL) (hst : st0 = As.reverse ++ rest) (hW : (rest.map fun v => v.category).sum ≤ 8) (hf : cells ≤ R.cells ∧ slots ≤ R.slots) (hdg : decode cc pc = .ok (.invokestatic index, 3))
    (kk : ∀ (v : Int32) (z' : zS) (H1 : Heap) (locs1 : List Loc), post v z' → bH D N en q z' H0 H1 locs1 → W p l e R s m args below meth c H1 locs1 cells slots Q (F0 m (pc + 3) ls (.int v :: rest))) : W p l e R s m args below meth c H locs cells slots Q (F0 m pc ls st0) :=
  va_calli (va_runSN (As := As) (rest := rest) S (hM H.size) cw ⟨bBlind, fun U hU hW => ⟨rfl, by rw [hU], by rw [hU]; exact hH.1, va_K.moved hW.alike hK, bZ_warm hW hZ⟩⟩ rfl hn hsz hst (lv_room hW) hdg hf) hH.2.2 (fun a _ h => bA_up hH a h) (fun a h => bA_up hH a h) (fun v u t H1 locs1 ht _ hp hB _ _ hS => kk v u H1 locs1 hp ⟨by rw [← ht]; exact hB, hH.2.1, hS⟩)
theorem b_copyi (hx : p.tables.exec = Jvm.exec) (hb : c.code = cc) (hml : c.maxLocals = ls.size) (hown : s.vm.findClass own = some m.cls) (hlink : (Cond.methodLink own index arraycopyName).before args s = true) (hnat : (Cond.native arraycopyName).before args s = true) (hstat : (Cond.static arraycopyName).before args s = true) (hini : (Cond.initialized "java/lang/System").before args s = true)
    (hK : bK D cy s) (hH : bH D N en q z H0 H locs) (k0 k1 : Nat) {n0 n1 : Nat} {f g : Nat → Int32} (hk0 : k0 < N) (hk1 : k1 < N) (he0 : en q z k0 = .inl (cy 0, n0, .inl f)) (he1 : en q z k1 = .inl (cy 0, n1, .inl g)) {sp dp n : Int32} (h1 : ¬ sp < 0) (h2 : ¬ dp < 0) (h3 : ¬ n < 0) (h4 : sp.toNatClampNeg + n.toNatClampNeg ≤ n0) (h5 : dp.toNatClampNeg + n.toNatClampNeg ≤ n1) (hfr : 1 ≤ R.frames) (hlo : (rest.map fun v => v.category).sum + (nativeFrameWords "java/lang/System" "arraycopy" 5 + 11) ≤ R.locals)
    (z' : zS) (hz : en q z' k1 = .inl (cy 0, n1, .inl (va_cpy f g sp.toNatClampNeg dp.toNatClampNeg n.toNatClampNeg))) (ho : ∀ j, j < N → j ≠ k1 → en q z' j = en q z j) (hdg : decode cc pc = .ok (.invokestatic index, 3))
    (kk : ∀ (H1 : Heap) (locs1 : List Loc), bH D N en q z' H0 H1 locs1 → W p l e R s m args below meth c H1 locs1 cells slots Q (F0 m (pc + 3) ls rest)) : W p l e R s m args below meth c H locs cells slots Q (F0 m pc ls (.int n :: .int dp :: .ref (q k1) :: .int sp :: .ref (q k0) :: rest)) := by
  refine va_copyi hx hb hml hown hlink hnat hstat hini hK hH.1 (bH_D hH) hH.2.2 k0 k1 0 0 (ty := .int) (by rw [bW_at hk0, he0]) (by rw [bW_at hk1, he1]) rfl rfl rfl h1 h2 h3 h4 h5 (fun i _ => rfl) hfr hlo hdg (fun H1 locs1 hP _ hS => kk H1 locs1 ⟨?_, hH.2.1, hS⟩)
  rw [bW_set hk1 hz ho] at hP
  exact hP
end WB
theorem b_lt (a b : Int32) : a < b ↔ a.toInt < b.toInt := Int32.lt_iff_toInt_lt
theorem b_le (a b : Int32) : a ≤ b ↔ a.toInt ≤ b.toInt := Int32.le_iff_toInt_le
theorem b_eq (a b : Int32) : a = b ↔ a.toInt = b.toInt := Int32.toInt_inj.symm
theorem b_nz {x : Int32} (h : ¬ x < 1) : ¬ x = 0 := fun e => h (by rw [e]; decide)
theorem upA_upA (z : zS) (k : Nat) (f g : Nat → Int32) : upA (upA z k f) k g = upA z k g := by
  unfold upA
  refine congrArg (fun h => (z.1, h, z.2.2)) (funext fun j => ?_)
  by_cases e : j = k
  · subst e
    rw [va_up_self, va_up_self]
  · rw [va_up_ne _ _ e, va_up_ne _ _ e]
    exact va_up_ne _ _ e
section WB2
variable {p : Program} {l : Launch} {e : Env} {R : Room} {s : State} {m : MethodId} {args : Array Value} {below : List Frame} {meth : Method} {c : Code} {H : Heap} {locs : List Loc} {cells slots : Nat} {Q : State → Prop} {pc : Nat} {ls : Array Slot} {rest : List Value}
theorem b_vi {x v : Int32} (h : x = v) (k : W p l e R s m args below meth c H locs cells slots Q (F0 m pc ls (.int v :: rest))) : W p l e R s m args below meth c H locs cells slots Q (F0 m pc ls (.int x :: rest)) := by
  subst h
  exact k
theorem b_vl {x v : Int64} (h : x = v) (k : W p l e R s m args below meth c H locs cells slots Q (F0 m pc ls (.long v :: rest))) : W p l e R s m args below meth c H locs cells slots Q (F0 m pc ls (.long x :: rest)) := by
  subst h
  exact k
end WB2
