/-! DYN: worlds that grow (constructors): N cells, the k-th at q k, holding f k -/
def dW (N : Nat) (q : Nat → Nat) (f : Nat → va_E) : va_W := (List.range N).map (fun k => (q k, f k))
theorem dW_len {N : Nat} {q : Nat → Nat} {f : Nat → va_E} : (dW N q f).length = N := by simp [dW]
theorem dW_at {N : Nat} {q : Nat → Nat} {f : Nat → va_E} {k : Nat} (hk : k < N) : (dW N q f)[k]? = some (q k, f k) := by
  simp [dW, List.getElem?_map, List.getElem?_range hk]
theorem dW_lt {N : Nat} {q : Nat → Nat} {f : Nat → va_E} {k : Nat} {x : Nat × va_E} (h : (dW N q f)[k]? = some x) : k < N ∧ x = (q k, f k) := by
  have hl := (List.getElem?_eq_some_iff.mp h).1
  rw [dW_len] at hl
  rw [dW_at hl] at h
  exact ⟨hl, (Option.some.inj h).symm⟩
theorem dW_ext {N : Nat} {q q' : Nat → Nat} {f f' : Nat → va_E} (hq : ∀ k, k < N → q k = q' k) (hf : ∀ k, k < N → f k = f' k) : dW N q f = dW N q' f' := by
  refine List.ext_getElem? (fun i => ?_)
  by_cases hi : i < N
  · rw [dW_at hi, dW_at hi, hq i hi, hf i hi]
  · rw [List.getElem?_eq_none (by rw [dW_len]; omega), List.getElem?_eq_none (by rw [dW_len]; omega)]
theorem dW_set {N : Nat} {q : Nat → Nat} {f : Nat → va_E} {k : Nat} {x : va_E} (hk : k < N) : (dW N q f).set k (q k, x) = dW N q (va_up f k x) := by
  refine List.ext_getElem? (fun i => ?_)
  by_cases hi : i < N
  · rw [dW_at hi]
    by_cases e : i = k
    · subst e
      rw [List.getElem?_set_self (by rw [dW_len]; exact hk), va_up_self]
    · rw [List.getElem?_set_ne (fun h => e h.symm), dW_at hi, va_up_ne _ _ e]
  · rw [List.getElem?_eq_none (by rw [List.length_set, dW_len]; omega), List.getElem?_eq_none (by rw [dW_len]; omega)]
theorem dW_push {N : Nat} {q : Nat → Nat} {f : Nat → va_E} {a : Nat} {x : va_E} : dW N q f ++ [(a, x)] = dW (N + 1) (va_up q N a) (va_up f N x) := by
  refine List.ext_getElem? (fun i => ?_)
  by_cases hi : i < N
  · rw [List.getElem?_append_left (by rw [dW_len]; exact hi), dW_at hi, dW_at (Nat.lt_succ_of_lt hi), va_up_ne _ _ (Nat.ne_of_lt hi), va_up_ne _ _ (Nat.ne_of_lt hi)]
  · by_cases e : i = N
    · subst e
      rw [List.getElem?_append_right (by rw [dW_len]; exact Nat.le_refl _), dW_len, Nat.sub_self, dW_at (Nat.lt_succ_self _), va_up_self, va_up_self]
      rfl
    · rw [List.getElem?_eq_none (by rw [List.length_append, dW_len]; show N + 1 ≤ i; omega), List.getElem?_eq_none (by rw [dW_len]; omega)]
def bA1 (h0 sz : Nat) : Nat → Prop := fun a => a = h0 ∨ sz ≤ a
theorem bA1_hA {h0 sz : Nat} : ∀ a, sz ≤ a → bA1 h0 sz a := fun _ h => Or.inr h
def dH (D : va_G) (A : Nat → Prop) (N : Nat) (q : Nat → Nat) (f : Nat → va_E) (H0 H : Heap) (locs : List Loc) : Prop := va_P D vwCl (dW N q f) H ∧ va_D A (dW N q f) ∧ va_S A H0 H locs
/-- an array class over arrays is there -/
def bO (t : FieldType) (U : State) : Prop := (Cond.arrayOver (.array t)).before #[] U = true
theorem bO_moved {t : FieldType} {u U : State} (hvm : u.vm.Alike U.vm) (h : bO t u) : bO t U := by
  obtain ⟨comp, c, k, h1, h2, h3, h4, h5⟩ := arrayOverA_spec h
  obtain ⟨k', hk', he⟩ := hvm.2.2 _ _ h3
  have hi : (U.vm.classes.findIdx? fun (x : Class) => match x.kind with | .array component _ => component == comp | _ => false) = some c := by
    rw [hvm.findIdx?_eq _ (fun _ => rfl)]
    exact h2
  have hkind : k'.kind = .array comp (.array t) := by rw [he]; exact h4
  have f1 : U.vm.findClass (FieldType.array t).toString = some comp := by rw [hvm.findClass]; exact h1
  have f2 : U.vm.findClass ("[" ++ (FieldType.array t).toString) = some c := by rw [hvm.findClass]; exact h5
  unfold bO Cond.before Cond.holds
  simp only [Cond.value]
  rw [f1, Option.bind_some]
  refine (congrArg (fun o : Option Nat => (o.bind (fun c => (U.vm.classes[c]?).map fun (k : Class) => match k.kind with | .array _ ty => decide (ty = FieldType.array t) && decide (U.vm.findClass ("[" ++ (FieldType.array t).toString) = some c) | _ => false) == some true)) hi).trans ?_
  simp [hk', hkind, f2]
theorem bT_uniq {D : va_G} {cy : Nat → ClassId} {cA : ClassId} {ty : FieldType} {s : State} (i : Nat) (h : va_K D vwCl (bT cy ++ [(cA, ty)]) s) (hi : (bT cy)[i]? = some (cy i, ty)) (hn : s.vm.findClass ("[" ++ ty.toString) = some (cy i)) (hn' : s.vm.findClass ("[" ++ ty.toString) = some cA) : cA = cy i := Option.some.inj (hn'.symm.trans hn)
def dPre (D : va_G) (cy : Nat → ClassId) (h0 : Nat) (x : va_E) (sz : Nat) : State → Prop := fun U => U.heap.size = sz ∧ va_P D vwCl [(h0, x)] U.heap ∧ bK D cy U ∧ bO .int U ∧ bO .long U ∧ bZ U
theorem dBlind {D : va_G} {cy : Nat → ClassId} {h0 : Nat} {x : va_E} {sz : Nat} {av : List Value} : FrameBlind (va_Pc av (dPre D cy h0 x sz)) := fun a U g mk h => by
  obtain ⟨h0, h1, h2, h3, h4, h5, h6⟩ := h
  exact ⟨h0, h1, h2, va_K.moved (u := U) (U := U.calling g mk a) (Vm.Alike.refl U.vm) h3, bO_moved (u := U) (U := U.calling g mk a) (Vm.Alike.refl U.vm) h4, bO_moved (u := U) (U := U.calling g mk a) (Vm.Alike.refl U.vm) h5, bZ_same (s := U) (U := U.calling g mk a) rfl h6⟩
section DB
variable {p : Program} {l : Launch} {e : Env} {R : Room} {s : State} {m : MethodId} {args : Array Value} {below : List Frame} {meth : Method} {c : Code} {H : Heap} {locs : List Loc} {cells slots : Nat} {Q : State → Prop}
variable {cc : ByteArray} {pc : Nat} {ls : Array Slot} {rest st0 : List Value} {D : va_G} {cy : Nat → ClassId} {H0 : Heap} {A : Nat → Prop} {N : Nat} {q : Nat → Nat} {f : Nat → va_E}
theorem dH_in {h0 : Nat} {x : va_E} (hP : va_P D vwCl [(h0, x)] H) : dH D (bA1 h0 H.size) 1 (fun _ => h0) (fun _ => x) H H [] :=
  ⟨hP, ⟨fun i j a b hi hj _ => by
      have h1 := (dW_lt hi).1
      have h2 := (dW_lt hj).1
      omega, fun k a hk => by
      obtain ⟨-, rfl⟩ := dW_lt hk
      exact Or.inl rfl⟩, va_S.rf⟩
theorem d_get (hx : p.tables.exec = Jvm.exec) (hb : c.code = cc) {own C : String} {T : u_T} {Nf ci index : Nat} {Ts : List Cond} (hts : ∀ w ∈ Ts, w.before args s = true) (hin : ∀ w ∈ u_ws C T Nf, w ∈ Ts) (hown : s.vm.findClass own = some m.cls) (hK : bK D cy s) (hH : dH D A N q f H0 H locs) (k : Nat) {fs : List Value} (hk : k < N) (he : f k = .inr (ci, fs)) (hc : vwCl[ci]? = some (C, T, Nf)) (j : Nat) (hj : j < Nf) (hlink : (Cond.fieldLink own index (T j).1 (T j).2.1 (T j).2.2.1).before args s = true) {v : Value} (hv : fs[j]? = some v) (hdg : decode cc pc = .ok (.getfield index, 3))
    (kk : W p l e R s m args below meth c H locs cells slots Q (F0 m (pc + 3) ls (v :: rest))) : W p l e R s m args below meth c H locs cells slots Q (F0 m pc ls (.ref (q k) :: rest)) :=
  va_get hx hb hts hin hown hK hH.1 k (by rw [dW_at hk, he]) hc j hj hlink (fun _ h => h) hv hdg kk
theorem d_put (hx : p.tables.exec = Jvm.exec) (hb : c.code = cc) {own C : String} {T : u_T} {Nf ci index : Nat} {Ts : List Cond} (hts : ∀ w ∈ Ts, w.before args s = true) (hin : ∀ w ∈ u_ws C T Nf, w ∈ Ts) (ty0 : Nat → FieldType) (hty : ∀ k, k < Nf → parseFieldDescriptor (T k).2.2.1 = some (ty0 k)) (hnm : ∀ a, a < Nf → ∀ b, b < Nf → a ≠ b → (T a).2.1 ≠ (T b).2.1) (hown : s.vm.findClass own = some m.cls) (hK : bK D cy s) (hH : dH D A N q f H0 H locs) (k : Nat) {fs : List Value} (hk : k < N) (he : f k = .inr (ci, fs)) (hc : vwCl[ci]? = some (C, T, Nf)) (j : Nat) (hj : j < Nf) (hlink : (Cond.fieldLink own index (T j).1 (T j).2.1 (T j).2.2.1).before args s = true) (hfin : (T j).2.2.2 = false) {ty : FieldType} {v : Value} (hd : parseFieldDescriptor (T j).2.2.1 = some ty) (hn : narrow ty v = v) (hfit : fits ty v = true) (hl : j < fs.length) (hdg : decode cc pc = .ok (.putfield index, 3))
    (kk : ∀ (H1 : Heap) (locs1 : List Loc), dH D A N q (va_up f k (.inr (ci, fs.set j v))) H0 H1 locs1 → W p l e R s m args below meth c H1 locs1 cells slots Q (F0 m (pc + 3) ls rest)) : W p l e R s m args below meth c H locs cells slots Q (F0 m pc ls (v :: .ref (q k) :: rest)) := by
  refine va_put hx hb hts hin ty0 hty hnm hown hK hH.1 hH.2.1 hH.2.2 k (by rw [dW_at hk, he]) hc j hj hlink (fun _ h => h) hfin hd hn hfit hl hdg (fun H1 locs1 hP hD hS => kk H1 locs1 ⟨?_, ?_, hS⟩)
  · rw [dW_set hk] at hP
    exact hP
  · rw [dW_set hk] at hD
    exact hD
theorem d_putF (hx : p.tables.exec = Jvm.exec) (hb : c.code = cc) {own C : String} {T : u_T} {Nf ci index : Nat} {Ts : List Cond} (hts : ∀ w ∈ Ts, w.before args s = true) (hin : ∀ w ∈ u_ws C T Nf, w ∈ Ts) (ty0 : Nat → FieldType) (hty : ∀ k, k < Nf → parseFieldDescriptor (T k).2.2.1 = some (ty0 k)) (hnm : ∀ a, a < Nf → ∀ b, b < Nf → a ≠ b → (T a).2.1 ≠ (T b).2.1) (hown : s.vm.findClass own = some m.cls) (hK : bK D cy s) (hH : dH D A N q f H0 H locs) (k : Nat) {fs : List Value} (hk : k < N) (he : f k = .inr (ci, fs)) (hc : vwCl[ci]? = some (C, T, Nf)) (j : Nat) (hj : j < Nf) (hlink : (Cond.fieldLink own index (T j).1 (T j).2.1 (T j).2.2.1).before args s = true) (hfin : (T j).2.2.2 = true) (hin2 : meth.name = "<init>") (hdecl : (T j).1 = own) {ty : FieldType} {v : Value} (hd : parseFieldDescriptor (T j).2.2.1 = some ty) (hn : narrow ty v = v) (hfit : fits ty v = true) (hl : j < fs.length) (hdg : decode cc pc = .ok (.putfield index, 3))
    (kk : ∀ (H1 : Heap) (locs1 : List Loc), dH D A N q (va_up f k (.inr (ci, fs.set j v))) H0 H1 locs1 → W p l e R s m args below meth c H1 locs1 cells slots Q (F0 m (pc + 3) ls rest)) : W p l e R s m args below meth c H locs cells slots Q (F0 m pc ls (v :: .ref (q k) :: rest)) := by
  refine va_putF hx hb hts hin ty0 hty hnm hown hK hH.1 hH.2.1 hH.2.2 k (by rw [dW_at hk, he]) hc j hj hlink (fun _ h => h) hfin hin2 hdecl hd hn hfit hl hdg (fun H1 locs1 hP hD hS => kk H1 locs1 ⟨?_, ?_, hS⟩)
  · rw [dW_set hk] at hP
    exact hP
  · rw [dW_set hk] at hD
    exact hD
theorem d_iast (hx : p.tables.exec = Jvm.exec) (hb : c.code = cc) (hK : bK D cy s) (hH : dH D A N q f H0 H locs) (k : Nat) {n : Nat} {g : Nat → Int32} (hk : k < N) (he : f k = .inl (cy 0, n, .inl g)) {i x : Int32} (hin : vp_in i n) (hdg : decode cc pc = .ok (.iastore, 1))
    (kk : ∀ (H1 : Heap) (locs1 : List Loc), dH D A N q (va_up f k (.inl (cy 0, n, .inl (upd g i.toNatClampNeg x)))) H0 H1 locs1 → W p l e R s m args below meth c H1 locs1 cells slots Q (F0 m (pc + 1) ls rest)) : W p l e R s m args below meth c H locs cells slots Q (F0 m pc ls (.int x :: .int i :: .ref (q k) :: rest)) := by
  refine va_iast hx hb hK hH.1 hH.2.1 hH.2.2 k 0 (by rw [dW_at hk, he]) rfl hin hdg (fun H1 locs1 hP hD hS => kk H1 locs1 ⟨?_, ?_, hS⟩)
  · rw [dW_set hk] at hP
    exact hP
  · rw [dW_set hk] at hD
    exact hD
theorem d_newa (hx : p.tables.exec = Jvm.exec) (hb : c.code = cc) {atype : ArrayType} (i : Nat) (harr : (Cond.arrayClass (newarray.typeOf atype)).before args s = true) (hK : bK D cy s) (hH : dH D A N q f H0 H locs) (hA : ∀ a, H0.size ≤ a → A a)
    {n : Int32} {N' : Nat} {a0 : vp_A} (hi : (bT cy)[i]? = some (cy i, newarray.typeOf atype)) (ha : ∀ cA : ClassId, vp_cell cA a0 = arrV cA N' (fun _ => defaultValue (newarray.typeOf atype))) (hn : ¬ n < 0) (hN : n.toNatClampNeg = N') (hbytes : N' * componentBytes (newarray.typeOf atype) ≤ 536870912) (hcells : cells + 1 ≤ R.cells) (hslots : slots + N' ≤ R.slots) (hdg : decode cc pc = .ok (.newarray atype, 2))
    (kk : ∀ (a : Nat) (H1 : Heap), dH D A (N + 1) (va_up q N a) (va_up f N (.inl (cy i, a0))) H0 H1 locs → W p l e R s m args below meth c H1 locs (cells + 1) (slots + N') Q (F0 m (pc + 2) ls (.ref a :: rest))) : W p l e R s m args below meth c H locs cells slots Q (F0 m pc ls (.int n :: rest)) := by
  refine va_newa hx hb harr rfl hK hH.1 hH.2.1 hH.2.2 hA ha hn hN hbytes hcells hslots hdg (fun a cA H1 hK1 hP hD hS => ?_)
  have e : cA = cy i := by
    have h1 := (hK.2 i _ hi).2
    have h2 := (hK1.2 5 (cA, newarray.typeOf atype) rfl).2
    have g1 : s.vm.findClass ("[" ++ (newarray.typeOf atype).toString) = some (cy i) := by cases atype <;> exact h1
    have g2 : s.vm.findClass ("[" ++ (newarray.typeOf atype).toString) = some cA := by cases atype <;> exact h2
    exact Option.some.inj (g2.symm.trans g1)
  subst e
  rw [dW_push] at hP hD
  exact kk a H1 ⟨hP, hD, hS⟩
theorem d_new (hx : p.tables.exec = Jvm.exec) (hb : c.code = cc) {own C : String} {T : u_T} {Nf ci index : Nat} {Ts : List Cond} (hts : ∀ w ∈ Ts, w.before args s = true) (hin : ∀ w ∈ u_ws C T Nf, w ∈ Ts) (ty : Nat → FieldType) (hty : ∀ k, k < Nf → parseFieldDescriptor (T k).2.2.1 = some (ty k)) (hown : s.vm.findClass own = some m.cls) (hcl : (Cond.classLink own index C).before args s = true) (hinst : (Cond.instantiable C Nf).before args s = true) (hini : (Cond.initialized C).before args s = true)
    (hK : bK D cy s) (hH : dH D A N q f H0 H locs) (hA : ∀ a, H0.size ≤ a → A a) (hc : vwCl[ci]? = some (C, T, Nf)) {fs : List Value} (hfs : ∀ j, j < Nf → defaultValue (ty j) = vp_V fs j) (hcells : cells + 1 ≤ R.cells) (hslots : slots + Nf ≤ R.slots) (hdg : decode cc pc = .ok (.new index, 3))
    (kk : ∀ (a : Nat) (H1 : Heap), dH D A (N + 1) (va_up q N a) (va_up f N (.inr (ci, fs))) H0 H1 locs → W p l e R s m args below meth c H1 locs (cells + 1) (slots + Nf) Q (F0 m (pc + 3) ls (.ref a :: rest))) : W p l e R s m args below meth c H locs cells slots Q (F0 m pc ls rest) := by
  refine va_new (c0 := c) hx hb hts hin ty hty hown hcl hinst hini hK hH.1 hH.2.1 hH.2.2 hA hc hfs hcells hslots hdg (fun a H1 hP hD hS => ?_)
  rw [dW_push] at hP hD
  exact kk a H1 ⟨hP, hD, hS⟩
theorem dH_to {f' : Nat → va_E} (hH : dH D A N q f H0 H locs) (he : ∀ k, k < N → f k = f' k) : dH D A N q f' H0 H locs := by
  have h : dW N q f = dW N q f' := dW_ext (fun _ _ => rfl) he
  unfold dH at hH ⊢
  rw [← h]
  exact hH
theorem d_vret {S : Type} (hx : p.tables.exec = Jvm.exec) (hb : c.code = cc) (hr : meth.sig.returnType = none) (hlocks : meth.locks = false) {post : S → Prop} {B : S → State → Prop} (u : S) (hp : post u) (hB : ∀ t : State, t.heap = H → B u t) (hS : va_S A s.heap H locs) (hdg : decode cc pc = .ok (.return_, 1)) : W p l e R s m args below meth c H locs cells slots (MQ below (va_Qv post B A) args s cells slots A) (F0 m pc ls []) :=
  W.vret hx hb hr (fun t ht _ => ⟨⟨u, rfl, hp, hB t ht⟩, hS.F ht⟩) hS.2.2 hdg hlocks
end DB
/-- behind a constructor on cell k: its new cells come behind ours -/
def jq (N : Nat) (q q1 : Nat → Nat) : Nat → Nat := fun i => if i < N then q i else q1 (i - N + 1)
def jf (N k : Nat) (f f1 : Nat → va_E) : Nat → va_E := fun i => if i = k then f1 0 else if i < N then f i else f1 (i - N + 1)
theorem d_join {A : Nat → Prop} {D : va_G} {N k n1 M : Nat} {q q1 : Nat → Nat} {f f1 : Nat → va_E} {H H1 : Heap} (hP : va_P D vwCl (dW N q f) H) (hD : va_D A (dW N q f)) (hk : k < N) (hq : q1 0 = q k) (hn : 0 < n1) (hM : M + 1 = N + n1) (hkeep : ∀ a : Nat, a < H.size → ¬ bA1 (q k) H.size a → H1[a]? = H[a]?) (hF : ∀ a, bA1 (q k) H.size a → A a) (hP1 : va_P D vwCl (dW n1 q1 f1) H1) (hD1 : va_D (bA1 (q k) H.size) (dW n1 q1 f1)) :
    va_P D vwCl (dW M (jq N q q1) (jf N k f f1)) H1 ∧ va_D A (dW M (jq N q q1) (jf N k f f1)) := by
  have hlt : ∀ i, i < N → q i < H.size := fun i hi => (hP i _ (dW_at hi)).lt
  have hne : ∀ i, i < N → i ≠ k → q i ≠ q k := fun i hi h e => h (hD.1 i k _ _ (dW_at hi) (dW_at hk) e)
  have hout : ∀ j, j < n1 → 0 < j → H.size ≤ q1 j := fun j hj h0 => by
    rcases hD1.2 j _ (dW_at hj) with h | h
    · exact absurd (hD1.1 j 0 _ _ (dW_at hj) (dW_at hn) (h.trans hq.symm)) (by omega)
    · exact h
  refine ⟨fun i x hi => ?_, fun i j x y hi hj hxy => ?_, fun i x hi => ?_⟩
  · obtain ⟨hiM, rfl⟩ := dW_lt hi
    by_cases e : i = k
    · subst e
      have h := hP1 0 _ (dW_at hn)
      rw [hq] at h
      simpa [jq, jf, hk] using h
    · by_cases hl : i < N
      · have h := (hP i _ (dW_at hl)).kept (H1 := H1) (hkeep (q i) (hlt i hl) (fun h => h.elim (hne i hl e) (fun h => by have := hlt i hl; omega)))
        simpa [jq, jf, e, hl] using h
      · have h := hP1 (i - N + 1) _ (dW_at (by omega))
        simpa [jq, jf, e, hl] using h
  · obtain ⟨hiM, rfl⟩ := dW_lt hi
    obtain ⟨hjM, rfl⟩ := dW_lt hj
    have hxy : jq N q q1 i = jq N q q1 j := hxy
    unfold jq at hxy
    split at hxy <;> split at hxy
    · rename_i h1 h2
      exact hD.1 i j _ _ (dW_at h1) (dW_at h2) hxy
    · rename_i h1 h2
      have := hlt i h1
      have := hout (j - N + 1) (by omega) (by omega)
      omega
    · rename_i h1 h2
      have := hlt j h2
      have := hout (i - N + 1) (by omega) (by omega)
      omega
    · rename_i h1 h2
      have := hD1.1 (i - N + 1) (j - N + 1) _ _ (dW_at (by omega)) (dW_at (by omega)) hxy
      omega
  · obtain ⟨hiM, rfl⟩ := dW_lt hi
    show A (jq N q q1 i)
    unfold jq
    split
    · rename_i h1
      exact hD.2 i _ (dW_at h1)
    · exact hF _ (hD1.2 (i - N + 1) _ (dW_at (by omega)))
/-- what a constructor leaves: n cells, the first at h0, holding f -/
def cB (D : va_G) (f : Nat → va_E) (n h0 sz : Nat) (q : Nat → Nat) (H : Heap) : Prop := q 0 = h0 ∧ va_P D vwCl (dW n q f) H ∧ va_D (bA1 h0 sz) (dW n q f)
def enF (cy : Nat → ClassId) (f : Nat → va_E) (k n : Nat) : bN := fun _ z => va_up f k (.inl (cy 0, n, .inl (z.2.1 k)))
section DF
variable {p : Program} {l : Launch} {e : Env} {R : Room} {s : State} {m : MethodId} {args : Array Value} {below : List Frame} {meth : Method} {c : Code} {H : Heap} {locs : List Loc} {cells slots : Nat} {Q : State → Prop}
variable {cc : ByteArray} {pc : Nat} {ls : Array Slot} {rest st0 : List Value} {D : va_G} {cy : Nat → ClassId} {H0 : Heap} {A : Nat → Prop} {N : Nat} {q : Nat → Nat} {f : Nat → va_E}
variable {bytes : ByteArray} {maxL nL index : Nat} {Ts : List Cond} {own : String} {ret : Option FieldType}
theorem d_fill (S : CallFix p m c cc nL s args Ts own) (k : Nat) {n : Nat} {g0 : Nat → Int32} {v : Int32} {nn : Nat} (cw : CallB R s args own index yJ7_fill_53178 bytes maxL ret wsJ7_fill_53178 ({ frames := 0, cells := 0, slots := 0, locals := 0 }) 0 0 nn ∧ (Cond.static yJ7_fill_53178).before args s = true) (hK : bK D cy s) (hZ : bZ s) (hH : dH D A N q f H0 H locs) (hA : ∀ a, H0.size ≤ a → A a) (hk : k < N) (he : f k = .inl (cy 0, n, .inl g0)) (hn : n < 2 ^ 31) (hnn : 2 = nn) (hsz : ls.size = nL) (hst : st0 = .int v :: .ref (q k) :: rest) (hW : (rest.map fun v => v.category).sum ≤ 8) (hf : cells ≤ R.cells ∧ slots ≤ R.slots) (hdg : decode cc pc = .ok (.invokestatic index, 3))
    (kk : ∀ (g : Nat → Int32) (H1 : Heap) (locs1 : List Loc), (∀ j, j < n → g j = v) → dH D A N q (va_up f k (.inl (cy 0, n, .inl g))) H0 H1 locs1 → W p l e R s m args below meth c H1 locs1 cells slots Q (F0 m (pc + 3) ls rest)) : W p l e R s m args below meth c H locs cells slots Q (F0 m pc ls st0) := by
  have hq : bJ N q := fun i j hi hj e => hH.2.1.1 i j _ _ (dW_at hi) (dW_at hj) e
  have hM := c_fill l D cy N (enF cy f k n) q hq ((fun _ => 0), (fun _ => g0), (fun _ _ => 0)) k n v hk hn (fun w => va_up_self _ _ _) (fun w g j h1 h2 => by unfold enF; rw [va_up_ne _ _ h2, va_up_ne _ _ h2])
  have h0 : va_P D vwCl (bW N (enF cy f k n) q ((fun _ => 0), (fun _ => g0), (fun _ _ => 0))) H := by
    have h : bW N (enF cy f k n) q ((fun _ => 0), (fun _ => g0), (fun _ _ => 0)) = dW N q f := dW_ext (f := enF cy f k n q ((fun _ => 0), (fun _ => g0), (fun _ _ => 0))) (fun _ _ => rfl) (fun j hj => by
      by_cases e : j = k
      · subst e
        exact (va_up_self _ _ _).trans he.symm
      · exact va_up_ne _ _ e)
    rw [h]
    exact hH.1
  have hAk : ∀ a, bA N q H.size a → A a := fun a h => by
    rcases h with ⟨j, hj, rfl⟩ | h
    · exact hH.2.1.2 j _ (dW_at hj)
    · exact hA a (Nat.le_trans hH.2.2.1 h)
  refine va_callv (va_runS (As := [.ref (q k), .int v]) (rest := rest) S (hM H.size) cw ⟨bBlind, fun U hU hW => ⟨rfl, by rw [hU], by rw [hU]; exact h0, va_K.moved hW.alike hK, bZ_warm hW hZ⟩⟩ rfl hnn hsz hst (lv_room hW) hdg hf) hH.2.2 (fun a _ h => hAk a h) hAk (fun u t H1 locs1 ht _ hp hB _ _ hS => ?_)
  obtain ⟨g, hu, hg⟩ := hp
  refine kk g H1 locs1 hg ⟨?_, ⟨fun i j x y hi hj hxy => ?_, fun i x hi => ?_⟩, hS⟩
  · have hB : va_P D vwCl (bW N (enF cy f k n) q u) t.heap := hB
    rw [ht] at hB
    have h : bW N (enF cy f k n) q u = dW N q (va_up f k (.inl (cy 0, n, .inl g))) := dW_ext (f := enF cy f k n q u) (fun _ _ => rfl) (fun j hj => by
      rw [← hu]
      unfold enF
      rw [upA_at])
    rw [← h]
    exact hB
  · obtain ⟨h1, rfl⟩ := dW_lt hi
    obtain ⟨h2, rfl⟩ := dW_lt hj
    exact hq i j h1 h2 hxy
  · obtain ⟨h1, rfl⟩ := dW_lt hi
    exact hH.2.1.2 i (q i, f i) (dW_at h1)
end DF
/-- behind 'new T[n][k]': the outer row, then its rows -/
def mq (N : Nat) (q : Nat → Nat) (a : Nat) (r : Nat → Nat) : Nat → Nat := fun i => if i < N then q i else if i = N then a else r (i - (N + 1))
def mf (N : Nat) (f : Nat → va_E) (x y : va_E) : Nat → va_E := fun i => if i < N then f i else if i = N then x else y
def rfs (n : Nat) (r : Nat → Nat) : Nat → Option Nat := fun i => if i < n then some (r i) else none
theorem rfs_ext {n : Nat} {a b : Nat → Nat} (h : ∀ i, i < n → a i = b i) : rfs n a = rfs n b := by
  funext i
  unfold rfs
  split
  · rename_i hi
    rw [h i hi]
  · rfl
theorem mna_outer (c : ClassId) (N h0 : Nat) : ∀ i : Nat, Jvm.Free.Multi.outerC c N h0 i = arrV c N (fun j => va_rf (if j < i then some (h0 + 1 + j) else none))
  | 0 => (arrV_new c N .null).trans (congrArg (arrV c N) (funext fun j => by simp [va_rf]))
  | i + 1 => by
    show (Jvm.Free.Multi.outerC c N h0 i).setSlot i (.ref (h0 + 1 + i)) = _
    rw [mna_outer c N h0 i, arrV_store]
    refine congrArg (arrV c N) (funext fun j => ?_)
    rcases Nat.lt_trichotomy j i with h | h | h
    · simp [updV, Nat.ne_of_lt h, h, Nat.lt_succ_of_lt h]
    · subst h
      simp [updV, va_rf]
    · simp [updV, Nat.ne_of_gt h, show ¬ j < i by omega, show ¬ j < i + 1 by omega]
section DM
variable {p : Program} {l : Launch} {e : Env} {R : Room} {s : State} {m : MethodId} {args : Array Value} {below : List Frame} {meth : Method} {c : Code} {H : Heap} {locs : List Loc} {cells slots : Nat} {Q : State → Prop}
variable {cc : ByteArray} {pc : Nat} {ls : Array Slot} {rest : List Value} {D : va_G} {cy : Nat → ClassId} {H0 : Heap} {A : Nat → Prop} {N : Nat} {q : Nat → Nat} {f : Nat → va_E}
theorem d_mna (hx : p.tables.exec = Jvm.exec) (hb : c.code = cc) {own : String} {index : Nat} {ty : FieldType} (i o : Nat) (hown : s.vm.findClass own = some m.cls) (hcl : (Cond.classLink own index ("[" ++ (FieldType.array ty).toString)).before args s = true) (hover : bO ty s) (harr : (Cond.arrayClass ty).before args s = true) (hci : s.vm.findClass (FieldType.array ty).toString = some (cy i)) (hco : s.vm.findClass ("[" ++ (FieldType.array ty).toString) = some (cy o))
    (hH : dH D A N q f H0 H locs) (hA : ∀ a, H0.size ≤ a → A a) {n k : Int32} {N' K' : Nat} {z : vp_A} (ha : ∀ cA : ClassId, vp_cell cA z = arrV cA K' (fun _ => defaultValue ty)) (hn : ¬ n < 0) (hk : ¬ k < 0) (hN : n.toNatClampNeg = N') (hM : k.toNatClampNeg = K')
    (hb1 : N' * 4 ≤ 536870912) (hb2 : K' * componentBytes ty ≤ 536870912) (hb3 : K' ≤ 536870912) (hdf : fits ty (defaultValue ty) = true) (hdd : (defaultValue ty).isDefault = true) (hcells : cells + (1 + N') ≤ R.cells) (hslots : slots + (N' + N' * K') ≤ R.slots) (hdg : decode cc pc = .ok (.multianewarray index 2, 4))
    (kk : ∀ (a : Nat) (r : Nat → Nat) (H1 : Heap), dH D A (N + 1 + N') (mq N q a r) (mf N f (.inl (cy o, N', .inr (.inr (.inr (.inr (rfs N' r)))))) (.inl (cy i, z))) H0 H1 locs →
      W p l e R s m args below meth c H1 locs (cells + 1 + N') (slots + N' + N' * K') Q (F0 m (pc + 4) ls (.ref a :: rest))) : W p l e R s m args below meth c H locs cells slots Q (F0 m pc ls (.int k :: .int n :: rest)) := by
  subst hN
  subst hM
  intro T hT Xs
  obtain ⟨vm₁, cA, comp, -, fA, fC, -, -, X', step⟩ := Xs.multianewarray2F hx hown hcl hover harr (g := F0 m pc ls (.int k :: .int n :: rest)) rfl (by rw [hb]; exact hdg) rfl hn hk hb1 hb2 hb3 hdf hdd hcells hslots
  have e1 : comp = cy i := Option.some.inj (fC.symm.trans hci)
  have e2 : cA = cy o := Option.some.inj (fA.symm.trans hco)
  subst e1
  subst e2
  generalize hF : Jvm.Free.Multi.fill (T.setVm vm₁) (cy o) (cy i) n.toNatClampNeg k.toNatClampNeg (defaultValue ty) n.toNatClampNeg = F at X' step
  have hTh : (T.setVm vm₁).heap = H := hT
  obtain ⟨f1, f2, -, -⟩ := Jvm.Free.Multi.fill_facts (T.setVm vm₁) (cy o) (cy i) n.toNatClampNeg k.toNatClampNeg (defaultValue ty) n.toNatClampNeg
  rw [hF, hTh] at f1 f2
  have hold : ∀ x : Nat, x < H.size → F.heap[x]? = H[x]? := fun x hx => by
    have h := Jvm.Free.Multi.fill_old (T.setVm vm₁) (cy o) (cy i) n.toNatClampNeg k.toNatClampNeg (defaultValue ty) (a := x) (by rw [hTh]; exact hx) n.toNatClampNeg
    rw [hF, hTh] at h
    exact h
  have hrow : ∀ j : Nat, j < n.toNatClampNeg → F.heap[H.size + 1 + j]? = some (vp_cell (cy i) z) := fun j hj => by
    have h := Jvm.Free.Multi.fill_inner (T.setVm vm₁) (cy o) (cy i) n.toNatClampNeg k.toNatClampNeg (defaultValue ty) n.toNatClampNeg j hj
    rw [hF, hTh] at h
    rw [h, ha]
    exact congrArg some (arrV_new _ _ _)
  rw [mna_outer] at f2
  have hlt : ∀ j, j < N → q j < H.size := fun j hj => (hH.1 j _ (dW_at hj)).lt
  have hP : va_P D vwCl (dW (N + 1 + n.toNatClampNeg) (mq N q H.size (fun j => H.size + 1 + j)) (mf N f (.inl (cy o, n.toNatClampNeg, .inr (.inr (.inr (.inr (rfs n.toNatClampNeg (fun j => H.size + 1 + j))))))) (.inl (cy i, z)))) F.heap := fun j x hj => by
    obtain ⟨hjl, rfl⟩ := dW_lt hj
    by_cases h1 : j < N
    · have h := (hH.1 j _ (dW_at h1)).kept (hold (q j) (hlt j h1))
      simpa [mq, mf, h1] using h
    · by_cases h2 : j = N
      · subst h2
        have h : va_at D vwCl (H.size, .inl (cy o, n.toNatClampNeg, .inr (.inr (.inr (.inr (rfs n.toNatClampNeg (fun j => H.size + 1 + j))))))) F.heap := f2
        simpa [mq, mf] using h
      · have h : va_at D vwCl (H.size + 1 + (j - (N + 1)), .inl (cy i, z)) F.heap := hrow (j - (N + 1)) (by omega)
        simpa [mq, mf, h1, h2] using h
  have hD : va_D A (dW (N + 1 + n.toNatClampNeg) (mq N q H.size (fun j => H.size + 1 + j)) (mf N f (.inl (cy o, n.toNatClampNeg, .inr (.inr (.inr (.inr (rfs n.toNatClampNeg (fun j => H.size + 1 + j))))))) (.inl (cy i, z)))) := by
    have hv : ∀ j, ¬ j < N → mq N q H.size (fun j => H.size + 1 + j) j = H.size + (j - N) := fun j hj => by
      unfold mq
      rw [if_neg hj]
      split
      · omega
      · show H.size + 1 + (j - (N + 1)) = _
        omega
    have hw : ∀ j, j < N → mq N q H.size (fun j => H.size + 1 + j) j = q j := fun j hj => by
      unfold mq
      rw [if_pos hj]
    refine ⟨fun x y u v hx' hy' hxy => ?_, fun x u hx' => ?_⟩
    · obtain ⟨hxl, rfl⟩ := dW_lt hx'
      obtain ⟨hyl, rfl⟩ := dW_lt hy'
      have hxy : mq N q H.size (fun j => H.size + 1 + j) x = mq N q H.size (fun j => H.size + 1 + j) y := hxy
      by_cases h1 : x < N <;> by_cases h2 : y < N
      · rw [hw x h1, hw y h2] at hxy
        exact hH.2.1.1 x y _ _ (dW_at h1) (dW_at h2) hxy
      · rw [hw x h1, hv y h2] at hxy
        have := hlt x h1
        omega
      · rw [hv x h1, hw y h2] at hxy
        have := hlt y h2
        omega
      · rw [hv x h1, hv y h2] at hxy
        omega
    · obtain ⟨hxl, rfl⟩ := dW_lt hx'
      show A (mq N q H.size (fun j => H.size + 1 + j) x)
      by_cases h1 : x < N
      · rw [hw x h1]
        exact hH.2.1.2 x _ (dW_at h1)
      · rw [hv x h1]
        exact hA _ (by have := hH.2.2.1; omega)
  obtain ⟨t, a1, b1⟩ := kk H.size (fun j => H.size + 1 + j) F.heap ⟨hP, hD, ⟨by rw [f1]; have := hH.2.2.1; omega, fun x h1 h2 => (hold x (Nat.lt_of_lt_of_le h1 hH.2.2.1)).trans (hH.2.2.2.1 x h1 h2), hH.2.2.2.2⟩⟩ F rfl X'
  refine ⟨t, step t ?_, b1⟩
  have e : T.heap.size = H.size := by rw [hT]
  rw [e]
  exact a1
variable {y : MethodName} {bytes : ByteArray} {maxL nL n index : Nat} {ws Ts : List Cond} {rm : Room} {own : String} {As : List Value} {mc ms : Nat} {st0 : List Value}
/-- a constructor of ours on cell k -/
theorem d_init (S : CallFix p m c cc nL s args Ts own) (k : Nat) {x : va_E} {Su : Type} {post : Su → Prop} {Bh : Su → Nat → Heap → Prop} (hM : ∀ sz : Nat, Met l y ws rm (va_Pc (.ref (q k) :: As) (dPre D cy (q k) x sz)) (va_Qv post (fun u t => Bh u sz t.heap) (bA1 (q k) sz)) mc ms (bA1 (q k) sz)) (cw : CallB R s args own index y bytes maxL none ws rm mc ms n ∧ y.name = "<init>" ∧ (Cond.instanceMethod y).before args s = true) (hK : bK D cy s) (hO1 : bO .int s) (hO2 : bO .long s) (hZ : bZ s) (hH : dH D A N q f H0 H locs) (hA : ∀ a, H0.size ≤ a → A a) (hk : k < N) (he : f k = x) (hn : As.length = n) (hsz : ls.size = nL) (hst : st0 = As.reverse ++ .ref (q k) :: rest) (hW : (rest.map fun v => v.category).sum ≤ 8) (hf : cells + mc ≤ R.cells ∧ slots + ms ≤ R.slots) (hdg : decode cc pc = .ok (.invokespecial index, 3))
    (kk : ∀ (u : Su) (H1 : Heap) (locs1 : List Loc), post u → Bh u H.size H1 → (∀ a : Nat, a < H.size → ¬ bA1 (q k) H.size a → H1[a]? = H[a]?) → (∀ a, bA1 (q k) H.size a → A a) → va_S A H0 H1 locs1 → W p l e R s m args below meth c H1 locs1 (cells + mc) (slots + ms) Q (F0 m (pc + 3) ls rest)) : W p l e R s m args below meth c H locs cells slots Q (F0 m pc ls st0) := by
  have hAk : ∀ a, bA1 (q k) H.size a → A a := fun a h => by
    rcases h with h | h
    · rw [h]
      exact hH.2.1.2 k _ (dW_at hk)
    · exact hA a (Nat.le_trans hH.2.2.1 h)
  have hx : va_P D vwCl [(q k, x)] H := fun j u hj => by
    have h0 : j < 1 := (List.getElem?_eq_some_iff.mp hj).1
    rw [show j = 0 by omega] at hj
    cases hj
    rw [← he]
    exact hH.1 k _ (dW_at hk)
  exact va_callv (va_runI (As := As) (rest := rest) S (hM H.size) cw ⟨dBlind, fun U hU hW => ⟨rfl, by rw [hU], by rw [hU]; exact hx, va_K.moved hW.alike hK, bO_moved hW.alike hO1, bO_moved hW.alike hO2, bZ_warm hW hZ⟩⟩ rfl hn hsz hst (lv_room hW) hdg hf) hH.2.2 (fun a _ h => hAk a h) hAk (fun u t H1 locs1 ht _ hp hB _ hkeep hS => kk u H1 locs1 hp (by rw [← ht]; exact hB) hkeep hAk hS)
end DM
theorem in_X0_init_X0 : ∀ w ∈ u_ws RX0 TX0 11, w ∈ wsX0_init := fun w h => List.mem_cons_of_mem _ (List.mem_append_right _ h)
theorem in_X1_init_X1 : ∀ w ∈ u_ws RX1 TX1 2, w ∈ wsX1_init := fun w h => List.mem_cons_of_mem _ (List.mem_append_right _ h)
theorem in_X2_init_X2 : ∀ w ∈ u_ws RX2 TX2 3, w ∈ wsX2_init := fun w h => List.mem_cons_of_mem _ (List.mem_append_right _ h)
theorem in_X3_init_X3 : ∀ w ∈ u_ws RX3 TX3 11, w ∈ wsX3_init := fun w h => List.mem_cons_of_mem _ (List.mem_append_right _ h)
theorem in_X4_init_X4 : ∀ w ∈ u_ws RX4 TX4 3, w ∈ wsX4_init := fun w h => List.mem_cons_of_mem _ (List.mem_append_right _ h)
theorem in_X5_init_X0 : ∀ w ∈ u_ws RX0 TX0 11, w ∈ wsX5_init := fun w h => List.mem_cons_of_mem _ (List.mem_append_left _ (List.mem_append_left _ (List.mem_append_left _ (List.mem_append_left _ (List.mem_append_left _ (List.mem_append_right _ h))))))
theorem in_X5_init_X5 : ∀ w ∈ u_ws RX5 TX5 12, w ∈ wsX5_init := fun w h => List.mem_cons_of_mem _ (List.mem_append_left _ (List.mem_append_left _ (List.mem_append_left _ (List.mem_append_left _ (List.mem_append_right _ h)))))
theorem in_X5_init_X1 : ∀ w ∈ u_ws RX1 TX1 2, w ∈ wsX5_init := fun w h => List.mem_cons_of_mem _ (List.mem_append_left _ (List.mem_append_left _ (List.mem_append_left _ (List.mem_append_right _ h))))
theorem in_X5_init_X2 : ∀ w ∈ u_ws RX2 TX2 3, w ∈ wsX5_init := fun w h => List.mem_cons_of_mem _ (List.mem_append_left _ (List.mem_append_left _ (List.mem_append_right _ h)))
theorem in_X5_init_X3 : ∀ w ∈ u_ws RX3 TX3 11, w ∈ wsX5_init := fun w h => List.mem_cons_of_mem _ (List.mem_append_left _ (List.mem_append_right _ h))
theorem in_X5_init_X4 : ∀ w ∈ u_ws RX4 TX4 3, w ∈ wsX5_init := fun w h => List.mem_cons_of_mem _ (List.mem_append_right _ h)
