/-! THE CLAIM OUT OF ONE WALK OF THE LAW'S BODY. Your part is whole_start (and what it stands on); all else here is the same for every law, but numbers. -/
def R_law : String := "StationLineLaw"
def lw_P (b : Addr) (xs : List Int32) (args : Array Value) (s : State) : Prop := args = #[.ref b] ∧ s.IntsAt b xs ∧ xs.length ≤ 2560 ∧ (Jvm.Cond.and given_1 narrow_1).before args s = true
def lw_Q (_ : Array Value) (s : State) (o : Outcome) (t : State) : Prop := o = .returned (some (.int 1)) ∧ Framed s o t [] 600000 7302250
def lw_Z (below : List Frame) (a : Array Value) (s : State) : State → Prop := fun t => ∃ o, t.status = .running ∧ Ended t below o ∧ lw_Q a s o t
/-- the law's own end, with 1 on the stack, nothing written that was there before, its room as the claim has it -/
theorem lw_ret {p : Program} {l : Launch} {e : Env} {s : State} {m : MethodId} {below : List Frame} {meth : Method} {c : Code} {b : Nat} (hx : p.tables.exec = Jvm.exec) (hb : c.code = code) (hr : meth.sig.returnType = ret) (hlocks : meth.locks = false) {pc : Nat} {H : Heap} {ls : Array Slot} (hdg : decode code pc = .ok (.ireturn, 1)) : W p l e room_1 s m #[Value.ref b] below meth c H [] 600000 7302250 (lw_Z below #[Value.ref b] s) (F0 m pc ls [.int 1]) := by
  intro T hT X
  obtain ⟨fs, hret, hrun, hended, hW, hframe⟩ := X.leave (v := some (.int 1)) (hlocks := hlocks) (fun h => by rw [hr] at h; cases h)
  have hmeth' : T.vm.method? m = some meth := X.method'
  refine ⟨T.setFrames fs, ?_, .returned (some (.int 1)), hrun, hended, rfl, ⟨_, rfl⟩, hW, hframe⟩
  jvm_step X.here [X.here.top, hx, hb, hdg, hmeth', hr, ret, narrow_b1]
  (try refine ⟨rfl, ?_⟩); (try refine ⟨rfl, ?_⟩)
  first | (intro acts; rw [hret _ acts rfl rfl rfl]) | rw [hret _ _ rfl rfl rfl]
  exact Steps.refl _
/-- what holds at the law's entry: the machine, the code, the tables' words (any of lw_tbl by 'hts w (by decide +kernel)'), the script of L ints xs at the cell b, what the Statement gives of the start (any of its parts by flat_of_before) -/
def lw_At (p : Program) (s : State) (m : MethodId) (meth : Method) (c : Code) (b L : Nat) (xs : Nat → Int32) : Prop :=
  p.tables.exec = Jvm.exec ∧ c.code = code ∧ meth.sig.returnType = ret ∧ c.maxLocals = 4 ∧ s.vm.findClass R_law = some m.cls ∧ (∀ w ∈ lw_tbl, w.before #[Value.ref b] s = true) ∧ va_X b L xs s s.heap ∧ b < s.heap.size ∧ meth.locks = false ∧ (Jvm.Cond.and given_1 narrow_1).before #[Value.ref b] s = true
section LW
variable {p : Program} {l : Launch} {e : Env} {R : Room} {s : State} {m : MethodId} {args : Array Value} {below : List Frame} {meth : Method} {c : Code} {H : Heap} {locs : List Loc} {cells slots : Nat} {Q : State → Prop}
variable {cc : ByteArray} {pc : Nat} {ls : Array Slot} {rest st0 : List Value} {D : va_G} {cy : Nat → ClassId} {H0 : Heap} {N : Nat} {en : bN} {q : Nat → Nat} {z : zS} {A : Nat → Prop}
variable {y : MethodName} {bytes : ByteArray} {maxL nL n index : Nat} {ret : Option FieldType} {ws Ts : List Cond} {rm : Room} {own : String} {As : List Value}
theorem L_calli2 (S : CallFix p m c cc nL s args Ts own) {ci : Nat} {fs : List Value} {r : vw_C} {post : Int32 → zS → Prop} (hM : bCi l y ws rm D cy N en q z (.ref (q 0) :: As) post) (cw : CallW R s args own r.1 index y bytes maxL ret ws rm 0 0 n) (hK : bK D cy s) (hZ : bZ s) (hP : va_P D vwCl (bW N en q z) H) (hN : 0 < N) (he : en q z 0 = .inr (ci, fs)) (hc : vwCl[ci]? = some r) (hAq : ∀ k, k < N → A (q k)) (hA : ∀ a, H0.size ≤ a → A a) (hS : va_S A H0 H locs) (hn : As.length = n) (hsz : ls.size = nL) (hst : st0 = As.reverse ++ .ref (q 0) :: rest) (hW : (rest.map fun v => v.category).sum ≤ 8) (hf : cells ≤ R.cells ∧ slots ≤ R.slots) (hdg : decode cc pc = .ok (.invokevirtual index, 3))
    (kk : ∀ (v : Int32) (z' : zS) (H1 : Heap) (locs1 : List Loc), post v z' → va_P D vwCl (bW N en q z') H1 → (∀ a : Nat, a < H.size → ¬ bA N q H.size a → H1[a]? = H[a]?) → va_S A H0 H1 locs1 → W p l e R s m args below meth c H1 locs1 cells slots Q (F0 m (pc + 3) ls (.int v :: rest))) : W p l e R s m args below meth c H locs cells slots Q (F0 m pc ls st0) := by
  have hAk : ∀ a, bA N q H.size a → A a := fun a h => by
    rcases h with ⟨k, hk, rfl⟩ | h
    · exact hAq k hk
    · exact hA a (Nat.le_trans hS.1 h)
  exact va_calli (va_runV (As := As) (rest := rest) S (hM H.size) cw ⟨bBlind, va_recv hK hP hc (by rw [bW_at hN, he]), fun U hU hW => ⟨rfl, by rw [hU], by rw [hU]; exact hP, va_K.moved hW.alike hK, bZ_warm hW hZ⟩⟩ rfl hn hsz hst (lv_room hW) hdg hf) hS (fun a _ h => hAk a h) hAk (fun v u t H1 locs1 ht _ hp hB _ hk hS => kk v u H1 locs1 hp (by rw [← ht]; exact hB) hk hS)
theorem L_calll2 (S : CallFix p m c cc nL s args Ts own) {ci : Nat} {fs : List Value} {r : vw_C} {post : Int64 → zS → Prop} (hM : bCl l y ws rm D cy N en q z (.ref (q 0) :: As) post) (cw : CallW R s args own r.1 index y bytes maxL ret ws rm 0 0 n) (hK : bK D cy s) (hZ : bZ s) (hP : va_P D vwCl (bW N en q z) H) (hN : 0 < N) (he : en q z 0 = .inr (ci, fs)) (hc : vwCl[ci]? = some r) (hAq : ∀ k, k < N → A (q k)) (hA : ∀ a, H0.size ≤ a → A a) (hS : va_S A H0 H locs) (hn : As.length = n) (hsz : ls.size = nL) (hst : st0 = As.reverse ++ .ref (q 0) :: rest) (hW : (rest.map fun v => v.category).sum ≤ 8) (hf : cells ≤ R.cells ∧ slots ≤ R.slots) (hdg : decode cc pc = .ok (.invokevirtual index, 3))
    (kk : ∀ (v : Int64) (z' : zS) (H1 : Heap) (locs1 : List Loc), post v z' → va_P D vwCl (bW N en q z') H1 → (∀ a : Nat, a < H.size → ¬ bA N q H.size a → H1[a]? = H[a]?) → va_S A H0 H1 locs1 → W p l e R s m args below meth c H1 locs1 cells slots Q (F0 m (pc + 3) ls (.long v :: rest))) : W p l e R s m args below meth c H locs cells slots Q (F0 m pc ls st0) := by
  have hAk : ∀ a, bA N q H.size a → A a := fun a h => by
    rcases h with ⟨k, hk, rfl⟩ | h
    · exact hAq k hk
    · exact hA a (Nat.le_trans hS.1 h)
  exact va_calll (va_runV (As := As) (rest := rest) S (hM H.size) cw ⟨bBlind, va_recv hK hP hc (by rw [bW_at hN, he]), fun U hU hW => ⟨rfl, by rw [hU], by rw [hU]; exact hP, va_K.moved hW.alike hK, bZ_warm hW hZ⟩⟩ rfl hn hsz hst (lv_room hW) hdg hf) hS (fun a _ h => hAk a h) hAk (fun v u t H1 locs1 ht _ hp hB _ hk hS => kk v u H1 locs1 hp (by rw [← ht]; exact hB) hk hS)
end LW
theorem kp_of {D : va_G} {N : Nat} {q : Nat → Nat} {H H1 : Heap} {N2 : Nat} {en2 : bN} {r : Nat → Nat} {zm : zS} (hP : va_P D vwCl (bW N2 en2 r zm) H) (hne : ∀ i j, i < N → j < N2 → q i ≠ r j) (hk : ∀ a : Nat, a < H.size → ¬ bA N q H.size a → H1[a]? = H[a]?) : va_P D vwCl (bW N2 en2 r zm) H1 := by
  refine hP.kept (fun k x hx => ?_)
  have hlt := (hP k x hx).lt
  obtain ⟨hk3, rfl⟩ := bW_lt hx
  refine hk _ hlt (fun h => ?_)
  rcases h with ⟨i, hi, e⟩ | h
  · exact hne i k hi hk3 e.symm
  · exact absurd hlt (by show ¬ r k < H.size; omega)
theorem lw_gt {L i : Nat} (hL : L ≤ 2560) (hi : i ≤ 2565) : ((Int32.ofNat L - 5 : Int32) < nI i) ↔ L < i + 5 := by
  have h1 : (Int32.ofNat L).toInt = (L : Nat) := iv_ofn (by omega) _ rfl
  have h2 : (nI i).toInt = (i : Nat) := iv_ofn (by omega) _ rfl
  have h3 := iv_subE (x := Int32.ofNat L) (y := 5) (a := 0) (b := 2560) (c := 5) (d := 5) ⟨by omega, by omega⟩ ⟨by decide, by decide⟩ (by decide) (by decide)
  have h5 : (5 : Int32).toInt = 5 := by decide
  rw [b_lt]
  omega
/-- both objects, side by side, in any right state -/
def lwJ (D : va_G) (cy : Nat → ClassId) (q : Nat → Nat) (z : zS) (r : Nat → Nat) (zm : zS) (s : State) (H : Heap) (locs : List Loc) : Prop := bK D cy s ∧ bZ s ∧ va_P D vwCl (bW 66 (enC cy) q z) H ∧ va_P D vwCl (bW 23 (enM cy) r zm) H ∧ IvC z ∧ IvM zm ∧ bJ 66 q ∧ bJ 23 r ∧ (∀ k, k < 66 → s.heap.size ≤ q k) ∧ (∀ k, k < 23 → s.heap.size ≤ r k) ∧ (∀ i j, i < 66 → j < 23 → q i ≠ r j) ∧ va_S (fun a : Nat => s.heap.size ≤ a) s.heap H locs ∧ ((((z.1 0 = zm.1 0 ∧ z.1 6 = zm.1 4 ∧ (¬ z.1 6 = 0 → z.1 3 = zm.2.1 8 0)) ∧ (∀ i : Nat, i < 10 → z.2.1 7 i = zm.2.1 3 i) ∧ (¬ z.1 6 = 0 → ∀ i : Nat, i < 10 → z.2.1 21 i = zm.2.1 8 (36 + i))) ∧ LdI (z.2.1 7) (z.1 0).toNatClampNeg (z.2.1 8) ∧ (¬ z.1 6 = 0 → LdI (z.2.1 21) (z.1 3).toNatClampNeg (z.2.1 22))) ∧ z.1 7 = zm.1 3 ∧ (∀ i : Nat, (i : Int) < (z.1 7).toInt → z.2.1 30 i = zm.2.1 7 i))
theorem IvC_zF {g : Nat → Int32} (h : ∀ j : Nat, j < 4 → g j = -1) : IvC (zF g) := ⟨(show iv 0 10 (0 : Int32) from ⟨by decide, by decide⟩), (show iv 0 10 (0 : Int32) from ⟨by decide, by decide⟩), (show iv 0 10 (0 : Int32) from ⟨by decide, by decide⟩), (show iv 0 1023 (0 : Int32) from ⟨by decide, by decide⟩), (show iv 0 20 (0 : Int32) from ⟨by decide, by decide⟩), fun i _ => (show iv 0 10 (0 : Int32) from ⟨by decide, by decide⟩), fun i _ => (show iv 0 10 (0 : Int32) from ⟨by decide, by decide⟩), fun i _ => (show iv 0 10 (0 : Int32) from ⟨by decide, by decide⟩), fun i hi => (show iv (-1) 40 (g i) from (by rw [h i hi]; exact ⟨by decide, by decide⟩))⟩
theorem IvM_zM : IvM zM := ⟨⟨by decide, by decide⟩, ⟨by decide, by decide⟩, ⟨by decide, by decide⟩, ⟨by decide, by decide⟩, fun i _ => (show iv 0 100 (0 : Int32) from ⟨by decide, by decide⟩), fun i hi => (match i, hi with | 0, _ => ⟨by decide, by decide⟩ | 1, _ => ⟨by decide, by decide⟩ | 2, _ => ⟨by decide, by decide⟩ | n + 3, h => absurd h (by omega)), fun i _ => (show iv 0 10 (0 : Int32) from ⟨by decide, by decide⟩), fun i hi => (match i, hi with | 0, _ => ⟨by decide, by decide⟩ | 1, _ => ⟨by decide, by decide⟩ | 2, _ => ⟨by decide, by decide⟩ | 3, _ => ⟨by decide, by decide⟩ | n + 4, h => absurd h (by omega)), fun i _ => (show iv 0 27000 (0 : Int32) from ⟨by decide, by decide⟩), fun i _ => (show iv 0 10 (0 : Int32) from ⟨by decide, by decide⟩), (by unfold ShOk; decide), Or.inl rfl⟩
