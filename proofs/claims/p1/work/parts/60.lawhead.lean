/-! THE CLAIM OUT OF ONE WALK OF THE LAW'S BODY. Your part is whole_start (and what it stands on); all else here is the same for every law, but numbers. -/
def R_law : String := "StationLineLaw"
def lw_P (b : Addr) (xs : List Int32) (args : Array Value) (s : State) : Prop := args = #[.ref b] ∧ s.IntsAt b xs ∧ xs.length ≤ 5 ∧ (Jvm.Cond.and given_1 narrow_1).before args s = true
def lw_Q (_ : Array Value) (s : State) (o : Outcome) (t : State) : Prop := o = .returned (some (.int 1)) ∧ Framed s o t [] 600000 7302250
def lw_Z (below : List Frame) (a : Array Value) (s : State) : State → Prop := fun t => ∃ o, t.status = .running ∧ Ended t below o ∧ lw_Q a s o t
/-- the law's own end, with 1 on the stack, nothing written that was there before, its room as the claim has it -/
theorem lw_ret {p : Program} {l : Launch} {e : Env} {s : State} {m : MethodId} {below : List Frame} {meth : Method} {c : Code} {b : Nat} (hx : p.tables.exec = Jvm.exec) (hb : c.code = code) (hr : meth.sig.returnType = ret) (hlocks : meth.locks = false) {pc : Nat} {H : Heap} {ls : Array Slot} (hdg : decode code pc = .ok (.ireturn, 1)) : W p l e room_1 s m #[Value.ref b] below meth c H [] 600000 7302250 (lw_Z below #[Value.ref b] s) (F0 m pc ls [.int 1]) := by
  intro T hT X
  obtain ⟨fs, hret, hrun, hended, hW, hframe⟩ := X.leave (v := some (.int 1)) (hlocks := hlocks) (fun h => by rw [hr] at h; cases h)
  have hmeth' : T.vm.method? m = some meth := X.method'
  refine ⟨T.setFrames fs, ?_, .returned (some (.int 1)), hrun, hended, rfl, ⟨_, rfl⟩, hW, hframe⟩
  jvm_step X.here [X.here.top, hx, hb, hdg, hmeth', hr, ret, narrow_b1]
  (try refine ⟨rfl, ?_⟩); (try refine ⟨rfl, ?_⟩)
  first | (intro acts; rw [hret _ acts rfl rfl rfl]) | rw [hret _ _ rfl rfl rfl]
  exact Steps.refl _
/-- what holds at the law's entry: the machine, the code, the tables' words (any of lw_tbl by 'hts w (by decide +kernel)'), the script of L ints xs at the cell b, what the Statement gives of the start (any of its parts by flat_of_before) -/
def lw_At (p : Program) (s : State) (m : MethodId) (meth : Method) (c : Code) (b L : Nat) (xs : Nat → Int32) : Prop :=
  p.tables.exec = Jvm.exec ∧ c.code = code ∧ meth.sig.returnType = ret ∧ c.maxLocals = 4 ∧ s.vm.findClass R_law = some m.cls ∧ (∀ w ∈ lw_tbl, w.before #[Value.ref b] s = true) ∧ va_X b L xs s s.heap ∧ b < s.heap.size ∧ meth.locks = false ∧ (Jvm.Cond.and given_1 narrow_1).before #[Value.ref b] s = true
theorem lg_cmp_self (v : Int64) : lg_cmp v v = 0 := by
  unfold lg_cmp
  rw [if_neg (fun h => Int64.lt_irrefl h), if_pos rfl]
theorem law_lt5 : ∀ L : Nat, L ≤ 5 → (Int32.ofNat L - 5 : Int32) < 5
  | 0, _ => by decide
  | 1, _ => by decide
  | 2, _ => by decide
  | 3, _ => by decide
  | 4, _ => by decide
  | 5, _ => by decide
  | n + 6, h => absurd h (by omega)
theorem law_lt0 : ∀ L : Nat, L < 5 → (Int32.ofNat L - 5 : Int32) < 0
  | 0, _ => by decide
  | 1, _ => by decide
  | 2, _ => by decide
  | 3, _ => by decide
  | 4, _ => by decide
  | n + 5, h => absurd h (by omega)
section LW
variable {p : Program} {l : Launch} {e : Env} {R : Room} {s : State} {m : MethodId} {args : Array Value} {below : List Frame} {meth : Method} {c : Code} {H : Heap} {locs : List Loc} {cells slots : Nat} {Q : State → Prop}
variable {cc : ByteArray} {pc : Nat} {ls : Array Slot} {rest st0 : List Value} {D : va_G} {cy : Nat → ClassId} {H0 : Heap} {N : Nat} {en : bN} {q : Nat → Nat} {z : zS} {A : Nat → Prop}
variable {y : MethodName} {bytes : ByteArray} {maxL nL n index : Nat} {ret : Option FieldType} {ws Ts : List Cond} {rm : Room} {own : String} {As : List Value}
theorem L_calli (S : CallFix p m c cc nL s args Ts own) {ci : Nat} {fs : List Value} {r : vw_C} {post : Int32 → zS → Prop} (hM : bCi l y ws rm D cy N en q z (.ref (q 0) :: As) post) (cw : CallW R s args own r.1 index y bytes maxL ret ws rm 0 0 n) (hK : bK D cy s) (hZ : bZ s) (hP : va_P D vwCl (bW N en q z) H) (hN : 0 < N) (he : en q z 0 = .inr (ci, fs)) (hc : vwCl[ci]? = some r) (hAq : ∀ k, k < N → A (q k)) (hA : ∀ a, H0.size ≤ a → A a) (hS : va_S A H0 H locs) (hn : As.length = n) (hsz : ls.size = nL) (hst : st0 = As.reverse ++ .ref (q 0) :: rest) (hW : (rest.map fun v => v.category).sum ≤ 8) (hf : cells ≤ R.cells ∧ slots ≤ R.slots) (hdg : decode cc pc = .ok (.invokevirtual index, 3))
    (kk : ∀ (v : Int32) (z' : zS) (H1 : Heap) (locs1 : List Loc), post v z' → (∀ a : Nat, a < H.size → ¬ bA N q H.size a → H1[a]? = H[a]?) → va_S A H0 H1 locs1 → W p l e R s m args below meth c H1 locs1 cells slots Q (F0 m (pc + 3) ls (.int v :: rest))) : W p l e R s m args below meth c H locs cells slots Q (F0 m pc ls st0) := by
  have hAk : ∀ a, bA N q H.size a → A a := fun a h => by
    rcases h with ⟨k, hk, rfl⟩ | h
    · exact hAq k hk
    · exact hA a (Nat.le_trans hS.1 h)
  exact va_calli (va_runV (As := As) (rest := rest) S (hM H.size) cw ⟨bBlind, va_recv hK hP hc (by rw [bW_at hN, he]), fun U hU hW => ⟨rfl, by rw [hU], by rw [hU]; exact hP, va_K.moved hW.alike hK, bZ_warm hW hZ⟩⟩ rfl hn hsz hst (lv_room hW) hdg hf) hS (fun a _ h => hAk a h) hAk (fun v u t H1 locs1 ht _ hp hB _ hk hS => kk v u H1 locs1 hp hk hS)
theorem L_calll (S : CallFix p m c cc nL s args Ts own) {ci : Nat} {fs : List Value} {r : vw_C} {post : Int64 → zS → Prop} (hM : bCl l y ws rm D cy N en q z (.ref (q 0) :: As) post) (cw : CallW R s args own r.1 index y bytes maxL ret ws rm 0 0 n) (hK : bK D cy s) (hZ : bZ s) (hP : va_P D vwCl (bW N en q z) H) (hN : 0 < N) (he : en q z 0 = .inr (ci, fs)) (hc : vwCl[ci]? = some r) (hAq : ∀ k, k < N → A (q k)) (hA : ∀ a, H0.size ≤ a → A a) (hS : va_S A H0 H locs) (hn : As.length = n) (hsz : ls.size = nL) (hst : st0 = As.reverse ++ .ref (q 0) :: rest) (hW : (rest.map fun v => v.category).sum ≤ 8) (hf : cells ≤ R.cells ∧ slots ≤ R.slots) (hdg : decode cc pc = .ok (.invokevirtual index, 3))
    (kk : ∀ (v : Int64) (z' : zS) (H1 : Heap) (locs1 : List Loc), post v z' → (∀ a : Nat, a < H.size → ¬ bA N q H.size a → H1[a]? = H[a]?) → va_S A H0 H1 locs1 → W p l e R s m args below meth c H1 locs1 cells slots Q (F0 m (pc + 3) ls (.long v :: rest))) : W p l e R s m args below meth c H locs cells slots Q (F0 m pc ls st0) := by
  have hAk : ∀ a, bA N q H.size a → A a := fun a h => by
    rcases h with ⟨k, hk, rfl⟩ | h
    · exact hAq k hk
    · exact hA a (Nat.le_trans hS.1 h)
  exact va_calll (va_runV (As := As) (rest := rest) S (hM H.size) cw ⟨bBlind, va_recv hK hP hc (by rw [bW_at hN, he]), fun U hU hW => ⟨rfl, by rw [hU], by rw [hU]; exact hP, va_K.moved hW.alike hK, bZ_warm hW hZ⟩⟩ rfl hn hsz hst (lv_room hW) hdg hf) hS (fun a _ h => hAk a h) hAk (fun v u t H1 locs1 ht _ hp hB _ hk hS => kk v u H1 locs1 hp hk hS)
end LW
/-- the two objects, fresh, side by side -/
def lwI (D : va_G) (cy : Nat → ClassId) (q : Nat → Nat) (z : zS) (r : Nat → Nat) (zm : zS) (s : State) (H : Heap) (locs : List Loc) : Prop := bK D cy s ∧ bZ s ∧ va_P D vwCl (bW 66 (enC cy) q z) H ∧ va_P D vwCl (bW 23 (enM cy) r zm) H ∧ Fr z ∧ Fm zm ∧ zm.1 2 = 10 ∧ bJ 66 q ∧ bJ 23 r ∧ (∀ k, k < 66 → s.heap.size ≤ q k) ∧ (∀ k, k < 23 → s.heap.size ≤ r k) ∧ (∀ i j, i < 66 → j < 23 → q i ≠ r j) ∧ va_S (fun a : Nat => s.heap.size ≤ a) s.heap H locs
theorem lwI_kept {D : va_G} {cy : Nat → ClassId} {q : Nat → Nat} {z : zS} {r : Nat → Nat} {zm : zS} {s : State} {H H1 : Heap} {locs : List Loc} (h : lwI D cy q z r zm s H locs) (hk : ∀ a : Nat, a < H.size → ¬ bA 66 q H.size a → H1[a]? = H[a]?) : va_P D vwCl (bW 23 (enM cy) r zm) H1 := by
  obtain ⟨-, -, -, hPM, -, -, -, -, -, -, -, hqr, -⟩ := h
  refine hPM.kept (fun k x hx => ?_)
  have hlt := (hPM k x hx).lt
  obtain ⟨hk3, rfl⟩ := bW_lt hx
  refine hk _ hlt (fun h => ?_)
  rcases h with ⟨i, hi, e⟩ | h
  · exact hqr i k hi hk3 e.symm
  · exact absurd hlt (by show ¬ r k < H.size; omega)
set_option maxHeartbeats 4000000 in
set_option maxRecDepth 100000 in
theorem law_tail {p : Program} {e : Env} {s : State} {m : MethodId} {below : List Frame} {meth : Method} {c : Code} (l : Launch) {b L : Nat} {xs : Nat → Int32} (hL : L ≤ 5) (C0 : lw_At p s m meth c b L xs) {H : Heap} {locs : List Loc} {q r : Nat → Nat} (hS : va_S (fun a : Nat => s.heap.size ≤ a) s.heap H locs) {ls : Array Slot} (hl : lv_has ls 4 [(3, .int 0), (2, .ref (r 0)), (1, .ref (q 0)), (0, .ref b)]) : W p l e room_1 s m #[Value.ref b] below meth c H locs 89 47199 (lw_Z below #[Value.ref b] s) (F0 m 1119 ls []) := by
  obtain ⟨hx, hb, hr, hml, hown, hts, hX, hbl, hlocks, hgv⟩ := id C0
  have hownL : s.vm.findClass RL = some m.cls := hown
  have hbA : ¬ (fun a : Nat => s.heap.size ≤ a) b := Nat.not_le.mpr hbl
  refine lv_iinc (v := 5) (lv' := [(3, .int 5), (2, .ref (r 0)), (1, .ref (q 0)), (0, .ref b)]) hx hb dL_law_1119 hl (k := 0) rfl (by decide) (by decide) rfl (fun ls hl => ?_)
  refine lv_goto (tgt := 18) hx hb dL_law_1122 (by decide) ?_
  refine lv_iload_n hx hb dL_law_18 rfl (lv_at hl 0 rfl) ?_
  refine lv_aload_n hx hb dL_law_19 rfl (lv_at hl 3 rfl) ?_
  refine va_slen hx hb hX hbl hbA hS dL_law_20 ?_
  refine lv_iconst (v := 5) hx hb dL_law_21 (by decide) ?_
  refine lv_isub hx hb dL_law_22 ?_
  refine lv_icmp_gt (tgt := 1125) hx hb dL_law_23 (by decide) (fun _ => ?_) (fun c0 => absurd (law_lt5 L hL) c0)
  refine lv_iconst (v := 1) hx hb dL_law_1125 (by decide) ?_
  refine va_forget (fun q hq => hS.2.2 q hq) ?_
  refine W.widen (k := 600000) (n := 7302250) (by decide) (by decide) ?_
  exact lw_ret hx hb hr hlocks dL_law_1126
