theorem b_inlt {i : Int32} {n : Nat} (h : vp_in i n) : i.toNatClampNeg < n := Nat.not_le.mp fun q => h (Or.inr q)
theorem b_inof {x : Int32} {n : Nat} (h : 0 ≤ x.toInt ∧ x.toInt < n) : vp_in x n := vp_in_iff.mpr h
theorem upA_self (z : zS) (k : Nat) : upA z k (z.2.1 k) = z := by
  unfold upA
  refine congrArg (fun h => (z.1, h, z.2.2)) (funext fun j => ?_)
  unfold va_up
  split
  · rename_i h
    rw [h]
  · rfl
theorem upA_at (z : zS) (k : Nat) (f : Nat → Int32) : (upA z k f).2.1 k = f := by
  simp [upA, va_up]
set_option maxHeartbeats 4000000 in
set_option maxRecDepth 100000 in
/-- Arrays.fill(int[], int) -/
theorem c_fill (l : Launch) (D : va_G) (cy : Nat → ClassId) (N : Nat) (en : bN) (q : Nat → Nat) (hq : bJ N q) (z : zS) (k n : Nat) (v : Int32) (hk : k < N) (hn : n < 2 ^ 31) (hu : ∀ w : zS, en q w k = .inl (cy 0, n, .inl (w.2.1 k))) (ho : ∀ (w : zS) (f : Nat → Int32) (j : Nat), j < N → j ≠ k → en q (upA w k f) j = en q w j) : bCv l yJ7_fill_53178 wsJ7_fill_53178 ({ frames := 0, cells := 0, slots := 0, locals := 0 }) D cy N en q z [.ref (q k), .int v] (fun z' => ∃ f, upA z k f = z' ∧ ∀ j, j < n → f j = v) := by
  intro sz
  refine Met.ofW (cc := cJ7_fill_53178) (maxL := 4) (ret := none) (by decide) rfl ?_
  intro p e s m args below meth c s₁ B hml hv
  obtain ⟨rfl, hsz, hP, hK, -⟩ := hv
  have hx := B.exec
  have hb := B.bytes
  have hr := B.returns
  have hlocks := B.notSynchronized
  subst hsz
  have hH : bH D N en q z s.heap s.heap [] := bH_in hq hP
  have hl := lv_entry ([.ref (q k), .int v]) (n := 4) (Nat.le_of_ble_eq_true rfl)
  rw [lg_entry_eq]
  generalize (lg_sl ([.ref (q k), .int v]) ++ List.replicate (4 - (lg_sl ([.ref (q k), .int v])).length) Slot.unset).toArray = ls at hl ⊢
  have hl : lv_has ls 4 [(0, .ref (q k)), (1, .int v)] := hl
  refine lv_iconst (v := 0) hx hb dJ7_fill_53178_0 (by decide) ?_
  refine lv_istore_n (lv' := [(2, .int 0), (0, .ref (q k)), (1, .int v)]) hx hb dJ7_fill_53178_1 rfl hl (by decide) rfl (fun ls hl => ?_)
  refine lv_aload_n hx hb dJ7_fill_53178_2 rfl (lv_at hl 1 rfl) ?_
  refine b_alen (v := nI n) hx hb hK hH k 0 hk (hu z) rfl rfl dJ7_fill_53178_3 ?_
  refine lv_istore_n (lv' := [(3, .int (nI n)), (2, .int 0), (0, .ref (q k)), (1, .int v)]) hx hb dJ7_fill_53178_4 rfl hl (by decide) rfl (fun ls hl => ?_)
  have loop : ∀ (r i : Nat), i + r = n → ∀ (f : Nat → Int32) (H : Heap) (locs : List Loc), (∀ j, j < i → f j = v) → bH D N en q (upA z k f) s.heap H locs → ∀ ls : Array Slot, lv_has ls 4 [(2, .int (nI i)), (0, .ref (q k)), (1, .int v), (3, .int (nI n))] → W p l e (headSpec wsJ7_fill_53178 ({ frames := 0, cells := 0, slots := 0, locals := 0 })).room s m ([.ref (q k), .int v] : List Value).toArray below meth c H locs 0 0 (MQ below (va_Qv (fun z' => ∃ f, upA z k f = z' ∧ ∀ j, j < n → f j = v) (bPos D N en q) (bA N q s.heap.size)) ([.ref (q k), .int v] : List Value).toArray s 0 0 (bA N q s.heap.size)) (F0 m 5 ls []) := by
    intro r
    induction r with
    | zero =>
      intro i hi f H locs hf hH ls hl
      refine lv_iload_n hx hb dJ7_fill_53178_5 rfl (lv_at hl 0 rfl) ?_
      refine lv_iload_n hx hb dJ7_fill_53178_6 rfl (lv_at hl 3 rfl) ?_
      refine lv_icmp_ge (tgt := 20) hx hb dJ7_fill_53178_7 (by decide) (fun _ => ?_) (fun c1 => absurd (nI_le (by omega) (by omega)) c1)
      exact b_vret hx hb hr hlocks hH ⟨f, rfl, fun j hj => hf j (by omega)⟩ dJ7_fill_53178_20
    | succ r ih =>
      intro i hi f H locs hf hH ls hl
      refine lv_iload_n hx hb dJ7_fill_53178_5 rfl (lv_at hl 0 rfl) ?_
      refine lv_iload_n hx hb dJ7_fill_53178_6 rfl (lv_at hl 3 rfl) ?_
      refine lv_icmp_ge (tgt := 20) hx hb dJ7_fill_53178_7 (by decide) (fun c1 => absurd c1 (nI_ge (by omega) (by omega))) (fun _ => ?_)
      refine lv_aload_n hx hb dJ7_fill_53178_10 rfl (lv_at hl 1 rfl) ?_
      refine lv_iload_n hx hb dJ7_fill_53178_11 rfl (lv_at hl 0 rfl) ?_
      refine lv_iload_n hx hb dJ7_fill_53178_12 rfl (lv_at hl 2 rfl) ?_
      refine b_iast hx hb hK hH k hk (hu _) (vp_in_nI (by omega) (by omega)) (upA z k (upd f i v)) (by rw [hu, upA_at, upA_at, nI_clamp (by omega)]) (fun j h1 h2 => by rw [ho z _ j h1 h2, ho z _ j h1 h2]) dJ7_fill_53178_13 (fun H locs hH => ?_)
      refine lv_iinc (v := nI (i + 1)) (lv' := [(2, .int (nI (i + 1))), (0, .ref (q k)), (1, .int v), (3, .int (nI n))]) hx hb dJ7_fill_53178_14 hl (k := 0) rfl (nI_succ i).symm (by decide) rfl (fun ls hl => ?_)
      refine lv_goto (tgt := 5) hx hb dJ7_fill_53178_17 (by decide) ?_
      refine ih (i + 1) (by omega) (upd f i v) H locs (fun j hj => ?_) hH ls hl
      by_cases e : j = i
      · subst e
        exact pk_us
      · rw [pk_un e]
        exact hf j (by omega)
  exact loop n 0 (by omega) (z.2.1 k) _ _ (fun j hj => absurd hj (Nat.not_lt_zero j)) (by rw [upA_self]; exact hH) ls (lv_sub hl [1, 2, 3, 0] rfl)
