def TellP (c v c' : Int32) : Prop := (c = 20 → v = -2 ∧ c' = c) ∧ (¬ c = 20 → v = c + 1 ∧ c' = c + 1)
theorem TellP_eq {c v w d d' : Int32} (h : TellP c v d) (g : TellP c w d') : v = w ∧ d = d' := by
  by_cases q : c = 20
  · exact ⟨(h.1 q).1.trans (g.1 q).1.symm, (h.1 q).2.trans (g.1 q).2.symm⟩
  · exact ⟨(h.2 q).1.trans (g.2 q).1.symm, (h.2 q).2.trans (g.2 q).2.symm⟩
def RgP (a b : Int) (p c v c' : Int32) : Prop := (iv a b p → v = c ∧ c' = p) ∧ (¬ iv a b p → v = -2 ∧ c' = c)
theorem RgP_eq {a b : Int} {p c v w d d' : Int32} (h : RgP a b p c v d) (g : RgP a b p c w d') : v = w ∧ d = d' := by
  by_cases q : iv a b p
  · exact ⟨(h.1 q).1.trans (g.1 q).1.symm, (h.1 q).2.trans (g.1 q).2.symm⟩
  · exact ⟨(h.2 q).1.trans (g.2 q).1.symm, (h.2 q).2.trans (g.2 q).2.symm⟩
def TaskP (c v c' : Int32) : Prop := (c = 10 → v = -2 ∧ c' = c) ∧ (¬ c = 10 → v = c ∧ c' = c + 1)
theorem TaskP_eq {c v w d d' : Int32} (h : TaskP c v d) (g : TaskP c w d') : v = w ∧ d = d' := by
  by_cases q : c = 10
  · exact ⟨(h.1 q).1.trans (g.1 q).1.symm, (h.1 q).2.trans (g.1 q).2.symm⟩
  · exact ⟨(h.2 q).1.trans (g.2 q).1.symm, (h.2 q).2.trans (g.2 q).2.symm⟩
theorem iv_10 {x : Int32} (h : iv 0 10 x) (g : 10 ≤ x.toInt) : x = 10 := iv_one (n := 10) ⟨g, h.2⟩ (by decide)
theorem iv_20 {x : Int32} (h : iv 0 20 x) (g : 20 ≤ x.toInt) : x = 20 := iv_one (n := 20) ⟨g, h.2⟩ (by decide)
def ShP (s t n v : Int32) : Prop := ((iv 0 3 s ∧ iv 0 2 t ∧ n.toInt ≤ 40) → ((n.toInt < 0 → v = -13) ∧ (0 ≤ n.toInt → v = n))) ∧ (¬ (iv 0 3 s ∧ iv 0 2 t ∧ n.toInt ≤ 40) → v = -2)
theorem ShP_eq {s t n v w : Int32} (h : ShP s t n v) (g : ShP s t n w) : v = w := by
  by_cases q : iv 0 3 s ∧ iv 0 2 t ∧ n.toInt ≤ 40
  · rcases (show n.toInt < 0 ∨ 0 ≤ n.toInt by omega) with r | r
    · rw [(h.1 q).1 r, (g.1 q).1 r]
    · rw [(h.1 q).2 r, (g.1 q).2 r]
  · rw [h.2 q, g.2 q]
theorem enC_g4 (cy : Nat → ClassId) (q : Nat → Nat) (z : zS) (k : Nat) (hk : 4 ≤ k ∧ k < 7) : enC cy q z k = .inl (cy 0, 10, .inl (z.2.1 k)) := by
  rcases (show k = 4 ∨ k = 5 ∨ k = 6 by omega) with rfl | rfl | rfl <;> rfl
theorem enC_sa4 (cy : Nat → ClassId) (q : Nat → Nat) (z : zS) (k : Nat) (f : Nat → Int32) (hk : 4 ≤ k ∧ k < 7) : enC cy q (upA z k f) k = .inl (cy 0, 10, .inl f) := by
  rw [enC_g4 cy q _ k hk]
  exact congrArg (fun g => (.inl (cy 0, 10, .inl g) : va_E)) (va_up_self _ _ _)
theorem enC_g18 (cy : Nat → ClassId) (q : Nat → Nat) (z : zS) (k : Nat) (hk : 18 ≤ k ∧ k < 21) : enC cy q z k = .inl (cy 0, 10, .inl (z.2.1 k)) := by
  rcases (show k = 18 ∨ k = 19 ∨ k = 20 by omega) with rfl | rfl | rfl <;> rfl
theorem enC_sa18 (cy : Nat → ClassId) (q : Nat → Nat) (z : zS) (k : Nat) (f : Nat → Int32) (hk : 18 ≤ k ∧ k < 21) : enC cy q (upA z k f) k = .inl (cy 0, 10, .inl f) := by
  rw [enC_g18 cy q _ k hk]
  exact congrArg (fun g => (.inl (cy 0, 10, .inl g) : va_E)) (va_up_self _ _ _)
theorem enC_g41 (cy : Nat → ClassId) (q : Nat → Nat) (z : zS) (k : Nat) (hk : 41 ≤ k ∧ k < 52) : enC cy q z k = .inl (cy 1, 1024, .inr (.inl (z.2.2 k))) := by
  rcases (show k = 41 ∨ k = 42 ∨ k = 43 ∨ k = 44 ∨ k = 45 ∨ k = 46 ∨ k = 47 ∨ k = 48 ∨ k = 49 ∨ k = 50 ∨ k = 51 by omega) with rfl | rfl | rfl | rfl | rfl | rfl | rfl | rfl | rfl | rfl | rfl <;> rfl
theorem enC_sl41 (cy : Nat → ClassId) (q : Nat → Nat) (z : zS) (k : Nat) (f : Nat → Int64) (hk : 41 ≤ k ∧ k < 52) : enC cy q (upL z k f) k = .inl (cy 1, 1024, .inr (.inl f)) := by
  rw [enC_g41 cy q _ k hk]
  exact congrArg (fun g => (.inl (cy 1, 1024, .inr (.inl g)) : va_E)) (va_up_self _ _ _)
theorem enC_g53 (cy : Nat → ClassId) (q : Nat → Nat) (z : zS) (k : Nat) (hk : 53 ≤ k ∧ k < 55) : enC cy q z k = .inl (cy 1, 1024, .inr (.inl (z.2.2 k))) := by
  rcases (show k = 53 ∨ k = 54 by omega) with rfl | rfl <;> rfl
theorem enC_sl53 (cy : Nat → ClassId) (q : Nat → Nat) (z : zS) (k : Nat) (f : Nat → Int64) (hk : 53 ≤ k ∧ k < 55) : enC cy q (upL z k f) k = .inl (cy 1, 1024, .inr (.inl f)) := by
  rw [enC_g53 cy q _ k hk]
  exact congrArg (fun g => (.inl (cy 1, 1024, .inr (.inl g)) : va_E)) (va_up_self _ _ _)
theorem enC_g61 (cy : Nat → ClassId) (q : Nat → Nat) (z : zS) (k : Nat) (hk : 61 ≤ k ∧ k < 65) : enC cy q z k = .inl (cy 0, 40, .inl (z.2.1 k)) := by
  rcases (show k = 61 ∨ k = 62 ∨ k = 63 ∨ k = 64 by omega) with rfl | rfl | rfl | rfl <;> rfl
theorem enC_sa61 (cy : Nat → ClassId) (q : Nat → Nat) (z : zS) (k : Nat) (f : Nat → Int32) (hk : 61 ≤ k ∧ k < 65) : enC cy q (upA z k f) k = .inl (cy 0, 40, .inl f) := by
  rw [enC_g61 cy q _ k hk]
  exact congrArg (fun g => (.inl (cy 0, 40, .inl g) : va_E)) (va_up_self _ _ _)
def IvC (z : zS) : Prop := iv 0 10 (z.1 0) ∧ iv 0 10 (z.1 3) ∧ iv 0 10 (z.1 7) ∧ iv 0 1023 (z.1 8) ∧ iv 0 20 (z.1 9) ∧ (∀ i : Nat, i < 10 → iv 0 10 (z.2.1 14 i)) ∧ (∀ i : Nat, i < 10 → iv 0 10 (z.2.1 28 i)) ∧ (∀ i : Nat, i < 10 → iv 0 10 (z.2.1 56 i)) ∧ (∀ i : Nat, i < 4 → iv (-1) 40 (z.2.1 59 i))
theorem IvC_s0 {z : zS} (h : IvC z) : iv 0 10 (z.1 0) := h.1
theorem IvC_s3 {z : zS} (h : IvC z) : iv 0 10 (z.1 3) := h.2.1
theorem IvC_s7 {z : zS} (h : IvC z) : iv 0 10 (z.1 7) := h.2.2.1
theorem IvC_s8 {z : zS} (h : IvC z) : iv 0 1023 (z.1 8) := h.2.2.2.1
theorem IvC_s9 {z : zS} (h : IvC z) : iv 0 20 (z.1 9) := h.2.2.2.2.1
theorem IvC_a14 {z : zS} (h : IvC z) : (∀ i : Nat, i < 10 → iv 0 10 (z.2.1 14 i)) := h.2.2.2.2.2.1
theorem IvC_a28 {z : zS} (h : IvC z) : (∀ i : Nat, i < 10 → iv 0 10 (z.2.1 28 i)) := h.2.2.2.2.2.2.1
theorem IvC_a56 {z : zS} (h : IvC z) : (∀ i : Nat, i < 10 → iv 0 10 (z.2.1 56 i)) := h.2.2.2.2.2.2.2.1
theorem IvC_a59 {z : zS} (h : IvC z) : (∀ i : Nat, i < 4 → iv (-1) 40 (z.2.1 59 i)) := h.2.2.2.2.2.2.2.2
theorem IvC_S0 {z : zS} {v : Int32} (h : IvC z) (hv : iv 0 10 v) : IvC (upS z 0 v) := ⟨hv, h.2.1, h.2.2.1, h.2.2.2.1, h.2.2.2.2.1, h.2.2.2.2.2.1, h.2.2.2.2.2.2.1, h.2.2.2.2.2.2.2.1, h.2.2.2.2.2.2.2.2⟩
theorem IvC_S1 {z : zS} {v : Int32} (h : IvC z) : IvC (upS z 1 v) := ⟨h.1, h.2.1, h.2.2.1, h.2.2.2.1, h.2.2.2.2.1, h.2.2.2.2.2.1, h.2.2.2.2.2.2.1, h.2.2.2.2.2.2.2.1, h.2.2.2.2.2.2.2.2⟩
theorem IvC_S2 {z : zS} {v : Int32} (h : IvC z) : IvC (upS z 2 v) := ⟨h.1, h.2.1, h.2.2.1, h.2.2.2.1, h.2.2.2.2.1, h.2.2.2.2.2.1, h.2.2.2.2.2.2.1, h.2.2.2.2.2.2.2.1, h.2.2.2.2.2.2.2.2⟩
theorem IvC_S3 {z : zS} {v : Int32} (h : IvC z) (hv : iv 0 10 v) : IvC (upS z 3 v) := ⟨h.1, hv, h.2.2.1, h.2.2.2.1, h.2.2.2.2.1, h.2.2.2.2.2.1, h.2.2.2.2.2.2.1, h.2.2.2.2.2.2.2.1, h.2.2.2.2.2.2.2.2⟩
theorem IvC_S4 {z : zS} {v : Int32} (h : IvC z) : IvC (upS z 4 v) := ⟨h.1, h.2.1, h.2.2.1, h.2.2.2.1, h.2.2.2.2.1, h.2.2.2.2.2.1, h.2.2.2.2.2.2.1, h.2.2.2.2.2.2.2.1, h.2.2.2.2.2.2.2.2⟩
theorem IvC_S5 {z : zS} {v : Int32} (h : IvC z) : IvC (upS z 5 v) := ⟨h.1, h.2.1, h.2.2.1, h.2.2.2.1, h.2.2.2.2.1, h.2.2.2.2.2.1, h.2.2.2.2.2.2.1, h.2.2.2.2.2.2.2.1, h.2.2.2.2.2.2.2.2⟩
theorem IvC_S6 {z : zS} {v : Int32} (h : IvC z) : IvC (upS z 6 v) := ⟨h.1, h.2.1, h.2.2.1, h.2.2.2.1, h.2.2.2.2.1, h.2.2.2.2.2.1, h.2.2.2.2.2.2.1, h.2.2.2.2.2.2.2.1, h.2.2.2.2.2.2.2.2⟩
theorem IvC_S7 {z : zS} {v : Int32} (h : IvC z) (hv : iv 0 10 v) : IvC (upS z 7 v) := ⟨h.1, h.2.1, hv, h.2.2.2.1, h.2.2.2.2.1, h.2.2.2.2.2.1, h.2.2.2.2.2.2.1, h.2.2.2.2.2.2.2.1, h.2.2.2.2.2.2.2.2⟩
theorem IvC_S8 {z : zS} {v : Int32} (h : IvC z) (hv : iv 0 1023 v) : IvC (upS z 8 v) := ⟨h.1, h.2.1, h.2.2.1, hv, h.2.2.2.2.1, h.2.2.2.2.2.1, h.2.2.2.2.2.2.1, h.2.2.2.2.2.2.2.1, h.2.2.2.2.2.2.2.2⟩
theorem IvC_S9 {z : zS} {v : Int32} (h : IvC z) (hv : iv 0 20 v) : IvC (upS z 9 v) := ⟨h.1, h.2.1, h.2.2.1, h.2.2.2.1, hv, h.2.2.2.2.2.1, h.2.2.2.2.2.2.1, h.2.2.2.2.2.2.2.1, h.2.2.2.2.2.2.2.2⟩
theorem IvC_S10 {z : zS} {v : Int32} (h : IvC z) : IvC (upS z 10 v) := ⟨h.1, h.2.1, h.2.2.1, h.2.2.2.1, h.2.2.2.2.1, h.2.2.2.2.2.1, h.2.2.2.2.2.2.1, h.2.2.2.2.2.2.2.1, h.2.2.2.2.2.2.2.2⟩
theorem IvC_A {z : zS} {k : Nat} {f : Nat → Int32} (h : IvC z) (hk : k ≠ 14 ∧ k ≠ 28 ∧ k ≠ 56 ∧ k ≠ 59) : IvC (upA z k f) := ⟨h.1, h.2.1, h.2.2.1, h.2.2.2.1, h.2.2.2.2.1, fun i hi => (by show iv _ _ (va_up z.2.1 k f 14 i); rw [va_up_ne z.2.1 f (fun e => hk.1 e.symm)]; exact h.2.2.2.2.2.1 i hi), fun i hi => (by show iv _ _ (va_up z.2.1 k f 28 i); rw [va_up_ne z.2.1 f (fun e => hk.2.1 e.symm)]; exact h.2.2.2.2.2.2.1 i hi), fun i hi => (by show iv _ _ (va_up z.2.1 k f 56 i); rw [va_up_ne z.2.1 f (fun e => hk.2.2.1 e.symm)]; exact h.2.2.2.2.2.2.2.1 i hi), fun i hi => (by show iv _ _ (va_up z.2.1 k f 59 i); rw [va_up_ne z.2.1 f (fun e => hk.2.2.2 e.symm)]; exact h.2.2.2.2.2.2.2.2 i hi)⟩
theorem IvC_R14 {z : zS} (h : IvC z) {f : Nat → Int32} (hf : ∀ i : Nat, i < 10 → iv 0 10 (f i)) : IvC (upA z 14 f) := ⟨h.1, h.2.1, h.2.2.1, h.2.2.2.1, h.2.2.2.2.1, hf, h.2.2.2.2.2.2.1, h.2.2.2.2.2.2.2.1, h.2.2.2.2.2.2.2.2⟩
theorem IvC_A14 {z : zS} (h : IvC z) (j : Nat) {v : Int32} (hv : iv 0 10 v) : IvC (upA z 14 (upd (z.2.1 14) j v)) := IvC_R14 h (rw_up (IvC_a14 h) j hv)
theorem IvC_R28 {z : zS} (h : IvC z) {f : Nat → Int32} (hf : ∀ i : Nat, i < 10 → iv 0 10 (f i)) : IvC (upA z 28 f) := ⟨h.1, h.2.1, h.2.2.1, h.2.2.2.1, h.2.2.2.2.1, h.2.2.2.2.2.1, hf, h.2.2.2.2.2.2.2.1, h.2.2.2.2.2.2.2.2⟩
theorem IvC_A28 {z : zS} (h : IvC z) (j : Nat) {v : Int32} (hv : iv 0 10 v) : IvC (upA z 28 (upd (z.2.1 28) j v)) := IvC_R28 h (rw_up (IvC_a28 h) j hv)
theorem IvC_R56 {z : zS} (h : IvC z) {f : Nat → Int32} (hf : ∀ i : Nat, i < 10 → iv 0 10 (f i)) : IvC (upA z 56 f) := ⟨h.1, h.2.1, h.2.2.1, h.2.2.2.1, h.2.2.2.2.1, h.2.2.2.2.2.1, h.2.2.2.2.2.2.1, hf, h.2.2.2.2.2.2.2.2⟩
theorem IvC_A56 {z : zS} (h : IvC z) (j : Nat) {v : Int32} (hv : iv 0 10 v) : IvC (upA z 56 (upd (z.2.1 56) j v)) := IvC_R56 h (rw_up (IvC_a56 h) j hv)
theorem IvC_R59 {z : zS} (h : IvC z) {f : Nat → Int32} (hf : ∀ i : Nat, i < 4 → iv (-1) 40 (f i)) : IvC (upA z 59 f) := ⟨h.1, h.2.1, h.2.2.1, h.2.2.2.1, h.2.2.2.2.1, h.2.2.2.2.2.1, h.2.2.2.2.2.2.1, h.2.2.2.2.2.2.2.1, hf⟩
theorem IvC_A59 {z : zS} (h : IvC z) (j : Nat) {v : Int32} (hv : iv (-1) 40 v) : IvC (upA z 59 (upd (z.2.1 59) j v)) := IvC_R59 h (rw_up (IvC_a59 h) j hv)
theorem IvC_L {z : zS} {k : Nat} {f : Nat → Int64} (h : IvC z) : IvC (upL z k f) := h
set_option maxHeartbeats 4000000 in
set_option maxRecDepth 100000 in
theorem g_X5_isMake (l : Launch) (D : va_G) (cy : Nat → ClassId) (q : Nat → Nat) (hq : bJ 66 q) (z0 : zS) (hI : IvC z0) (p0 : Int32) : bCi l yX5_isMake wsX5_isMake ({ frames := 0, cells := 0, slots := 0, locals := 0 }) D cy 66 (enC cy) q z0 [.int p0] (fun v z => jJ IvC 0 0 0 z0 z ∧ iv 0 1 v ∧ (v = 0 ∨ iv 0 2 p0)) := by
  refine hM_z cX5_isMake (by decide) rfl (own := RX5) rfl hq (Nat.le_of_ble_eq_true rfl) ?_
  intro p e s m args below meth c Q ls H locs hx hb hml hown hts hK hZ hH hl hret
  have hl : lv_has ls 1 [(0, .int p0)] := hl
  have hJ : jJ IvC 0 0 0 z0 z0 := jJ_rf _ _ _ hI
  have HJ13 : ∀ (H : Heap) (locs : List Loc) (ls : Array Slot), bH D 66 (enC cy) q z0 s.heap H locs → lv_has ls 1 [] → W p l e ({ frames := 0, cells := 0, slots := 0, locals := 0 }) s m args below meth c H locs 0 0 Q (F0 m 13 ls []) := by
    intro H locs ls hH hl
    refine lv_iconst (v := 0) hx hb dX5_isMake_13 (by decide) ?_
    exact hret _ z0 H locs _ _ (iv_w (iv_lit (n := 0) 0 (by decide)) (by decide) (by decide)) ⟨hJ, (iv_w (iv_lit (n := 0) 0 (by decide)) (by decide) (by decide)), Or.inl rfl⟩ hH dX5_isMake_14
  refine lv_iload_n hx hb dX5_isMake_0 rfl (lv_at hl 0 rfl) ?_
  refine lv_if_lt (tgt := 13) hx hb dX5_isMake_1 (by decide) (fun c7 => ?_) (fun c7 => ?_)
  · skip
    have k8a : iv (-2147483648) (-1) p0 := iv_ltl (iv_Lt c7) (iv_all p0) (iv_lit (n := 0) 0 (by decide)) (by decide)
    exact HJ13   H locs ls   hH (lv_sub hl [] rfl)
  · skip
    have k9b : iv 0 2147483647 p0 := iv_ler (iv_nLt c7) (iv_lit (n := 0) 0 (by decide)) (iv_all p0)
    refine lv_iload_n hx hb dX5_isMake_4 rfl (lv_at hl 0 rfl) ?_
    refine lv_iconst (v := 3) hx hb dX5_isMake_5 (by decide) ?_
    refine lv_icmp_ge (tgt := 13) hx hb dX5_isMake_6 (by decide) (fun c10 => ?_) (fun c10 => ?_)
    · skip
      have k11b : iv 3 2147483647 p0 := iv_ler (iv_Le c10) (iv_lit (n := 3) 3 (by decide)) k9b
      exact HJ13   H locs ls   hH (lv_sub hl [] rfl)
    · skip
      have k12a : iv 0 2 p0 := iv_ltl (iv_nLe c10) k9b (iv_lit (n := 3) 3 (by decide)) (by decide)
      refine lv_iconst (v := 1) hx hb dX5_isMake_9 (by decide) ?_
      refine lv_goto (tgt := 14) hx hb dX5_isMake_10 (by decide) ?_
      exact hret _ z0 H locs _ _ (iv_w (iv_lit (n := 1) 1 (by decide)) (by decide) (by decide)) ⟨hJ, (iv_w (iv_lit (n := 1) 1 (by decide)) (by decide) (by decide)), Or.inr (iv_w k12a (by decide) (by decide))⟩ hH dX5_isMake_14
set_option maxHeartbeats 4000000 in
set_option maxRecDepth 100000 in
theorem g_X5_isStation (l : Launch) (D : va_G) (cy : Nat → ClassId) (q : Nat → Nat) (hq : bJ 66 q) (z0 : zS) (hI : IvC z0) (p0 : Int32) : bCi l yX5_isStation wsX5_isStation ({ frames := 0, cells := 0, slots := 0, locals := 0 }) D cy 66 (enC cy) q z0 [.int p0] (fun v z => jJ IvC 0 0 0 z0 z ∧ iv 0 1 v ∧ (v = 0 ∨ iv 1 10 p0)) := by
  refine hM_z cX5_isStation (by decide) rfl (own := RX5) rfl hq (Nat.le_of_ble_eq_true rfl) ?_
  intro p e s m args below meth c Q ls H locs hx hb hml hown hts hK hZ hH hl hret
  have hl : lv_has ls 1 [(0, .int p0)] := hl
  have hJ : jJ IvC 0 0 0 z0 z0 := jJ_rf _ _ _ hI
  have HJ15 : ∀ (H : Heap) (locs : List Loc) (ls : Array Slot), bH D 66 (enC cy) q z0 s.heap H locs → lv_has ls 1 [] → W p l e ({ frames := 0, cells := 0, slots := 0, locals := 0 }) s m args below meth c H locs 0 0 Q (F0 m 15 ls []) := by
    intro H locs ls hH hl
    refine lv_iconst (v := 0) hx hb dX5_isStation_15 (by decide) ?_
    exact hret _ z0 H locs _ _ (iv_w (iv_lit (n := 0) 0 (by decide)) (by decide) (by decide)) ⟨hJ, (iv_w (iv_lit (n := 0) 0 (by decide)) (by decide) (by decide)), Or.inl rfl⟩ hH dX5_isStation_16
  refine lv_iload_n hx hb dX5_isStation_0 rfl (lv_at hl 0 rfl) ?_
  refine lv_iconst (v := 1) hx hb dX5_isStation_1 (by decide) ?_
  refine lv_icmp_lt (tgt := 15) hx hb dX5_isStation_2 (by decide) (fun c7 => ?_) (fun c7 => ?_)
  · skip
    have k8a : iv (-2147483648) 0 p0 := iv_ltl (iv_Lt c7) (iv_all p0) (iv_lit (n := 1) 1 (by decide)) (by decide)
    exact HJ15   H locs ls   hH (lv_sub hl [] rfl)
  · skip
    have k9b : iv 1 2147483647 p0 := iv_ler (iv_nLt c7) (iv_lit (n := 1) 1 (by decide)) (iv_all p0)
    refine lv_iload_n hx hb dX5_isStation_5 rfl (lv_at hl 0 rfl) ?_
    refine lv_bipush (v := 10) hx hb dX5_isStation_6 (by decide) ?_
    refine lv_icmp_gt (tgt := 15) hx hb dX5_isStation_8 (by decide) (fun c10 => ?_) (fun c10 => ?_)
    · skip
      have k11b : iv 11 2147483647 p0 := iv_ltr (iv_Lt c10) (iv_lit (n := 10) 10 (by decide)) k9b (by decide)
      exact HJ15   H locs ls   hH (lv_sub hl [] rfl)
    · skip
      have k12a : iv 1 10 p0 := iv_lel (iv_nLt c10) k9b (iv_lit (n := 10) 10 (by decide))
      refine lv_iconst (v := 1) hx hb dX5_isStation_11 (by decide) ?_
      refine lv_goto (tgt := 16) hx hb dX5_isStation_12 (by decide) ?_
      exact hret _ z0 H locs _ _ (iv_w (iv_lit (n := 1) 1 (by decide)) (by decide) (by decide)) ⟨hJ, (iv_w (iv_lit (n := 1) 1 (by decide)) (by decide) (by decide)), Or.inr (iv_w k12a (by decide) (by decide))⟩ hH dX5_isStation_16
set_option maxHeartbeats 4000000 in
set_option maxRecDepth 100000 in
theorem g_X5_isStationOrNone (l : Launch) (D : va_G) (cy : Nat → ClassId) (q : Nat → Nat) (hq : bJ 66 q) (z0 : zS) (hI : IvC z0) (p0 : Int32) : bCi l yX5_isStationOrNone wsX5_isStationOrNone ({ frames := 0, cells := 0, slots := 0, locals := 0 }) D cy 66 (enC cy) q z0 [.int p0] (fun v z => jJ IvC 0 0 0 z0 z ∧ iv 0 1 v ∧ (v = 0 ∨ iv 0 10 p0)) := by
  refine hM_z cX5_isStationOrNone (by decide) rfl (own := RX5) rfl hq (Nat.le_of_ble_eq_true rfl) ?_
  intro p e s m args below meth c Q ls H locs hx hb hml hown hts hK hZ hH hl hret
  have hl : lv_has ls 1 [(0, .int p0)] := hl
  have hJ : jJ IvC 0 0 0 z0 z0 := jJ_rf _ _ _ hI
  have HJ14 : ∀ (H : Heap) (locs : List Loc) (ls : Array Slot), bH D 66 (enC cy) q z0 s.heap H locs → lv_has ls 1 [] → W p l e ({ frames := 0, cells := 0, slots := 0, locals := 0 }) s m args below meth c H locs 0 0 Q (F0 m 14 ls []) := by
    intro H locs ls hH hl
    refine lv_iconst (v := 0) hx hb dX5_isStationOrNone_14 (by decide) ?_
    exact hret _ z0 H locs _ _ (iv_w (iv_lit (n := 0) 0 (by decide)) (by decide) (by decide)) ⟨hJ, (iv_w (iv_lit (n := 0) 0 (by decide)) (by decide) (by decide)), Or.inl rfl⟩ hH dX5_isStationOrNone_15
  refine lv_iload_n hx hb dX5_isStationOrNone_0 rfl (lv_at hl 0 rfl) ?_
  refine lv_if_lt (tgt := 14) hx hb dX5_isStationOrNone_1 (by decide) (fun c7 => ?_) (fun c7 => ?_)
  · skip
    have k8a : iv (-2147483648) (-1) p0 := iv_ltl (iv_Lt c7) (iv_all p0) (iv_lit (n := 0) 0 (by decide)) (by decide)
    exact HJ14   H locs ls   hH (lv_sub hl [] rfl)
  · skip
    have k9b : iv 0 2147483647 p0 := iv_ler (iv_nLt c7) (iv_lit (n := 0) 0 (by decide)) (iv_all p0)
    refine lv_iload_n hx hb dX5_isStationOrNone_4 rfl (lv_at hl 0 rfl) ?_
    refine lv_bipush (v := 10) hx hb dX5_isStationOrNone_5 (by decide) ?_
    refine lv_icmp_gt (tgt := 14) hx hb dX5_isStationOrNone_7 (by decide) (fun c10 => ?_) (fun c10 => ?_)
    · skip
      have k11b : iv 11 2147483647 p0 := iv_ltr (iv_Lt c10) (iv_lit (n := 10) 10 (by decide)) k9b (by decide)
      exact HJ14   H locs ls   hH (lv_sub hl [] rfl)
    · skip
      have k12a : iv 0 10 p0 := iv_lel (iv_nLt c10) k9b (iv_lit (n := 10) 10 (by decide))
      refine lv_iconst (v := 1) hx hb dX5_isStationOrNone_10 (by decide) ?_
      refine lv_goto (tgt := 15) hx hb dX5_isStationOrNone_11 (by decide) ?_
      exact hret _ z0 H locs _ _ (iv_w (iv_lit (n := 1) 1 (by decide)) (by decide) (by decide)) ⟨hJ, (iv_w (iv_lit (n := 1) 1 (by decide)) (by decide) (by decide)), Or.inr (iv_w k12a (by decide) (by decide))⟩ hH dX5_isStationOrNone_15
set_option maxHeartbeats 4000000 in
set_option maxRecDepth 100000 in
theorem g_X5_isSheet (l : Launch) (D : va_G) (cy : Nat → ClassId) (q : Nat → Nat) (hq : bJ 66 q) (z0 : zS) (hI : IvC z0) (p0 : Int32) : bCi l yX5_isSheet wsX5_isSheet ({ frames := 0, cells := 0, slots := 0, locals := 0 }) D cy 66 (enC cy) q z0 [.int p0] (fun v z => jJ IvC 0 0 0 z0 z ∧ iv 0 1 v ∧ (v = 0 ∨ iv 0 3 p0) ∧ (v = 0 ↔ ¬ iv 0 3 p0)) := by
  refine hM_z cX5_isSheet (by decide) rfl (own := RX5) rfl hq (Nat.le_of_ble_eq_true rfl) ?_
  intro p e s m args below meth c Q ls H locs hx hb hml hown hts hK hZ hH hl hret
  have hl : lv_has ls 1 [(0, .int p0)] := hl
  have hJ : jJ IvC 0 0 0 z0 z0 := jJ_rf _ _ _ hI
  have e00 : (0 : Int32).toInt = 0 := (by decide); have e01 : (1 : Int32).toInt = 1 := (by decide); have e02 : (2 : Int32).toInt = 2 := (by decide); have e03 : (3 : Int32).toInt = 3 := (by decide); have e010 : (10 : Int32).toInt = 10 := (by decide)
  have e4 : (4 : Int32).toInt = 4 := (by decide)
  refine lv_iload_n hx hb dX5_isSheet_0 rfl (lv_at hl 0 rfl) ?_
  refine lv_if_lt (tgt := 13) hx hb dX5_isSheet_1 (by decide) (fun c7 => ?_) (fun c7 => ?_)
  · skip
    have r7 := (iv_Lt c7)
    have k8a : iv (-2147483648) (-1) p0 := iv_ltl (iv_Lt c7) (iv_all p0) (iv_lit (n := 0) 0 (by decide)) (by decide)
    refine lv_iconst (v := 0) hx hb dX5_isSheet_13 (by decide) ?_
    exact hret _ z0 H locs _ _ (iv_w (iv_lit (n := 0) 0 (by decide)) (by decide) (by decide)) ⟨hJ, (iv_w (iv_lit (n := 0) 0 (by decide)) (by decide) (by decide)), Or.inl rfl, ⟨fun _ q => (by have := q.1; have := q.2; omega), fun _ => rfl⟩⟩ hH dX5_isSheet_14
  · skip
    have r7 := (iv_nLt c7)
    have k9b : iv 0 2147483647 p0 := iv_ler (iv_nLt c7) (iv_lit (n := 0) 0 (by decide)) (iv_all p0)
    refine lv_iload_n hx hb dX5_isSheet_4 rfl (lv_at hl 0 rfl) ?_
    refine lv_iconst (v := 4) hx hb dX5_isSheet_5 (by decide) ?_
    refine lv_icmp_ge (tgt := 13) hx hb dX5_isSheet_6 (by decide) (fun c10 => ?_) (fun c10 => ?_)
    · skip
      have r10 := (iv_Le c10)
      have k11b : iv 4 2147483647 p0 := iv_ler (iv_Le c10) (iv_lit (n := 4) 4 (by decide)) k9b
      refine lv_iconst (v := 0) hx hb dX5_isSheet_13 (by decide) ?_
      exact hret _ z0 H locs _ _ (iv_w (iv_lit (n := 0) 0 (by decide)) (by decide) (by decide)) ⟨hJ, (iv_w (iv_lit (n := 0) 0 (by decide)) (by decide) (by decide)), Or.inl rfl, ⟨fun _ q => (by have := q.1; have := q.2; omega), fun _ => rfl⟩⟩ hH dX5_isSheet_14
    · skip
      have r10 := (iv_nLe c10)
      have k12a : iv 0 3 p0 := iv_ltl (iv_nLe c10) k9b (iv_lit (n := 4) 4 (by decide)) (by decide)
      refine lv_iconst (v := 1) hx hb dX5_isSheet_9 (by decide) ?_
      refine lv_goto (tgt := 14) hx hb dX5_isSheet_10 (by decide) ?_
      exact hret _ z0 H locs _ _ (iv_w (iv_lit (n := 1) 1 (by decide)) (by decide) (by decide)) ⟨hJ, (iv_w (iv_lit (n := 1) 1 (by decide)) (by decide) (by decide)), Or.inr (iv_w k12a (by decide) (by decide)), ⟨fun q => absurd q (by decide), fun q => absurd (show iv 0 3 p0 from ⟨by omega, by omega⟩) q⟩⟩ hH dX5_isSheet_14
set_option maxHeartbeats 4000000 in
set_option maxRecDepth 100000 in
theorem g_X5_isSort (l : Launch) (D : va_G) (cy : Nat → ClassId) (q : Nat → Nat) (hq : bJ 66 q) (z0 : zS) (hI : IvC z0) (p0 : Int32) : bCi l yX5_isSort wsX5_isSort ({ frames := 0, cells := 0, slots := 0, locals := 0 }) D cy 66 (enC cy) q z0 [.int p0] (fun v z => jJ IvC 0 0 0 z0 z ∧ iv 0 1 v ∧ (v = 0 ∨ iv 0 2 p0) ∧ (v = 0 ↔ ¬ iv 0 2 p0)) := by
  refine hM_z cX5_isSort (by decide) rfl (own := RX5) rfl hq (Nat.le_of_ble_eq_true rfl) ?_
  intro p e s m args below meth c Q ls H locs hx hb hml hown hts hK hZ hH hl hret
  have hl : lv_has ls 1 [(0, .int p0)] := hl
  have hJ : jJ IvC 0 0 0 z0 z0 := jJ_rf _ _ _ hI
  have e00 : (0 : Int32).toInt = 0 := (by decide); have e01 : (1 : Int32).toInt = 1 := (by decide); have e02 : (2 : Int32).toInt = 2 := (by decide); have e03 : (3 : Int32).toInt = 3 := (by decide); have e010 : (10 : Int32).toInt = 10 := (by decide)
  have e4 : (4 : Int32).toInt = 4 := (by decide)
  refine lv_iload_n hx hb dX5_isSort_0 rfl (lv_at hl 0 rfl) ?_
  refine lv_if_lt (tgt := 13) hx hb dX5_isSort_1 (by decide) (fun c7 => ?_) (fun c7 => ?_)
  · skip
    have r7 := (iv_Lt c7)
    have k8a : iv (-2147483648) (-1) p0 := iv_ltl (iv_Lt c7) (iv_all p0) (iv_lit (n := 0) 0 (by decide)) (by decide)
    refine lv_iconst (v := 0) hx hb dX5_isSort_13 (by decide) ?_
    exact hret _ z0 H locs _ _ (iv_w (iv_lit (n := 0) 0 (by decide)) (by decide) (by decide)) ⟨hJ, (iv_w (iv_lit (n := 0) 0 (by decide)) (by decide) (by decide)), Or.inl rfl, ⟨fun _ q => (by have := q.1; have := q.2; omega), fun _ => rfl⟩⟩ hH dX5_isSort_14
  · skip
    have r7 := (iv_nLt c7)
    have k9b : iv 0 2147483647 p0 := iv_ler (iv_nLt c7) (iv_lit (n := 0) 0 (by decide)) (iv_all p0)
    refine lv_iload_n hx hb dX5_isSort_4 rfl (lv_at hl 0 rfl) ?_
    refine lv_iconst (v := 3) hx hb dX5_isSort_5 (by decide) ?_
    refine lv_icmp_ge (tgt := 13) hx hb dX5_isSort_6 (by decide) (fun c10 => ?_) (fun c10 => ?_)
    · skip
      have r10 := (iv_Le c10)
      have k11b : iv 3 2147483647 p0 := iv_ler (iv_Le c10) (iv_lit (n := 3) 3 (by decide)) k9b
      refine lv_iconst (v := 0) hx hb dX5_isSort_13 (by decide) ?_
      exact hret _ z0 H locs _ _ (iv_w (iv_lit (n := 0) 0 (by decide)) (by decide) (by decide)) ⟨hJ, (iv_w (iv_lit (n := 0) 0 (by decide)) (by decide) (by decide)), Or.inl rfl, ⟨fun _ q => (by have := q.1; have := q.2; omega), fun _ => rfl⟩⟩ hH dX5_isSort_14
    · skip
      have r10 := (iv_nLe c10)
      have k12a : iv 0 2 p0 := iv_ltl (iv_nLe c10) k9b (iv_lit (n := 3) 3 (by decide)) (by decide)
      refine lv_iconst (v := 1) hx hb dX5_isSort_9 (by decide) ?_
      refine lv_goto (tgt := 14) hx hb dX5_isSort_10 (by decide) ?_
      exact hret _ z0 H locs _ _ (iv_w (iv_lit (n := 1) 1 (by decide)) (by decide) (by decide)) ⟨hJ, (iv_w (iv_lit (n := 1) 1 (by decide)) (by decide) (by decide)), Or.inr (iv_w k12a (by decide) (by decide)), ⟨fun q => absurd q (by decide), fun q => absurd (show iv 0 2 p0 from ⟨by omega, by omega⟩) q⟩⟩ hH dX5_isSort_14
set_option maxHeartbeats 4000000 in
set_option maxRecDepth 100000 in
theorem g_X5_takenUp (l : Launch) (D : va_G) (cy : Nat → ClassId) (q : Nat → Nat) (hq : bJ 66 q) (z0 : zS) (hI : IvC z0) (p0 : Int32) (p1 : Int32) : bCi l yX5_takenUp wsX5_takenUp ({ frames := 0, cells := 0, slots := 0, locals := 0 }) D cy 66 (enC cy) q z0 [.int p0, .int p1] (fun v z => jJ IvC 0 0 0 z0 z ∧ iv (-2147483648) 2147483647 v) := by
  refine hM_i cX5_takenUp (by decide) rfl (own := RX5) rfl hq (Nat.le_of_ble_eq_true rfl) ?_
  intro p e s m args below meth c Q ls H locs hx hb hml hown hts hK hZ hH hl hret
  have hl : lv_has ls 2 [(0, .int p0), (1, .int p1)] := hl
  have hJ : jJ IvC 0 0 0 z0 z0 := jJ_rf _ _ _ hI
  refine lv_iload_n hx hb dX5_takenUp_0 rfl (lv_at hl 1 rfl) ?_
  refine lv_iconst (v := 1) hx hb dX5_takenUp_1 (by decide) ?_
  refine lv_icmp_ge (tgt := 9) hx hb dX5_takenUp_2 (by decide) (fun c7 => ?_) (fun c7 => ?_)
  · skip
    have k8b : iv 1 2147483647 p1 := iv_ler (iv_Le c7) (iv_lit (n := 1) 1 (by decide)) (iv_all p1)
    refine lv_iload_n hx hb dX5_takenUp_9 rfl (lv_at hl 0 rfl) ?_
    refine lv_iload_n hx hb dX5_takenUp_10 rfl (lv_at hl 1 rfl) ?_
    refine lv_iadd hx hb dX5_takenUp_11 ?_
    refine lv_topi (fun w9 _ => ?_)
    refine lv_iconst (v := 1) hx hb dX5_takenUp_12 (by decide) ?_
    refine lv_isub hx hb dX5_takenUp_13 ?_
    refine lv_topi (fun w10 _ => ?_)
    refine lv_iload_n hx hb dX5_takenUp_14 rfl (lv_at hl 1 rfl) ?_
    refine lv_idiv hx hb dX5_takenUp_15 (iv_nz k8b (by decide)) ?_
    refine lv_topi (fun w11 _ => ?_)
    exact hret _ z0 H locs _ _ ⟨hJ, (iv_all w11)⟩ hH dX5_takenUp_16
  · skip
    have k12a : iv (-2147483648) 0 p1 := iv_ltl (iv_nLe c7) (iv_all p1) (iv_lit (n := 1) 1 (by decide)) (by decide)
    refine lv_iconst (v := 0) hx hb dX5_takenUp_5 (by decide) ?_
    refine lv_goto (tgt := 16) hx hb dX5_takenUp_6 (by decide) ?_
    exact hret _ z0 H locs _ _ ⟨hJ, (iv_w (iv_lit (n := 0) 0 (by decide)) (by decide) (by decide))⟩ hH dX5_takenUp_16
set_option maxHeartbeats 4000000 in
set_option maxRecDepth 100000 in
theorem g_X0_has_1 (l : Launch) (D : va_G) (cy : Nat → ClassId) (q : Nat → Nat) (hq : bJ 66 q) (z0 : zS) (hI : IvC z0) (p0 : Int32) : bCi l yX0_has wsX0_has ({ frames := 0, cells := 0, slots := 0, locals := 0 }) D cy 66 (enC cy) q z0 [.ref (q 1), .int p0] (fun v z => jJ IvC 0 0 0 z0 z ∧ iv 0 1 v ∧ (v = 0 ∨ iv 0 9 p0)) := by
  refine hM_z cX0_has (by decide) rfl (own := RX0) rfl hq (Nat.le_of_ble_eq_true rfl) ?_
  intro p e s m args below meth c Q ls H locs hx hb hml hown hts hK hZ hH hl hret
  have hl : lv_has ls 2 [(0, .ref (q 1)), (1, .int p0)] := hl
  have hJ : jJ IvC 0 0 0 z0 z0 := jJ_rf _ _ _ hI
  have HJ16 : ∀ (H : Heap) (locs : List Loc) (ls : Array Slot), bH D 66 (enC cy) q z0 s.heap H locs → lv_has ls 2 [] → W p l e ({ frames := 0, cells := 0, slots := 0, locals := 0 }) s m args below meth c H locs 0 0 Q (F0 m 16 ls []) := by
    intro H locs ls hH hl
    refine lv_iconst (v := 0) hx hb dX0_has_16 (by decide) ?_
    exact hret _ z0 H locs _ _ (iv_w (iv_lit (n := 0) 0 (by decide)) (by decide) (by decide)) ⟨hJ, (iv_w (iv_lit (n := 0) 0 (by decide)) (by decide) (by decide)), Or.inl rfl⟩ hH dX0_has_17
  refine lv_iload_n hx hb dX0_has_0 rfl (lv_at hl 1 rfl) ?_
  refine lv_if_lt (tgt := 16) hx hb dX0_has_1 (by decide) (fun c8 => ?_) (fun c8 => ?_)
  · skip
    have k9a : iv (-2147483648) (-1) p0 := iv_ltl (iv_Lt c8) (iv_all p0) (iv_lit (n := 0) 0 (by decide)) (by decide)
    exact HJ16   H locs ls   hH (lv_sub hl [] rfl)
  · skip
    have k10b : iv 0 2147483647 p0 := iv_ler (iv_nLt c8) (iv_lit (n := 0) 0 (by decide)) (iv_all p0)
    refine lv_iload_n hx hb dX0_has_4 rfl (lv_at hl 1 rfl) ?_
    refine lv_aload_n hx hb dX0_has_5 rfl (lv_at hl 0 rfl) ?_
    refine b_get (ci := 0) (C := RX0) (T := TX0) (Nf := 11) (v := .int (z0.1 0)) hx hb hts in_X0_has_X0 hown hK hH 1 (by decide) rfl rfl 0 (by decide) (hts (.fieldLink RX0 9 "StationLine$Bench" "size" "I") (List.mem_of_getElem? (i := 1) rfl)) rfl dX0_has_6 ?_
    have i11 := IvC_s0 hJ.1
    refine lv_icmp_ge (tgt := 16) hx hb dX0_has_9 (by decide) (fun c12 => ?_) (fun c12 => ?_)
    · skip
      exact HJ16   H locs ls   hH (lv_sub hl [] rfl)
    · skip
      have k14a : iv 0 9 p0 := iv_ltl (iv_nLe c12) k10b i11 (by decide)
      have k14b : iv 1 10 (z0.1 0) := iv_ltr (iv_nLe c12) k10b i11 (by decide)
      refine lv_iconst (v := 1) hx hb dX0_has_12 (by decide) ?_
      refine lv_goto (tgt := 17) hx hb dX0_has_13 (by decide) ?_
      exact hret _ z0 H locs _ _ (iv_w (iv_lit (n := 1) 1 (by decide)) (by decide) (by decide)) ⟨hJ, (iv_w (iv_lit (n := 1) 1 (by decide)) (by decide) (by decide)), Or.inr (iv_w k14a (by decide) (by decide))⟩ hH dX0_has_17
set_option maxHeartbeats 4000000 in
set_option maxRecDepth 100000 in
theorem g_X0_all_1 (l : Launch) (D : va_G) (cy : Nat → ClassId) (q : Nat → Nat) (hq : bJ 66 q) (z0 : zS) (hI : IvC z0)  : bCi l yX0_all wsX0_all ({ frames := 0, cells := 0, slots := 0, locals := 0 }) D cy 66 (enC cy) q z0 [.ref (q 1)] (fun v z => jJ IvC 0 0 0 z0 z ∧ iv 0 1023 v) := by
  refine hM_i cX0_all (by decide) rfl (own := RX0) rfl hq (Nat.le_of_ble_eq_true rfl) ?_
  intro p e s m args below meth c Q ls H locs hx hb hml hown hts hK hZ hH hl hret
  have hl : lv_has ls 1 [(0, .ref (q 1))] := hl
  have hJ : jJ IvC 0 0 0 z0 z0 := jJ_rf _ _ _ hI
  refine lv_iconst (v := 1) hx hb dX0_all_0 (by decide) ?_
  refine lv_aload_n hx hb dX0_all_1 rfl (lv_at hl 0 rfl) ?_
  refine b_get (ci := 0) (C := RX0) (T := TX0) (Nf := 11) (v := .int (z0.1 0)) hx hb hts in_X0_all_X0 hown hK hH 1 (by decide) rfl rfl 0 (by decide) (hts (.fieldLink RX0 9 "StationLine$Bench" "size" "I") (List.mem_of_getElem? (i := 1) rfl)) rfl dX0_all_2 ?_
  have i4 := IvC_s0 hJ.1
  refine lv_ishl hx hb dX0_all_5 ?_
  refine h_i (a := 1) (b := 1024) (iv_bitA i4 (by decide) (by decide)) (fun w5 i5 => ?_)
  refine lv_iconst (v := 1) hx hb dX0_all_6 (by decide) ?_
  refine lv_isub hx hb dX0_all_7 ?_
  refine h_iE (a := 0) (b := 1023) (t := w5.toInt - 1) (iv_sub i5 (iv_lit (n := 1) 1 (by decide)) (by decide) (by decide) (by decide) (by decide)) ((iv_subE i5 (iv_lit (n := 1) 1 (by decide)) (by decide) (by decide)).trans rfl) (fun w6 i6 e6 => ?_)
  exact hret _ z0 H locs _ _ ⟨hJ, i6⟩ hH dX0_all_8
set_option maxHeartbeats 4000000 in
set_option maxRecDepth 100000 in
theorem g_X0_add_1 (l : Launch) (D : va_G) (cy : Nat → ClassId) (q : Nat → Nat) (hq : bJ 66 q) (z0 : zS) (hI : IvC z0) (hs0 : iv 0 9 (z0.1 0)) : bCi l yX0_add wsX0_add ({ frames := 0, cells := 0, slots := 0, locals := 0 }) D cy 66 (enC cy) q z0 [.ref (q 1)] (fun v z => jJ IvC 1 8176 0 z0 z ∧ iv 0 9 v ∧ (v = z0.1 0 ∧ z.1 0 = z0.1 0 + 1)) := by
  refine hM_i cX0_add (by decide) rfl (own := RX0) rfl hq (Nat.le_of_ble_eq_true rfl) ?_
  intro p e s m args below meth c Q ls H locs hx hb hml hown hts hK hZ hH hl hret
  have hl : lv_has ls 3 [(0, .ref (q 1))] := hl
  have hJ : jJ IvC 1 8176 0 z0 z0 := jJ_rf _ _ _ hI
  have HL7 : ∀ (n : Nat) (x1_7 : Int32) (x2_7 : Int32) (z_7 : zS) (H : Heap) (locs : List Loc) (ls : Array Slot), iv 0 9 x1_7 → iv 0 3 x2_7 → iv 0 9 (z_7.1 0) → (z_7.1 0 = z0.1 0 ∧ x1_7 = z0.1 0) → jJ IvC 1 8176 0 z0 z_7 → bH D 66 (enC cy) q z_7 s.heap H locs → lv_has ls 3 [(0, .ref (q 1)), (1, .int x1_7), (2, .int x2_7)] → (3 - x2_7.toInt).toNat = n → W p l e ({ frames := 0, cells := 0, slots := 0, locals := 0 }) s m args below meth c H locs 0 0 Q (F0 m 7 ls []) := by
    intro n7
    induction n7 using Nat.strongRecOn with
    | ind n7 ih7 =>
      intro x1_7 x2_7 z_7 H locs ls h1_7 h2_7 gh0_7 ex_7 hJ hH hl hn7
      refine lv_iload_n hx hb dX0_add_7 rfl (lv_at hl 2 rfl) ?_
      refine lv_iconst (v := 3) hx hb dX0_add_8 (by decide) ?_
      refine lv_icmp_ge (tgt := 27) hx hb dX0_add_9 (by decide) (fun c40 => ?_) (fun c40 => ?_)
      · skip
        have k41b : iv 3 3 x2_7 := iv_ler (iv_Le c40) (iv_lit (n := 3) 3 (by decide)) h2_7
        refine lv_aload_n hx hb dX0_add_27 rfl (lv_at hl 0 rfl) ?_
        refine b_get (ci := 0) (C := RX0) (T := TX0) (Nf := 11) (v := .ref (q 7)) hx hb hts in_X0_add_X0 hown hK hH 1 (by decide) rfl rfl 5 (by decide) (hts (.fieldLink RX0 30 "StationLine$Bench" "before" "[I") (List.mem_of_getElem? (i := 3) rfl)) rfl dX0_add_28 ?_
        refine lv_iload_n hx hb dX0_add_31 rfl (lv_at hl 1 rfl) ?_
        refine lv_iconst (v := 0) hx hb dX0_add_32 (by decide) ?_
        refine b_iast hx hb hK hH 7 (by decide) rfl (iv_in h1_7 (by decide) (by decide)) (upA z_7 7 (upd (z_7.2.1 7) (x1_7 : Int32).toNatClampNeg 0)) rfl (enC_A _ _ _ _ _) dX0_add_33 (fun H locs hH => ?_)
        obtain ⟨z42, hz42⟩ : ∃ w : zS, w = upA z_7 7 (upd (z_7.2.1 7) (x1_7 : Int32).toNatClampNeg 0) := ⟨_, rfl⟩
        rw [← hz42] at hH
        have hJ : jJ IvC 1 8176 0 z0 z42 := by rw [hz42]; exact jJ_A hJ (by decide) (IvC_A hJ.1 (by decide))
        have g43 : iv 0 9 (z42.1 0) := by rw [hz42]; exact gh0_7
        refine lv_aload_n hx hb dX0_add_34 rfl (lv_at hl 0 rfl) ?_
        refine b_get (ci := 0) (C := RX0) (T := TX0) (Nf := 11) (v := .ref (q 8)) hx hb hts in_X0_add_X0 hown hK hH 1 (by decide) rfl rfl 6 (by decide) (hts (.fieldLink RX0 33 "StationLine$Bench" "leading" "[I") (List.mem_of_getElem? (i := 4) rfl)) rfl dX0_add_35 ?_
        refine lv_iload_n hx hb dX0_add_38 rfl (lv_at hl 1 rfl) ?_
        refine lv_iconst (v := 0) hx hb dX0_add_39 (by decide) ?_
        refine b_iast hx hb hK hH 8 (by decide) rfl (iv_in h1_7 (by decide) (by decide)) (upA z42 8 (upd (z42.2.1 8) (x1_7 : Int32).toNatClampNeg 0)) rfl (enC_A _ _ _ _ _) dX0_add_40 (fun H locs hH => ?_)
        obtain ⟨z44, hz44⟩ : ∃ w : zS, w = upA z42 8 (upd (z42.2.1 8) (x1_7 : Int32).toNatClampNeg 0) := ⟨_, rfl⟩
        rw [← hz44] at hH
        have hJ : jJ IvC 1 8176 0 z0 z44 := by rw [hz44]; exact jJ_A hJ (by decide) (IvC_A hJ.1 (by decide))
        have g45 : iv 0 9 (z44.1 0) := by rw [hz44]; exact g43
        refine lv_aload_n hx hb dX0_add_41 rfl (lv_at hl 0 rfl) ?_
        refine b_get (ci := 0) (C := RX0) (T := TX0) (Nf := 11) (v := .ref (q 9)) hx hb hts in_X0_add_X0 hown hK hH 1 (by decide) rfl rfl 7 (by decide) (hts (.fieldLink RX0 36 "StationLine$Bench" "following" "[I") (List.mem_of_getElem? (i := 5) rfl)) rfl dX0_add_42 ?_
        refine lv_iload_n hx hb dX0_add_45 rfl (lv_at hl 1 rfl) ?_
        refine lv_iconst (v := 0) hx hb dX0_add_46 (by decide) ?_
        refine b_iast hx hb hK hH 9 (by decide) rfl (iv_in h1_7 (by decide) (by decide)) (upA z44 9 (upd (z44.2.1 9) (x1_7 : Int32).toNatClampNeg 0)) rfl (enC_A _ _ _ _ _) dX0_add_47 (fun H locs hH => ?_)
        obtain ⟨z46, hz46⟩ : ∃ w : zS, w = upA z44 9 (upd (z44.2.1 9) (x1_7 : Int32).toNatClampNeg 0) := ⟨_, rfl⟩
        rw [← hz46] at hH
        have hJ : jJ IvC 1 8176 0 z0 z46 := by rw [hz46]; exact jJ_A hJ (by decide) (IvC_A hJ.1 (by decide))
        have g47 : iv 0 9 (z46.1 0) := by rw [hz46]; exact g45
        refine lv_aload_n hx hb dX0_add_48 rfl (lv_at hl 0 rfl) ?_
        refine b_get (ci := 0) (C := RX0) (T := TX0) (Nf := 11) (v := .ref (q 10)) hx hb hts in_X0_add_X0 hown hK hH 1 (by decide) rfl rfl 8 (by decide) (hts (.fieldLink RX0 39 "StationLine$Bench" "together" "[I") (List.mem_of_getElem? (i := 6) rfl)) rfl dX0_add_49 ?_
        refine lv_iload_n hx hb dX0_add_52 rfl (lv_at hl 1 rfl) ?_
        refine lv_iconst (v := 0) hx hb dX0_add_53 (by decide) ?_
        refine b_iast hx hb hK hH 10 (by decide) rfl (iv_in h1_7 (by decide) (by decide)) (upA z46 10 (upd (z46.2.1 10) (x1_7 : Int32).toNatClampNeg 0)) rfl (enC_A _ _ _ _ _) dX0_add_54 (fun H locs hH => ?_)
        obtain ⟨z48, hz48⟩ : ∃ w : zS, w = upA z46 10 (upd (z46.2.1 10) (x1_7 : Int32).toNatClampNeg 0) := ⟨_, rfl⟩
        rw [← hz48] at hH
        have hJ : jJ IvC 1 8176 0 z0 z48 := by rw [hz48]; exact jJ_A hJ (by decide) (IvC_A hJ.1 (by decide))
        have g49 : iv 0 9 (z48.1 0) := by rw [hz48]; exact g47
        refine lv_aload_n hx hb dX0_add_55 rfl (lv_at hl 0 rfl) ?_
        refine b_get (ci := 0) (C := RX0) (T := TX0) (Nf := 11) (v := .ref (q 11)) hx hb hts in_X0_add_X0 hown hK hH 1 (by decide) rfl rfl 9 (by decide) (hts (.fieldLink RX0 42 "StationLine$Bench" "apart" "[I") (List.mem_of_getElem? (i := 7) rfl)) rfl dX0_add_56 ?_
        refine lv_iload_n hx hb dX0_add_59 rfl (lv_at hl 1 rfl) ?_
        refine lv_iconst (v := 0) hx hb dX0_add_60 (by decide) ?_
        refine b_iast hx hb hK hH 11 (by decide) rfl (iv_in h1_7 (by decide) (by decide)) (upA z48 11 (upd (z48.2.1 11) (x1_7 : Int32).toNatClampNeg 0)) rfl (enC_A _ _ _ _ _) dX0_add_61 (fun H locs hH => ?_)
        obtain ⟨z50, hz50⟩ : ∃ w : zS, w = upA z48 11 (upd (z48.2.1 11) (x1_7 : Int32).toNatClampNeg 0) := ⟨_, rfl⟩
        rw [← hz50] at hH
        have hJ : jJ IvC 1 8176 0 z0 z50 := by rw [hz50]; exact jJ_A hJ (by decide) (IvC_A hJ.1 (by decide))
        have g51 : iv 0 9 (z50.1 0) := by rw [hz50]; exact g49
        refine lv_aload_n hx hb dX0_add_62 rfl (lv_at hl 0 rfl) ?_
        refine b_get (ci := 0) (C := RX0) (T := TX0) (Nf := 11) (v := .ref (q 12)) hx hb hts in_X0_add_X0 hown hK hH 1 (by decide) rfl rfl 10 (by decide) (hts (.fieldLink RX0 45 "StationLine$Bench" "held" "[I") (List.mem_of_getElem? (i := 8) rfl)) rfl dX0_add_63 ?_
        refine lv_iload_n hx hb dX0_add_66 rfl (lv_at hl 1 rfl) ?_
        refine lv_iconst (v := 0) hx hb dX0_add_67 (by decide) ?_
        refine b_iast hx hb hK hH 12 (by decide) rfl (iv_in h1_7 (by decide) (by decide)) (upA z50 12 (upd (z50.2.1 12) (x1_7 : Int32).toNatClampNeg 0)) rfl (enC_A _ _ _ _ _) dX0_add_68 (fun H locs hH => ?_)
        obtain ⟨z52, hz52⟩ : ∃ w : zS, w = upA z50 12 (upd (z50.2.1 12) (x1_7 : Int32).toNatClampNeg 0) := ⟨_, rfl⟩
        rw [← hz52] at hH
        have hJ : jJ IvC 1 8176 0 z0 z52 := by rw [hz52]; exact jJ_A hJ (by decide) (IvC_A hJ.1 (by decide))
        have g53 : iv 0 9 (z52.1 0) := by rw [hz52]; exact g51
        refine lv_aload_n hx hb dX0_add_69 rfl (lv_at hl 0 rfl) ?_
        refine lv_dup hx hb dX0_add_70 rfl ?_
        refine b_get (ci := 0) (C := RX0) (T := TX0) (Nf := 11) (v := .int (z52.1 0)) hx hb hts in_X0_add_X0 hown hK hH 1 (by decide) rfl rfl 0 (by decide) (hts (.fieldLink RX0 9 "StationLine$Bench" "size" "I") (List.mem_of_getElem? (i := 1) rfl)) rfl dX0_add_71 ?_
        refine lv_iconst (v := 1) hx hb dX0_add_74 (by decide) ?_
        refine lv_iadd hx hb dX0_add_75 ?_
        have i54 : iv 1 10 ((z52.1 0) + 1) := (iv_add g53 (iv_lit (n := 1) 1 (by decide)) (by decide) (by decide) (by decide) (by decide))
        have e54 : ((z52.1 0) + 1).toInt = (z52.1 0).toInt + 1 := ((iv_addE g53 (iv_lit (n := 1) 1 (by decide)) (by decide) (by decide)).trans rfl)
        refine b_put (ci := 0) (C := RX0) (T := TX0) (Nf := 11) (v := .int ((z52.1 0) + 1)) (ty := .int) hx hb hts in_X0_add_X0 tyX0 tyX0_ok nmX0 hown hK hH 1 (by decide) rfl rfl 0 (by decide) (hts (.fieldLink RX0 9 "StationLine$Bench" "size" "I") (List.mem_of_getElem? (i := 1) rfl)) rfl (by decide +kernel) rfl rfl (Nat.le_of_ble_eq_true rfl) (upS z52 0 ((z52.1 0) + 1)) rfl (enC_S0 _ _ _ _) dX0_add_76 (fun H locs hH => ?_)
        obtain ⟨z55, hz55⟩ : ∃ w : zS, w = upS z52 0 ((z52.1 0) + 1) := ⟨_, rfl⟩
        rw [← hz55] at hH
        have hJ : jJ IvC 1 8176 0 z0 z55 := by rw [hz55]; exact jJ_S hJ (by decide) (IvC_S0 hJ.1 (iv_w i54 (by decide) (by decide)))
        have g56 : iv 1 10 (z55.1 0) := by rw [hz55]; exact i54
        refine lv_iload_n hx hb dX0_add_79 rfl (lv_at hl 1 rfl) ?_
        exact hret _ z55 H locs _ _ ⟨hJ, h1_7, ⟨ex_7.2, by rw [hz55]; exact congrArg (· + 1) ((((show z52.1 0 = z50.1 0 by rw [hz52]; rfl)).trans (((show z50.1 0 = z48.1 0 by rw [hz50]; rfl)).trans (((show z48.1 0 = z46.1 0 by rw [hz48]; rfl)).trans (((show z46.1 0 = z44.1 0 by rw [hz46]; rfl)).trans (((show z44.1 0 = z42.1 0 by rw [hz44]; rfl)).trans ((show z42.1 0 = z_7.1 0 by rw [hz42]; rfl))))))).trans ex_7.1)⟩⟩ hH dX0_add_80
      · skip
        have k57a : iv 0 2 x2_7 := iv_ltl (iv_nLe c40) h2_7 (iv_lit (n := 3) 3 (by decide)) (by decide)
        refine lv_aload_n hx hb dX0_add_12 rfl (lv_at hl 0 rfl) ?_
        refine b_get (ci := 0) (C := RX0) (T := TX0) (Nf := 11) (v := .ref (q 3)) hx hb hts in_X0_add_X0 hown hK hH 1 (by decide) rfl rfl 4 (by decide) (hts (.fieldLink RX0 27 "StationLine$Bench" "times" "[[I") (List.mem_of_getElem? (i := 2) rfl)) rfl dX0_add_13 ?_
        refine lv_iload_n hx hb dX0_add_16 rfl (lv_at hl 2 rfl) ?_
        refine h_aald (n := 3) hx hb hK hH 3 3 4 (by decide) rfl rfl (iv_in k57a (by decide) (by decide)) dX0_add_17 (fun k58 hk58 => ?_)
        refine lv_iload_n hx hb dX0_add_18 rfl (lv_at hl 1 rfl) ?_
        refine lv_iconst (v := 1) hx hb dX0_add_19 (by decide) ?_
        refine b_iast hx hb hK hH k58 (Nat.lt_of_lt_of_le hk58.2 (by decide)) (enC_g4 cy q _ k58 hk58) (iv_in h1_7 (by decide) (by decide)) (upA z_7 k58 (upd (z_7.2.1 k58) (x1_7 : Int32).toNatClampNeg 1)) (enC_sa4 cy q _ k58 _ hk58) (enC_A _ _ _ _ _) dX0_add_20 (fun H locs hH => ?_)
        obtain ⟨z59, hz59⟩ : ∃ w : zS, w = upA z_7 k58 (upd (z_7.2.1 k58) (x1_7 : Int32).toNatClampNeg 1) := ⟨_, rfl⟩
        rw [← hz59] at hH
        have hJ : jJ IvC 1 8176 0 z0 z59 := by rw [hz59]; exact jJ_A hJ (tb_grp (g0 := 4) (n := 3) (by decide) hk58) (IvC_A hJ.1 (by omega))
        have g60 : iv 0 9 (z59.1 0) := by rw [hz59]; exact gh0_7
        have j61 : iv 1 3 (x2_7 + 1) := iv_add k57a (iv_lit (n := 1) 1 (by decide)) (by decide) (by decide) (by decide) (by decide)
        have e61 : (x2_7 + 1).toInt = x2_7.toInt + 1 := (iv_addE k57a (iv_lit (n := 1) 1 (by decide)) (by decide) (by decide)).trans rfl
        refine lv_iinc (v := (x2_7 + 1)) (lv' := [(2, .int (x2_7 + 1)), (0, .ref (q 1)), (1, .int x1_7)]) hx hb dX0_add_21 hl (k := 2) rfl rfl (by decide) rfl (fun ls hl => ?_)
        refine lv_goto (tgt := 7) hx hb dX0_add_24 (by decide) ?_
        exact ih7 _ (ms_up e61 j61.2 hn7) x1_7 (x2_7 + 1) z59 H locs ls h1_7 (iv_w j61 (by decide) (by decide)) g60 ⟨((show z59.1 0 = z_7.1 0 by rw [hz59]; rfl)).trans ex_7.1, ex_7.2⟩ hJ hH (lv_sub hl [1, 2, 0] rfl) rfl
  refine lv_aload_n hx hb dX0_add_0 rfl (lv_at hl 0 rfl) ?_
  refine b_get (ci := 0) (C := RX0) (T := TX0) (Nf := 11) (v := .int (z0.1 0)) hx hb hts in_X0_add_X0 hown hK hH 1 (by decide) rfl rfl 0 (by decide) (hts (.fieldLink RX0 9 "StationLine$Bench" "size" "I") (List.mem_of_getElem? (i := 1) rfl)) rfl dX0_add_1 ?_
  refine lv_istore_n (lv' := [(1, .int (z0.1 0)), (0, .ref (q 1))]) hx hb dX0_add_4 rfl hl (by decide) rfl (fun ls hl => ?_)
  refine lv_iconst (v := 0) hx hb dX0_add_5 (by decide) ?_
  refine lv_istore_n (lv' := [(2, .int 0), (1, .int (z0.1 0)), (0, .ref (q 1))]) hx hb dX0_add_6 rfl hl (by decide) rfl (fun ls hl => ?_)
  exact HL7 _ (z0.1 0) 0 z0 H locs ls hs0 (iv_w (iv_lit (n := 0) 0 (by decide)) (by decide) (by decide)) hs0 ⟨rfl, rfl⟩ hJ hH (lv_sub hl [2, 1, 0] rfl) rfl
set_option maxHeartbeats 4000000 in
set_option maxRecDepth 100000 in
theorem g_X0_holdersOf_1 (l : Launch) (D : va_G) (cy : Nat → ClassId) (q : Nat → Nat) (hq : bJ 66 q) (z0 : zS) (hI : IvC z0) (p1 : Int32) (hp1 : iv 0 9 p1) : bCi l yX0_holdersOf wsX0_holdersOf ({ frames := 0, cells := 0, slots := 0, locals := 0 }) D cy 66 (enC cy) q z0 [.ref (q 1), .ref (q 8), .int p1] (fun v z => jJ IvC 0 0 0 z0 z ∧ iv 0 1023 v) := by
  refine hM_i cX0_holdersOf (by decide) rfl (own := RX0) rfl hq (Nat.le_of_ble_eq_true rfl) ?_
  intro p e s m args below meth c Q ls H locs hx hb hml hown hts hK hZ hH hl hret
  have hl : lv_has ls 5 [(0, .ref (q 1)), (1, .ref (q 8)), (2, .int p1)] := hl
  have hJ : jJ IvC 0 0 0 z0 z0 := jJ_rf _ _ _ hI
  have HL5 : ∀ (n : Nat) (x3_5 : Int32) (x4_5 : Int32) (H : Heap) (locs : List Loc) (ls : Array Slot), iv 0 1023 x3_5 → iv 0 10 x4_5 → bH D 66 (enC cy) q z0 s.heap H locs → lv_has ls 5 [(0, .ref (q 1)), (1, .ref (q 8)), (2, .int p1), (3, .int x3_5), (4, .int x4_5)] → (10 - x4_5.toInt).toNat = n → W p l e ({ frames := 0, cells := 0, slots := 0, locals := 0 }) s m args below meth c H locs 0 0 Q (F0 m 5 ls []) := by
    intro n5
    induction n5 using Nat.strongRecOn with
    | ind n5 ih5 =>
      intro x3_5 x4_5 H locs ls h3_5 h4_5 hH hl hn5
      have HJ32 : ∀ (x3_32 : Int32) (H : Heap) (locs : List Loc) (ls : Array Slot), iv 0 1023 x3_32 → iv 0 9 x4_5 → iv 1 10 (z0.1 0) → bH D 66 (enC cy) q z0 s.heap H locs → lv_has ls 5 [(0, .ref (q 1)), (1, .ref (q 8)), (2, .int p1), (3, .int x3_32), (4, .int x4_5)] → W p l e ({ frames := 0, cells := 0, slots := 0, locals := 0 }) s m args below meth c H locs 0 0 Q (F0 m 32 ls []) := by
        intro x3_32 H locs ls h3_32 h4_32 gh0_32 hH hl
        have j85 : iv 1 10 (x4_5 + 1) := iv_add h4_32 (iv_lit (n := 1) 1 (by decide)) (by decide) (by decide) (by decide) (by decide)
        have e85 : (x4_5 + 1).toInt = x4_5.toInt + 1 := (iv_addE h4_32 (iv_lit (n := 1) 1 (by decide)) (by decide) (by decide)).trans rfl
        refine lv_iinc (v := (x4_5 + 1)) (lv' := [(4, .int (x4_5 + 1)), (0, .ref (q 1)), (1, .ref (q 8)), (2, .int p1), (3, .int x3_32)]) hx hb dX0_holdersOf_32 hl (k := 4) rfl rfl (by decide) rfl (fun ls hl => ?_)
        refine lv_goto (tgt := 5) hx hb dX0_holdersOf_35 (by decide) ?_
        exact ih5 _ (ms_up e85 j85.2 hn5) x3_32 (x4_5 + 1)  H locs ls h3_32 (iv_w j85 (by decide) (by decide))  hH (lv_sub hl [1, 2, 3, 4, 0] rfl) rfl
      refine lv_iload hx hb dX0_holdersOf_5 (lv_at hl 4 rfl) ?_
      refine lv_aload_n hx hb dX0_holdersOf_7 rfl (lv_at hl 0 rfl) ?_
      refine b_get (ci := 0) (C := RX0) (T := TX0) (Nf := 11) (v := .int (z0.1 0)) hx hb hts in_X0_holdersOf_X0 hown hK hH 1 (by decide) rfl rfl 0 (by decide) (hts (.fieldLink RX0 9 "StationLine$Bench" "size" "I") (List.mem_of_getElem? (i := 1) rfl)) rfl dX0_holdersOf_8 ?_
      have i86 := IvC_s0 hJ.1
      refine lv_icmp_ge (tgt := 38) hx hb dX0_holdersOf_11 (by decide) (fun c87 => ?_) (fun c87 => ?_)
      · skip
        refine lv_iload_n hx hb dX0_holdersOf_38 rfl (lv_at hl 3 rfl) ?_
        exact hret _ z0 H locs _ _ ⟨hJ, h3_5⟩ hH dX0_holdersOf_39
      · skip
        have k89a : iv 0 9 x4_5 := iv_ltl (iv_nLe c87) h4_5 i86 (by decide)
        have k89b : iv 1 10 (z0.1 0) := iv_ltr (iv_nLe c87) h4_5 i86 (by decide)
        refine lv_aload_n hx hb dX0_holdersOf_14 rfl (lv_at hl 1 rfl) ?_
        refine lv_iload hx hb dX0_holdersOf_15 (lv_at hl 4 rfl) ?_
        refine b_iald (v := z0.2.1 8 (x4_5 : Int32).toNatClampNeg) hx hb hK hH 8 (by decide) rfl (iv_in k89a (by decide) (by decide)) rfl dX0_holdersOf_17 ?_
        refine lv_iconst (v := 1) hx hb dX0_holdersOf_18 (by decide) ?_
        refine lv_iload_n hx hb dX0_holdersOf_19 rfl (lv_at hl 2 rfl) ?_
        refine lv_ishl hx hb dX0_holdersOf_20 ?_
        refine h_i (a := 1) (b := 512) (iv_bit hp1 (by decide) (by decide)) (fun w90 i90 => ?_)
        refine lv_iand hx hb dX0_holdersOf_21 ?_
        refine h_i (a := 0) (b := 512) (iv_and2 (iv_all (z0.2.1 8 (x4_5 : Int32).toNatClampNeg)) i90 (by decide) (by decide)) (fun w91 i91 => ?_)
        refine lv_if_eq (tgt := 32) hx hb dX0_holdersOf_22 (by decide) (fun c92 => ?_) (fun c92 => ?_)
        · skip
          have k93a : iv 0 0 w91 := iv_eql (iv_Eq c92) i91 (iv_lit (n := 0) 0 (by decide)) (by decide) (by decide)
          exact HJ32 x3_5  H locs ls h3_5 k89a k89b  hH (lv_sub hl [0, 1, 2, 3, 4] rfl)
        · skip
          have k94a : iv 1 512 w91 := iv_neLo (iv_nEq c92) i91 (by decide) (by decide)
          refine lv_iload_n hx hb dX0_holdersOf_25 rfl (lv_at hl 3 rfl) ?_
          refine lv_iconst (v := 1) hx hb dX0_holdersOf_26 (by decide) ?_
          refine lv_iload hx hb dX0_holdersOf_27 (lv_at hl 4 rfl) ?_
          refine lv_ishl hx hb dX0_holdersOf_29 ?_
          refine h_i (a := 1) (b := 512) (iv_bit k89a (by decide) (by decide)) (fun w95 i95 => ?_)
          refine lv_ior hx hb dX0_holdersOf_30 ?_
          refine h_i (a := 0) (b := 1023) (iv_or 10 (b := 1023) (d := 512) (iv_w h3_5 (by decide) (by decide)) (iv_w i95 (by decide) (by decide)) (by decide) (by decide) (by decide) (by decide)) (fun w96 i96 => ?_)
          refine lv_istore_n (lv' := [(3, .int w96), (0, .ref (q 1)), (1, .ref (q 8)), (2, .int p1), (4, .int x4_5)]) hx hb dX0_holdersOf_31 rfl hl (by decide) rfl (fun ls hl => ?_)
          exact HJ32 w96  H locs ls i96 k89a k89b  hH (lv_sub hl [1, 2, 3, 0, 4] rfl)
  refine lv_iconst (v := 0) hx hb dX0_holdersOf_0 (by decide) ?_
  refine lv_istore_n (lv' := [(3, .int 0), (0, .ref (q 1)), (1, .ref (q 8)), (2, .int p1)]) hx hb dX0_holdersOf_1 rfl hl (by decide) rfl (fun ls hl => ?_)
  refine lv_iconst (v := 0) hx hb dX0_holdersOf_2 (by decide) ?_
  refine lv_istore (lv' := [(4, .int 0), (3, .int 0), (0, .ref (q 1)), (1, .ref (q 8)), (2, .int p1)]) hx hb dX0_holdersOf_3 hl (by decide) rfl (fun ls hl => ?_)
  exact HL5 _ 0 0  H locs ls (iv_w (iv_lit (n := 0) 0 (by decide)) (by decide) (by decide)) (iv_w (iv_lit (n := 0) 0 (by decide)) (by decide) (by decide))  hH (lv_sub hl [2, 3, 4, 1, 0] rfl) rfl
set_option maxHeartbeats 4000000 in
set_option maxRecDepth 100000 in
theorem g_X0_closeOver_1 (l : Launch) (D : va_G) (cy : Nat → ClassId) (q : Nat → Nat) (hq : bJ 66 q) (z0 : zS) (hI : IvC z0)  : bCv l yX0_closeOver wsX0_closeOver ({ frames := 1, cells := 0, slots := 0, locals := 40 }) D cy 66 (enC cy) q z0 [.ref (q 1)] (fun z => jJ IvC 0 768 0 z0 z) := by
  refine hM_v cX0_closeOver (by decide) rfl (own := RX0) rfl hq (Nat.le_of_ble_eq_true rfl) ?_
  intro p e s m args below meth c Q ls H locs hx hb hml hown hts hK hZ hH hl hret
  have hl : lv_has ls 3 [(0, .ref (q 1))] := hl
  have hJ : jJ IvC 0 768 0 z0 z0 := jJ_rf _ _ _ hI
  have HL19 : ∀ (n : Nat) (x1_19 : Int32) (z_19 : zS) (H : Heap) (locs : List Loc) (ls : Array Slot), iv 0 10 x1_19 → jJ IvC 0 768 0 z0 z_19 → bH D 66 (enC cy) q z_19 s.heap H locs → lv_has ls 3 [(0, .ref (q 1)), (1, .int x1_19)] → (10 - x1_19.toInt).toNat = n → W p l e ({ frames := 1, cells := 0, slots := 0, locals := 40 }) s m args below meth c H locs 0 0 Q (F0 m 19 ls []) := by
    intro n19
    induction n19 using Nat.strongRecOn with
    | ind n19 ih19 =>
      intro x1_19 z_19 H locs ls h1_19 hJ hH hl hn19
      have HL29 : ∀ (n : Nat) (x2_29 : Int32) (z_29 : zS) (H : Heap) (locs : List Loc) (ls : Array Slot), iv 0 9 x1_19 → iv 0 10 x2_29 → iv 1 10 (z_29.1 0) → jJ IvC 0 768 0 z0 z_29 → bH D 66 (enC cy) q z_29 s.heap H locs → lv_has ls 3 [(0, .ref (q 1)), (1, .int x1_19), (2, .int x2_29)] → (10 - x2_29.toInt).toNat = n → W p l e ({ frames := 1, cells := 0, slots := 0, locals := 40 }) s m args below meth c H locs 0 0 Q (F0 m 29 ls []) := by
        intro n29
        induction n29 using Nat.strongRecOn with
        | ind n29 ih29 =>
          intro x2_29 z_29 H locs ls h1_29 h2_29 gh0_29 hJ hH hl hn29
          have HJ65 : ∀ (z_65 : zS) (H : Heap) (locs : List Loc) (ls : Array Slot), iv 0 9 x2_29 → iv 1 10 (z_65.1 0) → jJ IvC 0 768 0 z0 z_65 → bH D 66 (enC cy) q z_65 s.heap H locs → lv_has ls 3 [(0, .ref (q 1)), (1, .int x1_19), (2, .int x2_29)] → W p l e ({ frames := 1, cells := 0, slots := 0, locals := 40 }) s m args below meth c H locs 0 0 Q (F0 m 65 ls []) := by
            intro z_65 H locs ls h2_65 gh0_65 hJ hH hl
            have j264 : iv 1 10 (x2_29 + 1) := iv_add h2_65 (iv_lit (n := 1) 1 (by decide)) (by decide) (by decide) (by decide) (by decide)
            have e264 : (x2_29 + 1).toInt = x2_29.toInt + 1 := (iv_addE h2_65 (iv_lit (n := 1) 1 (by decide)) (by decide) (by decide)).trans rfl
            refine lv_iinc (v := (x2_29 + 1)) (lv' := [(2, .int (x2_29 + 1)), (0, .ref (q 1)), (1, .int x1_19)]) hx hb dX0_closeOver_65 hl (k := 2) rfl rfl (by decide) rfl (fun ls hl => ?_)
            refine lv_goto (tgt := 29) hx hb dX0_closeOver_68 (by decide) ?_
            exact ih29 _ (ms_up e264 j264.2 hn29) (x2_29 + 1) z_65 H locs ls h1_29 (iv_w j264 (by decide) (by decide)) gh0_65 hJ hH (lv_sub hl [1, 2, 0] rfl) rfl
          refine lv_iload_n hx hb dX0_closeOver_29 rfl (lv_at hl 2 rfl) ?_
          refine lv_aload_n hx hb dX0_closeOver_30 rfl (lv_at hl 0 rfl) ?_
          refine b_get (ci := 0) (C := RX0) (T := TX0) (Nf := 11) (v := .int (z_29.1 0)) hx hb hts in_X0_closeOver_X0 hown hK hH 1 (by decide) rfl rfl 0 (by decide) (hts (.fieldLink RX0 9 "StationLine$Bench" "size" "I") (List.mem_of_getElem? (i := 3) rfl)) rfl dX0_closeOver_31 ?_
          refine lv_icmp_ge (tgt := 71) hx hb dX0_closeOver_34 (by decide) (fun c265 => ?_) (fun c265 => ?_)
          · skip
            have k266b : iv 1 10 x2_29 := iv_ler (iv_Le c265) gh0_29 h2_29
            have j267 : iv 1 10 (x1_19 + 1) := iv_add h1_29 (iv_lit (n := 1) 1 (by decide)) (by decide) (by decide) (by decide) (by decide)
            have e267 : (x1_19 + 1).toInt = x1_19.toInt + 1 := (iv_addE h1_29 (iv_lit (n := 1) 1 (by decide)) (by decide) (by decide)).trans rfl
            refine lv_iinc (v := (x1_19 + 1)) (lv' := [(1, .int (x1_19 + 1)), (0, .ref (q 1)), (2, .int x2_29)]) hx hb dX0_closeOver_71 hl (k := 1) rfl rfl (by decide) rfl (fun ls hl => ?_)
            refine lv_goto (tgt := 19) hx hb dX0_closeOver_74 (by decide) ?_
            exact ih19 _ (ms_up e267 j267.2 hn19) (x1_19 + 1) z_29 H locs ls (iv_w j267 (by decide) (by decide)) hJ hH (lv_sub hl [1, 0] rfl) rfl
          · skip
            have k268a : iv 0 9 x2_29 := iv_ltl (iv_nLe c265) h2_29 gh0_29 (by decide)
            refine lv_aload_n hx hb dX0_closeOver_37 rfl (lv_at hl 0 rfl) ?_
            refine b_get (ci := 0) (C := RX0) (T := TX0) (Nf := 11) (v := .ref (q 8)) hx hb hts in_X0_closeOver_X0 hown hK hH 1 (by decide) rfl rfl 6 (by decide) (hts (.fieldLink RX0 33 "StationLine$Bench" "leading" "[I") (List.mem_of_getElem? (i := 2) rfl)) rfl dX0_closeOver_38 ?_
            refine lv_iload_n hx hb dX0_closeOver_41 rfl (lv_at hl 2 rfl) ?_
            refine b_iald (v := z_29.2.1 8 (x2_29 : Int32).toNatClampNeg) hx hb hK hH 8 (by decide) rfl (iv_in k268a (by decide) (by decide)) rfl dX0_closeOver_42 ?_
            refine lv_iconst (v := 1) hx hb dX0_closeOver_43 (by decide) ?_
            refine lv_iload_n hx hb dX0_closeOver_44 rfl (lv_at hl 1 rfl) ?_
            refine lv_ishl hx hb dX0_closeOver_45 ?_
            refine h_i (a := 1) (b := 512) (iv_bit h1_29 (by decide) (by decide)) (fun w269 i269 => ?_)
            refine lv_iand hx hb dX0_closeOver_46 ?_
            refine h_i (a := 0) (b := 512) (iv_and2 (iv_all (z_29.2.1 8 (x2_29 : Int32).toNatClampNeg)) i269 (by decide) (by decide)) (fun w270 i270 => ?_)
            refine lv_if_eq (tgt := 65) hx hb dX0_closeOver_47 (by decide) (fun c271 => ?_) (fun c271 => ?_)
            · skip
              have k272a : iv 0 0 w270 := iv_eql (iv_Eq c271) i270 (iv_lit (n := 0) 0 (by decide)) (by decide) (by decide)
              exact HJ65  z_29 H locs ls k268a gh0_29 hJ hH (lv_sub hl [0, 1, 2] rfl)
            · skip
              have k273a : iv 1 512 w270 := iv_neLo (iv_nEq c271) i270 (by decide) (by decide)
              refine lv_aload_n hx hb dX0_closeOver_50 rfl (lv_at hl 0 rfl) ?_
              refine b_get (ci := 0) (C := RX0) (T := TX0) (Nf := 11) (v := .ref (q 8)) hx hb hts in_X0_closeOver_X0 hown hK hH 1 (by decide) rfl rfl 6 (by decide) (hts (.fieldLink RX0 33 "StationLine$Bench" "leading" "[I") (List.mem_of_getElem? (i := 2) rfl)) rfl dX0_closeOver_51 ?_
              refine lv_iload_n hx hb dX0_closeOver_54 rfl (lv_at hl 2 rfl) ?_
              refine lv_dup2_11 hx hb dX0_closeOver_55 rfl rfl ?_
              refine b_iald (v := z_29.2.1 8 (x2_29 : Int32).toNatClampNeg) hx hb hK hH 8 (by decide) rfl (iv_in k268a (by decide) (by decide)) rfl dX0_closeOver_56 ?_
              refine lv_aload_n hx hb dX0_closeOver_57 rfl (lv_at hl 0 rfl) ?_
              refine b_get (ci := 0) (C := RX0) (T := TX0) (Nf := 11) (v := .ref (q 8)) hx hb hts in_X0_closeOver_X0 hown hK hH 1 (by decide) rfl rfl 6 (by decide) (hts (.fieldLink RX0 33 "StationLine$Bench" "leading" "[I") (List.mem_of_getElem? (i := 2) rfl)) rfl dX0_closeOver_58 ?_
              refine lv_iload_n hx hb dX0_closeOver_61 rfl (lv_at hl 1 rfl) ?_
              refine b_iald (v := z_29.2.1 8 (x1_19 : Int32).toNatClampNeg) hx hb hK hH 8 (by decide) rfl (iv_in h1_29 (by decide) (by decide)) rfl dX0_closeOver_62 ?_
              refine lv_ior hx hb dX0_closeOver_63 ?_
              refine lv_topi (fun w274 _ => ?_)
              refine b_iast hx hb hK hH 8 (by decide) rfl (iv_in k268a (by decide) (by decide)) (upA z_29 8 (upd (z_29.2.1 8) (x2_29 : Int32).toNatClampNeg w274)) rfl (enC_A _ _ _ _ _) dX0_closeOver_64 (fun H locs hH => ?_)
              obtain ⟨z275, hz275⟩ : ∃ w : zS, w = upA z_29 8 (upd (z_29.2.1 8) (x2_29 : Int32).toNatClampNeg w274) := ⟨_, rfl⟩
              rw [← hz275] at hH
              have hJ : jJ IvC 0 768 0 z0 z275 := by rw [hz275]; exact jJ_A hJ (by decide) (IvC_A hJ.1 (by decide))
              have g276 : iv 1 10 (z275.1 0) := by rw [hz275]; exact gh0_29
              exact HJ65  z275 H locs ls k268a g276 hJ hH (lv_sub hl [0, 1, 2] rfl)
      have HL79 : ∀ (n : Nat) (x1_79 : Int32) (z_79 : zS) (H : Heap) (locs : List Loc) (ls : Array Slot), iv 0 10 x1_79 → jJ IvC 0 768 0 z0 z_79 → bH D 66 (enC cy) q z_79 s.heap H locs → lv_has ls 3 [(0, .ref (q 1)), (1, .int x1_79)] → (10 - x1_79.toInt).toNat = n → W p l e ({ frames := 1, cells := 0, slots := 0, locals := 40 }) s m args below meth c H locs 0 0 Q (F0 m 79 ls []) := by
        intro n79
        induction n79 using Nat.strongRecOn with
        | ind n79 ih79 =>
          intro x1_79 z_79 H locs ls h1_79 hJ hH hl hn79
          refine lv_iload_n hx hb dX0_closeOver_79 rfl (lv_at hl 1 rfl) ?_
          refine lv_aload_n hx hb dX0_closeOver_80 rfl (lv_at hl 0 rfl) ?_
          refine b_get (ci := 0) (C := RX0) (T := TX0) (Nf := 11) (v := .int (z_79.1 0)) hx hb hts in_X0_closeOver_X0 hown hK hH 1 (by decide) rfl rfl 0 (by decide) (hts (.fieldLink RX0 9 "StationLine$Bench" "size" "I") (List.mem_of_getElem? (i := 3) rfl)) rfl dX0_closeOver_81 ?_
          have i277 := IvC_s0 hJ.1
          refine lv_icmp_ge (tgt := 108) hx hb dX0_closeOver_84 (by decide) (fun c278 => ?_) (fun c278 => ?_)
          · skip
            exact hret z_79 H locs _ _ hJ hH dX0_closeOver_108
          · skip
            have k280a : iv 0 9 x1_79 := iv_ltl (iv_nLe c278) h1_79 i277 (by decide)
            have k280b : iv 1 10 (z_79.1 0) := iv_ltr (iv_nLe c278) h1_79 i277 (by decide)
            refine lv_aload_n hx hb dX0_closeOver_87 rfl (lv_at hl 0 rfl) ?_
            refine b_get (ci := 0) (C := RX0) (T := TX0) (Nf := 11) (v := .ref (q 9)) hx hb hts in_X0_closeOver_X0 hown hK hH 1 (by decide) rfl rfl 7 (by decide) (hts (.fieldLink RX0 36 "StationLine$Bench" "following" "[I") (List.mem_of_getElem? (i := 8) rfl)) rfl dX0_closeOver_88 ?_
            refine lv_iload_n hx hb dX0_closeOver_91 rfl (lv_at hl 1 rfl) ?_
            refine lv_aload_n hx hb dX0_closeOver_92 rfl (lv_at hl 0 rfl) ?_
            refine lv_aload_n hx hb dX0_closeOver_93 rfl (lv_at hl 0 rfl) ?_
            refine b_get (ci := 0) (C := RX0) (T := TX0) (Nf := 11) (v := .ref (q 8)) hx hb hts in_X0_closeOver_X0 hown hK hH 1 (by decide) rfl rfl 6 (by decide) (hts (.fieldLink RX0 33 "StationLine$Bench" "leading" "[I") (List.mem_of_getElem? (i := 2) rfl)) rfl dX0_closeOver_94 ?_
            refine lv_iload_n hx hb dX0_closeOver_97 rfl (lv_at hl 1 rfl) ?_
            refine b_calli (As := [.ref (q 8), .int x1_79]) (rest := [.int x1_79, .ref (q 9)]) ⟨hx, hb, hml, hown, hts⟩ 1 0 (g_X0_holdersOf_1 l D cy q hH.2.1 z_79 hJ.1 x1_79 k280a) (cwV 2 hts gX0_closeOver_X0_holdersOf rfl rfl rfl (by decide +kernel) ⟨Nat.le_of_ble_eq_true rfl, Nat.le_of_ble_eq_true rfl⟩) hK hZ hH (by decide) rfl rfl rfl hl.1 rfl (Nat.le_of_ble_eq_true rfl) ⟨Nat.zero_le _, Nat.zero_le _⟩ dX0_closeOver_98 (fun w281 z281 H locs hp hH => ?_)
            rw [Ag_0 hp.1.2] at hH
            have i281 := hp.2
            refine b_iast hx hb hK hH 9 (by decide) rfl (iv_in k280a (by decide) (by decide)) (upA z_79 9 (upd (z_79.2.1 9) (x1_79 : Int32).toNatClampNeg w281)) rfl (enC_A _ _ _ _ _) dX0_closeOver_101 (fun H locs hH => ?_)
            obtain ⟨z282, hz282⟩ : ∃ w : zS, w = upA z_79 9 (upd (z_79.2.1 9) (x1_79 : Int32).toNatClampNeg w281) := ⟨_, rfl⟩
            rw [← hz282] at hH
            have hJ : jJ IvC 0 768 0 z0 z282 := by rw [hz282]; exact jJ_A hJ (by decide) (IvC_A hJ.1 (by decide))
            have g283 : iv 1 10 (z282.1 0) := by rw [hz282]; exact k280b
            have j284 : iv 1 10 (x1_79 + 1) := iv_add k280a (iv_lit (n := 1) 1 (by decide)) (by decide) (by decide) (by decide) (by decide)
            have e284 : (x1_79 + 1).toInt = x1_79.toInt + 1 := (iv_addE k280a (iv_lit (n := 1) 1 (by decide)) (by decide) (by decide)).trans rfl
            refine lv_iinc (v := (x1_79 + 1)) (lv' := [(1, .int (x1_79 + 1)), (0, .ref (q 1))]) hx hb dX0_closeOver_102 hl (k := 1) rfl rfl (by decide) rfl (fun ls hl => ?_)
            refine lv_goto (tgt := 79) hx hb dX0_closeOver_105 (by decide) ?_
            exact ih79 _ (ms_up e284 j284.2 hn79) (x1_79 + 1) z282 H locs ls (iv_w j284 (by decide) (by decide)) hJ hH (lv_sub hl [1, 0] rfl) rfl
      refine lv_iload_n hx hb dX0_closeOver_19 rfl (lv_at hl 1 rfl) ?_
      refine lv_aload_n hx hb dX0_closeOver_20 rfl (lv_at hl 0 rfl) ?_
      refine b_get (ci := 0) (C := RX0) (T := TX0) (Nf := 11) (v := .int (z_19.1 0)) hx hb hts in_X0_closeOver_X0 hown hK hH 1 (by decide) rfl rfl 0 (by decide) (hts (.fieldLink RX0 9 "StationLine$Bench" "size" "I") (List.mem_of_getElem? (i := 3) rfl)) rfl dX0_closeOver_21 ?_
      have i285 := IvC_s0 hJ.1
      refine lv_icmp_ge (tgt := 77) hx hb dX0_closeOver_24 (by decide) (fun c286 => ?_) (fun c286 => ?_)
      · skip
        refine lv_iconst (v := 0) hx hb dX0_closeOver_77 (by decide) ?_
        refine lv_istore_n (lv' := [(1, .int 0), (0, .ref (q 1))]) hx hb dX0_closeOver_78 rfl hl (by decide) rfl (fun ls hl => ?_)
        exact HL79 _ 0 z_19 H locs ls (iv_w (iv_lit (n := 0) 0 (by decide)) (by decide) (by decide)) hJ hH (lv_sub hl [1, 0] rfl) rfl
      · skip
        have k288a : iv 0 9 x1_19 := iv_ltl (iv_nLe c286) h1_19 i285 (by decide)
        have k288b : iv 1 10 (z_19.1 0) := iv_ltr (iv_nLe c286) h1_19 i285 (by decide)
        refine lv_iconst (v := 0) hx hb dX0_closeOver_27 (by decide) ?_
        refine lv_istore_n (lv' := [(2, .int 0), (0, .ref (q 1)), (1, .int x1_19)]) hx hb dX0_closeOver_28 rfl hl (by decide) rfl (fun ls hl => ?_)
        exact HL29 _ 0 z_19 H locs ls k288a (iv_w (iv_lit (n := 0) 0 (by decide)) (by decide) (by decide)) k288b hJ hH (lv_sub hl [1, 2, 0] rfl) rfl
  refine lv_aload_n hx hb dX0_closeOver_0 rfl (lv_at hl 0 rfl) ?_
  refine b_get (ci := 0) (C := RX0) (T := TX0) (Nf := 11) (v := .ref (q 7)) hx hb hts in_X0_closeOver_X0 hown hK hH 1 (by decide) rfl rfl 5 (by decide) (hts (.fieldLink RX0 30 "StationLine$Bench" "before" "[I") (List.mem_of_getElem? (i := 1) rfl)) rfl dX0_closeOver_1 ?_
  refine lv_iconst (v := 0) hx hb dX0_closeOver_4 (by decide) ?_
  refine lv_aload_n hx hb dX0_closeOver_5 rfl (lv_at hl 0 rfl) ?_
  refine b_get (ci := 0) (C := RX0) (T := TX0) (Nf := 11) (v := .ref (q 8)) hx hb hts in_X0_closeOver_X0 hown hK hH 1 (by decide) rfl rfl 6 (by decide) (hts (.fieldLink RX0 33 "StationLine$Bench" "leading" "[I") (List.mem_of_getElem? (i := 2) rfl)) rfl dX0_closeOver_6 ?_
  refine lv_iconst (v := 0) hx hb dX0_closeOver_9 (by decide) ?_
  refine lv_aload_n hx hb dX0_closeOver_10 rfl (lv_at hl 0 rfl) ?_
  refine b_get (ci := 0) (C := RX0) (T := TX0) (Nf := 11) (v := .int (z0.1 0)) hx hb hts in_X0_closeOver_X0 hown hK hH 1 (by decide) rfl rfl 0 (by decide) (hts (.fieldLink RX0 9 "StationLine$Bench" "size" "I") (List.mem_of_getElem? (i := 3) rfl)) rfl dX0_closeOver_11 ?_
  have i289 := IvC_s0 hJ.1
  refine b_copyi hx hb (by rw [hml]; exact hl.1.symm) hown (hts (.methodLink RX0 51 arraycopyName) (List.mem_of_getElem? (i := 4) rfl)) (hts (.native arraycopyName) (List.mem_of_getElem? (i := 5) rfl)) (hts (.static arraycopyName) (List.mem_of_getElem? (i := 6) rfl)) (hts (.initialized "java/lang/System") (List.mem_of_getElem? (i := 7) rfl)) hK hH 7 8 (by decide) (by decide) rfl rfl (by decide) (by decide) (iv_ge0 i289 (by decide)) (Nat.le_trans (Nat.le_of_eq (Nat.zero_add _)) (iv_cl i289 (n := 10) (by decide))) (Nat.le_trans (Nat.le_of_eq (Nat.zero_add _)) (iv_cl i289 (n := 10) (by decide))) (Nat.le_of_ble_eq_true rfl) (Nat.le_of_ble_eq_true rfl) (upA z0 8 (va_cpy (z0.2.1 7) (z0.2.1 8) (0 : Int32).toNatClampNeg (0 : Int32).toNatClampNeg (z0.1 0 : Int32).toNatClampNeg)) rfl (enC_A _ _ _ _ _) dX0_closeOver_14 (fun H locs hH => ?_)
  obtain ⟨z290, hz290⟩ : ∃ w : zS, w = upA z0 8 (va_cpy (z0.2.1 7) (z0.2.1 8) (0 : Int32).toNatClampNeg (0 : Int32).toNatClampNeg (z0.1 0 : Int32).toNatClampNeg) := ⟨_, rfl⟩
  rw [← hz290] at hH
  have hJ : jJ IvC 0 768 0 z0 z290 := by rw [hz290]; exact jJ_A hJ (by decide) (IvC_A hJ.1 (by decide))
  refine lv_iconst (v := 0) hx hb dX0_closeOver_17 (by decide) ?_
  refine lv_istore_n (lv' := [(1, .int 0), (0, .ref (q 1))]) hx hb dX0_closeOver_18 rfl hl (by decide) rfl (fun ls hl => ?_)
  exact HL19 _ 0 z290 H locs ls (iv_w (iv_lit (n := 0) 0 (by decide)) (by decide) (by decide)) hJ hH (lv_sub hl [1, 0] rfl) rfl
set_option maxHeartbeats 4000000 in
set_option maxRecDepth 100000 in
theorem g_X0_link_1 (l : Launch) (D : va_G) (cy : Nat → ClassId) (q : Nat → Nat) (hq : bJ 66 q) (z0 : zS) (hI : IvC z0) (p0 : Int32) (hp0 : iv 0 9 p0) (p1 : Int32) (hp1 : iv 0 9 p1) : bCi l yX0_link wsX0_link ({ frames := 2, cells := 0, slots := 0, locals := 62 }) D cy 66 (enC cy) q z0 [.ref (q 1), .int p0, .int p1] (fun v z => jJ IvC 0 896 0 z0 z ∧ iv 0 1 v) := by
  refine hM_z cX0_link (by decide) rfl (own := RX0) rfl hq (Nat.le_of_ble_eq_true rfl) ?_
  intro p e s m args below meth c Q ls H locs hx hb hml hown hts hK hZ hH hl hret
  have hl : lv_has ls 3 [(0, .ref (q 1)), (1, .int p0), (2, .int p1)] := hl
  have hJ : jJ IvC 0 896 0 z0 z0 := jJ_rf _ _ _ hI
  refine lv_aload_n hx hb dX0_link_0 rfl (lv_at hl 0 rfl) ?_
  refine b_get (ci := 0) (C := RX0) (T := TX0) (Nf := 11) (v := .ref (q 7)) hx hb hts in_X0_link_X0 hown hK hH 1 (by decide) rfl rfl 5 (by decide) (hts (.fieldLink RX0 30 "StationLine$Bench" "before" "[I") (List.mem_of_getElem? (i := 1) rfl)) rfl dX0_link_1 ?_
  refine lv_iload_n hx hb dX0_link_4 rfl (lv_at hl 2 rfl) ?_
  refine b_iald (v := z0.2.1 7 (p1 : Int32).toNatClampNeg) hx hb hK hH 7 (by decide) rfl (iv_in hp1 (by decide) (by decide)) rfl dX0_link_5 ?_
  refine lv_iconst (v := 1) hx hb dX0_link_6 (by decide) ?_
  refine lv_iload_n hx hb dX0_link_7 rfl (lv_at hl 1 rfl) ?_
  refine lv_ishl hx hb dX0_link_8 ?_
  refine h_i (a := 1) (b := 512) (iv_bit hp0 (by decide) (by decide)) (fun w10 i10 => ?_)
  refine lv_iand hx hb dX0_link_9 ?_
  refine h_i (a := 0) (b := 512) (iv_and2 (iv_all (z0.2.1 7 (p1 : Int32).toNatClampNeg)) i10 (by decide) (by decide)) (fun w11 i11 => ?_)
  refine lv_if_eq (tgt := 15) hx hb dX0_link_10 (by decide) (fun c12 => ?_) (fun c12 => ?_)
  · skip
    have k13a : iv 0 0 w11 := iv_eql (iv_Eq c12) i11 (iv_lit (n := 0) 0 (by decide)) (by decide) (by decide)
    refine lv_aload_n hx hb dX0_link_15 rfl (lv_at hl 0 rfl) ?_
    refine b_get (ci := 0) (C := RX0) (T := TX0) (Nf := 11) (v := .ref (q 7)) hx hb hts in_X0_link_X0 hown hK hH 1 (by decide) rfl rfl 5 (by decide) (hts (.fieldLink RX0 30 "StationLine$Bench" "before" "[I") (List.mem_of_getElem? (i := 1) rfl)) rfl dX0_link_16 ?_
    refine lv_iload_n hx hb dX0_link_19 rfl (lv_at hl 2 rfl) ?_
    refine lv_dup2_11 hx hb dX0_link_20 rfl rfl ?_
    refine b_iald (v := z0.2.1 7 (p1 : Int32).toNatClampNeg) hx hb hK hH 7 (by decide) rfl (iv_in hp1 (by decide) (by decide)) rfl dX0_link_21 ?_
    refine lv_iconst (v := 1) hx hb dX0_link_22 (by decide) ?_
    refine lv_iload_n hx hb dX0_link_23 rfl (lv_at hl 1 rfl) ?_
    refine lv_ishl hx hb dX0_link_24 ?_
    refine h_i (a := 1) (b := 512) (iv_bit hp0 (by decide) (by decide)) (fun w14 i14 => ?_)
    refine lv_ior hx hb dX0_link_25 ?_
    refine lv_topi (fun w15 _ => ?_)
    refine b_iast hx hb hK hH 7 (by decide) rfl (iv_in hp1 (by decide) (by decide)) (upA z0 7 (upd (z0.2.1 7) (p1 : Int32).toNatClampNeg w15)) rfl (enC_A _ _ _ _ _) dX0_link_26 (fun H locs hH => ?_)
    obtain ⟨z16, hz16⟩ : ∃ w : zS, w = upA z0 7 (upd (z0.2.1 7) (p1 : Int32).toNatClampNeg w15) := ⟨_, rfl⟩
    rw [← hz16] at hH
    have hJ : jJ IvC 0 896 0 z0 z16 := by rw [hz16]; exact jJ_A hJ (by decide) (IvC_A hJ.1 (by decide))
    refine lv_aload_n hx hb dX0_link_27 rfl (lv_at hl 0 rfl) ?_
    refine b_callv (As := []) (rest := []) ⟨hx, hb, hml, hown, hts⟩ 1 0 (g_X0_closeOver_1 l D cy q hH.2.1 z16 hJ.1 ) (cwV 0 hts gX0_link_X0_closeOver rfl rfl rfl (by decide +kernel) ⟨Nat.le_of_ble_eq_true rfl, Nat.le_of_ble_eq_true rfl⟩) hK hZ hH (by decide) rfl rfl rfl hl.1 rfl (Nat.le_of_ble_eq_true rfl) ⟨Nat.zero_le _, Nat.zero_le _⟩ dX0_link_28 (fun z17 H locs hp hH => ?_)
    have hJ := jJ_tr hJ hp (by decide) (by decide) (by decide)
    have hA17 := hp.2
    refine lv_iconst (v := 1) hx hb dX0_link_31 (by decide) ?_
    exact hret _ z17 H locs _ _ (iv_w (iv_lit (n := 1) 1 (by decide)) (by decide) (by decide)) ⟨hJ, (iv_w (iv_lit (n := 1) 1 (by decide)) (by decide) (by decide))⟩ hH dX0_link_32
  · skip
    have k18a : iv 1 512 w11 := iv_neLo (iv_nEq c12) i11 (by decide) (by decide)
    refine lv_iconst (v := 0) hx hb dX0_link_13 (by decide) ?_
    exact hret _ z0 H locs _ _ (iv_w (iv_lit (n := 0) 0 (by decide)) (by decide) (by decide)) ⟨hJ, (iv_w (iv_lit (n := 0) 0 (by decide)) (by decide) (by decide))⟩ hH dX0_link_14
set_option maxHeartbeats 4000000 in
set_option maxRecDepth 100000 in
theorem g_X0_unlink_1 (l : Launch) (D : va_G) (cy : Nat → ClassId) (q : Nat → Nat) (hq : bJ 66 q) (z0 : zS) (hI : IvC z0) (p0 : Int32) (hp0 : iv 0 9 p0) (p1 : Int32) (hp1 : iv 0 9 p1) : bCi l yX0_unlink wsX0_unlink ({ frames := 2, cells := 0, slots := 0, locals := 62 }) D cy 66 (enC cy) q z0 [.ref (q 1), .int p0, .int p1] (fun v z => jJ IvC 0 896 0 z0 z ∧ iv 0 1 v) := by
  refine hM_z cX0_unlink (by decide) rfl (own := RX0) rfl hq (Nat.le_of_ble_eq_true rfl) ?_
  intro p e s m args below meth c Q ls H locs hx hb hml hown hts hK hZ hH hl hret
  have hl : lv_has ls 3 [(0, .ref (q 1)), (1, .int p0), (2, .int p1)] := hl
  have hJ : jJ IvC 0 896 0 z0 z0 := jJ_rf _ _ _ hI
  refine lv_aload_n hx hb dX0_unlink_0 rfl (lv_at hl 0 rfl) ?_
  refine b_get (ci := 0) (C := RX0) (T := TX0) (Nf := 11) (v := .ref (q 7)) hx hb hts in_X0_unlink_X0 hown hK hH 1 (by decide) rfl rfl 5 (by decide) (hts (.fieldLink RX0 30 "StationLine$Bench" "before" "[I") (List.mem_of_getElem? (i := 1) rfl)) rfl dX0_unlink_1 ?_
  refine lv_iload_n hx hb dX0_unlink_4 rfl (lv_at hl 2 rfl) ?_
  refine b_iald (v := z0.2.1 7 (p1 : Int32).toNatClampNeg) hx hb hK hH 7 (by decide) rfl (iv_in hp1 (by decide) (by decide)) rfl dX0_unlink_5 ?_
  refine lv_iconst (v := 1) hx hb dX0_unlink_6 (by decide) ?_
  refine lv_iload_n hx hb dX0_unlink_7 rfl (lv_at hl 1 rfl) ?_
  refine lv_ishl hx hb dX0_unlink_8 ?_
  refine h_i (a := 1) (b := 512) (iv_bit hp0 (by decide) (by decide)) (fun w11 i11 => ?_)
  refine lv_iand hx hb dX0_unlink_9 ?_
  refine h_i (a := 0) (b := 512) (iv_and2 (iv_all (z0.2.1 7 (p1 : Int32).toNatClampNeg)) i11 (by decide) (by decide)) (fun w12 i12 => ?_)
  refine lv_if_ne (tgt := 15) hx hb dX0_unlink_10 (by decide) (fun c13 => ?_) (fun c13 => ?_)
  · skip
    have k14a : iv 1 512 w12 := iv_neLo (iv_nEq c13) i12 (by decide) (by decide)
    refine lv_aload_n hx hb dX0_unlink_15 rfl (lv_at hl 0 rfl) ?_
    refine b_get (ci := 0) (C := RX0) (T := TX0) (Nf := 11) (v := .ref (q 7)) hx hb hts in_X0_unlink_X0 hown hK hH 1 (by decide) rfl rfl 5 (by decide) (hts (.fieldLink RX0 30 "StationLine$Bench" "before" "[I") (List.mem_of_getElem? (i := 1) rfl)) rfl dX0_unlink_16 ?_
    refine lv_iload_n hx hb dX0_unlink_19 rfl (lv_at hl 2 rfl) ?_
    refine lv_dup2_11 hx hb dX0_unlink_20 rfl rfl ?_
    refine b_iald (v := z0.2.1 7 (p1 : Int32).toNatClampNeg) hx hb hK hH 7 (by decide) rfl (iv_in hp1 (by decide) (by decide)) rfl dX0_unlink_21 ?_
    refine lv_iconst (v := 1) hx hb dX0_unlink_22 (by decide) ?_
    refine lv_iload_n hx hb dX0_unlink_23 rfl (lv_at hl 1 rfl) ?_
    refine lv_ishl hx hb dX0_unlink_24 ?_
    refine h_i (a := 1) (b := 512) (iv_bit hp0 (by decide) (by decide)) (fun w15 i15 => ?_)
    refine lv_iconst (v := (-1)) hx hb dX0_unlink_25 (by decide) ?_
    refine lv_ixor hx hb dX0_unlink_26 ?_
    refine lv_topi (fun w16 _ => ?_)
    refine lv_iand hx hb dX0_unlink_27 ?_
    refine lv_topi (fun w17 _ => ?_)
    refine b_iast hx hb hK hH 7 (by decide) rfl (iv_in hp1 (by decide) (by decide)) (upA z0 7 (upd (z0.2.1 7) (p1 : Int32).toNatClampNeg w17)) rfl (enC_A _ _ _ _ _) dX0_unlink_28 (fun H locs hH => ?_)
    obtain ⟨z18, hz18⟩ : ∃ w : zS, w = upA z0 7 (upd (z0.2.1 7) (p1 : Int32).toNatClampNeg w17) := ⟨_, rfl⟩
    rw [← hz18] at hH
    have hJ : jJ IvC 0 896 0 z0 z18 := by rw [hz18]; exact jJ_A hJ (by decide) (IvC_A hJ.1 (by decide))
    refine lv_aload_n hx hb dX0_unlink_29 rfl (lv_at hl 0 rfl) ?_
    refine b_callv (As := []) (rest := []) ⟨hx, hb, hml, hown, hts⟩ 1 0 (g_X0_closeOver_1 l D cy q hH.2.1 z18 hJ.1 ) (cwV 0 hts gX0_unlink_X0_closeOver rfl rfl rfl (by decide +kernel) ⟨Nat.le_of_ble_eq_true rfl, Nat.le_of_ble_eq_true rfl⟩) hK hZ hH (by decide) rfl rfl rfl hl.1 rfl (Nat.le_of_ble_eq_true rfl) ⟨Nat.zero_le _, Nat.zero_le _⟩ dX0_unlink_30 (fun z19 H locs hp hH => ?_)
    have hJ := jJ_tr hJ hp (by decide) (by decide) (by decide)
    have hA19 := hp.2
    refine lv_iconst (v := 1) hx hb dX0_unlink_33 (by decide) ?_
    exact hret _ z19 H locs _ _ (iv_w (iv_lit (n := 1) 1 (by decide)) (by decide) (by decide)) ⟨hJ, (iv_w (iv_lit (n := 1) 1 (by decide)) (by decide) (by decide))⟩ hH dX0_unlink_34
  · skip
    have k20a : iv 0 0 w12 := iv_eql (iv_Eq c13) i12 (iv_lit (n := 0) 0 (by decide)) (by decide) (by decide)
    refine lv_iconst (v := 0) hx hb dX0_unlink_13 (by decide) ?_
    exact hret _ z0 H locs _ _ (iv_w (iv_lit (n := 0) 0 (by decide)) (by decide) (by decide)) ⟨hJ, (iv_w (iv_lit (n := 0) 0 (by decide)) (by decide) (by decide))⟩ hH dX0_unlink_14
set_option maxHeartbeats 4000000 in
set_option maxRecDepth 100000 in
theorem g_X0_pairing_1 (l : Launch) (D : va_G) (cy : Nat → ClassId) (q : Nat → Nat) (hq : bJ 66 q) (z0 : zS) (hI : IvC z0) (p0 : Int32) (hp0 : iv 0 9 p0) (p1 : Int32) (hp1 : iv 0 9 p1) : bCi l yX0_pairing wsX0_pairing ({ frames := 0, cells := 0, slots := 0, locals := 0 }) D cy 66 (enC cy) q z0 [.ref (q 1), .int p0, .int p1] (fun v z => jJ IvC 0 0 0 z0 z ∧ iv 0 2 v) := by
  refine hM_i cX0_pairing (by decide) rfl (own := RX0) rfl hq (Nat.le_of_ble_eq_true rfl) ?_
  intro p e s m args below meth c Q ls H locs hx hb hml hown hts hK hZ hH hl hret
  have hl : lv_has ls 3 [(0, .ref (q 1)), (1, .int p0), (2, .int p1)] := hl
  have hJ : jJ IvC 0 0 0 z0 z0 := jJ_rf _ _ _ hI
  refine lv_aload_n hx hb dX0_pairing_0 rfl (lv_at hl 0 rfl) ?_
  refine b_get (ci := 0) (C := RX0) (T := TX0) (Nf := 11) (v := .ref (q 10)) hx hb hts in_X0_pairing_X0 hown hK hH 1 (by decide) rfl rfl 8 (by decide) (hts (.fieldLink RX0 39 "StationLine$Bench" "together" "[I") (List.mem_of_getElem? (i := 1) rfl)) rfl dX0_pairing_1 ?_
  refine lv_iload_n hx hb dX0_pairing_4 rfl (lv_at hl 1 rfl) ?_
  refine b_iald (v := z0.2.1 10 (p0 : Int32).toNatClampNeg) hx hb hK hH 10 (by decide) rfl (iv_in hp0 (by decide) (by decide)) rfl dX0_pairing_5 ?_
  refine lv_iconst (v := 1) hx hb dX0_pairing_6 (by decide) ?_
  refine lv_iload_n hx hb dX0_pairing_7 rfl (lv_at hl 2 rfl) ?_
  refine lv_ishl hx hb dX0_pairing_8 ?_
  refine h_i (a := 1) (b := 512) (iv_bit hp1 (by decide) (by decide)) (fun w11 i11 => ?_)
  refine lv_iand hx hb dX0_pairing_9 ?_
  refine h_i (a := 0) (b := 512) (iv_and2 (iv_all (z0.2.1 10 (p0 : Int32).toNatClampNeg)) i11 (by decide) (by decide)) (fun w12 i12 => ?_)
  refine lv_if_eq (tgt := 15) hx hb dX0_pairing_10 (by decide) (fun c13 => ?_) (fun c13 => ?_)
  · skip
    have k14a : iv 0 0 w12 := iv_eql (iv_Eq c13) i12 (iv_lit (n := 0) 0 (by decide)) (by decide) (by decide)
    refine lv_aload_n hx hb dX0_pairing_15 rfl (lv_at hl 0 rfl) ?_
    refine b_get (ci := 0) (C := RX0) (T := TX0) (Nf := 11) (v := .ref (q 11)) hx hb hts in_X0_pairing_X0 hown hK hH 1 (by decide) rfl rfl 9 (by decide) (hts (.fieldLink RX0 42 "StationLine$Bench" "apart" "[I") (List.mem_of_getElem? (i := 2) rfl)) rfl dX0_pairing_16 ?_
    refine lv_iload_n hx hb dX0_pairing_19 rfl (lv_at hl 1 rfl) ?_
    refine b_iald (v := z0.2.1 11 (p0 : Int32).toNatClampNeg) hx hb hK hH 11 (by decide) rfl (iv_in hp0 (by decide) (by decide)) rfl dX0_pairing_20 ?_
    refine lv_iconst (v := 1) hx hb dX0_pairing_21 (by decide) ?_
    refine lv_iload_n hx hb dX0_pairing_22 rfl (lv_at hl 2 rfl) ?_
    refine lv_ishl hx hb dX0_pairing_23 ?_
    refine h_i (a := 1) (b := 512) (iv_bit hp1 (by decide) (by decide)) (fun w15 i15 => ?_)
    refine lv_iand hx hb dX0_pairing_24 ?_
    refine h_i (a := 0) (b := 512) (iv_and2 (iv_all (z0.2.1 11 (p0 : Int32).toNatClampNeg)) i15 (by decide) (by decide)) (fun w16 i16 => ?_)
    refine lv_if_eq (tgt := 32) hx hb dX0_pairing_25 (by decide) (fun c17 => ?_) (fun c17 => ?_)
    · skip
      have k18a : iv 0 0 w16 := iv_eql (iv_Eq c17) i16 (iv_lit (n := 0) 0 (by decide)) (by decide) (by decide)
      refine lv_iconst (v := 0) hx hb dX0_pairing_32 (by decide) ?_
      exact hret _ z0 H locs _ _ ⟨hJ, (iv_w (iv_lit (n := 0) 0 (by decide)) (by decide) (by decide))⟩ hH dX0_pairing_33
    · skip
      have k19a : iv 1 512 w16 := iv_neLo (iv_nEq c17) i16 (by decide) (by decide)
      refine lv_iconst (v := 2) hx hb dX0_pairing_28 (by decide) ?_
      refine lv_goto (tgt := 33) hx hb dX0_pairing_29 (by decide) ?_
      exact hret _ z0 H locs _ _ ⟨hJ, (iv_w (iv_lit (n := 2) 2 (by decide)) (by decide) (by decide))⟩ hH dX0_pairing_33
  · skip
    have k20a : iv 1 512 w12 := iv_neLo (iv_nEq c13) i12 (by decide) (by decide)
    refine lv_iconst (v := 1) hx hb dX0_pairing_13 (by decide) ?_
    exact hret _ z0 H locs _ _ ⟨hJ, (iv_w (iv_lit (n := 1) 1 (by decide)) (by decide) (by decide))⟩ hH dX0_pairing_14
set_option maxHeartbeats 4000000 in
set_option maxRecDepth 100000 in
theorem g_X0_mark_10 (l : Launch) (D : va_G) (cy : Nat → ClassId) (q : Nat → Nat) (hq : bJ 66 q) (z0 : zS) (hI : IvC z0) (p1 : Int32) (hp1 : iv 0 9 p1) (p2 : Int32) (hp2 : iv 0 9 p2) (p3 : Int32) (hp3 : iv 0 1 p3) : bCv l yX0_mark wsX0_mark ({ frames := 0, cells := 0, slots := 0, locals := 0 }) D cy 66 (enC cy) q z0 [.ref (q 10), .int p1, .int p2, .int p3] (fun z => jJ IvC 0 1024 0 z0 z) := by
  refine hM_v cX0_mark (by decide) rfl (own := RX0) rfl hq (Nat.le_of_ble_eq_true rfl) ?_
  intro p e s m args below meth c Q ls H locs hx hb hml hown hts hK hZ hH hl hret
  have hl : lv_has ls 4 [(0, .ref (q 10)), (1, .int p1), (2, .int p2), (3, .int p3)] := hl
  have hJ : jJ IvC 0 1024 0 z0 z0 := jJ_rf _ _ _ hI
  have HJ25 : ∀ (t0_25 : Int32) (t1_25 : Int32) (z_25 : zS) (H : Heap) (locs : List Loc) (ls : Array Slot), iv 0 9 t1_25 → jJ IvC 0 1024 0 z0 z_25 → bH D 66 (enC cy) q z_25 s.heap H locs → lv_has ls 4 [(0, .ref (q 10)), (1, .int p1), (2, .int p2), (3, .int p3)] → W p l e ({ frames := 0, cells := 0, slots := 0, locals := 0 }) s m args below meth c H locs 0 0 Q (F0 m 25 ls [.int t0_25, .int t1_25, .ref (q 10)]) := by
    intro t0_25 t1_25 z_25 H locs ls g1_25 hJ hH hl
    have HJ51 : ∀ (t0_51 : Int32) (t1_51 : Int32) (z_51 : zS) (H : Heap) (locs : List Loc) (ls : Array Slot), iv 0 9 t1_51 → jJ IvC 0 1024 0 z0 z_51 → bH D 66 (enC cy) q z_51 s.heap H locs → lv_has ls 4 [] → W p l e ({ frames := 0, cells := 0, slots := 0, locals := 0 }) s m args below meth c H locs 0 0 Q (F0 m 51 ls [.int t0_51, .int t1_51, .ref (q 10)]) := by
      intro t0_51 t1_51 z_51 H locs ls g1_51 hJ hH hl
      refine b_iast hx hb hK hH 10 (by decide) rfl (iv_in g1_51 (by decide) (by decide)) (upA z_51 10 (upd (z_51.2.1 10) (t1_51 : Int32).toNatClampNeg t0_51)) rfl (enC_A _ _ _ _ _) dX0_mark_51 (fun H locs hH => ?_)
      obtain ⟨z28, hz28⟩ : ∃ w : zS, w = upA z_51 10 (upd (z_51.2.1 10) (t1_51 : Int32).toNatClampNeg t0_51) := ⟨_, rfl⟩
      rw [← hz28] at hH
      have hJ : jJ IvC 0 1024 0 z0 z28 := by rw [hz28]; exact jJ_A hJ (by decide) (IvC_A hJ.1 (by decide))
      exact hret z28 H locs _ _ hJ hH dX0_mark_52
    refine b_iast hx hb hK hH 10 (by decide) rfl (iv_in g1_25 (by decide) (by decide)) (upA z_25 10 (upd (z_25.2.1 10) (t1_25 : Int32).toNatClampNeg t0_25)) rfl (enC_A _ _ _ _ _) dX0_mark_25 (fun H locs hH => ?_)
    obtain ⟨z29, hz29⟩ : ∃ w : zS, w = upA z_25 10 (upd (z_25.2.1 10) (t1_25 : Int32).toNatClampNeg t0_25) := ⟨_, rfl⟩
    rw [← hz29] at hH
    have hJ : jJ IvC 0 1024 0 z0 z29 := by rw [hz29]; exact jJ_A hJ (by decide) (IvC_A hJ.1 (by decide))
    refine lv_aload_n hx hb dX0_mark_26 rfl (lv_at hl 0 rfl) ?_
    refine lv_iload_n hx hb dX0_mark_27 rfl (lv_at hl 2 rfl) ?_
    refine lv_iload_n hx hb dX0_mark_28 rfl (lv_at hl 3 rfl) ?_
    refine lv_if_eq (tgt := 42) hx hb dX0_mark_29 (by decide) (fun c30 => ?_) (fun c30 => ?_)
    · skip
      have k31a : iv 0 0 p3 := iv_eql (iv_Eq c30) hp3 (iv_lit (n := 0) 0 (by decide)) (by decide) (by decide)
      refine lv_aload_n hx hb dX0_mark_42 rfl (lv_at hl 0 rfl) ?_
      refine lv_iload_n hx hb dX0_mark_43 rfl (lv_at hl 2 rfl) ?_
      refine b_iald (v := z29.2.1 10 (p2 : Int32).toNatClampNeg) hx hb hK hH 10 (by decide) rfl (iv_in hp2 (by decide) (by decide)) rfl dX0_mark_44 ?_
      refine lv_iconst (v := 1) hx hb dX0_mark_45 (by decide) ?_
      refine lv_iload_n hx hb dX0_mark_46 rfl (lv_at hl 1 rfl) ?_
      refine lv_ishl hx hb dX0_mark_47 ?_
      refine h_i (a := 1) (b := 512) (iv_bit hp1 (by decide) (by decide)) (fun w32 i32 => ?_)
      refine lv_iconst (v := (-1)) hx hb dX0_mark_48 (by decide) ?_
      refine lv_ixor hx hb dX0_mark_49 ?_
      refine lv_topi (fun w33 _ => ?_)
      refine lv_iand hx hb dX0_mark_50 ?_
      refine lv_topi (fun w34 _ => ?_)
      exact HJ51 w34 p2 z29 H locs ls hp2 hJ hH (lv_sub hl [] rfl)
    · skip
      have k35a : iv 1 1 p3 := iv_neLo (iv_nEq c30) hp3 (by decide) (by decide)
      refine lv_aload_n hx hb dX0_mark_32 rfl (lv_at hl 0 rfl) ?_
      refine lv_iload_n hx hb dX0_mark_33 rfl (lv_at hl 2 rfl) ?_
      refine b_iald (v := z29.2.1 10 (p2 : Int32).toNatClampNeg) hx hb hK hH 10 (by decide) rfl (iv_in hp2 (by decide) (by decide)) rfl dX0_mark_34 ?_
      refine lv_iconst (v := 1) hx hb dX0_mark_35 (by decide) ?_
      refine lv_iload_n hx hb dX0_mark_36 rfl (lv_at hl 1 rfl) ?_
      refine lv_ishl hx hb dX0_mark_37 ?_
      refine h_i (a := 1) (b := 512) (iv_bit hp1 (by decide) (by decide)) (fun w36 i36 => ?_)
      refine lv_ior hx hb dX0_mark_38 ?_
      refine lv_topi (fun w37 _ => ?_)
      refine lv_goto (tgt := 51) hx hb dX0_mark_39 (by decide) ?_
      exact HJ51 w37 p2 z29 H locs ls hp2 hJ hH (lv_sub hl [] rfl)
  refine lv_aload_n hx hb dX0_mark_0 rfl (lv_at hl 0 rfl) ?_
  refine lv_iload_n hx hb dX0_mark_1 rfl (lv_at hl 1 rfl) ?_
  refine lv_iload_n hx hb dX0_mark_2 rfl (lv_at hl 3 rfl) ?_
  refine lv_if_eq (tgt := 16) hx hb dX0_mark_3 (by decide) (fun c38 => ?_) (fun c38 => ?_)
  · skip
    have k39a : iv 0 0 p3 := iv_eql (iv_Eq c38) hp3 (iv_lit (n := 0) 0 (by decide)) (by decide) (by decide)
    refine lv_aload_n hx hb dX0_mark_16 rfl (lv_at hl 0 rfl) ?_
    refine lv_iload_n hx hb dX0_mark_17 rfl (lv_at hl 1 rfl) ?_
    refine b_iald (v := z0.2.1 10 (p1 : Int32).toNatClampNeg) hx hb hK hH 10 (by decide) rfl (iv_in hp1 (by decide) (by decide)) rfl dX0_mark_18 ?_
    refine lv_iconst (v := 1) hx hb dX0_mark_19 (by decide) ?_
    refine lv_iload_n hx hb dX0_mark_20 rfl (lv_at hl 2 rfl) ?_
    refine lv_ishl hx hb dX0_mark_21 ?_
    refine h_i (a := 1) (b := 512) (iv_bit hp2 (by decide) (by decide)) (fun w40 i40 => ?_)
    refine lv_iconst (v := (-1)) hx hb dX0_mark_22 (by decide) ?_
    refine lv_ixor hx hb dX0_mark_23 ?_
    refine lv_topi (fun w41 _ => ?_)
    refine lv_iand hx hb dX0_mark_24 ?_
    refine lv_topi (fun w42 _ => ?_)
    exact HJ25 w42 p1 z0 H locs ls hp1 hJ hH (lv_sub hl [0, 1, 2, 3] rfl)
  · skip
    have k43a : iv 1 1 p3 := iv_neLo (iv_nEq c38) hp3 (by decide) (by decide)
    refine lv_aload_n hx hb dX0_mark_6 rfl (lv_at hl 0 rfl) ?_
    refine lv_iload_n hx hb dX0_mark_7 rfl (lv_at hl 1 rfl) ?_
    refine b_iald (v := z0.2.1 10 (p1 : Int32).toNatClampNeg) hx hb hK hH 10 (by decide) rfl (iv_in hp1 (by decide) (by decide)) rfl dX0_mark_8 ?_
    refine lv_iconst (v := 1) hx hb dX0_mark_9 (by decide) ?_
    refine lv_iload_n hx hb dX0_mark_10 rfl (lv_at hl 2 rfl) ?_
    refine lv_ishl hx hb dX0_mark_11 ?_
    refine h_i (a := 1) (b := 512) (iv_bit hp2 (by decide) (by decide)) (fun w44 i44 => ?_)
    refine lv_ior hx hb dX0_mark_12 ?_
    refine lv_topi (fun w45 _ => ?_)
    refine lv_goto (tgt := 25) hx hb dX0_mark_13 (by decide) ?_
    exact HJ25 w45 p1 z0 H locs ls hp1 hJ hH (lv_sub hl [0, 1, 2, 3] rfl)
set_option maxHeartbeats 4000000 in
set_option maxRecDepth 100000 in
theorem g_X0_mark_11 (l : Launch) (D : va_G) (cy : Nat → ClassId) (q : Nat → Nat) (hq : bJ 66 q) (z0 : zS) (hI : IvC z0) (p1 : Int32) (hp1 : iv 0 9 p1) (p2 : Int32) (hp2 : iv 0 9 p2) (p3 : Int32) (hp3 : iv 0 1 p3) : bCv l yX0_mark wsX0_mark ({ frames := 0, cells := 0, slots := 0, locals := 0 }) D cy 66 (enC cy) q z0 [.ref (q 11), .int p1, .int p2, .int p3] (fun z => jJ IvC 0 2048 0 z0 z) := by
  refine hM_v cX0_mark (by decide) rfl (own := RX0) rfl hq (Nat.le_of_ble_eq_true rfl) ?_
  intro p e s m args below meth c Q ls H locs hx hb hml hown hts hK hZ hH hl hret
  have hl : lv_has ls 4 [(0, .ref (q 11)), (1, .int p1), (2, .int p2), (3, .int p3)] := hl
  have hJ : jJ IvC 0 2048 0 z0 z0 := jJ_rf _ _ _ hI
  have HJ25 : ∀ (t0_25 : Int32) (t1_25 : Int32) (z_25 : zS) (H : Heap) (locs : List Loc) (ls : Array Slot), iv 0 9 t1_25 → jJ IvC 0 2048 0 z0 z_25 → bH D 66 (enC cy) q z_25 s.heap H locs → lv_has ls 4 [(0, .ref (q 11)), (1, .int p1), (2, .int p2), (3, .int p3)] → W p l e ({ frames := 0, cells := 0, slots := 0, locals := 0 }) s m args below meth c H locs 0 0 Q (F0 m 25 ls [.int t0_25, .int t1_25, .ref (q 11)]) := by
    intro t0_25 t1_25 z_25 H locs ls g1_25 hJ hH hl
    have HJ51 : ∀ (t0_51 : Int32) (t1_51 : Int32) (z_51 : zS) (H : Heap) (locs : List Loc) (ls : Array Slot), iv 0 9 t1_51 → jJ IvC 0 2048 0 z0 z_51 → bH D 66 (enC cy) q z_51 s.heap H locs → lv_has ls 4 [] → W p l e ({ frames := 0, cells := 0, slots := 0, locals := 0 }) s m args below meth c H locs 0 0 Q (F0 m 51 ls [.int t0_51, .int t1_51, .ref (q 11)]) := by
      intro t0_51 t1_51 z_51 H locs ls g1_51 hJ hH hl
      refine b_iast hx hb hK hH 11 (by decide) rfl (iv_in g1_51 (by decide) (by decide)) (upA z_51 11 (upd (z_51.2.1 11) (t1_51 : Int32).toNatClampNeg t0_51)) rfl (enC_A _ _ _ _ _) dX0_mark_51 (fun H locs hH => ?_)
      obtain ⟨z28, hz28⟩ : ∃ w : zS, w = upA z_51 11 (upd (z_51.2.1 11) (t1_51 : Int32).toNatClampNeg t0_51) := ⟨_, rfl⟩
      rw [← hz28] at hH
      have hJ : jJ IvC 0 2048 0 z0 z28 := by rw [hz28]; exact jJ_A hJ (by decide) (IvC_A hJ.1 (by decide))
      exact hret z28 H locs _ _ hJ hH dX0_mark_52
    refine b_iast hx hb hK hH 11 (by decide) rfl (iv_in g1_25 (by decide) (by decide)) (upA z_25 11 (upd (z_25.2.1 11) (t1_25 : Int32).toNatClampNeg t0_25)) rfl (enC_A _ _ _ _ _) dX0_mark_25 (fun H locs hH => ?_)
    obtain ⟨z29, hz29⟩ : ∃ w : zS, w = upA z_25 11 (upd (z_25.2.1 11) (t1_25 : Int32).toNatClampNeg t0_25) := ⟨_, rfl⟩
    rw [← hz29] at hH
    have hJ : jJ IvC 0 2048 0 z0 z29 := by rw [hz29]; exact jJ_A hJ (by decide) (IvC_A hJ.1 (by decide))
    refine lv_aload_n hx hb dX0_mark_26 rfl (lv_at hl 0 rfl) ?_
    refine lv_iload_n hx hb dX0_mark_27 rfl (lv_at hl 2 rfl) ?_
    refine lv_iload_n hx hb dX0_mark_28 rfl (lv_at hl 3 rfl) ?_
    refine lv_if_eq (tgt := 42) hx hb dX0_mark_29 (by decide) (fun c30 => ?_) (fun c30 => ?_)
    · skip
      have k31a : iv 0 0 p3 := iv_eql (iv_Eq c30) hp3 (iv_lit (n := 0) 0 (by decide)) (by decide) (by decide)
      refine lv_aload_n hx hb dX0_mark_42 rfl (lv_at hl 0 rfl) ?_
      refine lv_iload_n hx hb dX0_mark_43 rfl (lv_at hl 2 rfl) ?_
      refine b_iald (v := z29.2.1 11 (p2 : Int32).toNatClampNeg) hx hb hK hH 11 (by decide) rfl (iv_in hp2 (by decide) (by decide)) rfl dX0_mark_44 ?_
      refine lv_iconst (v := 1) hx hb dX0_mark_45 (by decide) ?_
      refine lv_iload_n hx hb dX0_mark_46 rfl (lv_at hl 1 rfl) ?_
      refine lv_ishl hx hb dX0_mark_47 ?_
      refine h_i (a := 1) (b := 512) (iv_bit hp1 (by decide) (by decide)) (fun w32 i32 => ?_)
      refine lv_iconst (v := (-1)) hx hb dX0_mark_48 (by decide) ?_
      refine lv_ixor hx hb dX0_mark_49 ?_
      refine lv_topi (fun w33 _ => ?_)
      refine lv_iand hx hb dX0_mark_50 ?_
      refine lv_topi (fun w34 _ => ?_)
      exact HJ51 w34 p2 z29 H locs ls hp2 hJ hH (lv_sub hl [] rfl)
    · skip
      have k35a : iv 1 1 p3 := iv_neLo (iv_nEq c30) hp3 (by decide) (by decide)
      refine lv_aload_n hx hb dX0_mark_32 rfl (lv_at hl 0 rfl) ?_
      refine lv_iload_n hx hb dX0_mark_33 rfl (lv_at hl 2 rfl) ?_
      refine b_iald (v := z29.2.1 11 (p2 : Int32).toNatClampNeg) hx hb hK hH 11 (by decide) rfl (iv_in hp2 (by decide) (by decide)) rfl dX0_mark_34 ?_
      refine lv_iconst (v := 1) hx hb dX0_mark_35 (by decide) ?_
      refine lv_iload_n hx hb dX0_mark_36 rfl (lv_at hl 1 rfl) ?_
      refine lv_ishl hx hb dX0_mark_37 ?_
      refine h_i (a := 1) (b := 512) (iv_bit hp1 (by decide) (by decide)) (fun w36 i36 => ?_)
      refine lv_ior hx hb dX0_mark_38 ?_
      refine lv_topi (fun w37 _ => ?_)
      refine lv_goto (tgt := 51) hx hb dX0_mark_39 (by decide) ?_
      exact HJ51 w37 p2 z29 H locs ls hp2 hJ hH (lv_sub hl [] rfl)
  refine lv_aload_n hx hb dX0_mark_0 rfl (lv_at hl 0 rfl) ?_
  refine lv_iload_n hx hb dX0_mark_1 rfl (lv_at hl 1 rfl) ?_
  refine lv_iload_n hx hb dX0_mark_2 rfl (lv_at hl 3 rfl) ?_
  refine lv_if_eq (tgt := 16) hx hb dX0_mark_3 (by decide) (fun c38 => ?_) (fun c38 => ?_)
  · skip
    have k39a : iv 0 0 p3 := iv_eql (iv_Eq c38) hp3 (iv_lit (n := 0) 0 (by decide)) (by decide) (by decide)
    refine lv_aload_n hx hb dX0_mark_16 rfl (lv_at hl 0 rfl) ?_
    refine lv_iload_n hx hb dX0_mark_17 rfl (lv_at hl 1 rfl) ?_
    refine b_iald (v := z0.2.1 11 (p1 : Int32).toNatClampNeg) hx hb hK hH 11 (by decide) rfl (iv_in hp1 (by decide) (by decide)) rfl dX0_mark_18 ?_
    refine lv_iconst (v := 1) hx hb dX0_mark_19 (by decide) ?_
    refine lv_iload_n hx hb dX0_mark_20 rfl (lv_at hl 2 rfl) ?_
    refine lv_ishl hx hb dX0_mark_21 ?_
    refine h_i (a := 1) (b := 512) (iv_bit hp2 (by decide) (by decide)) (fun w40 i40 => ?_)
    refine lv_iconst (v := (-1)) hx hb dX0_mark_22 (by decide) ?_
    refine lv_ixor hx hb dX0_mark_23 ?_
    refine lv_topi (fun w41 _ => ?_)
    refine lv_iand hx hb dX0_mark_24 ?_
    refine lv_topi (fun w42 _ => ?_)
    exact HJ25 w42 p1 z0 H locs ls hp1 hJ hH (lv_sub hl [0, 1, 2, 3] rfl)
  · skip
    have k43a : iv 1 1 p3 := iv_neLo (iv_nEq c38) hp3 (by decide) (by decide)
    refine lv_aload_n hx hb dX0_mark_6 rfl (lv_at hl 0 rfl) ?_
    refine lv_iload_n hx hb dX0_mark_7 rfl (lv_at hl 1 rfl) ?_
    refine b_iald (v := z0.2.1 11 (p1 : Int32).toNatClampNeg) hx hb hK hH 11 (by decide) rfl (iv_in hp1 (by decide) (by decide)) rfl dX0_mark_8 ?_
    refine lv_iconst (v := 1) hx hb dX0_mark_9 (by decide) ?_
    refine lv_iload_n hx hb dX0_mark_10 rfl (lv_at hl 2 rfl) ?_
    refine lv_ishl hx hb dX0_mark_11 ?_
    refine h_i (a := 1) (b := 512) (iv_bit hp2 (by decide) (by decide)) (fun w44 i44 => ?_)
    refine lv_ior hx hb dX0_mark_12 ?_
    refine lv_topi (fun w45 _ => ?_)
    refine lv_goto (tgt := 25) hx hb dX0_mark_13 (by decide) ?_
    exact HJ25 w45 p1 z0 H locs ls hp1 hJ hH (lv_sub hl [0, 1, 2, 3] rfl)
set_option maxHeartbeats 4000000 in
set_option maxRecDepth 100000 in
theorem g_X0_pairUp_1 (l : Launch) (D : va_G) (cy : Nat → ClassId) (q : Nat → Nat) (hq : bJ 66 q) (z0 : zS) (hI : IvC z0) (p0 : Int32) (hp0 : iv 0 9 p0) (p1 : Int32) (hp1 : iv 0 9 p1) (p2 : Int32) : bCv l yX0_pairUp wsX0_pairUp ({ frames := 1, cells := 0, slots := 0, locals := 23 }) D cy 66 (enC cy) q z0 [.ref (q 1), .int p0, .int p1, .int p2] (fun z => jJ IvC 0 3072 0 z0 z) := by
  refine hM_v cX0_pairUp (by decide) rfl (own := RX0) rfl hq (Nat.le_of_ble_eq_true rfl) ?_
  intro p e s m args below meth c Q ls H locs hx hb hml hown hts hK hZ hH hl hret
  have hl : lv_has ls 4 [(0, .ref (q 1)), (1, .int p0), (2, .int p1), (3, .int p2)] := hl
  have hJ : jJ IvC 0 3072 0 z0 z0 := jJ_rf _ _ _ hI
  have HJ16 : ∀ (t0_16 : Int32) (t1_16 : Int32) (t2_16 : Int32) (z_16 : zS) (H : Heap) (locs : List Loc) (ls : Array Slot), iv 0 1 t0_16 → iv 0 9 t1_16 → iv 0 9 t2_16 → jJ IvC 0 3072 0 z0 z_16 → bH D 66 (enC cy) q z_16 s.heap H locs → lv_has ls 4 [(0, .ref (q 1)), (1, .int p0), (2, .int p1), (3, .int p2)] → W p l e ({ frames := 1, cells := 0, slots := 0, locals := 23 }) s m args below meth c H locs 0 0 Q (F0 m 16 ls [.int t0_16, .int t1_16, .int t2_16, .ref (q 10)]) := by
    intro t0_16 t1_16 t2_16 z_16 H locs ls g0_16 g1_16 g2_16 hJ hH hl
    have HJ35 : ∀ (t0_35 : Int32) (t1_35 : Int32) (t2_35 : Int32) (z_35 : zS) (H : Heap) (locs : List Loc) (ls : Array Slot), iv 0 1 t0_35 → iv 0 9 t1_35 → iv 0 9 t2_35 → jJ IvC 0 3072 0 z0 z_35 → bH D 66 (enC cy) q z_35 s.heap H locs → lv_has ls 4 [] → W p l e ({ frames := 1, cells := 0, slots := 0, locals := 23 }) s m args below meth c H locs 0 0 Q (F0 m 35 ls [.int t0_35, .int t1_35, .int t2_35, .ref (q 11)]) := by
      intro t0_35 t1_35 t2_35 z_35 H locs ls g0_35 g1_35 g2_35 hJ hH hl
      refine b_statv (As := [.ref (q 11), .int t2_35, .int t1_35, .int t0_35]) (rest := []) ⟨hx, hb, hml, hown, hts⟩ (g_X0_mark_11 l D cy q hH.2.1 z_35 hJ.1 t2_35 g2_35 t1_35 g1_35 t0_35 g0_35) (va_cwS 4 hts gX0_pairUp_X0_mark rfl rfl rfl (by decide +kernel) ⟨Nat.le_of_ble_eq_true rfl, Nat.le_of_ble_eq_true rfl⟩) hK hZ hH rfl hl.1 rfl (Nat.le_of_ble_eq_true rfl) ⟨Nat.zero_le _, Nat.zero_le _⟩ dX0_pairUp_35 (fun z14 H locs hp hH => ?_)
      have hJ := jJ_tr hJ hp (by decide) (by decide) (by decide)
      have hA14 := hp.2
      exact hret z14 H locs _ _ hJ hH dX0_pairUp_38
    refine b_statv (As := [.ref (q 10), .int t2_16, .int t1_16, .int t0_16]) (rest := []) ⟨hx, hb, hml, hown, hts⟩ (g_X0_mark_10 l D cy q hH.2.1 z_16 hJ.1 t2_16 g2_16 t1_16 g1_16 t0_16 g0_16) (va_cwS 4 hts gX0_pairUp_X0_mark rfl rfl rfl (by decide +kernel) ⟨Nat.le_of_ble_eq_true rfl, Nat.le_of_ble_eq_true rfl⟩) hK hZ hH rfl hl.1 rfl (Nat.le_of_ble_eq_true rfl) ⟨Nat.zero_le _, Nat.zero_le _⟩ dX0_pairUp_16 (fun z15 H locs hp hH => ?_)
    have hJ := jJ_tr hJ hp (by decide) (by decide) (by decide)
    have hA15 := hp.2
    refine lv_aload_n hx hb dX0_pairUp_19 rfl (lv_at hl 0 rfl) ?_
    refine b_get (ci := 0) (C := RX0) (T := TX0) (Nf := 11) (v := .ref (q 11)) hx hb hts in_X0_pairUp_X0 hown hK hH 1 (by decide) rfl rfl 9 (by decide) (hts (.fieldLink RX0 42 "StationLine$Bench" "apart" "[I") (List.mem_of_getElem? (i := 2) rfl)) rfl dX0_pairUp_20 ?_
    refine lv_iload_n hx hb dX0_pairUp_23 rfl (lv_at hl 1 rfl) ?_
    refine lv_iload_n hx hb dX0_pairUp_24 rfl (lv_at hl 2 rfl) ?_
    refine lv_iload_n hx hb dX0_pairUp_25 rfl (lv_at hl 3 rfl) ?_
    refine lv_iconst (v := 2) hx hb dX0_pairUp_26 (by decide) ?_
    refine lv_icmp_ne (tgt := 34) hx hb dX0_pairUp_27 (by decide) (fun c16 => ?_) (fun c16 => ?_)
    · skip
      refine lv_iconst (v := 0) hx hb dX0_pairUp_34 (by decide) ?_
      exact HJ35 0 p1 p0 z15 H locs ls (iv_w (iv_lit (n := 0) 0 (by decide)) (by decide) (by decide)) hp1 hp0 hJ hH (lv_sub hl [] rfl)
    · skip
      have k18a : iv 2 2 p2 := iv_eql (iv_Eq c16) (iv_all p2) (iv_lit (n := 2) 2 (by decide)) (by decide) (by decide)
      refine lv_iconst (v := 1) hx hb dX0_pairUp_30 (by decide) ?_
      refine lv_goto (tgt := 35) hx hb dX0_pairUp_31 (by decide) ?_
      exact HJ35 1 p1 p0 z15 H locs ls (iv_w (iv_lit (n := 1) 1 (by decide)) (by decide) (by decide)) hp1 hp0 hJ hH (lv_sub hl [] rfl)
  refine lv_aload_n hx hb dX0_pairUp_0 rfl (lv_at hl 0 rfl) ?_
  refine b_get (ci := 0) (C := RX0) (T := TX0) (Nf := 11) (v := .ref (q 10)) hx hb hts in_X0_pairUp_X0 hown hK hH 1 (by decide) rfl rfl 8 (by decide) (hts (.fieldLink RX0 39 "StationLine$Bench" "together" "[I") (List.mem_of_getElem? (i := 1) rfl)) rfl dX0_pairUp_1 ?_
  refine lv_iload_n hx hb dX0_pairUp_4 rfl (lv_at hl 1 rfl) ?_
  refine lv_iload_n hx hb dX0_pairUp_5 rfl (lv_at hl 2 rfl) ?_
  refine lv_iload_n hx hb dX0_pairUp_6 rfl (lv_at hl 3 rfl) ?_
  refine lv_iconst (v := 1) hx hb dX0_pairUp_7 (by decide) ?_
  refine lv_icmp_ne (tgt := 15) hx hb dX0_pairUp_8 (by decide) (fun c19 => ?_) (fun c19 => ?_)
  · skip
    refine lv_iconst (v := 0) hx hb dX0_pairUp_15 (by decide) ?_
    exact HJ16 0 p1 p0 z0 H locs ls (iv_w (iv_lit (n := 0) 0 (by decide)) (by decide) (by decide)) hp1 hp0 hJ hH (lv_sub hl [0, 1, 2, 3] rfl)
  · skip
    have k21a : iv 1 1 p2 := iv_eql (iv_Eq c19) (iv_all p2) (iv_lit (n := 1) 1 (by decide)) (by decide) (by decide)
    refine lv_iconst (v := 1) hx hb dX0_pairUp_11 (by decide) ?_
    refine lv_goto (tgt := 16) hx hb dX0_pairUp_12 (by decide) ?_
    exact HJ16 1 p1 p0 z0 H locs ls (iv_w (iv_lit (n := 1) 1 (by decide)) (by decide) (by decide)) hp1 hp0 hJ hH (lv_sub hl [0, 1, 2, 3] rfl)
set_option maxHeartbeats 4000000 in
set_option maxRecDepth 100000 in
theorem g_X0_shareSum_1 (l : Launch) (D : va_G) (cy : Nat → ClassId) (q : Nat → Nat) (hq : bJ 66 q) (z0 : zS) (hI : IvC z0)  : bCi l yX0_shareSum wsX0_shareSum ({ frames := 0, cells := 0, slots := 0, locals := 0 }) D cy 66 (enC cy) q z0 [.ref (q 1)] (fun v z => jJ IvC 0 0 0 z0 z ∧ iv (-2147483648) 2147483647 v) := by
  refine hM_i cX0_shareSum (by decide) rfl (own := RX0) rfl hq (Nat.le_of_ble_eq_true rfl) ?_
  intro p e s m args below meth c Q ls H locs hx hb hml hown hts hK hZ hH hl hret
  have hl : lv_has ls 1 [(0, .ref (q 1))] := hl
  have hJ : jJ IvC 0 0 0 z0 z0 := jJ_rf _ _ _ hI
  refine lv_aload_n hx hb dX0_shareSum_0 rfl (lv_at hl 0 rfl) ?_
  refine b_get (ci := 0) (C := RX0) (T := TX0) (Nf := 11) (v := .ref (q 2)) hx hb hts in_X0_shareSum_X0 hown hK hH 1 (by decide) rfl rfl 3 (by decide) (hts (.fieldLink RX0 21 "StationLine$Bench" "shares" "[I") (List.mem_of_getElem? (i := 1) rfl)) rfl dX0_shareSum_1 ?_
  refine lv_iconst (v := 0) hx hb dX0_shareSum_4 (by decide) ?_
  refine b_iald (v := z0.2.1 2 0) hx hb hK hH 2 (by decide) rfl (by unfold vp_in; decide) rfl dX0_shareSum_5 ?_
  refine lv_aload_n hx hb dX0_shareSum_6 rfl (lv_at hl 0 rfl) ?_
  refine b_get (ci := 0) (C := RX0) (T := TX0) (Nf := 11) (v := .ref (q 2)) hx hb hts in_X0_shareSum_X0 hown hK hH 1 (by decide) rfl rfl 3 (by decide) (hts (.fieldLink RX0 21 "StationLine$Bench" "shares" "[I") (List.mem_of_getElem? (i := 1) rfl)) rfl dX0_shareSum_7 ?_
  refine lv_iconst (v := 1) hx hb dX0_shareSum_10 (by decide) ?_
  refine b_iald (v := z0.2.1 2 1) hx hb hK hH 2 (by decide) rfl (by unfold vp_in; decide) rfl dX0_shareSum_11 ?_
  refine lv_iadd hx hb dX0_shareSum_12 ?_
  refine lv_topi (fun w3 _ => ?_)
  refine lv_aload_n hx hb dX0_shareSum_13 rfl (lv_at hl 0 rfl) ?_
  refine b_get (ci := 0) (C := RX0) (T := TX0) (Nf := 11) (v := .ref (q 2)) hx hb hts in_X0_shareSum_X0 hown hK hH 1 (by decide) rfl rfl 3 (by decide) (hts (.fieldLink RX0 21 "StationLine$Bench" "shares" "[I") (List.mem_of_getElem? (i := 1) rfl)) rfl dX0_shareSum_14 ?_
  refine lv_iconst (v := 2) hx hb dX0_shareSum_17 (by decide) ?_
  refine b_iald (v := z0.2.1 2 2) hx hb hK hH 2 (by decide) rfl (by unfold vp_in; decide) rfl dX0_shareSum_18 ?_
  refine lv_iadd hx hb dX0_shareSum_19 ?_
  refine lv_topi (fun w4 _ => ?_)
  exact hret _ z0 H locs _ _ ⟨hJ, (iv_all w4)⟩ hH dX0_shareSum_20
set_option maxHeartbeats 4000000 in
set_option maxRecDepth 100000 in
theorem g_X0_roomOfOneBeat_1 (l : Launch) (D : va_G) (cy : Nat → ClassId) (q : Nat → Nat) (hq : bJ 66 q) (z0 : zS) (hI : IvC z0)  : bCi l yX0_roomOfOneBeat wsX0_roomOfOneBeat ({ frames := 1, cells := 0, slots := 0, locals := 20 }) D cy 66 (enC cy) q z0 [.ref (q 1)] (fun v z => jJ IvC 0 0 0 z0 z ∧ iv (-2147483648) 2147483647 v) := by
  refine hM_i cX0_roomOfOneBeat (by decide) rfl (own := RX0) rfl hq (Nat.le_of_ble_eq_true rfl) ?_
  intro p e s m args below meth c Q ls H locs hx hb hml hown hts hK hZ hH hl hret
  have hl : lv_has ls 1 [(0, .ref (q 1))] := hl
  have hJ : jJ IvC 0 0 0 z0 z0 := jJ_rf _ _ _ hI
  refine lv_aload_n hx hb dX0_roomOfOneBeat_0 rfl (lv_at hl 0 rfl) ?_
  refine b_get (ci := 0) (C := RX0) (T := TX0) (Nf := 11) (v := .int (z0.1 1)) hx hb hts in_X0_roomOfOneBeat_X0 hown hK hH 1 (by decide) rfl rfl 1 (by decide) (hts (.fieldLink RX0 15 "StationLine$Bench" "kind" "I") (List.mem_of_getElem? (i := 1) rfl)) rfl dX0_roomOfOneBeat_1 ?_
  refine lv_iconst (v := 2) hx hb dX0_roomOfOneBeat_4 (by decide) ?_
  refine lv_icmp_ne (tgt := 15) hx hb dX0_roomOfOneBeat_5 (by decide) (fun c5 => ?_) (fun c5 => ?_)
  · skip
    refine lv_iconst (v := 1) hx hb dX0_roomOfOneBeat_15 (by decide) ?_
    exact hret _ z0 H locs _ _ ⟨hJ, (iv_w (iv_lit (n := 1) 1 (by decide)) (by decide) (by decide))⟩ hH dX0_roomOfOneBeat_16
  · skip
    have k7a : iv 2 2 (z0.1 1) := iv_eql (iv_Eq c5) (iv_all (z0.1 1)) (iv_lit (n := 2) 2 (by decide)) (by decide) (by decide)
    refine lv_aload_n hx hb dX0_roomOfOneBeat_8 rfl (lv_at hl 0 rfl) ?_
    refine b_calli (As := []) (rest := []) ⟨hx, hb, hml, hown, hts⟩ 1 0 (g_X0_shareSum_1 l D cy q hH.2.1 z0 hJ.1 ) (cwV 0 hts gX0_roomOfOneBeat_X0_shareSum rfl rfl rfl (by decide +kernel) ⟨Nat.le_of_ble_eq_true rfl, Nat.le_of_ble_eq_true rfl⟩) hK hZ hH (by decide) rfl rfl rfl hl.1 rfl (Nat.le_of_ble_eq_true rfl) ⟨Nat.zero_le _, Nat.zero_le _⟩ dX0_roomOfOneBeat_9 (fun w8 z8 H locs hp hH => ?_)
    rw [Ag_0 hp.1.2] at hH
    refine lv_goto (tgt := 16) hx hb dX0_roomOfOneBeat_12 (by decide) ?_
    exact hret _ z0 H locs _ _ ⟨hJ, (iv_all w8)⟩ hH dX0_roomOfOneBeat_16
set_option maxHeartbeats 4000000 in
set_option maxRecDepth 100000 in
theorem g_X0_room_1 (l : Launch) (D : va_G) (cy : Nat → ClassId) (q : Nat → Nat) (hq : bJ 66 q) (z0 : zS) (hI : IvC z0)  : bCi l yX0_room wsX0_room ({ frames := 1, cells := 0, slots := 0, locals := 20 }) D cy 66 (enC cy) q z0 [.ref (q 1)] (fun v z => jJ IvC 0 0 0 z0 z ∧ iv (-2147483648) 2147483647 v) := by
  refine hM_i cX0_room (by decide) rfl (own := RX0) rfl hq (Nat.le_of_ble_eq_true rfl) ?_
  intro p e s m args below meth c Q ls H locs hx hb hml hown hts hK hZ hH hl hret
  have hl : lv_has ls 1 [(0, .ref (q 1))] := hl
  have hJ : jJ IvC 0 0 0 z0 z0 := jJ_rf _ _ _ hI
  refine lv_aload_n hx hb dX0_room_0 rfl (lv_at hl 0 rfl) ?_
  refine b_get (ci := 0) (C := RX0) (T := TX0) (Nf := 11) (v := .int (z0.1 1)) hx hb hts in_X0_room_X0 hown hK hH 1 (by decide) rfl rfl 1 (by decide) (hts (.fieldLink RX0 15 "StationLine$Bench" "kind" "I") (List.mem_of_getElem? (i := 1) rfl)) rfl dX0_room_1 ?_
  refine lv_iconst (v := 2) hx hb dX0_room_4 (by decide) ?_
  refine lv_icmp_ne (tgt := 20) hx hb dX0_room_5 (by decide) (fun c6 => ?_) (fun c6 => ?_)
  · skip
    refine lv_aload_n hx hb dX0_room_20 rfl (lv_at hl 0 rfl) ?_
    refine b_get (ci := 0) (C := RX0) (T := TX0) (Nf := 11) (v := .int (z0.1 2)) hx hb hts in_X0_room_X0 hown hK hH 1 (by decide) rfl rfl 2 (by decide) (hts (.fieldLink RX0 18 "StationLine$Bench" "beat" "I") (List.mem_of_getElem? (i := 2) rfl)) rfl dX0_room_21 ?_
    exact hret _ z0 H locs _ _ ⟨hJ, (iv_all (z0.1 2))⟩ hH dX0_room_24
  · skip
    have k8a : iv 2 2 (z0.1 1) := iv_eql (iv_Eq c6) (iv_all (z0.1 1)) (iv_lit (n := 2) 2 (by decide)) (by decide) (by decide)
    refine lv_aload_n hx hb dX0_room_8 rfl (lv_at hl 0 rfl) ?_
    refine b_get (ci := 0) (C := RX0) (T := TX0) (Nf := 11) (v := .int (z0.1 2)) hx hb hts in_X0_room_X0 hown hK hH 1 (by decide) rfl rfl 2 (by decide) (hts (.fieldLink RX0 18 "StationLine$Bench" "beat" "I") (List.mem_of_getElem? (i := 2) rfl)) rfl dX0_room_9 ?_
    refine lv_aload_n hx hb dX0_room_12 rfl (lv_at hl 0 rfl) ?_
    refine b_calli (As := []) (rest := [.int (z0.1 2)]) ⟨hx, hb, hml, hown, hts⟩ 1 0 (g_X0_shareSum_1 l D cy q hH.2.1 z0 hJ.1 ) (cwV 0 hts gX0_room_X0_shareSum rfl rfl rfl (by decide +kernel) ⟨Nat.le_of_ble_eq_true rfl, Nat.le_of_ble_eq_true rfl⟩) hK hZ hH (by decide) rfl rfl rfl hl.1 rfl (Nat.le_of_ble_eq_true rfl) ⟨Nat.zero_le _, Nat.zero_le _⟩ dX0_room_13 (fun w9 z9 H locs hp hH => ?_)
    rw [Ag_0 hp.1.2] at hH
    refine lv_imul hx hb dX0_room_16 ?_
    refine lv_topi (fun w10 _ => ?_)
    refine lv_goto (tgt := 24) hx hb dX0_room_17 (by decide) ?_
    exact hret _ z0 H locs _ _ ⟨hJ, (iv_all w10)⟩ hH dX0_room_24
set_option maxHeartbeats 4000000 in
set_option maxRecDepth 100000 in
theorem g_X0_weight_1 (l : Launch) (D : va_G) (cy : Nat → ClassId) (q : Nat → Nat) (hq : bJ 66 q) (z0 : zS) (hI : IvC z0) (p0 : Int32) (hp0 : iv 0 2 p0) : bCi l yX0_weight wsX0_weight ({ frames := 0, cells := 0, slots := 0, locals := 0 }) D cy 66 (enC cy) q z0 [.ref (q 1), .int p0] (fun v z => jJ IvC 0 0 0 z0 z ∧ iv (-2147483648) 2147483647 v) := by
  refine hM_i cX0_weight (by decide) rfl (own := RX0) rfl hq (Nat.le_of_ble_eq_true rfl) ?_
  intro p e s m args below meth c Q ls H locs hx hb hml hown hts hK hZ hH hl hret
  have hl : lv_has ls 2 [(0, .ref (q 1)), (1, .int p0)] := hl
  have hJ : jJ IvC 0 0 0 z0 z0 := jJ_rf _ _ _ hI
  refine lv_aload_n hx hb dX0_weight_0 rfl (lv_at hl 0 rfl) ?_
  refine b_get (ci := 0) (C := RX0) (T := TX0) (Nf := 11) (v := .int (z0.1 1)) hx hb hts in_X0_weight_X0 hown hK hH 1 (by decide) rfl rfl 1 (by decide) (hts (.fieldLink RX0 15 "StationLine$Bench" "kind" "I") (List.mem_of_getElem? (i := 1) rfl)) rfl dX0_weight_1 ?_
  refine lv_iconst (v := 2) hx hb dX0_weight_4 (by decide) ?_
  refine lv_icmp_ne (tgt := 15) hx hb dX0_weight_5 (by decide) (fun c13 => ?_) (fun c13 => ?_)
  · skip
    refine lv_aload_n hx hb dX0_weight_15 rfl (lv_at hl 0 rfl) ?_
    refine b_get (ci := 0) (C := RX0) (T := TX0) (Nf := 11) (v := .int (z0.1 1)) hx hb hts in_X0_weight_X0 hown hK hH 1 (by decide) rfl rfl 1 (by decide) (hts (.fieldLink RX0 15 "StationLine$Bench" "kind" "I") (List.mem_of_getElem? (i := 1) rfl)) rfl dX0_weight_16 ?_
    refine lv_iconst (v := 3) hx hb dX0_weight_19 (by decide) ?_
    refine lv_icmp_ne (tgt := 38) hx hb dX0_weight_20 (by decide) (fun c15 => ?_) (fun c15 => ?_)
    · skip
      refine lv_iload_n hx hb dX0_weight_38 rfl (lv_at hl 1 rfl) ?_
      refine lv_if_ne (tgt := 46) hx hb dX0_weight_39 (by decide) (fun c17 => ?_) (fun c17 => ?_)
      · skip
        have k18a : iv 1 2 p0 := iv_neLo (iv_nEq c17) hp0 (by decide) (by decide)
        refine lv_iconst (v := 0) hx hb dX0_weight_46 (by decide) ?_
        exact hret _ z0 H locs _ _ ⟨hJ, (iv_w (iv_lit (n := 0) 0 (by decide)) (by decide) (by decide))⟩ hH dX0_weight_47
      · skip
        have k19a : iv 0 0 p0 := iv_eql (iv_Eq c17) hp0 (iv_lit (n := 0) 0 (by decide)) (by decide) (by decide)
        refine lv_iconst (v := 1) hx hb dX0_weight_42 (by decide) ?_
        refine lv_goto (tgt := 47) hx hb dX0_weight_43 (by decide) ?_
        exact hret _ z0 H locs _ _ ⟨hJ, (iv_w (iv_lit (n := 1) 1 (by decide)) (by decide) (by decide))⟩ hH dX0_weight_47
    · skip
      have k20a : iv 3 3 (z0.1 1) := iv_eql (iv_Eq c15) (iv_all (z0.1 1)) (iv_lit (n := 3) 3 (by decide)) (by decide) (by decide)
      refine lv_aload_n hx hb dX0_weight_23 rfl (lv_at hl 0 rfl) ?_
      refine b_get (ci := 0) (C := RX0) (T := TX0) (Nf := 11) (v := .ref (q 2)) hx hb hts in_X0_weight_X0 hown hK hH 1 (by decide) rfl rfl 3 (by decide) (hts (.fieldLink RX0 21 "StationLine$Bench" "shares" "[I") (List.mem_of_getElem? (i := 2) rfl)) rfl dX0_weight_24 ?_
      refine lv_iload_n hx hb dX0_weight_27 rfl (lv_at hl 1 rfl) ?_
      refine b_iald (v := z0.2.1 2 (p0 : Int32).toNatClampNeg) hx hb hK hH 2 (by decide) rfl (iv_in hp0 (by decide) (by decide)) rfl dX0_weight_28 ?_
      refine lv_if_le (tgt := 36) hx hb dX0_weight_29 (by decide) (fun c21 => ?_) (fun c21 => ?_)
      · skip
        have k22a : iv (-2147483648) 0 (z0.2.1 2 (p0 : Int32).toNatClampNeg) := iv_lel (iv_Le c21) (iv_all (z0.2.1 2 (p0 : Int32).toNatClampNeg)) (iv_lit (n := 0) 0 (by decide))
        refine lv_iconst (v := 0) hx hb dX0_weight_36 (by decide) ?_
        exact hret _ z0 H locs _ _ ⟨hJ, (iv_w (iv_lit (n := 0) 0 (by decide)) (by decide) (by decide))⟩ hH dX0_weight_37
      · skip
        have k23b : iv 1 2147483647 (z0.2.1 2 (p0 : Int32).toNatClampNeg) := iv_ltr (iv_nLe c21) (iv_lit (n := 0) 0 (by decide)) (iv_all (z0.2.1 2 (p0 : Int32).toNatClampNeg)) (by decide)
        refine lv_iconst (v := 1) hx hb dX0_weight_32 (by decide) ?_
        refine lv_goto (tgt := 37) hx hb dX0_weight_33 (by decide) ?_
        exact hret _ z0 H locs _ _ ⟨hJ, (iv_w (iv_lit (n := 1) 1 (by decide)) (by decide) (by decide))⟩ hH dX0_weight_37
  · skip
    have k24a : iv 2 2 (z0.1 1) := iv_eql (iv_Eq c13) (iv_all (z0.1 1)) (iv_lit (n := 2) 2 (by decide)) (by decide) (by decide)
    refine lv_aload_n hx hb dX0_weight_8 rfl (lv_at hl 0 rfl) ?_
    refine b_get (ci := 0) (C := RX0) (T := TX0) (Nf := 11) (v := .ref (q 2)) hx hb hts in_X0_weight_X0 hown hK hH 1 (by decide) rfl rfl 3 (by decide) (hts (.fieldLink RX0 21 "StationLine$Bench" "shares" "[I") (List.mem_of_getElem? (i := 2) rfl)) rfl dX0_weight_9 ?_
    refine lv_iload_n hx hb dX0_weight_12 rfl (lv_at hl 1 rfl) ?_
    refine b_iald (v := z0.2.1 2 (p0 : Int32).toNatClampNeg) hx hb hK hH 2 (by decide) rfl (iv_in hp0 (by decide) (by decide)) rfl dX0_weight_13 ?_
    exact hret _ z0 H locs _ _ ⟨hJ, (iv_all (z0.2.1 2 (p0 : Int32).toNatClampNeg))⟩ hH dX0_weight_14
set_option maxHeartbeats 4000000 in
set_option maxRecDepth 100000 in
theorem g_X0_joined_1 (l : Launch) (D : va_G) (cy : Nat → ClassId) (q : Nat → Nat) (hq : bJ 66 q) (z0 : zS) (hI : IvC z0) (p0 : Int32) (p1 : Int32) : bCi l yX0_joined wsX0_joined ({ frames := 1, cells := 0, slots := 0, locals := 28 }) D cy 66 (enC cy) q z0 [.ref (q 1), .int p0, .int p1] (fun v z => jJ IvC 0 0 0 z0 z ∧ iv (-2147483648) 2147483647 v) := by
  refine hM_i cX0_joined (by decide) rfl (own := RX0) rfl hq (Nat.le_of_ble_eq_true rfl) ?_
  intro p e s m args below meth c Q ls H locs hx hb hml hown hts hK hZ hH hl hret
  have hl : lv_has ls 3 [(0, .ref (q 1)), (1, .int p0), (2, .int p1)] := hl
  have hJ : jJ IvC 0 0 0 z0 z0 := jJ_rf _ _ _ hI
  refine lv_aload_n hx hb dX0_joined_0 rfl (lv_at hl 0 rfl) ?_
  refine b_get (ci := 0) (C := RX0) (T := TX0) (Nf := 11) (v := .int (z0.1 1)) hx hb hts in_X0_joined_X0 hown hK hH 1 (by decide) rfl rfl 1 (by decide) (hts (.fieldLink RX0 15 "StationLine$Bench" "kind" "I") (List.mem_of_getElem? (i := 1) rfl)) rfl dX0_joined_1 ?_
  refine lv_iconst (v := 3) hx hb dX0_joined_4 (by decide) ?_
  refine lv_icmp_ne (tgt := 16) hx hb dX0_joined_5 (by decide) (fun c6 => ?_) (fun c6 => ?_)
  · skip
    refine lv_iload_n hx hb dX0_joined_16 rfl (lv_at hl 1 rfl) ?_
    refine lv_iload_n hx hb dX0_joined_17 rfl (lv_at hl 2 rfl) ?_
    refine lv_iadd hx hb dX0_joined_18 ?_
    refine lv_topi (fun w8 _ => ?_)
    exact hret _ z0 H locs _ _ ⟨hJ, (iv_all w8)⟩ hH dX0_joined_19
  · skip
    have k9a : iv 3 3 (z0.1 1) := iv_eql (iv_Eq c6) (iv_all (z0.1 1)) (iv_lit (n := 3) 3 (by decide)) (by decide) (by decide)
    refine lv_iload_n hx hb dX0_joined_8 rfl (lv_at hl 1 rfl) ?_
    refine lv_iload_n hx hb dX0_joined_9 rfl (lv_at hl 2 rfl) ?_
    refine va_mmax hx hb (by rw [hml]; exact hl.1.symm) hown (hts (.methodLink RX0 69 Lib.Math.max.name) (List.mem_of_getElem? (i := 2) rfl)) (hts (.static Lib.Math.max.name) (List.mem_of_getElem? (i := 3) rfl)) (hts (.initialized "java/lang/Math") (List.mem_of_getElem? (i := 4) rfl)) (hts (.code Lib.Math.max.name Lib.Math.max.code 2 (some .int)) (List.mem_of_getElem? (i := 5) rfl)) (Nat.le_of_ble_eq_true rfl) (Nat.le_of_ble_eq_true rfl) (Nat.zero_le _) (Nat.zero_le _) dX0_joined_10 ?_
    refine lv_topi (fun w10 _ => ?_)
    refine lv_goto (tgt := 19) hx hb dX0_joined_13 (by decide) ?_
    exact hret _ z0 H locs _ _ ⟨hJ, (iv_all w10)⟩ hH dX0_joined_19
set_option maxHeartbeats 4000000 in
set_option maxRecDepth 100000 in
theorem g_X0_timeSum_1 (l : Launch) (D : va_G) (cy : Nat → ClassId) (q : Nat → Nat) (hq : bJ 66 q) (z0 : zS) (hI : IvC z0) (p0 : Int32) (p1 : Int32) (hp1 : iv 0 2 p1) : bCi l yX0_timeSum wsX0_timeSum ({ frames := 0, cells := 0, slots := 0, locals := 0 }) D cy 66 (enC cy) q z0 [.ref (q 1), .int p0, .int p1] (fun v z => jJ IvC 0 0 0 z0 z ∧ iv (-2147483648) 2147483647 v) := by
  refine hM_i cX0_timeSum (by decide) rfl (own := RX0) rfl hq (Nat.le_of_ble_eq_true rfl) ?_
  intro p e s m args below meth c Q ls H locs hx hb hml hown hts hK hZ hH hl hret
  have hl : lv_has ls 5 [(0, .ref (q 1)), (1, .int p0), (2, .int p1)] := hl
  have hJ : jJ IvC 0 0 0 z0 z0 := jJ_rf _ _ _ hI
  have HL5 : ∀ (n : Nat) (x3_5 : Int32) (x4_5 : Int32) (H : Heap) (locs : List Loc) (ls : Array Slot), iv 0 10 x4_5 → bH D 66 (enC cy) q z0 s.heap H locs → lv_has ls 5 [(0, .ref (q 1)), (1, .int p0), (2, .int p1), (3, .int x3_5), (4, .int x4_5)] → (10 - x4_5.toInt).toNat = n → W p l e ({ frames := 0, cells := 0, slots := 0, locals := 0 }) s m args below meth c H locs 0 0 Q (F0 m 5 ls []) := by
    intro n5
    induction n5 using Nat.strongRecOn with
    | ind n5 ih5 =>
      intro x3_5 x4_5 H locs ls h4_5 hH hl hn5
      have HJ35 : ∀ (x3_35 : Int32) (H : Heap) (locs : List Loc) (ls : Array Slot), iv 0 9 x4_5 → iv 1 10 (z0.1 0) → bH D 66 (enC cy) q z0 s.heap H locs → lv_has ls 5 [(0, .ref (q 1)), (1, .int p0), (2, .int p1), (3, .int x3_35), (4, .int x4_5)] → W p l e ({ frames := 0, cells := 0, slots := 0, locals := 0 }) s m args below meth c H locs 0 0 Q (F0 m 35 ls []) := by
        intro x3_35 H locs ls h4_35 gh0_35 hH hl
        have j85 : iv 1 10 (x4_5 + 1) := iv_add h4_35 (iv_lit (n := 1) 1 (by decide)) (by decide) (by decide) (by decide) (by decide)
        have e85 : (x4_5 + 1).toInt = x4_5.toInt + 1 := (iv_addE h4_35 (iv_lit (n := 1) 1 (by decide)) (by decide) (by decide)).trans rfl
        refine lv_iinc (v := (x4_5 + 1)) (lv' := [(4, .int (x4_5 + 1)), (0, .ref (q 1)), (1, .int p0), (2, .int p1), (3, .int x3_35)]) hx hb dX0_timeSum_35 hl (k := 4) rfl rfl (by decide) rfl (fun ls hl => ?_)
        refine lv_goto (tgt := 5) hx hb dX0_timeSum_38 (by decide) ?_
        exact ih5 _ (ms_up e85 j85.2 hn5) x3_35 (x4_5 + 1)  H locs ls (iv_w j85 (by decide) (by decide))  hH (lv_sub hl [1, 2, 3, 4, 0] rfl) rfl
      refine lv_iload hx hb dX0_timeSum_5 (lv_at hl 4 rfl) ?_
      refine lv_aload_n hx hb dX0_timeSum_7 rfl (lv_at hl 0 rfl) ?_
      refine b_get (ci := 0) (C := RX0) (T := TX0) (Nf := 11) (v := .int (z0.1 0)) hx hb hts in_X0_timeSum_X0 hown hK hH 1 (by decide) rfl rfl 0 (by decide) (hts (.fieldLink RX0 9 "StationLine$Bench" "size" "I") (List.mem_of_getElem? (i := 1) rfl)) rfl dX0_timeSum_8 ?_
      have i86 := IvC_s0 hJ.1
      refine lv_icmp_ge (tgt := 41) hx hb dX0_timeSum_11 (by decide) (fun c87 => ?_) (fun c87 => ?_)
      · skip
        refine lv_iload_n hx hb dX0_timeSum_41 rfl (lv_at hl 3 rfl) ?_
        exact hret _ z0 H locs _ _ ⟨hJ, (iv_all x3_5)⟩ hH dX0_timeSum_42
      · skip
        have k89a : iv 0 9 x4_5 := iv_ltl (iv_nLe c87) h4_5 i86 (by decide)
        have k89b : iv 1 10 (z0.1 0) := iv_ltr (iv_nLe c87) h4_5 i86 (by decide)
        refine lv_iload_n hx hb dX0_timeSum_14 rfl (lv_at hl 1 rfl) ?_
        refine lv_iconst (v := 1) hx hb dX0_timeSum_15 (by decide) ?_
        refine lv_iload hx hb dX0_timeSum_16 (lv_at hl 4 rfl) ?_
        refine lv_ishl hx hb dX0_timeSum_18 ?_
        refine h_i (a := 1) (b := 512) (iv_bit k89a (by decide) (by decide)) (fun w90 i90 => ?_)
        refine lv_iand hx hb dX0_timeSum_19 ?_
        refine h_i (a := 0) (b := 512) (iv_and2 (iv_all p0) i90 (by decide) (by decide)) (fun w91 i91 => ?_)
        refine lv_if_eq (tgt := 35) hx hb dX0_timeSum_20 (by decide) (fun c92 => ?_) (fun c92 => ?_)
        · skip
          have k93a : iv 0 0 w91 := iv_eql (iv_Eq c92) i91 (iv_lit (n := 0) 0 (by decide)) (by decide) (by decide)
          exact HJ35 x3_5  H locs ls k89a k89b  hH (lv_sub hl [0, 1, 2, 3, 4] rfl)
        · skip
          have k94a : iv 1 512 w91 := iv_neLo (iv_nEq c92) i91 (by decide) (by decide)
          refine lv_iload_n hx hb dX0_timeSum_23 rfl (lv_at hl 3 rfl) ?_
          refine lv_aload_n hx hb dX0_timeSum_24 rfl (lv_at hl 0 rfl) ?_
          refine b_get (ci := 0) (C := RX0) (T := TX0) (Nf := 11) (v := .ref (q 3)) hx hb hts in_X0_timeSum_X0 hown hK hH 1 (by decide) rfl rfl 4 (by decide) (hts (.fieldLink RX0 27 "StationLine$Bench" "times" "[[I") (List.mem_of_getElem? (i := 2) rfl)) rfl dX0_timeSum_25 ?_
          refine lv_iload_n hx hb dX0_timeSum_28 rfl (lv_at hl 2 rfl) ?_
          refine h_aald (n := 3) hx hb hK hH 3 3 4 (by decide) rfl rfl (iv_in hp1 (by decide) (by decide)) dX0_timeSum_29 (fun k95 hk95 => ?_)
          refine lv_iload hx hb dX0_timeSum_30 (lv_at hl 4 rfl) ?_
          refine b_iald (v := z0.2.1 k95 (x4_5 : Int32).toNatClampNeg) hx hb hK hH k95 (Nat.lt_of_lt_of_le hk95.2 (by decide)) (enC_g4 cy q _ k95 hk95) (iv_in k89a (by decide) (by decide)) rfl dX0_timeSum_32 ?_
          refine lv_iadd hx hb dX0_timeSum_33 ?_
          refine lv_topi (fun w96 _ => ?_)
          refine lv_istore_n (lv' := [(3, .int w96), (0, .ref (q 1)), (1, .int p0), (2, .int p1), (4, .int x4_5)]) hx hb dX0_timeSum_34 rfl hl (by decide) rfl (fun ls hl => ?_)
          exact HJ35 w96  H locs ls k89a k89b  hH (lv_sub hl [1, 2, 3, 0, 4] rfl)
  refine lv_iconst (v := 0) hx hb dX0_timeSum_0 (by decide) ?_
  refine lv_istore_n (lv' := [(3, .int 0), (0, .ref (q 1)), (1, .int p0), (2, .int p1)]) hx hb dX0_timeSum_1 rfl hl (by decide) rfl (fun ls hl => ?_)
  refine lv_iconst (v := 0) hx hb dX0_timeSum_2 (by decide) ?_
  refine lv_istore (lv' := [(4, .int 0), (3, .int 0), (0, .ref (q 1)), (1, .int p0), (2, .int p1)]) hx hb dX0_timeSum_3 hl (by decide) rfl (fun ls hl => ?_)
  exact HL5 _ 0 0  H locs ls (iv_w (iv_lit (n := 0) 0 (by decide)) (by decide) (by decide))  hH (lv_sub hl [2, 3, 4, 1, 0] rfl) rfl
set_option maxHeartbeats 4000000 in
set_option maxRecDepth 100000 in
theorem g_X0_loadOf_1 (l : Launch) (D : va_G) (cy : Nat → ClassId) (q : Nat → Nat) (hq : bJ 66 q) (z0 : zS) (hI : IvC z0) (p0 : Int32) : bCi l yX0_loadOf wsX0_loadOf ({ frames := 2, cells := 0, slots := 0, locals := 50 }) D cy 66 (enC cy) q z0 [.ref (q 1), .int p0] (fun v z => jJ IvC 0 0 0 z0 z ∧ iv (-2147483648) 2147483647 v) := by
  refine hM_i cX0_loadOf (by decide) rfl (own := RX0) rfl hq (Nat.le_of_ble_eq_true rfl) ?_
  intro p e s m args below meth c Q ls H locs hx hb hml hown hts hK hZ hH hl hret
  have hl : lv_has ls 5 [(0, .ref (q 1)), (1, .int p0)] := hl
  have hJ : jJ IvC 0 0 0 z0 z0 := jJ_rf _ _ _ hI
  have HL4 : ∀ (n : Nat) (x2_4 : Int32) (x3_4 : Int32) (H : Heap) (locs : List Loc) (ls : Array Slot), iv 0 3 x3_4 → bH D 66 (enC cy) q z0 s.heap H locs → lv_has ls 5 [(0, .ref (q 1)), (1, .int p0), (2, .int x2_4), (3, .int x3_4)] → (3 - x3_4.toInt).toNat = n → W p l e ({ frames := 2, cells := 0, slots := 0, locals := 50 }) s m args below meth c H locs 0 0 Q (F0 m 4 ls []) := by
    intro n4
    induction n4 using Nat.strongRecOn with
    | ind n4 ih4 =>
      intro x2_4 x3_4 H locs ls h3_4 hH hl hn4
      have HJ36 : ∀ (x2_36 : Int32) (H : Heap) (locs : List Loc) (ls : Array Slot), iv 0 2 x3_4 → bH D 66 (enC cy) q z0 s.heap H locs → lv_has ls 5 [(0, .ref (q 1)), (1, .int p0), (2, .int x2_36), (3, .int x3_4)] → W p l e ({ frames := 2, cells := 0, slots := 0, locals := 50 }) s m args below meth c H locs 0 0 Q (F0 m 36 ls []) := by
        intro x2_36 H locs ls h3_36 hH hl
        have j42 : iv 1 3 (x3_4 + 1) := iv_add h3_36 (iv_lit (n := 1) 1 (by decide)) (by decide) (by decide) (by decide) (by decide)
        have e42 : (x3_4 + 1).toInt = x3_4.toInt + 1 := (iv_addE h3_36 (iv_lit (n := 1) 1 (by decide)) (by decide) (by decide)).trans rfl
        refine lv_iinc (v := (x3_4 + 1)) (lv' := [(3, .int (x3_4 + 1)), (0, .ref (q 1)), (1, .int p0), (2, .int x2_36)]) hx hb dX0_loadOf_36 hl (k := 3) rfl rfl (by decide) rfl (fun ls hl => ?_)
        refine lv_goto (tgt := 4) hx hb dX0_loadOf_39 (by decide) ?_
        exact ih4 _ (ms_up e42 j42.2 hn4) x2_36 (x3_4 + 1)  H locs ls (iv_w j42 (by decide) (by decide))  hH (lv_sub hl [1, 2, 3, 0] rfl) rfl
      refine lv_iload_n hx hb dX0_loadOf_4 rfl (lv_at hl 3 rfl) ?_
      refine lv_iconst (v := 3) hx hb dX0_loadOf_5 (by decide) ?_
      refine lv_icmp_ge (tgt := 42) hx hb dX0_loadOf_6 (by decide) (fun c43 => ?_) (fun c43 => ?_)
      · skip
        have k44b : iv 3 3 x3_4 := iv_ler (iv_Le c43) (iv_lit (n := 3) 3 (by decide)) h3_4
        refine lv_iload_n hx hb dX0_loadOf_42 rfl (lv_at hl 2 rfl) ?_
        exact hret _ z0 H locs _ _ ⟨hJ, (iv_all x2_4)⟩ hH dX0_loadOf_43
      · skip
        have k45a : iv 0 2 x3_4 := iv_ltl (iv_nLe c43) h3_4 (iv_lit (n := 3) 3 (by decide)) (by decide)
        refine lv_aload_n hx hb dX0_loadOf_9 rfl (lv_at hl 0 rfl) ?_
        refine lv_iload_n hx hb dX0_loadOf_10 rfl (lv_at hl 3 rfl) ?_
        refine b_calli (As := [.int x3_4]) (rest := []) ⟨hx, hb, hml, hown, hts⟩ 1 0 (g_X0_weight_1 l D cy q hH.2.1 z0 hJ.1 x3_4 k45a) (cwV 1 hts gX0_loadOf_X0_weight rfl rfl rfl (by decide +kernel) ⟨Nat.le_of_ble_eq_true rfl, Nat.le_of_ble_eq_true rfl⟩) hK hZ hH (by decide) rfl rfl rfl hl.1 rfl (Nat.le_of_ble_eq_true rfl) ⟨Nat.zero_le _, Nat.zero_le _⟩ dX0_loadOf_11 (fun w46 z46 H locs hp hH => ?_)
        rw [Ag_0 hp.1.2] at hH
        refine lv_istore (lv' := [(4, .int w46), (0, .ref (q 1)), (1, .int p0), (2, .int x2_4), (3, .int x3_4)]) hx hb dX0_loadOf_14 hl (by decide) rfl (fun ls hl => ?_)
        refine lv_iload hx hb dX0_loadOf_16 (lv_at hl 0 rfl) ?_
        refine lv_if_le (tgt := 36) hx hb dX0_loadOf_18 (by decide) (fun c47 => ?_) (fun c47 => ?_)
        · skip
          have k48a : iv (-2147483648) 0 w46 := iv_lel (iv_Le c47) (iv_all w46) (iv_lit (n := 0) 0 (by decide))
          exact HJ36 x2_4  H locs ls k45a  hH (lv_sub hl [1, 2, 3, 4] rfl)
        · skip
          have k49b : iv 1 2147483647 w46 := iv_ltr (iv_nLe c47) (iv_lit (n := 0) 0 (by decide)) (iv_all w46) (by decide)
          refine lv_aload_n hx hb dX0_loadOf_21 rfl (lv_at hl 1 rfl) ?_
          refine lv_iload_n hx hb dX0_loadOf_22 rfl (lv_at hl 3 rfl) ?_
          refine lv_iload hx hb dX0_loadOf_23 (lv_at hl 0 rfl) ?_
          refine lv_aload_n hx hb dX0_loadOf_25 rfl (lv_at hl 1 rfl) ?_
          refine lv_iload_n hx hb dX0_loadOf_26 rfl (lv_at hl 2 rfl) ?_
          refine lv_iload_n hx hb dX0_loadOf_27 rfl (lv_at hl 4 rfl) ?_
          refine b_calli (As := [.int p0, .int x3_4]) (rest := [.int w46, .int x2_4, .ref (q 1)]) ⟨hx, hb, hml, hown, hts⟩ 1 0 (g_X0_timeSum_1 l D cy q hH.2.1 z0 hJ.1 p0 x3_4 k45a) (cwV 2 hts gX0_loadOf_X0_timeSum rfl rfl rfl (by decide +kernel) ⟨Nat.le_of_ble_eq_true rfl, Nat.le_of_ble_eq_true rfl⟩) hK hZ hH (by decide) rfl rfl rfl hl.1 rfl (Nat.le_of_ble_eq_true rfl) ⟨Nat.zero_le _, Nat.zero_le _⟩ dX0_loadOf_28 (fun w50 z50 H locs hp hH => ?_)
          rw [Ag_0 hp.1.2] at hH
          refine lv_imul hx hb dX0_loadOf_31 ?_
          refine lv_topi (fun w51 _ => ?_)
          refine b_calli (As := [.int x2_4, .int w51]) (rest := []) ⟨hx, hb, hml, hown, hts⟩ 1 0 (g_X0_joined_1 l D cy q hH.2.1 z0 hJ.1 x2_4 w51) (cwV 2 hts gX0_loadOf_X0_joined rfl rfl rfl (by decide +kernel) ⟨Nat.le_of_ble_eq_true rfl, Nat.le_of_ble_eq_true rfl⟩) hK hZ hH (by decide) rfl rfl rfl hl.1 rfl (Nat.le_of_ble_eq_true rfl) ⟨Nat.zero_le _, Nat.zero_le _⟩ dX0_loadOf_32 (fun w52 z52 H locs hp hH => ?_)
          rw [Ag_0 hp.1.2] at hH
          refine lv_istore_n (lv' := [(2, .int w52), (4, .int w46), (0, .ref (q 1)), (1, .int p0), (3, .int x3_4)]) hx hb dX0_loadOf_35 rfl hl (by decide) rfl (fun ls hl => ?_)
          exact HJ36 w52  H locs ls k45a  hH (lv_sub hl [2, 3, 0, 4] rfl)
  refine lv_iconst (v := 0) hx hb dX0_loadOf_0 (by decide) ?_
  refine lv_istore_n (lv' := [(2, .int 0), (0, .ref (q 1)), (1, .int p0)]) hx hb dX0_loadOf_1 rfl hl (by decide) rfl (fun ls hl => ?_)
  refine lv_iconst (v := 0) hx hb dX0_loadOf_2 (by decide) ?_
  refine lv_istore_n (lv' := [(3, .int 0), (2, .int 0), (0, .ref (q 1)), (1, .int p0)]) hx hb dX0_loadOf_3 rfl hl (by decide) rfl (fun ls hl => ?_)
  exact HL4 _ 0 0  H locs ls (iv_w (iv_lit (n := 0) 0 (by decide)) (by decide) (by decide))  hH (lv_sub hl [2, 3, 1, 0] rfl) rfl
set_option maxHeartbeats 4000000 in
set_option maxRecDepth 100000 in
theorem g_X0_isOpen_1 (l : Launch) (D : va_G) (cy : Nat → ClassId) (q : Nat → Nat) (hq : bJ 66 q) (z0 : zS) (hI : IvC z0) (p0 : Int32) (hp0 : iv 0 9 p0) (p1 : Int32) : bCi l yX0_isOpen wsX0_isOpen ({ frames := 0, cells := 0, slots := 0, locals := 0 }) D cy 66 (enC cy) q z0 [.ref (q 1), .int p0, .int p1] (fun v z => jJ IvC 0 0 0 z0 z ∧ iv 0 1 v) := by
  refine hM_z cX0_isOpen (by decide) rfl (own := RX0) rfl hq (Nat.le_of_ble_eq_true rfl) ?_
  intro p e s m args below meth c Q ls H locs hx hb hml hown hts hK hZ hH hl hret
  have hl : lv_has ls 3 [(0, .ref (q 1)), (1, .int p0), (2, .int p1)] := hl
  have hJ : jJ IvC 0 0 0 z0 z0 := jJ_rf _ _ _ hI
  have HJ40 : ∀ (H : Heap) (locs : List Loc) (ls : Array Slot), bH D 66 (enC cy) q z0 s.heap H locs → lv_has ls 3 [] → W p l e ({ frames := 0, cells := 0, slots := 0, locals := 0 }) s m args below meth c H locs 0 0 Q (F0 m 40 ls []) := by
    intro H locs ls hH hl
    refine lv_iconst (v := 0) hx hb dX0_isOpen_40 (by decide) ?_
    exact hret _ z0 H locs _ _ (iv_w (iv_lit (n := 0) 0 (by decide)) (by decide) (by decide)) ⟨hJ, (iv_w (iv_lit (n := 0) 0 (by decide)) (by decide) (by decide))⟩ hH dX0_isOpen_41
  refine lv_aload_n hx hb dX0_isOpen_0 rfl (lv_at hl 0 rfl) ?_
  refine b_get (ci := 0) (C := RX0) (T := TX0) (Nf := 11) (v := .ref (q 8)) hx hb hts in_X0_isOpen_X0 hown hK hH 1 (by decide) rfl rfl 6 (by decide) (hts (.fieldLink RX0 33 "StationLine$Bench" "leading" "[I") (List.mem_of_getElem? (i := 1) rfl)) rfl dX0_isOpen_1 ?_
  refine lv_iload_n hx hb dX0_isOpen_4 rfl (lv_at hl 1 rfl) ?_
  refine b_iald (v := z0.2.1 8 (p0 : Int32).toNatClampNeg) hx hb hK hH 8 (by decide) rfl (iv_in hp0 (by decide) (by decide)) rfl dX0_isOpen_5 ?_
  refine lv_iload_n hx hb dX0_isOpen_6 rfl (lv_at hl 2 rfl) ?_
  refine lv_iconst (v := (-1)) hx hb dX0_isOpen_7 (by decide) ?_
  refine lv_ixor hx hb dX0_isOpen_8 ?_
  refine lv_topi (fun w14 _ => ?_)
  refine lv_iand hx hb dX0_isOpen_9 ?_
  refine lv_topi (fun w15 _ => ?_)
  refine lv_if_ne (tgt := 15) hx hb dX0_isOpen_10 (by decide) (fun c16 => ?_) (fun c16 => ?_)
  · skip
    refine lv_aload_n hx hb dX0_isOpen_15 rfl (lv_at hl 0 rfl) ?_
    refine b_get (ci := 0) (C := RX0) (T := TX0) (Nf := 11) (v := .int (z0.1 1)) hx hb hts in_X0_isOpen_X0 hown hK hH 1 (by decide) rfl rfl 1 (by decide) (hts (.fieldLink RX0 15 "StationLine$Bench" "kind" "I") (List.mem_of_getElem? (i := 2) rfl)) rfl dX0_isOpen_16 ?_
    refine lv_iconst (v := 1) hx hb dX0_isOpen_19 (by decide) ?_
    refine lv_icmp_ne (tgt := 40) hx hb dX0_isOpen_20 (by decide) (fun c18 => ?_) (fun c18 => ?_)
    · skip
      exact HJ40   H locs ls   hH (lv_sub hl [] rfl)
    · skip
      have k20a : iv 1 1 (z0.1 1) := iv_eql (iv_Eq c18) (iv_all (z0.1 1)) (iv_lit (n := 1) 1 (by decide)) (by decide) (by decide)
      refine lv_aload_n hx hb dX0_isOpen_23 rfl (lv_at hl 0 rfl) ?_
      refine b_get (ci := 0) (C := RX0) (T := TX0) (Nf := 11) (v := .ref (q 9)) hx hb hts in_X0_isOpen_X0 hown hK hH 1 (by decide) rfl rfl 7 (by decide) (hts (.fieldLink RX0 36 "StationLine$Bench" "following" "[I") (List.mem_of_getElem? (i := 3) rfl)) rfl dX0_isOpen_24 ?_
      refine lv_iload_n hx hb dX0_isOpen_27 rfl (lv_at hl 1 rfl) ?_
      refine b_iald (v := z0.2.1 9 (p0 : Int32).toNatClampNeg) hx hb hK hH 9 (by decide) rfl (iv_in hp0 (by decide) (by decide)) rfl dX0_isOpen_28 ?_
      refine lv_iload_n hx hb dX0_isOpen_29 rfl (lv_at hl 2 rfl) ?_
      refine lv_iconst (v := (-1)) hx hb dX0_isOpen_30 (by decide) ?_
      refine lv_ixor hx hb dX0_isOpen_31 ?_
      refine lv_topi (fun w21 _ => ?_)
      refine lv_iand hx hb dX0_isOpen_32 ?_
      refine lv_topi (fun w22 _ => ?_)
      refine lv_if_ne (tgt := 40) hx hb dX0_isOpen_33 (by decide) (fun c23 => ?_) (fun c23 => ?_)
      · skip
        exact HJ40   H locs ls   hH (lv_sub hl [] rfl)
      · skip
        have k25a : iv 0 0 w22 := iv_eql (iv_Eq c23) (iv_all w22) (iv_lit (n := 0) 0 (by decide)) (by decide) (by decide)
        refine lv_iconst (v := 1) hx hb dX0_isOpen_36 (by decide) ?_
        refine lv_goto (tgt := 41) hx hb dX0_isOpen_37 (by decide) ?_
        exact hret _ z0 H locs _ _ (iv_w (iv_lit (n := 1) 1 (by decide)) (by decide) (by decide)) ⟨hJ, (iv_w (iv_lit (n := 1) 1 (by decide)) (by decide) (by decide))⟩ hH dX0_isOpen_41
  · skip
    have k26a : iv 0 0 w15 := iv_eql (iv_Eq c16) (iv_all w15) (iv_lit (n := 0) 0 (by decide)) (by decide) (by decide)
    refine lv_iconst (v := 1) hx hb dX0_isOpen_13 (by decide) ?_
    exact hret _ z0 H locs _ _ (iv_w (iv_lit (n := 1) 1 (by decide)) (by decide) (by decide)) ⟨hJ, (iv_w (iv_lit (n := 1) 1 (by decide)) (by decide) (by decide))⟩ hH dX0_isOpen_14
set_option maxHeartbeats 4000000 in
set_option maxRecDepth 100000 in
theorem g_X0_halfRoomBound_1 (l : Launch) (D : va_G) (cy : Nat → ClassId) (q : Nat → Nat) (hq : bJ 66 q) (z0 : zS) (hI : IvC z0)  : bCi l yX0_halfRoomBound wsX0_halfRoomBound ({ frames := 3, cells := 0, slots := 0, locals := 74 }) D cy 66 (enC cy) q z0 [.ref (q 1)] (fun v z => jJ IvC 0 0 0 z0 z ∧ iv (-2147483648) 2147483647 v) := by
  refine hM_i cX0_halfRoomBound (by decide) rfl (own := RX0) rfl hq (Nat.le_of_ble_eq_true rfl) ?_
  intro p e s m args below meth c Q ls H locs hx hb hml hown hts hK hZ hH hl hret
  have hl : lv_has ls 6 [(0, .ref (q 1))] := hl
  have hJ : jJ IvC 0 0 0 z0 z0 := jJ_rf _ _ _ hI
  have HL12 : ∀ (n : Nat) (x1_12 : Int32) (x2_12 : Int32) (x3_12 : Int32) (x4_12 : Int32) (H : Heap) (locs : List Loc) (ls : Array Slot), iv 0 10 x4_12 → bH D 66 (enC cy) q z0 s.heap H locs → lv_has ls 6 [(0, .ref (q 1)), (1, .int x1_12), (2, .int x2_12), (3, .int x3_12), (4, .int x4_12)] → (10 - x4_12.toInt).toNat = n → W p l e ({ frames := 3, cells := 0, slots := 0, locals := 74 }) s m args below meth c H locs 0 0 Q (F0 m 12 ls []) := by
    intro n12
    induction n12 using Nat.strongRecOn with
    | ind n12 ih12 =>
      intro x1_12 x2_12 x3_12 x4_12 H locs ls h4_12 hH hl hn12
      have HJ54 : ∀ (x2_54 : Int32) (x3_54 : Int32) (H : Heap) (locs : List Loc) (ls : Array Slot), iv 0 9 x4_12 → iv 1 10 (z0.1 0) → bH D 66 (enC cy) q z0 s.heap H locs → lv_has ls 6 [(0, .ref (q 1)), (1, .int x1_12), (2, .int x2_54), (3, .int x3_54), (4, .int x4_12)] → W p l e ({ frames := 3, cells := 0, slots := 0, locals := 74 }) s m args below meth c H locs 0 0 Q (F0 m 54 ls []) := by
        intro x2_54 x3_54 H locs ls h4_54 gh0_54 hH hl
        have j565 : iv 1 10 (x4_12 + 1) := iv_add h4_54 (iv_lit (n := 1) 1 (by decide)) (by decide) (by decide) (by decide) (by decide)
        have e565 : (x4_12 + 1).toInt = x4_12.toInt + 1 := (iv_addE h4_54 (iv_lit (n := 1) 1 (by decide)) (by decide) (by decide)).trans rfl
        refine lv_iinc (v := (x4_12 + 1)) (lv' := [(4, .int (x4_12 + 1)), (0, .ref (q 1)), (1, .int x1_12), (2, .int x2_54), (3, .int x3_54)]) hx hb dX0_halfRoomBound_54 hl (k := 4) rfl rfl (by decide) rfl (fun ls hl => ?_)
        refine lv_goto (tgt := 12) hx hb dX0_halfRoomBound_57 (by decide) ?_
        exact ih12 _ (ms_up e565 j565.2 hn12) x1_12 x2_54 x3_54 (x4_12 + 1)  H locs ls (iv_w j565 (by decide) (by decide))  hH (lv_sub hl [1, 2, 3, 4, 0] rfl) rfl
      refine lv_iload hx hb dX0_halfRoomBound_12 (lv_at hl 4 rfl) ?_
      refine lv_aload_n hx hb dX0_halfRoomBound_14 rfl (lv_at hl 0 rfl) ?_
      refine b_get (ci := 0) (C := RX0) (T := TX0) (Nf := 11) (v := .int (z0.1 0)) hx hb hts in_X0_halfRoomBound_X0 hown hK hH 1 (by decide) rfl rfl 0 (by decide) (hts (.fieldLink RX0 9 "StationLine$Bench" "size" "I") (List.mem_of_getElem? (i := 1) rfl)) rfl dX0_halfRoomBound_15 ?_
      have i566 := IvC_s0 hJ.1
      refine lv_icmp_ge (tgt := 60) hx hb dX0_halfRoomBound_18 (by decide) (fun c567 => ?_) (fun c567 => ?_)
      · skip
        refine lv_iload_n hx hb dX0_halfRoomBound_60 rfl (lv_at hl 2 rfl) ?_
        refine lv_iload_n hx hb dX0_halfRoomBound_61 rfl (lv_at hl 3 rfl) ?_
        refine lv_iconst (v := 2) hx hb dX0_halfRoomBound_62 (by decide) ?_
        refine b_statN (As := [.int x3_12, .int 2]) (rest := [.int x2_12]) ⟨hx, hb, hml, hown, hts⟩ (g_X5_takenUp l D cy q hH.2.1 z0 hJ.1 x3_12 2) ⟨va_cnB 2 hts gX0_halfRoomBound_X5_takenUp_n91 rfl rfl rfl hZ.1 (hts (.initialized RX5) (List.mem_of_getElem? (i := 36) rfl)) (by decide +kernel) ⟨Nat.le_of_ble_eq_true rfl, Nat.le_of_ble_eq_true rfl⟩, (hts (.static yX5_takenUp) (List.mem_of_getElem? (i := 35) rfl)), trivial⟩ hK hZ hH rfl hl.1 rfl (Nat.le_of_ble_eq_true rfl) ⟨Nat.zero_le _, Nat.zero_le _⟩ dX0_halfRoomBound_63 (fun w569 z569 H locs hp hH => ?_)
        rw [Ag_0 hp.1.2] at hH
        refine lv_iadd hx hb dX0_halfRoomBound_66 ?_
        refine lv_topi (fun w570 _ => ?_)
        exact hret _ z0 H locs _ _ ⟨hJ, (iv_all w570)⟩ hH dX0_halfRoomBound_67
      · skip
        have k571a : iv 0 9 x4_12 := iv_ltl (iv_nLe c567) h4_12 i566 (by decide)
        have k571b : iv 1 10 (z0.1 0) := iv_ltr (iv_nLe c567) h4_12 i566 (by decide)
        refine lv_iconst (v := 2) hx hb dX0_halfRoomBound_21 (by decide) ?_
        refine lv_aload_n hx hb dX0_halfRoomBound_22 rfl (lv_at hl 0 rfl) ?_
        refine lv_iconst (v := 1) hx hb dX0_halfRoomBound_23 (by decide) ?_
        refine lv_iload hx hb dX0_halfRoomBound_24 (lv_at hl 4 rfl) ?_
        refine lv_ishl hx hb dX0_halfRoomBound_26 ?_
        refine h_i (a := 1) (b := 512) (iv_bit k571a (by decide) (by decide)) (fun w572 i572 => ?_)
        refine b_calli (As := [.int w572]) (rest := [.int 2]) ⟨hx, hb, hml, hown, hts⟩ 1 0 (g_X0_loadOf_1 l D cy q hH.2.1 z0 hJ.1 w572) (cwV 1 hts gX0_halfRoomBound_X0_loadOf rfl rfl rfl (by decide +kernel) ⟨Nat.le_of_ble_eq_true rfl, Nat.le_of_ble_eq_true rfl⟩) hK hZ hH (by decide) rfl rfl rfl hl.1 rfl (Nat.le_of_ble_eq_true rfl) ⟨Nat.zero_le _, Nat.zero_le _⟩ dX0_halfRoomBound_27 (fun w573 z573 H locs hp hH => ?_)
        rw [Ag_0 hp.1.2] at hH
        refine lv_imul hx hb dX0_halfRoomBound_30 ?_
        refine lv_topi (fun w574 _ => ?_)
        refine lv_istore (lv' := [(5, .int w574), (0, .ref (q 1)), (1, .int x1_12), (2, .int x2_12), (3, .int x3_12), (4, .int x4_12)]) hx hb dX0_halfRoomBound_31 hl (by decide) rfl (fun ls hl => ?_)
        refine lv_iload hx hb dX0_halfRoomBound_33 (lv_at hl 0 rfl) ?_
        refine lv_iload_n hx hb dX0_halfRoomBound_35 rfl (lv_at hl 2 rfl) ?_
        refine lv_icmp_le (tgt := 45) hx hb dX0_halfRoomBound_36 (by decide) (fun c575 => ?_) (fun c575 => ?_)
        · skip
          refine lv_iload hx hb dX0_halfRoomBound_45 (lv_at hl 0 rfl) ?_
          refine lv_iload_n hx hb dX0_halfRoomBound_47 rfl (lv_at hl 2 rfl) ?_
          refine lv_icmp_ne (tgt := 54) hx hb dX0_halfRoomBound_48 (by decide) (fun c577 => ?_) (fun c577 => ?_)
          · skip
            exact HJ54 x2_12 x3_12  H locs ls k571a k571b  hH (lv_sub hl [1, 2, 3, 4, 5] rfl)
          · skip
            refine lv_iinc (v := (x3_12 + 1)) (lv' := [(3, .int (x3_12 + 1)), (5, .int w574), (0, .ref (q 1)), (1, .int x1_12), (2, .int x2_12), (4, .int x4_12)]) hx hb dX0_halfRoomBound_51 hl (k := 4) rfl rfl (by decide) rfl (fun ls hl => ?_)
            exact HJ54 x2_12 (x3_12 + 1)  H locs ls k571a k571b  hH (lv_sub hl [2, 3, 4, 0, 5] rfl)
        · skip
          have k581a : iv (-2147483648) 2147483646 x1_12 := iv_ltl (iv_nLe c575) (iv_all x1_12) (iv_all w574) (by decide)
          have k581b : iv (-2147483647) 2147483647 w574 := iv_ltr (iv_nLe c575) (iv_all x1_12) (iv_all w574) (by decide)
          refine lv_iinc (v := (x2_12 + 1)) (lv' := [(2, .int (x2_12 + 1)), (5, .int w574), (0, .ref (q 1)), (1, .int x1_12), (3, .int x3_12), (4, .int x4_12)]) hx hb dX0_halfRoomBound_39 hl (k := 3) rfl rfl (by decide) rfl (fun ls hl => ?_)
          refine lv_goto (tgt := 54) hx hb dX0_halfRoomBound_42 (by decide) ?_
          exact HJ54 (x2_12 + 1) x3_12  H locs ls k571a k571b  hH (lv_sub hl [2, 3, 0, 4, 5] rfl)
  refine lv_aload_n hx hb dX0_halfRoomBound_0 rfl (lv_at hl 0 rfl) ?_
  refine b_calli (As := []) (rest := []) ⟨hx, hb, hml, hown, hts⟩ 1 0 (g_X0_room_1 l D cy q hH.2.1 z0 hJ.1 ) (cwV 0 hts gX0_halfRoomBound_X0_room rfl rfl rfl (by decide +kernel) ⟨Nat.le_of_ble_eq_true rfl, Nat.le_of_ble_eq_true rfl⟩) hK hZ hH (by decide) rfl rfl rfl hl.1 rfl (Nat.le_of_ble_eq_true rfl) ⟨Nat.zero_le _, Nat.zero_le _⟩ dX0_halfRoomBound_1 (fun w583 z583 H locs hp hH => ?_)
  rw [Ag_0 hp.1.2] at hH
  refine lv_istore_n (lv' := [(1, .int w583), (0, .ref (q 1))]) hx hb dX0_halfRoomBound_4 rfl hl (by decide) rfl (fun ls hl => ?_)
  refine lv_iconst (v := 0) hx hb dX0_halfRoomBound_5 (by decide) ?_
  refine lv_istore_n (lv' := [(2, .int 0), (1, .int w583), (0, .ref (q 1))]) hx hb dX0_halfRoomBound_6 rfl hl (by decide) rfl (fun ls hl => ?_)
  refine lv_iconst (v := 0) hx hb dX0_halfRoomBound_7 (by decide) ?_
  refine lv_istore_n (lv' := [(3, .int 0), (2, .int 0), (1, .int w583), (0, .ref (q 1))]) hx hb dX0_halfRoomBound_8 rfl hl (by decide) rfl (fun ls hl => ?_)
  refine lv_iconst (v := 0) hx hb dX0_halfRoomBound_9 (by decide) ?_
  refine lv_istore (lv' := [(4, .int 0), (3, .int 0), (2, .int 0), (1, .int w583), (0, .ref (q 1))]) hx hb dX0_halfRoomBound_10 hl (by decide) rfl (fun ls hl => ?_)
  exact HL12 _ w583 0 0 0  H locs ls (iv_w (iv_lit (n := 0) 0 (by decide)) (by decide) (by decide))  hH (lv_sub hl [4, 3, 2, 1, 0] rfl) rfl
set_option maxHeartbeats 4000000 in
set_option maxRecDepth 100000 in
theorem g_X0_become_15 (l : Launch) (D : va_G) (cy : Nat → ClassId) (q : Nat → Nat) (hq : bJ 66 q) (z0 : zS) (hI : IvC z0)  : bCv l yX0_become wsX0_become ({ frames := 1, cells := 0, slots := 0, locals := 40 }) D cy 66 (enC cy) q z0 [.ref (q 15), .ref (q 1)] (fun z => jJ IvC 56 133955584 0 z0 z ∧ ((z.1 3 = z0.1 0 ∧ z.1 4 = z0.1 1 ∧ z.1 5 = z0.1 2))) := by
  refine hM_v cX0_become (by decide) rfl (own := RX0) rfl hq (Nat.le_of_ble_eq_true rfl) ?_
  intro p e s m args below meth c Q ls H locs hx hb hml hown hts hK hZ hH hl hret
  have hl : lv_has ls 3 [(0, .ref (q 15)), (1, .ref (q 1))] := hl
  have hJ : jJ IvC 56 133955584 0 z0 z0 := jJ_rf _ _ _ hI
  have HL26 : ∀ (n : Nat) (x2_26 : Int32) (z_26 : zS) (H : Heap) (locs : List Loc) (ls : Array Slot), iv 0 3 x2_26 → (z_26.1 3 = z0.1 0 ∧ z_26.1 4 = z0.1 1 ∧ z_26.1 5 = z0.1 2) → jJ IvC 56 133955584 0 z0 z_26 → bH D 66 (enC cy) q z_26 s.heap H locs → lv_has ls 3 [(0, .ref (q 15)), (1, .ref (q 1)), (2, .int x2_26)] → (3 - x2_26.toInt).toNat = n → W p l e ({ frames := 1, cells := 0, slots := 0, locals := 40 }) s m args below meth c H locs 0 0 Q (F0 m 26 ls []) := by
    intro n26
    induction n26 using Nat.strongRecOn with
    | ind n26 ih26 =>
      intro x2_26 z_26 H locs ls h2_26 ex_26 hJ hH hl hn26
      refine lv_iload_n hx hb dX0_become_26 rfl (lv_at hl 2 rfl) ?_
      refine lv_iconst (v := 3) hx hb dX0_become_27 (by decide) ?_
      refine lv_icmp_ge (tgt := 56) hx hb dX0_become_28 (by decide) (fun c35 => ?_) (fun c35 => ?_)
      · skip
        have k36b : iv 3 3 x2_26 := iv_ler (iv_Le c35) (iv_lit (n := 3) 3 (by decide)) h2_26
        refine lv_aload_n hx hb dX0_become_56 rfl (lv_at hl 1 rfl) ?_
        refine b_get (ci := 0) (C := RX0) (T := TX0) (Nf := 11) (v := .ref (q 7)) hx hb hts in_X0_become_X0 hown hK hH 1 (by decide) rfl rfl 5 (by decide) (hts (.fieldLink RX0 30 "StationLine$Bench" "before" "[I") (List.mem_of_getElem? (i := 9) rfl)) rfl dX0_become_57 ?_
        refine lv_iconst (v := 0) hx hb dX0_become_60 (by decide) ?_
        refine lv_aload_n hx hb dX0_become_61 rfl (lv_at hl 0 rfl) ?_
        refine b_get (ci := 0) (C := RX0) (T := TX0) (Nf := 11) (v := .ref (q 21)) hx hb hts in_X0_become_X0 hown hK hH 15 (by decide) rfl rfl 5 (by decide) (hts (.fieldLink RX0 30 "StationLine$Bench" "before" "[I") (List.mem_of_getElem? (i := 9) rfl)) rfl dX0_become_62 ?_
        refine lv_iconst (v := 0) hx hb dX0_become_65 (by decide) ?_
        refine lv_bipush (v := 10) hx hb dX0_become_66 (by decide) ?_
        refine b_copyi hx hb (by rw [hml]; exact hl.1.symm) hown (hts (.methodLink RX0 51 arraycopyName) (List.mem_of_getElem? (i := 5) rfl)) (hts (.native arraycopyName) (List.mem_of_getElem? (i := 6) rfl)) (hts (.static arraycopyName) (List.mem_of_getElem? (i := 7) rfl)) (hts (.initialized "java/lang/System") (List.mem_of_getElem? (i := 8) rfl)) hK hH 7 21 (by decide) (by decide) rfl rfl (by decide) (by decide) (by decide) (by decide) (by decide) (Nat.le_of_ble_eq_true rfl) (Nat.le_of_ble_eq_true rfl) (upA z_26 21 (va_cpy (z_26.2.1 7) (z_26.2.1 21) (0 : Int32).toNatClampNeg (0 : Int32).toNatClampNeg (10 : Int32).toNatClampNeg)) rfl (enC_A _ _ _ _ _) dX0_become_68 (fun H locs hH => ?_)
        obtain ⟨z37, hz37⟩ : ∃ w : zS, w = upA z_26 21 (va_cpy (z_26.2.1 7) (z_26.2.1 21) (0 : Int32).toNatClampNeg (0 : Int32).toNatClampNeg (10 : Int32).toNatClampNeg) := ⟨_, rfl⟩
        rw [← hz37] at hH
        have hJ : jJ IvC 56 133955584 0 z0 z37 := by rw [hz37]; exact jJ_A hJ (by decide) (IvC_A hJ.1 (by decide))
        refine lv_aload_n hx hb dX0_become_71 rfl (lv_at hl 1 rfl) ?_
        refine b_get (ci := 0) (C := RX0) (T := TX0) (Nf := 11) (v := .ref (q 8)) hx hb hts in_X0_become_X0 hown hK hH 1 (by decide) rfl rfl 6 (by decide) (hts (.fieldLink RX0 33 "StationLine$Bench" "leading" "[I") (List.mem_of_getElem? (i := 10) rfl)) rfl dX0_become_72 ?_
        refine lv_iconst (v := 0) hx hb dX0_become_75 (by decide) ?_
        refine lv_aload_n hx hb dX0_become_76 rfl (lv_at hl 0 rfl) ?_
        refine b_get (ci := 0) (C := RX0) (T := TX0) (Nf := 11) (v := .ref (q 22)) hx hb hts in_X0_become_X0 hown hK hH 15 (by decide) rfl rfl 6 (by decide) (hts (.fieldLink RX0 33 "StationLine$Bench" "leading" "[I") (List.mem_of_getElem? (i := 10) rfl)) rfl dX0_become_77 ?_
        refine lv_iconst (v := 0) hx hb dX0_become_80 (by decide) ?_
        refine lv_bipush (v := 10) hx hb dX0_become_81 (by decide) ?_
        refine b_copyi hx hb (by rw [hml]; exact hl.1.symm) hown (hts (.methodLink RX0 51 arraycopyName) (List.mem_of_getElem? (i := 5) rfl)) (hts (.native arraycopyName) (List.mem_of_getElem? (i := 6) rfl)) (hts (.static arraycopyName) (List.mem_of_getElem? (i := 7) rfl)) (hts (.initialized "java/lang/System") (List.mem_of_getElem? (i := 8) rfl)) hK hH 8 22 (by decide) (by decide) rfl rfl (by decide) (by decide) (by decide) (by decide) (by decide) (Nat.le_of_ble_eq_true rfl) (Nat.le_of_ble_eq_true rfl) (upA z37 22 (va_cpy (z37.2.1 8) (z37.2.1 22) (0 : Int32).toNatClampNeg (0 : Int32).toNatClampNeg (10 : Int32).toNatClampNeg)) rfl (enC_A _ _ _ _ _) dX0_become_83 (fun H locs hH => ?_)
        obtain ⟨z38, hz38⟩ : ∃ w : zS, w = upA z37 22 (va_cpy (z37.2.1 8) (z37.2.1 22) (0 : Int32).toNatClampNeg (0 : Int32).toNatClampNeg (10 : Int32).toNatClampNeg) := ⟨_, rfl⟩
        rw [← hz38] at hH
        have hJ : jJ IvC 56 133955584 0 z0 z38 := by rw [hz38]; exact jJ_A hJ (by decide) (IvC_A hJ.1 (by decide))
        refine lv_aload_n hx hb dX0_become_86 rfl (lv_at hl 1 rfl) ?_
        refine b_get (ci := 0) (C := RX0) (T := TX0) (Nf := 11) (v := .ref (q 9)) hx hb hts in_X0_become_X0 hown hK hH 1 (by decide) rfl rfl 7 (by decide) (hts (.fieldLink RX0 36 "StationLine$Bench" "following" "[I") (List.mem_of_getElem? (i := 11) rfl)) rfl dX0_become_87 ?_
        refine lv_iconst (v := 0) hx hb dX0_become_90 (by decide) ?_
        refine lv_aload_n hx hb dX0_become_91 rfl (lv_at hl 0 rfl) ?_
        refine b_get (ci := 0) (C := RX0) (T := TX0) (Nf := 11) (v := .ref (q 23)) hx hb hts in_X0_become_X0 hown hK hH 15 (by decide) rfl rfl 7 (by decide) (hts (.fieldLink RX0 36 "StationLine$Bench" "following" "[I") (List.mem_of_getElem? (i := 11) rfl)) rfl dX0_become_92 ?_
        refine lv_iconst (v := 0) hx hb dX0_become_95 (by decide) ?_
        refine lv_bipush (v := 10) hx hb dX0_become_96 (by decide) ?_
        refine b_copyi hx hb (by rw [hml]; exact hl.1.symm) hown (hts (.methodLink RX0 51 arraycopyName) (List.mem_of_getElem? (i := 5) rfl)) (hts (.native arraycopyName) (List.mem_of_getElem? (i := 6) rfl)) (hts (.static arraycopyName) (List.mem_of_getElem? (i := 7) rfl)) (hts (.initialized "java/lang/System") (List.mem_of_getElem? (i := 8) rfl)) hK hH 9 23 (by decide) (by decide) rfl rfl (by decide) (by decide) (by decide) (by decide) (by decide) (Nat.le_of_ble_eq_true rfl) (Nat.le_of_ble_eq_true rfl) (upA z38 23 (va_cpy (z38.2.1 9) (z38.2.1 23) (0 : Int32).toNatClampNeg (0 : Int32).toNatClampNeg (10 : Int32).toNatClampNeg)) rfl (enC_A _ _ _ _ _) dX0_become_98 (fun H locs hH => ?_)
        obtain ⟨z39, hz39⟩ : ∃ w : zS, w = upA z38 23 (va_cpy (z38.2.1 9) (z38.2.1 23) (0 : Int32).toNatClampNeg (0 : Int32).toNatClampNeg (10 : Int32).toNatClampNeg) := ⟨_, rfl⟩
        rw [← hz39] at hH
        have hJ : jJ IvC 56 133955584 0 z0 z39 := by rw [hz39]; exact jJ_A hJ (by decide) (IvC_A hJ.1 (by decide))
        refine lv_aload_n hx hb dX0_become_101 rfl (lv_at hl 1 rfl) ?_
        refine b_get (ci := 0) (C := RX0) (T := TX0) (Nf := 11) (v := .ref (q 10)) hx hb hts in_X0_become_X0 hown hK hH 1 (by decide) rfl rfl 8 (by decide) (hts (.fieldLink RX0 39 "StationLine$Bench" "together" "[I") (List.mem_of_getElem? (i := 12) rfl)) rfl dX0_become_102 ?_
        refine lv_iconst (v := 0) hx hb dX0_become_105 (by decide) ?_
        refine lv_aload_n hx hb dX0_become_106 rfl (lv_at hl 0 rfl) ?_
        refine b_get (ci := 0) (C := RX0) (T := TX0) (Nf := 11) (v := .ref (q 24)) hx hb hts in_X0_become_X0 hown hK hH 15 (by decide) rfl rfl 8 (by decide) (hts (.fieldLink RX0 39 "StationLine$Bench" "together" "[I") (List.mem_of_getElem? (i := 12) rfl)) rfl dX0_become_107 ?_
        refine lv_iconst (v := 0) hx hb dX0_become_110 (by decide) ?_
        refine lv_bipush (v := 10) hx hb dX0_become_111 (by decide) ?_
        refine b_copyi hx hb (by rw [hml]; exact hl.1.symm) hown (hts (.methodLink RX0 51 arraycopyName) (List.mem_of_getElem? (i := 5) rfl)) (hts (.native arraycopyName) (List.mem_of_getElem? (i := 6) rfl)) (hts (.static arraycopyName) (List.mem_of_getElem? (i := 7) rfl)) (hts (.initialized "java/lang/System") (List.mem_of_getElem? (i := 8) rfl)) hK hH 10 24 (by decide) (by decide) rfl rfl (by decide) (by decide) (by decide) (by decide) (by decide) (Nat.le_of_ble_eq_true rfl) (Nat.le_of_ble_eq_true rfl) (upA z39 24 (va_cpy (z39.2.1 10) (z39.2.1 24) (0 : Int32).toNatClampNeg (0 : Int32).toNatClampNeg (10 : Int32).toNatClampNeg)) rfl (enC_A _ _ _ _ _) dX0_become_113 (fun H locs hH => ?_)
        obtain ⟨z40, hz40⟩ : ∃ w : zS, w = upA z39 24 (va_cpy (z39.2.1 10) (z39.2.1 24) (0 : Int32).toNatClampNeg (0 : Int32).toNatClampNeg (10 : Int32).toNatClampNeg) := ⟨_, rfl⟩
        rw [← hz40] at hH
        have hJ : jJ IvC 56 133955584 0 z0 z40 := by rw [hz40]; exact jJ_A hJ (by decide) (IvC_A hJ.1 (by decide))
        refine lv_aload_n hx hb dX0_become_116 rfl (lv_at hl 1 rfl) ?_
        refine b_get (ci := 0) (C := RX0) (T := TX0) (Nf := 11) (v := .ref (q 11)) hx hb hts in_X0_become_X0 hown hK hH 1 (by decide) rfl rfl 9 (by decide) (hts (.fieldLink RX0 42 "StationLine$Bench" "apart" "[I") (List.mem_of_getElem? (i := 13) rfl)) rfl dX0_become_117 ?_
        refine lv_iconst (v := 0) hx hb dX0_become_120 (by decide) ?_
        refine lv_aload_n hx hb dX0_become_121 rfl (lv_at hl 0 rfl) ?_
        refine b_get (ci := 0) (C := RX0) (T := TX0) (Nf := 11) (v := .ref (q 25)) hx hb hts in_X0_become_X0 hown hK hH 15 (by decide) rfl rfl 9 (by decide) (hts (.fieldLink RX0 42 "StationLine$Bench" "apart" "[I") (List.mem_of_getElem? (i := 13) rfl)) rfl dX0_become_122 ?_
        refine lv_iconst (v := 0) hx hb dX0_become_125 (by decide) ?_
        refine lv_bipush (v := 10) hx hb dX0_become_126 (by decide) ?_
        refine b_copyi hx hb (by rw [hml]; exact hl.1.symm) hown (hts (.methodLink RX0 51 arraycopyName) (List.mem_of_getElem? (i := 5) rfl)) (hts (.native arraycopyName) (List.mem_of_getElem? (i := 6) rfl)) (hts (.static arraycopyName) (List.mem_of_getElem? (i := 7) rfl)) (hts (.initialized "java/lang/System") (List.mem_of_getElem? (i := 8) rfl)) hK hH 11 25 (by decide) (by decide) rfl rfl (by decide) (by decide) (by decide) (by decide) (by decide) (Nat.le_of_ble_eq_true rfl) (Nat.le_of_ble_eq_true rfl) (upA z40 25 (va_cpy (z40.2.1 11) (z40.2.1 25) (0 : Int32).toNatClampNeg (0 : Int32).toNatClampNeg (10 : Int32).toNatClampNeg)) rfl (enC_A _ _ _ _ _) dX0_become_128 (fun H locs hH => ?_)
        obtain ⟨z41, hz41⟩ : ∃ w : zS, w = upA z40 25 (va_cpy (z40.2.1 11) (z40.2.1 25) (0 : Int32).toNatClampNeg (0 : Int32).toNatClampNeg (10 : Int32).toNatClampNeg) := ⟨_, rfl⟩
        rw [← hz41] at hH
        have hJ : jJ IvC 56 133955584 0 z0 z41 := by rw [hz41]; exact jJ_A hJ (by decide) (IvC_A hJ.1 (by decide))
        refine lv_aload_n hx hb dX0_become_131 rfl (lv_at hl 1 rfl) ?_
        refine b_get (ci := 0) (C := RX0) (T := TX0) (Nf := 11) (v := .ref (q 12)) hx hb hts in_X0_become_X0 hown hK hH 1 (by decide) rfl rfl 10 (by decide) (hts (.fieldLink RX0 45 "StationLine$Bench" "held" "[I") (List.mem_of_getElem? (i := 14) rfl)) rfl dX0_become_132 ?_
        refine lv_iconst (v := 0) hx hb dX0_become_135 (by decide) ?_
        refine lv_aload_n hx hb dX0_become_136 rfl (lv_at hl 0 rfl) ?_
        refine b_get (ci := 0) (C := RX0) (T := TX0) (Nf := 11) (v := .ref (q 26)) hx hb hts in_X0_become_X0 hown hK hH 15 (by decide) rfl rfl 10 (by decide) (hts (.fieldLink RX0 45 "StationLine$Bench" "held" "[I") (List.mem_of_getElem? (i := 14) rfl)) rfl dX0_become_137 ?_
        refine lv_iconst (v := 0) hx hb dX0_become_140 (by decide) ?_
        refine lv_bipush (v := 10) hx hb dX0_become_141 (by decide) ?_
        refine b_copyi hx hb (by rw [hml]; exact hl.1.symm) hown (hts (.methodLink RX0 51 arraycopyName) (List.mem_of_getElem? (i := 5) rfl)) (hts (.native arraycopyName) (List.mem_of_getElem? (i := 6) rfl)) (hts (.static arraycopyName) (List.mem_of_getElem? (i := 7) rfl)) (hts (.initialized "java/lang/System") (List.mem_of_getElem? (i := 8) rfl)) hK hH 12 26 (by decide) (by decide) rfl rfl (by decide) (by decide) (by decide) (by decide) (by decide) (Nat.le_of_ble_eq_true rfl) (Nat.le_of_ble_eq_true rfl) (upA z41 26 (va_cpy (z41.2.1 12) (z41.2.1 26) (0 : Int32).toNatClampNeg (0 : Int32).toNatClampNeg (10 : Int32).toNatClampNeg)) rfl (enC_A _ _ _ _ _) dX0_become_143 (fun H locs hH => ?_)
        obtain ⟨z42, hz42⟩ : ∃ w : zS, w = upA z41 26 (va_cpy (z41.2.1 12) (z41.2.1 26) (0 : Int32).toNatClampNeg (0 : Int32).toNatClampNeg (10 : Int32).toNatClampNeg) := ⟨_, rfl⟩
        rw [← hz42] at hH
        have hJ : jJ IvC 56 133955584 0 z0 z42 := by rw [hz42]; exact jJ_A hJ (by decide) (IvC_A hJ.1 (by decide))
        exact hret z42 H locs _ _ ⟨hJ, (by rw [(((show z42.1 3 = z41.1 3 by rw [hz42]; rfl)).trans (((show z41.1 3 = z40.1 3 by rw [hz41]; rfl)).trans (((show z40.1 3 = z39.1 3 by rw [hz40]; rfl)).trans (((show z39.1 3 = z38.1 3 by rw [hz39]; rfl)).trans (((show z38.1 3 = z37.1 3 by rw [hz38]; rfl)).trans ((show z37.1 3 = z_26.1 3 by rw [hz37]; rfl))))))), (((show z42.1 4 = z41.1 4 by rw [hz42]; rfl)).trans (((show z41.1 4 = z40.1 4 by rw [hz41]; rfl)).trans (((show z40.1 4 = z39.1 4 by rw [hz40]; rfl)).trans (((show z39.1 4 = z38.1 4 by rw [hz39]; rfl)).trans (((show z38.1 4 = z37.1 4 by rw [hz38]; rfl)).trans ((show z37.1 4 = z_26.1 4 by rw [hz37]; rfl))))))), (((show z42.1 5 = z41.1 5 by rw [hz42]; rfl)).trans (((show z41.1 5 = z40.1 5 by rw [hz41]; rfl)).trans (((show z40.1 5 = z39.1 5 by rw [hz40]; rfl)).trans (((show z39.1 5 = z38.1 5 by rw [hz39]; rfl)).trans (((show z38.1 5 = z37.1 5 by rw [hz38]; rfl)).trans ((show z37.1 5 = z_26.1 5 by rw [hz37]; rfl)))))))]; exact ex_26)⟩ hH dX0_become_146
      · skip
        have k43a : iv 0 2 x2_26 := iv_ltl (iv_nLe c35) h2_26 (iv_lit (n := 3) 3 (by decide)) (by decide)
        refine lv_aload_n hx hb dX0_become_31 rfl (lv_at hl 1 rfl) ?_
        refine b_get (ci := 0) (C := RX0) (T := TX0) (Nf := 11) (v := .ref (q 3)) hx hb hts in_X0_become_X0 hown hK hH 1 (by decide) rfl rfl 4 (by decide) (hts (.fieldLink RX0 27 "StationLine$Bench" "times" "[[I") (List.mem_of_getElem? (i := 4) rfl)) rfl dX0_become_32 ?_
        refine lv_iload_n hx hb dX0_become_35 rfl (lv_at hl 2 rfl) ?_
        refine h_aald (n := 3) hx hb hK hH 3 3 4 (by decide) rfl rfl (iv_in k43a (by decide) (by decide)) dX0_become_36 (fun k44 hk44 => ?_)
        refine lv_iconst (v := 0) hx hb dX0_become_37 (by decide) ?_
        refine lv_aload_n hx hb dX0_become_38 rfl (lv_at hl 0 rfl) ?_
        refine b_get (ci := 0) (C := RX0) (T := TX0) (Nf := 11) (v := .ref (q 17)) hx hb hts in_X0_become_X0 hown hK hH 15 (by decide) rfl rfl 4 (by decide) (hts (.fieldLink RX0 27 "StationLine$Bench" "times" "[[I") (List.mem_of_getElem? (i := 4) rfl)) rfl dX0_become_39 ?_
        refine lv_iload_n hx hb dX0_become_42 rfl (lv_at hl 2 rfl) ?_
        refine h_aald (n := 3) hx hb hK hH 17 3 18 (by decide) rfl rfl (iv_in k43a (by decide) (by decide)) dX0_become_43 (fun k45 hk45 => ?_)
        refine lv_iconst (v := 0) hx hb dX0_become_44 (by decide) ?_
        refine lv_bipush (v := 10) hx hb dX0_become_45 (by decide) ?_
        refine b_copyi hx hb (by rw [hml]; exact hl.1.symm) hown (hts (.methodLink RX0 51 arraycopyName) (List.mem_of_getElem? (i := 5) rfl)) (hts (.native arraycopyName) (List.mem_of_getElem? (i := 6) rfl)) (hts (.static arraycopyName) (List.mem_of_getElem? (i := 7) rfl)) (hts (.initialized "java/lang/System") (List.mem_of_getElem? (i := 8) rfl)) hK hH k44 k45 (Nat.lt_of_lt_of_le hk44.2 (by decide)) (Nat.lt_of_lt_of_le hk45.2 (by decide)) (enC_g4 cy q _ k44 hk44) (enC_g18 cy q _ k45 hk45) (by decide) (by decide) (by decide) (by decide) (by decide) (Nat.le_of_ble_eq_true rfl) (Nat.le_of_ble_eq_true rfl) (upA z_26 k45 (va_cpy (z_26.2.1 k44) (z_26.2.1 k45) (0 : Int32).toNatClampNeg (0 : Int32).toNatClampNeg (10 : Int32).toNatClampNeg)) (enC_sa18 cy q _ k45 _ hk45) (enC_A _ _ _ _ _) dX0_become_47 (fun H locs hH => ?_)
        obtain ⟨z46, hz46⟩ : ∃ w : zS, w = upA z_26 k45 (va_cpy (z_26.2.1 k44) (z_26.2.1 k45) (0 : Int32).toNatClampNeg (0 : Int32).toNatClampNeg (10 : Int32).toNatClampNeg) := ⟨_, rfl⟩
        rw [← hz46] at hH
        have hJ : jJ IvC 56 133955584 0 z0 z46 := by rw [hz46]; exact jJ_A hJ (tb_grp (g0 := 18) (n := 3) (by decide) hk45) (IvC_A hJ.1 (by omega))
        have j47 : iv 1 3 (x2_26 + 1) := iv_add k43a (iv_lit (n := 1) 1 (by decide)) (by decide) (by decide) (by decide) (by decide)
        have e47 : (x2_26 + 1).toInt = x2_26.toInt + 1 := (iv_addE k43a (iv_lit (n := 1) 1 (by decide)) (by decide) (by decide)).trans rfl
        refine lv_iinc (v := (x2_26 + 1)) (lv' := [(2, .int (x2_26 + 1)), (0, .ref (q 15)), (1, .ref (q 1))]) hx hb dX0_become_50 hl (k := 2) rfl rfl (by decide) rfl (fun ls hl => ?_)
        refine lv_goto (tgt := 26) hx hb dX0_become_53 (by decide) ?_
        exact ih26 _ (ms_up e47 j47.2 hn26) (x2_26 + 1) z46 H locs ls (iv_w j47 (by decide) (by decide)) (by rw [((show z46.1 3 = z_26.1 3 by rw [hz46]; rfl)), ((show z46.1 4 = z_26.1 4 by rw [hz46]; rfl)), ((show z46.1 5 = z_26.1 5 by rw [hz46]; rfl))]; exact ex_26) hJ hH (lv_sub hl [1, 2, 0] rfl) rfl
  refine lv_aload_n hx hb dX0_become_0 rfl (lv_at hl 0 rfl) ?_
  refine lv_aload_n hx hb dX0_become_1 rfl (lv_at hl 1 rfl) ?_
  refine b_get (ci := 0) (C := RX0) (T := TX0) (Nf := 11) (v := .int (z0.1 0)) hx hb hts in_X0_become_X0 hown hK hH 1 (by decide) rfl rfl 0 (by decide) (hts (.fieldLink RX0 9 "StationLine$Bench" "size" "I") (List.mem_of_getElem? (i := 1) rfl)) rfl dX0_become_2 ?_
  have i48 := IvC_s0 hJ.1
  refine b_put (ci := 0) (C := RX0) (T := TX0) (Nf := 11) (v := .int (z0.1 0)) (ty := .int) hx hb hts in_X0_become_X0 tyX0 tyX0_ok nmX0 hown hK hH 15 (by decide) rfl rfl 0 (by decide) (hts (.fieldLink RX0 9 "StationLine$Bench" "size" "I") (List.mem_of_getElem? (i := 1) rfl)) rfl (by decide +kernel) rfl rfl (Nat.le_of_ble_eq_true rfl) (upS z0 3 (z0.1 0)) rfl (enC_S3 _ _ _ _) dX0_become_5 (fun H locs hH => ?_)
  obtain ⟨z49, hz49⟩ : ∃ w : zS, w = upS z0 3 (z0.1 0) := ⟨_, rfl⟩
  rw [← hz49] at hH
  have hJ : jJ IvC 56 133955584 0 z0 z49 := by rw [hz49]; exact jJ_S hJ (by decide) (IvC_S3 hJ.1 (iv_w i48 (by decide) (by decide)))
  have g50 : iv 0 10 (z49.1 3) := by rw [hz49]; exact i48
  refine lv_aload_n hx hb dX0_become_8 rfl (lv_at hl 0 rfl) ?_
  refine lv_aload_n hx hb dX0_become_9 rfl (lv_at hl 1 rfl) ?_
  refine b_get (ci := 0) (C := RX0) (T := TX0) (Nf := 11) (v := .int (z49.1 1)) hx hb hts in_X0_become_X0 hown hK hH 1 (by decide) rfl rfl 1 (by decide) (hts (.fieldLink RX0 15 "StationLine$Bench" "kind" "I") (List.mem_of_getElem? (i := 2) rfl)) rfl dX0_become_10 ?_
  refine b_put (ci := 0) (C := RX0) (T := TX0) (Nf := 11) (v := .int (z49.1 1)) (ty := .int) hx hb hts in_X0_become_X0 tyX0 tyX0_ok nmX0 hown hK hH 15 (by decide) rfl rfl 1 (by decide) (hts (.fieldLink RX0 15 "StationLine$Bench" "kind" "I") (List.mem_of_getElem? (i := 2) rfl)) rfl (by decide +kernel) rfl rfl (Nat.le_of_ble_eq_true rfl) (upS z49 4 (z49.1 1)) rfl (enC_S4 _ _ _ _) dX0_become_13 (fun H locs hH => ?_)
  obtain ⟨z51, hz51⟩ : ∃ w : zS, w = upS z49 4 (z49.1 1) := ⟨_, rfl⟩
  rw [← hz51] at hH
  have hJ : jJ IvC 56 133955584 0 z0 z51 := by rw [hz51]; exact jJ_S hJ (by decide) (IvC_S4 hJ.1)
  refine lv_aload_n hx hb dX0_become_16 rfl (lv_at hl 0 rfl) ?_
  refine lv_aload_n hx hb dX0_become_17 rfl (lv_at hl 1 rfl) ?_
  refine b_get (ci := 0) (C := RX0) (T := TX0) (Nf := 11) (v := .int (z51.1 2)) hx hb hts in_X0_become_X0 hown hK hH 1 (by decide) rfl rfl 2 (by decide) (hts (.fieldLink RX0 18 "StationLine$Bench" "beat" "I") (List.mem_of_getElem? (i := 3) rfl)) rfl dX0_become_18 ?_
  refine b_put (ci := 0) (C := RX0) (T := TX0) (Nf := 11) (v := .int (z51.1 2)) (ty := .int) hx hb hts in_X0_become_X0 tyX0 tyX0_ok nmX0 hown hK hH 15 (by decide) rfl rfl 2 (by decide) (hts (.fieldLink RX0 18 "StationLine$Bench" "beat" "I") (List.mem_of_getElem? (i := 3) rfl)) rfl (by decide +kernel) rfl rfl (Nat.le_of_ble_eq_true rfl) (upS z51 5 (z51.1 2)) rfl (enC_S5 _ _ _ _) dX0_become_21 (fun H locs hH => ?_)
  obtain ⟨z52, hz52⟩ : ∃ w : zS, w = upS z51 5 (z51.1 2) := ⟨_, rfl⟩
  rw [← hz52] at hH
  have hJ : jJ IvC 56 133955584 0 z0 z52 := by rw [hz52]; exact jJ_S hJ (by decide) (IvC_S5 hJ.1)
  refine lv_iconst (v := 0) hx hb dX0_become_24 (by decide) ?_
  refine lv_istore_n (lv' := [(2, .int 0), (0, .ref (q 15)), (1, .ref (q 1))]) hx hb dX0_become_25 rfl hl (by decide) rfl (fun ls hl => ?_)
  exact HL26 _ 0 z52 H locs ls (iv_w (iv_lit (n := 0) 0 (by decide)) (by decide) (by decide)) (by rw [hz52, hz51, hz49]; exact ⟨rfl, rfl, rfl⟩) hJ hH (lv_sub hl [1, 2, 0] rfl) rfl
set_option maxHeartbeats 4000000 in
set_option maxRecDepth 100000 in
theorem g_X0_become_1 (l : Launch) (D : va_G) (cy : Nat → ClassId) (q : Nat → Nat) (hq : bJ 66 q) (z0 : zS) (hI : IvC z0)  : bCv l yX0_become wsX0_become ({ frames := 1, cells := 0, slots := 0, locals := 40 }) D cy 66 (enC cy) q z0 [.ref (q 1), .ref (q 15)] (fun z => jJ IvC 7 8176 0 z0 z ∧ ((z.1 0 = z0.1 3 ∧ z.1 1 = z0.1 4 ∧ z.1 2 = z0.1 5))) := by
  refine hM_v cX0_become (by decide) rfl (own := RX0) rfl hq (Nat.le_of_ble_eq_true rfl) ?_
  intro p e s m args below meth c Q ls H locs hx hb hml hown hts hK hZ hH hl hret
  have hl : lv_has ls 3 [(0, .ref (q 1)), (1, .ref (q 15))] := hl
  have hJ : jJ IvC 7 8176 0 z0 z0 := jJ_rf _ _ _ hI
  have HL26 : ∀ (n : Nat) (x2_26 : Int32) (z_26 : zS) (H : Heap) (locs : List Loc) (ls : Array Slot), iv 0 3 x2_26 → (z_26.1 0 = z0.1 3 ∧ z_26.1 1 = z0.1 4 ∧ z_26.1 2 = z0.1 5) → jJ IvC 7 8176 0 z0 z_26 → bH D 66 (enC cy) q z_26 s.heap H locs → lv_has ls 3 [(0, .ref (q 1)), (1, .ref (q 15)), (2, .int x2_26)] → (3 - x2_26.toInt).toNat = n → W p l e ({ frames := 1, cells := 0, slots := 0, locals := 40 }) s m args below meth c H locs 0 0 Q (F0 m 26 ls []) := by
    intro n26
    induction n26 using Nat.strongRecOn with
    | ind n26 ih26 =>
      intro x2_26 z_26 H locs ls h2_26 ex_26 hJ hH hl hn26
      refine lv_iload_n hx hb dX0_become_26 rfl (lv_at hl 2 rfl) ?_
      refine lv_iconst (v := 3) hx hb dX0_become_27 (by decide) ?_
      refine lv_icmp_ge (tgt := 56) hx hb dX0_become_28 (by decide) (fun c35 => ?_) (fun c35 => ?_)
      · skip
        have k36b : iv 3 3 x2_26 := iv_ler (iv_Le c35) (iv_lit (n := 3) 3 (by decide)) h2_26
        refine lv_aload_n hx hb dX0_become_56 rfl (lv_at hl 1 rfl) ?_
        refine b_get (ci := 0) (C := RX0) (T := TX0) (Nf := 11) (v := .ref (q 21)) hx hb hts in_X0_become_X0 hown hK hH 15 (by decide) rfl rfl 5 (by decide) (hts (.fieldLink RX0 30 "StationLine$Bench" "before" "[I") (List.mem_of_getElem? (i := 9) rfl)) rfl dX0_become_57 ?_
        refine lv_iconst (v := 0) hx hb dX0_become_60 (by decide) ?_
        refine lv_aload_n hx hb dX0_become_61 rfl (lv_at hl 0 rfl) ?_
        refine b_get (ci := 0) (C := RX0) (T := TX0) (Nf := 11) (v := .ref (q 7)) hx hb hts in_X0_become_X0 hown hK hH 1 (by decide) rfl rfl 5 (by decide) (hts (.fieldLink RX0 30 "StationLine$Bench" "before" "[I") (List.mem_of_getElem? (i := 9) rfl)) rfl dX0_become_62 ?_
        refine lv_iconst (v := 0) hx hb dX0_become_65 (by decide) ?_
        refine lv_bipush (v := 10) hx hb dX0_become_66 (by decide) ?_
        refine b_copyi hx hb (by rw [hml]; exact hl.1.symm) hown (hts (.methodLink RX0 51 arraycopyName) (List.mem_of_getElem? (i := 5) rfl)) (hts (.native arraycopyName) (List.mem_of_getElem? (i := 6) rfl)) (hts (.static arraycopyName) (List.mem_of_getElem? (i := 7) rfl)) (hts (.initialized "java/lang/System") (List.mem_of_getElem? (i := 8) rfl)) hK hH 21 7 (by decide) (by decide) rfl rfl (by decide) (by decide) (by decide) (by decide) (by decide) (Nat.le_of_ble_eq_true rfl) (Nat.le_of_ble_eq_true rfl) (upA z_26 7 (va_cpy (z_26.2.1 21) (z_26.2.1 7) (0 : Int32).toNatClampNeg (0 : Int32).toNatClampNeg (10 : Int32).toNatClampNeg)) rfl (enC_A _ _ _ _ _) dX0_become_68 (fun H locs hH => ?_)
        obtain ⟨z37, hz37⟩ : ∃ w : zS, w = upA z_26 7 (va_cpy (z_26.2.1 21) (z_26.2.1 7) (0 : Int32).toNatClampNeg (0 : Int32).toNatClampNeg (10 : Int32).toNatClampNeg) := ⟨_, rfl⟩
        rw [← hz37] at hH
        have hJ : jJ IvC 7 8176 0 z0 z37 := by rw [hz37]; exact jJ_A hJ (by decide) (IvC_A hJ.1 (by decide))
        refine lv_aload_n hx hb dX0_become_71 rfl (lv_at hl 1 rfl) ?_
        refine b_get (ci := 0) (C := RX0) (T := TX0) (Nf := 11) (v := .ref (q 22)) hx hb hts in_X0_become_X0 hown hK hH 15 (by decide) rfl rfl 6 (by decide) (hts (.fieldLink RX0 33 "StationLine$Bench" "leading" "[I") (List.mem_of_getElem? (i := 10) rfl)) rfl dX0_become_72 ?_
        refine lv_iconst (v := 0) hx hb dX0_become_75 (by decide) ?_
        refine lv_aload_n hx hb dX0_become_76 rfl (lv_at hl 0 rfl) ?_
        refine b_get (ci := 0) (C := RX0) (T := TX0) (Nf := 11) (v := .ref (q 8)) hx hb hts in_X0_become_X0 hown hK hH 1 (by decide) rfl rfl 6 (by decide) (hts (.fieldLink RX0 33 "StationLine$Bench" "leading" "[I") (List.mem_of_getElem? (i := 10) rfl)) rfl dX0_become_77 ?_
        refine lv_iconst (v := 0) hx hb dX0_become_80 (by decide) ?_
        refine lv_bipush (v := 10) hx hb dX0_become_81 (by decide) ?_
        refine b_copyi hx hb (by rw [hml]; exact hl.1.symm) hown (hts (.methodLink RX0 51 arraycopyName) (List.mem_of_getElem? (i := 5) rfl)) (hts (.native arraycopyName) (List.mem_of_getElem? (i := 6) rfl)) (hts (.static arraycopyName) (List.mem_of_getElem? (i := 7) rfl)) (hts (.initialized "java/lang/System") (List.mem_of_getElem? (i := 8) rfl)) hK hH 22 8 (by decide) (by decide) rfl rfl (by decide) (by decide) (by decide) (by decide) (by decide) (Nat.le_of_ble_eq_true rfl) (Nat.le_of_ble_eq_true rfl) (upA z37 8 (va_cpy (z37.2.1 22) (z37.2.1 8) (0 : Int32).toNatClampNeg (0 : Int32).toNatClampNeg (10 : Int32).toNatClampNeg)) rfl (enC_A _ _ _ _ _) dX0_become_83 (fun H locs hH => ?_)
        obtain ⟨z38, hz38⟩ : ∃ w : zS, w = upA z37 8 (va_cpy (z37.2.1 22) (z37.2.1 8) (0 : Int32).toNatClampNeg (0 : Int32).toNatClampNeg (10 : Int32).toNatClampNeg) := ⟨_, rfl⟩
        rw [← hz38] at hH
        have hJ : jJ IvC 7 8176 0 z0 z38 := by rw [hz38]; exact jJ_A hJ (by decide) (IvC_A hJ.1 (by decide))
        refine lv_aload_n hx hb dX0_become_86 rfl (lv_at hl 1 rfl) ?_
        refine b_get (ci := 0) (C := RX0) (T := TX0) (Nf := 11) (v := .ref (q 23)) hx hb hts in_X0_become_X0 hown hK hH 15 (by decide) rfl rfl 7 (by decide) (hts (.fieldLink RX0 36 "StationLine$Bench" "following" "[I") (List.mem_of_getElem? (i := 11) rfl)) rfl dX0_become_87 ?_
        refine lv_iconst (v := 0) hx hb dX0_become_90 (by decide) ?_
        refine lv_aload_n hx hb dX0_become_91 rfl (lv_at hl 0 rfl) ?_
        refine b_get (ci := 0) (C := RX0) (T := TX0) (Nf := 11) (v := .ref (q 9)) hx hb hts in_X0_become_X0 hown hK hH 1 (by decide) rfl rfl 7 (by decide) (hts (.fieldLink RX0 36 "StationLine$Bench" "following" "[I") (List.mem_of_getElem? (i := 11) rfl)) rfl dX0_become_92 ?_
        refine lv_iconst (v := 0) hx hb dX0_become_95 (by decide) ?_
        refine lv_bipush (v := 10) hx hb dX0_become_96 (by decide) ?_
        refine b_copyi hx hb (by rw [hml]; exact hl.1.symm) hown (hts (.methodLink RX0 51 arraycopyName) (List.mem_of_getElem? (i := 5) rfl)) (hts (.native arraycopyName) (List.mem_of_getElem? (i := 6) rfl)) (hts (.static arraycopyName) (List.mem_of_getElem? (i := 7) rfl)) (hts (.initialized "java/lang/System") (List.mem_of_getElem? (i := 8) rfl)) hK hH 23 9 (by decide) (by decide) rfl rfl (by decide) (by decide) (by decide) (by decide) (by decide) (Nat.le_of_ble_eq_true rfl) (Nat.le_of_ble_eq_true rfl) (upA z38 9 (va_cpy (z38.2.1 23) (z38.2.1 9) (0 : Int32).toNatClampNeg (0 : Int32).toNatClampNeg (10 : Int32).toNatClampNeg)) rfl (enC_A _ _ _ _ _) dX0_become_98 (fun H locs hH => ?_)
        obtain ⟨z39, hz39⟩ : ∃ w : zS, w = upA z38 9 (va_cpy (z38.2.1 23) (z38.2.1 9) (0 : Int32).toNatClampNeg (0 : Int32).toNatClampNeg (10 : Int32).toNatClampNeg) := ⟨_, rfl⟩
        rw [← hz39] at hH
        have hJ : jJ IvC 7 8176 0 z0 z39 := by rw [hz39]; exact jJ_A hJ (by decide) (IvC_A hJ.1 (by decide))
        refine lv_aload_n hx hb dX0_become_101 rfl (lv_at hl 1 rfl) ?_
        refine b_get (ci := 0) (C := RX0) (T := TX0) (Nf := 11) (v := .ref (q 24)) hx hb hts in_X0_become_X0 hown hK hH 15 (by decide) rfl rfl 8 (by decide) (hts (.fieldLink RX0 39 "StationLine$Bench" "together" "[I") (List.mem_of_getElem? (i := 12) rfl)) rfl dX0_become_102 ?_
        refine lv_iconst (v := 0) hx hb dX0_become_105 (by decide) ?_
        refine lv_aload_n hx hb dX0_become_106 rfl (lv_at hl 0 rfl) ?_
        refine b_get (ci := 0) (C := RX0) (T := TX0) (Nf := 11) (v := .ref (q 10)) hx hb hts in_X0_become_X0 hown hK hH 1 (by decide) rfl rfl 8 (by decide) (hts (.fieldLink RX0 39 "StationLine$Bench" "together" "[I") (List.mem_of_getElem? (i := 12) rfl)) rfl dX0_become_107 ?_
        refine lv_iconst (v := 0) hx hb dX0_become_110 (by decide) ?_
        refine lv_bipush (v := 10) hx hb dX0_become_111 (by decide) ?_
        refine b_copyi hx hb (by rw [hml]; exact hl.1.symm) hown (hts (.methodLink RX0 51 arraycopyName) (List.mem_of_getElem? (i := 5) rfl)) (hts (.native arraycopyName) (List.mem_of_getElem? (i := 6) rfl)) (hts (.static arraycopyName) (List.mem_of_getElem? (i := 7) rfl)) (hts (.initialized "java/lang/System") (List.mem_of_getElem? (i := 8) rfl)) hK hH 24 10 (by decide) (by decide) rfl rfl (by decide) (by decide) (by decide) (by decide) (by decide) (Nat.le_of_ble_eq_true rfl) (Nat.le_of_ble_eq_true rfl) (upA z39 10 (va_cpy (z39.2.1 24) (z39.2.1 10) (0 : Int32).toNatClampNeg (0 : Int32).toNatClampNeg (10 : Int32).toNatClampNeg)) rfl (enC_A _ _ _ _ _) dX0_become_113 (fun H locs hH => ?_)
        obtain ⟨z40, hz40⟩ : ∃ w : zS, w = upA z39 10 (va_cpy (z39.2.1 24) (z39.2.1 10) (0 : Int32).toNatClampNeg (0 : Int32).toNatClampNeg (10 : Int32).toNatClampNeg) := ⟨_, rfl⟩
        rw [← hz40] at hH
        have hJ : jJ IvC 7 8176 0 z0 z40 := by rw [hz40]; exact jJ_A hJ (by decide) (IvC_A hJ.1 (by decide))
        refine lv_aload_n hx hb dX0_become_116 rfl (lv_at hl 1 rfl) ?_
        refine b_get (ci := 0) (C := RX0) (T := TX0) (Nf := 11) (v := .ref (q 25)) hx hb hts in_X0_become_X0 hown hK hH 15 (by decide) rfl rfl 9 (by decide) (hts (.fieldLink RX0 42 "StationLine$Bench" "apart" "[I") (List.mem_of_getElem? (i := 13) rfl)) rfl dX0_become_117 ?_
        refine lv_iconst (v := 0) hx hb dX0_become_120 (by decide) ?_
        refine lv_aload_n hx hb dX0_become_121 rfl (lv_at hl 0 rfl) ?_
        refine b_get (ci := 0) (C := RX0) (T := TX0) (Nf := 11) (v := .ref (q 11)) hx hb hts in_X0_become_X0 hown hK hH 1 (by decide) rfl rfl 9 (by decide) (hts (.fieldLink RX0 42 "StationLine$Bench" "apart" "[I") (List.mem_of_getElem? (i := 13) rfl)) rfl dX0_become_122 ?_
        refine lv_iconst (v := 0) hx hb dX0_become_125 (by decide) ?_
        refine lv_bipush (v := 10) hx hb dX0_become_126 (by decide) ?_
        refine b_copyi hx hb (by rw [hml]; exact hl.1.symm) hown (hts (.methodLink RX0 51 arraycopyName) (List.mem_of_getElem? (i := 5) rfl)) (hts (.native arraycopyName) (List.mem_of_getElem? (i := 6) rfl)) (hts (.static arraycopyName) (List.mem_of_getElem? (i := 7) rfl)) (hts (.initialized "java/lang/System") (List.mem_of_getElem? (i := 8) rfl)) hK hH 25 11 (by decide) (by decide) rfl rfl (by decide) (by decide) (by decide) (by decide) (by decide) (Nat.le_of_ble_eq_true rfl) (Nat.le_of_ble_eq_true rfl) (upA z40 11 (va_cpy (z40.2.1 25) (z40.2.1 11) (0 : Int32).toNatClampNeg (0 : Int32).toNatClampNeg (10 : Int32).toNatClampNeg)) rfl (enC_A _ _ _ _ _) dX0_become_128 (fun H locs hH => ?_)
        obtain ⟨z41, hz41⟩ : ∃ w : zS, w = upA z40 11 (va_cpy (z40.2.1 25) (z40.2.1 11) (0 : Int32).toNatClampNeg (0 : Int32).toNatClampNeg (10 : Int32).toNatClampNeg) := ⟨_, rfl⟩
        rw [← hz41] at hH
        have hJ : jJ IvC 7 8176 0 z0 z41 := by rw [hz41]; exact jJ_A hJ (by decide) (IvC_A hJ.1 (by decide))
        refine lv_aload_n hx hb dX0_become_131 rfl (lv_at hl 1 rfl) ?_
        refine b_get (ci := 0) (C := RX0) (T := TX0) (Nf := 11) (v := .ref (q 26)) hx hb hts in_X0_become_X0 hown hK hH 15 (by decide) rfl rfl 10 (by decide) (hts (.fieldLink RX0 45 "StationLine$Bench" "held" "[I") (List.mem_of_getElem? (i := 14) rfl)) rfl dX0_become_132 ?_
        refine lv_iconst (v := 0) hx hb dX0_become_135 (by decide) ?_
        refine lv_aload_n hx hb dX0_become_136 rfl (lv_at hl 0 rfl) ?_
        refine b_get (ci := 0) (C := RX0) (T := TX0) (Nf := 11) (v := .ref (q 12)) hx hb hts in_X0_become_X0 hown hK hH 1 (by decide) rfl rfl 10 (by decide) (hts (.fieldLink RX0 45 "StationLine$Bench" "held" "[I") (List.mem_of_getElem? (i := 14) rfl)) rfl dX0_become_137 ?_
        refine lv_iconst (v := 0) hx hb dX0_become_140 (by decide) ?_
        refine lv_bipush (v := 10) hx hb dX0_become_141 (by decide) ?_
        refine b_copyi hx hb (by rw [hml]; exact hl.1.symm) hown (hts (.methodLink RX0 51 arraycopyName) (List.mem_of_getElem? (i := 5) rfl)) (hts (.native arraycopyName) (List.mem_of_getElem? (i := 6) rfl)) (hts (.static arraycopyName) (List.mem_of_getElem? (i := 7) rfl)) (hts (.initialized "java/lang/System") (List.mem_of_getElem? (i := 8) rfl)) hK hH 26 12 (by decide) (by decide) rfl rfl (by decide) (by decide) (by decide) (by decide) (by decide) (Nat.le_of_ble_eq_true rfl) (Nat.le_of_ble_eq_true rfl) (upA z41 12 (va_cpy (z41.2.1 26) (z41.2.1 12) (0 : Int32).toNatClampNeg (0 : Int32).toNatClampNeg (10 : Int32).toNatClampNeg)) rfl (enC_A _ _ _ _ _) dX0_become_143 (fun H locs hH => ?_)
        obtain ⟨z42, hz42⟩ : ∃ w : zS, w = upA z41 12 (va_cpy (z41.2.1 26) (z41.2.1 12) (0 : Int32).toNatClampNeg (0 : Int32).toNatClampNeg (10 : Int32).toNatClampNeg) := ⟨_, rfl⟩
        rw [← hz42] at hH
        have hJ : jJ IvC 7 8176 0 z0 z42 := by rw [hz42]; exact jJ_A hJ (by decide) (IvC_A hJ.1 (by decide))
        exact hret z42 H locs _ _ ⟨hJ, (by rw [(((show z42.1 0 = z41.1 0 by rw [hz42]; rfl)).trans (((show z41.1 0 = z40.1 0 by rw [hz41]; rfl)).trans (((show z40.1 0 = z39.1 0 by rw [hz40]; rfl)).trans (((show z39.1 0 = z38.1 0 by rw [hz39]; rfl)).trans (((show z38.1 0 = z37.1 0 by rw [hz38]; rfl)).trans ((show z37.1 0 = z_26.1 0 by rw [hz37]; rfl))))))), (((show z42.1 1 = z41.1 1 by rw [hz42]; rfl)).trans (((show z41.1 1 = z40.1 1 by rw [hz41]; rfl)).trans (((show z40.1 1 = z39.1 1 by rw [hz40]; rfl)).trans (((show z39.1 1 = z38.1 1 by rw [hz39]; rfl)).trans (((show z38.1 1 = z37.1 1 by rw [hz38]; rfl)).trans ((show z37.1 1 = z_26.1 1 by rw [hz37]; rfl))))))), (((show z42.1 2 = z41.1 2 by rw [hz42]; rfl)).trans (((show z41.1 2 = z40.1 2 by rw [hz41]; rfl)).trans (((show z40.1 2 = z39.1 2 by rw [hz40]; rfl)).trans (((show z39.1 2 = z38.1 2 by rw [hz39]; rfl)).trans (((show z38.1 2 = z37.1 2 by rw [hz38]; rfl)).trans ((show z37.1 2 = z_26.1 2 by rw [hz37]; rfl)))))))]; exact ex_26)⟩ hH dX0_become_146
      · skip
        have k43a : iv 0 2 x2_26 := iv_ltl (iv_nLe c35) h2_26 (iv_lit (n := 3) 3 (by decide)) (by decide)
        refine lv_aload_n hx hb dX0_become_31 rfl (lv_at hl 1 rfl) ?_
        refine b_get (ci := 0) (C := RX0) (T := TX0) (Nf := 11) (v := .ref (q 17)) hx hb hts in_X0_become_X0 hown hK hH 15 (by decide) rfl rfl 4 (by decide) (hts (.fieldLink RX0 27 "StationLine$Bench" "times" "[[I") (List.mem_of_getElem? (i := 4) rfl)) rfl dX0_become_32 ?_
        refine lv_iload_n hx hb dX0_become_35 rfl (lv_at hl 2 rfl) ?_
        refine h_aald (n := 3) hx hb hK hH 17 3 18 (by decide) rfl rfl (iv_in k43a (by decide) (by decide)) dX0_become_36 (fun k44 hk44 => ?_)
        refine lv_iconst (v := 0) hx hb dX0_become_37 (by decide) ?_
        refine lv_aload_n hx hb dX0_become_38 rfl (lv_at hl 0 rfl) ?_
        refine b_get (ci := 0) (C := RX0) (T := TX0) (Nf := 11) (v := .ref (q 3)) hx hb hts in_X0_become_X0 hown hK hH 1 (by decide) rfl rfl 4 (by decide) (hts (.fieldLink RX0 27 "StationLine$Bench" "times" "[[I") (List.mem_of_getElem? (i := 4) rfl)) rfl dX0_become_39 ?_
        refine lv_iload_n hx hb dX0_become_42 rfl (lv_at hl 2 rfl) ?_
        refine h_aald (n := 3) hx hb hK hH 3 3 4 (by decide) rfl rfl (iv_in k43a (by decide) (by decide)) dX0_become_43 (fun k45 hk45 => ?_)
        refine lv_iconst (v := 0) hx hb dX0_become_44 (by decide) ?_
        refine lv_bipush (v := 10) hx hb dX0_become_45 (by decide) ?_
        refine b_copyi hx hb (by rw [hml]; exact hl.1.symm) hown (hts (.methodLink RX0 51 arraycopyName) (List.mem_of_getElem? (i := 5) rfl)) (hts (.native arraycopyName) (List.mem_of_getElem? (i := 6) rfl)) (hts (.static arraycopyName) (List.mem_of_getElem? (i := 7) rfl)) (hts (.initialized "java/lang/System") (List.mem_of_getElem? (i := 8) rfl)) hK hH k44 k45 (Nat.lt_of_lt_of_le hk44.2 (by decide)) (Nat.lt_of_lt_of_le hk45.2 (by decide)) (enC_g18 cy q _ k44 hk44) (enC_g4 cy q _ k45 hk45) (by decide) (by decide) (by decide) (by decide) (by decide) (Nat.le_of_ble_eq_true rfl) (Nat.le_of_ble_eq_true rfl) (upA z_26 k45 (va_cpy (z_26.2.1 k44) (z_26.2.1 k45) (0 : Int32).toNatClampNeg (0 : Int32).toNatClampNeg (10 : Int32).toNatClampNeg)) (enC_sa4 cy q _ k45 _ hk45) (enC_A _ _ _ _ _) dX0_become_47 (fun H locs hH => ?_)
        obtain ⟨z46, hz46⟩ : ∃ w : zS, w = upA z_26 k45 (va_cpy (z_26.2.1 k44) (z_26.2.1 k45) (0 : Int32).toNatClampNeg (0 : Int32).toNatClampNeg (10 : Int32).toNatClampNeg) := ⟨_, rfl⟩
        rw [← hz46] at hH
        have hJ : jJ IvC 7 8176 0 z0 z46 := by rw [hz46]; exact jJ_A hJ (tb_grp (g0 := 4) (n := 3) (by decide) hk45) (IvC_A hJ.1 (by omega))
        have j47 : iv 1 3 (x2_26 + 1) := iv_add k43a (iv_lit (n := 1) 1 (by decide)) (by decide) (by decide) (by decide) (by decide)
        have e47 : (x2_26 + 1).toInt = x2_26.toInt + 1 := (iv_addE k43a (iv_lit (n := 1) 1 (by decide)) (by decide) (by decide)).trans rfl
        refine lv_iinc (v := (x2_26 + 1)) (lv' := [(2, .int (x2_26 + 1)), (0, .ref (q 1)), (1, .ref (q 15))]) hx hb dX0_become_50 hl (k := 2) rfl rfl (by decide) rfl (fun ls hl => ?_)
        refine lv_goto (tgt := 26) hx hb dX0_become_53 (by decide) ?_
        exact ih26 _ (ms_up e47 j47.2 hn26) (x2_26 + 1) z46 H locs ls (iv_w j47 (by decide) (by decide)) (by rw [((show z46.1 0 = z_26.1 0 by rw [hz46]; rfl)), ((show z46.1 1 = z_26.1 1 by rw [hz46]; rfl)), ((show z46.1 2 = z_26.1 2 by rw [hz46]; rfl))]; exact ex_26) hJ hH (lv_sub hl [1, 2, 0] rfl) rfl
  refine lv_aload_n hx hb dX0_become_0 rfl (lv_at hl 0 rfl) ?_
  refine lv_aload_n hx hb dX0_become_1 rfl (lv_at hl 1 rfl) ?_
  refine b_get (ci := 0) (C := RX0) (T := TX0) (Nf := 11) (v := .int (z0.1 3)) hx hb hts in_X0_become_X0 hown hK hH 15 (by decide) rfl rfl 0 (by decide) (hts (.fieldLink RX0 9 "StationLine$Bench" "size" "I") (List.mem_of_getElem? (i := 1) rfl)) rfl dX0_become_2 ?_
  have i48 := IvC_s3 hJ.1
  refine b_put (ci := 0) (C := RX0) (T := TX0) (Nf := 11) (v := .int (z0.1 3)) (ty := .int) hx hb hts in_X0_become_X0 tyX0 tyX0_ok nmX0 hown hK hH 1 (by decide) rfl rfl 0 (by decide) (hts (.fieldLink RX0 9 "StationLine$Bench" "size" "I") (List.mem_of_getElem? (i := 1) rfl)) rfl (by decide +kernel) rfl rfl (Nat.le_of_ble_eq_true rfl) (upS z0 0 (z0.1 3)) rfl (enC_S0 _ _ _ _) dX0_become_5 (fun H locs hH => ?_)
  obtain ⟨z49, hz49⟩ : ∃ w : zS, w = upS z0 0 (z0.1 3) := ⟨_, rfl⟩
  rw [← hz49] at hH
  have hJ : jJ IvC 7 8176 0 z0 z49 := by rw [hz49]; exact jJ_S hJ (by decide) (IvC_S0 hJ.1 (iv_w i48 (by decide) (by decide)))
  have g50 : iv 0 10 (z49.1 0) := by rw [hz49]; exact i48
  refine lv_aload_n hx hb dX0_become_8 rfl (lv_at hl 0 rfl) ?_
  refine lv_aload_n hx hb dX0_become_9 rfl (lv_at hl 1 rfl) ?_
  refine b_get (ci := 0) (C := RX0) (T := TX0) (Nf := 11) (v := .int (z49.1 4)) hx hb hts in_X0_become_X0 hown hK hH 15 (by decide) rfl rfl 1 (by decide) (hts (.fieldLink RX0 15 "StationLine$Bench" "kind" "I") (List.mem_of_getElem? (i := 2) rfl)) rfl dX0_become_10 ?_
  refine b_put (ci := 0) (C := RX0) (T := TX0) (Nf := 11) (v := .int (z49.1 4)) (ty := .int) hx hb hts in_X0_become_X0 tyX0 tyX0_ok nmX0 hown hK hH 1 (by decide) rfl rfl 1 (by decide) (hts (.fieldLink RX0 15 "StationLine$Bench" "kind" "I") (List.mem_of_getElem? (i := 2) rfl)) rfl (by decide +kernel) rfl rfl (Nat.le_of_ble_eq_true rfl) (upS z49 1 (z49.1 4)) rfl (enC_S1 _ _ _ _) dX0_become_13 (fun H locs hH => ?_)
  obtain ⟨z51, hz51⟩ : ∃ w : zS, w = upS z49 1 (z49.1 4) := ⟨_, rfl⟩
  rw [← hz51] at hH
  have hJ : jJ IvC 7 8176 0 z0 z51 := by rw [hz51]; exact jJ_S hJ (by decide) (IvC_S1 hJ.1)
  refine lv_aload_n hx hb dX0_become_16 rfl (lv_at hl 0 rfl) ?_
  refine lv_aload_n hx hb dX0_become_17 rfl (lv_at hl 1 rfl) ?_
  refine b_get (ci := 0) (C := RX0) (T := TX0) (Nf := 11) (v := .int (z51.1 5)) hx hb hts in_X0_become_X0 hown hK hH 15 (by decide) rfl rfl 2 (by decide) (hts (.fieldLink RX0 18 "StationLine$Bench" "beat" "I") (List.mem_of_getElem? (i := 3) rfl)) rfl dX0_become_18 ?_
  refine b_put (ci := 0) (C := RX0) (T := TX0) (Nf := 11) (v := .int (z51.1 5)) (ty := .int) hx hb hts in_X0_become_X0 tyX0 tyX0_ok nmX0 hown hK hH 1 (by decide) rfl rfl 2 (by decide) (hts (.fieldLink RX0 18 "StationLine$Bench" "beat" "I") (List.mem_of_getElem? (i := 3) rfl)) rfl (by decide +kernel) rfl rfl (Nat.le_of_ble_eq_true rfl) (upS z51 2 (z51.1 5)) rfl (enC_S2 _ _ _ _) dX0_become_21 (fun H locs hH => ?_)
  obtain ⟨z52, hz52⟩ : ∃ w : zS, w = upS z51 2 (z51.1 5) := ⟨_, rfl⟩
  rw [← hz52] at hH
  have hJ : jJ IvC 7 8176 0 z0 z52 := by rw [hz52]; exact jJ_S hJ (by decide) (IvC_S2 hJ.1)
  refine lv_iconst (v := 0) hx hb dX0_become_24 (by decide) ?_
  refine lv_istore_n (lv' := [(2, .int 0), (0, .ref (q 1)), (1, .ref (q 15))]) hx hb dX0_become_25 rfl hl (by decide) rfl (fun ls hl => ?_)
  exact HL26 _ 0 z52 H locs ls (iv_w (iv_lit (n := 0) 0 (by decide)) (by decide) (by decide)) (by rw [hz52, hz51, hz49]; exact ⟨rfl, rfl, rfl⟩) hJ hH (lv_sub hl [1, 2, 0] rfl) rfl
set_option maxHeartbeats 4000000 in
set_option maxRecDepth 100000 in
theorem g_X1_setAt_13 (l : Launch) (D : va_G) (cy : Nat → ClassId) (q : Nat → Nat) (hq : bJ 66 q) (z0 : zS) (hI : IvC z0) (p0 : Int32) : bCi l yX1_setAt wsX1_setAt ({ frames := 0, cells := 0, slots := 0, locals := 0 }) D cy 66 (enC cy) q z0 [.ref (q 13), .int p0] (fun v z => jJ IvC 0 0 0 z0 z ∧ iv 0 1023 v) := by
  refine hM_i cX1_setAt (by decide) rfl (own := RX1) rfl hq (Nat.le_of_ble_eq_true rfl) ?_
  intro p e s m args below meth c Q ls H locs hx hb hml hown hts hK hZ hH hl hret
  have hl : lv_has ls 4 [(0, .ref (q 13)), (1, .int p0)] := hl
  have hJ : jJ IvC 0 0 0 z0 z0 := jJ_rf _ _ _ hI
  have HL4 : ∀ (n : Nat) (x2_4 : Int32) (x3_4 : Int32) (H : Heap) (locs : List Loc) (ls : Array Slot), iv 0 1023 x2_4 → iv 0 10 x3_4 → bH D 66 (enC cy) q z0 s.heap H locs → lv_has ls 4 [(0, .ref (q 13)), (1, .int p0), (2, .int x2_4), (3, .int x3_4)] → (10 - x3_4.toInt).toNat = n → W p l e ({ frames := 0, cells := 0, slots := 0, locals := 0 }) s m args below meth c H locs 0 0 Q (F0 m 4 ls []) := by
    intro n4
    induction n4 using Nat.strongRecOn with
    | ind n4 ih4 =>
      intro x2_4 x3_4 H locs ls h2_4 h3_4 hH hl hn4
      have HJ31 : ∀ (x2_31 : Int32) (H : Heap) (locs : List Loc) (ls : Array Slot), iv 0 1023 x2_31 → iv 0 9 x3_4 → iv 1 10 (z0.1 0) → bH D 66 (enC cy) q z0 s.heap H locs → lv_has ls 4 [(0, .ref (q 13)), (1, .int p0), (2, .int x2_31), (3, .int x3_4)] → W p l e ({ frames := 0, cells := 0, slots := 0, locals := 0 }) s m args below meth c H locs 0 0 Q (F0 m 31 ls []) := by
        intro x2_31 H locs ls h2_31 h3_31 gh0_31 hH hl
        have j78 : iv 1 10 (x3_4 + 1) := iv_add h3_31 (iv_lit (n := 1) 1 (by decide)) (by decide) (by decide) (by decide) (by decide)
        have e78 : (x3_4 + 1).toInt = x3_4.toInt + 1 := (iv_addE h3_31 (iv_lit (n := 1) 1 (by decide)) (by decide) (by decide)).trans rfl
        refine lv_iinc (v := (x3_4 + 1)) (lv' := [(3, .int (x3_4 + 1)), (0, .ref (q 13)), (1, .int p0), (2, .int x2_31)]) hx hb dX1_setAt_31 hl (k := 3) rfl rfl (by decide) rfl (fun ls hl => ?_)
        refine lv_goto (tgt := 4) hx hb dX1_setAt_34 (by decide) ?_
        exact ih4 _ (ms_up e78 j78.2 hn4) x2_31 (x3_4 + 1)  H locs ls h2_31 (iv_w j78 (by decide) (by decide))  hH (lv_sub hl [1, 2, 3, 0] rfl) rfl
      refine lv_iload_n hx hb dX1_setAt_4 rfl (lv_at hl 3 rfl) ?_
      refine lv_aload_n hx hb dX1_setAt_5 rfl (lv_at hl 0 rfl) ?_
      refine b_get (ci := 1) (C := RX1) (T := TX1) (Nf := 2) (v := .ref (q 1)) hx hb hts in_X1_setAt_X1 hown hK hH 13 (by decide) rfl rfl 0 (by decide) (hts (.fieldLink RX1 15 "StationLine$Putting" "bench" "LStationLine$Bench;") (List.mem_of_getElem? (i := 1) rfl)) rfl dX1_setAt_6 ?_
      refine b_get (ci := 0) (C := RX0) (T := TX0) (Nf := 11) (v := .int (z0.1 0)) hx hb hts in_X1_setAt_X0 hown hK hH 1 (by decide) rfl rfl 0 (by decide) (hts (.fieldLink RX1 25 "StationLine$Bench" "size" "I") (List.mem_of_getElem? (i := 2) rfl)) rfl dX1_setAt_9 ?_
      have i79 := IvC_s0 hJ.1
      refine lv_icmp_ge (tgt := 37) hx hb dX1_setAt_12 (by decide) (fun c80 => ?_) (fun c80 => ?_)
      · skip
        refine lv_iload_n hx hb dX1_setAt_37 rfl (lv_at hl 2 rfl) ?_
        exact hret _ z0 H locs _ _ ⟨hJ, h2_4⟩ hH dX1_setAt_38
      · skip
        have k82a : iv 0 9 x3_4 := iv_ltl (iv_nLe c80) h3_4 i79 (by decide)
        have k82b : iv 1 10 (z0.1 0) := iv_ltr (iv_nLe c80) h3_4 i79 (by decide)
        refine lv_aload_n hx hb dX1_setAt_15 rfl (lv_at hl 0 rfl) ?_
        refine b_get (ci := 1) (C := RX1) (T := TX1) (Nf := 2) (v := .ref (q 14)) hx hb hts in_X1_setAt_X1 hown hK hH 13 (by decide) rfl rfl 1 (by decide) (hts (.fieldLink RX1 9 "StationLine$Putting" "row" "[I") (List.mem_of_getElem? (i := 3) rfl)) rfl dX1_setAt_16 ?_
        refine lv_iload_n hx hb dX1_setAt_19 rfl (lv_at hl 3 rfl) ?_
        refine b_iald (v := z0.2.1 14 (x3_4 : Int32).toNatClampNeg) hx hb hK hH 14 (by decide) rfl (iv_in k82a (by decide) (by decide)) rfl dX1_setAt_20 ?_
        have i83 : iv 0 10 (z0.2.1 14 (x3_4 : Int32).toNatClampNeg) := IvC_a14 hJ.1 _ (b_inlt (iv_in k82a (by decide) (by decide)))
        refine lv_iload_n hx hb dX1_setAt_21 rfl (lv_at hl 1 rfl) ?_
        refine lv_icmp_ne (tgt := 31) hx hb dX1_setAt_22 (by decide) (fun c84 => ?_) (fun c84 => ?_)
        · skip
          exact HJ31 x2_4  H locs ls h2_4 k82a k82b  hH (lv_sub hl [0, 1, 2, 3] rfl)
        · skip
          have k86b : iv 0 10 p0 := iv_eql ((iv_Eq c84)).symm (iv_all p0) i83 (by decide) (by decide)
          refine lv_iload_n hx hb dX1_setAt_25 rfl (lv_at hl 2 rfl) ?_
          refine lv_iconst (v := 1) hx hb dX1_setAt_26 (by decide) ?_
          refine lv_iload_n hx hb dX1_setAt_27 rfl (lv_at hl 3 rfl) ?_
          refine lv_ishl hx hb dX1_setAt_28 ?_
          refine h_i (a := 1) (b := 512) (iv_bit k82a (by decide) (by decide)) (fun w87 i87 => ?_)
          refine lv_ior hx hb dX1_setAt_29 ?_
          refine h_i (a := 0) (b := 1023) (iv_or 10 (b := 1023) (d := 512) (iv_w h2_4 (by decide) (by decide)) (iv_w i87 (by decide) (by decide)) (by decide) (by decide) (by decide) (by decide)) (fun w88 i88 => ?_)
          refine lv_istore_n (lv' := [(2, .int w88), (0, .ref (q 13)), (1, .int p0), (3, .int x3_4)]) hx hb dX1_setAt_30 rfl hl (by decide) rfl (fun ls hl => ?_)
          exact HJ31 w88  H locs ls i88 k82a k82b  hH (lv_sub hl [1, 2, 0, 3] rfl)
  refine lv_iconst (v := 0) hx hb dX1_setAt_0 (by decide) ?_
  refine lv_istore_n (lv' := [(2, .int 0), (0, .ref (q 13)), (1, .int p0)]) hx hb dX1_setAt_1 rfl hl (by decide) rfl (fun ls hl => ?_)
  refine lv_iconst (v := 0) hx hb dX1_setAt_2 (by decide) ?_
  refine lv_istore_n (lv' := [(3, .int 0), (2, .int 0), (0, .ref (q 13)), (1, .int p0)]) hx hb dX1_setAt_3 rfl hl (by decide) rfl (fun ls hl => ?_)
  exact HL4 _ 0 0  H locs ls (iv_w (iv_lit (n := 0) 0 (by decide)) (by decide) (by decide)) (iv_w (iv_lit (n := 0) 0 (by decide)) (by decide) (by decide))  hH (lv_sub hl [2, 3, 1, 0] rfl) rfl
set_option maxHeartbeats 4000000 in
set_option maxRecDepth 100000 in
theorem g_X1_setUpTo_13 (l : Launch) (D : va_G) (cy : Nat → ClassId) (q : Nat → Nat) (hq : bJ 66 q) (z0 : zS) (hI : IvC z0) (p0 : Int32) : bCi l yX1_setUpTo wsX1_setUpTo ({ frames := 0, cells := 0, slots := 0, locals := 0 }) D cy 66 (enC cy) q z0 [.ref (q 13), .int p0] (fun v z => jJ IvC 0 0 0 z0 z ∧ iv 0 1023 v) := by
  refine hM_i cX1_setUpTo (by decide) rfl (own := RX1) rfl hq (Nat.le_of_ble_eq_true rfl) ?_
  intro p e s m args below meth c Q ls H locs hx hb hml hown hts hK hZ hH hl hret
  have hl : lv_has ls 4 [(0, .ref (q 13)), (1, .int p0)] := hl
  have hJ : jJ IvC 0 0 0 z0 z0 := jJ_rf _ _ _ hI
  have HL4 : ∀ (n : Nat) (x2_4 : Int32) (x3_4 : Int32) (H : Heap) (locs : List Loc) (ls : Array Slot), iv 0 1023 x2_4 → iv 0 10 x3_4 → bH D 66 (enC cy) q z0 s.heap H locs → lv_has ls 4 [(0, .ref (q 13)), (1, .int p0), (2, .int x2_4), (3, .int x3_4)] → (10 - x3_4.toInt).toNat = n → W p l e ({ frames := 0, cells := 0, slots := 0, locals := 0 }) s m args below meth c H locs 0 0 Q (F0 m 4 ls []) := by
    intro n4
    induction n4 using Nat.strongRecOn with
    | ind n4 ih4 =>
      intro x2_4 x3_4 H locs ls h2_4 h3_4 hH hl hn4
      have HJ40 : ∀ (x2_40 : Int32) (H : Heap) (locs : List Loc) (ls : Array Slot), iv 0 1023 x2_40 → iv 0 9 x3_4 → iv 1 10 (z0.1 0) → bH D 66 (enC cy) q z0 s.heap H locs → lv_has ls 4 [(0, .ref (q 13)), (1, .int p0), (2, .int x2_40), (3, .int x3_4)] → W p l e ({ frames := 0, cells := 0, slots := 0, locals := 0 }) s m args below meth c H locs 0 0 Q (F0 m 40 ls []) := by
        intro x2_40 H locs ls h2_40 h3_40 gh0_40 hH hl
        have j106 : iv 1 10 (x3_4 + 1) := iv_add h3_40 (iv_lit (n := 1) 1 (by decide)) (by decide) (by decide) (by decide) (by decide)
        have e106 : (x3_4 + 1).toInt = x3_4.toInt + 1 := (iv_addE h3_40 (iv_lit (n := 1) 1 (by decide)) (by decide) (by decide)).trans rfl
        refine lv_iinc (v := (x3_4 + 1)) (lv' := [(3, .int (x3_4 + 1)), (0, .ref (q 13)), (1, .int p0), (2, .int x2_40)]) hx hb dX1_setUpTo_40 hl (k := 3) rfl rfl (by decide) rfl (fun ls hl => ?_)
        refine lv_goto (tgt := 4) hx hb dX1_setUpTo_43 (by decide) ?_
        exact ih4 _ (ms_up e106 j106.2 hn4) x2_40 (x3_4 + 1)  H locs ls h2_40 (iv_w j106 (by decide) (by decide))  hH (lv_sub hl [1, 2, 3, 0] rfl) rfl
      refine lv_iload_n hx hb dX1_setUpTo_4 rfl (lv_at hl 3 rfl) ?_
      refine lv_aload_n hx hb dX1_setUpTo_5 rfl (lv_at hl 0 rfl) ?_
      refine b_get (ci := 1) (C := RX1) (T := TX1) (Nf := 2) (v := .ref (q 1)) hx hb hts in_X1_setUpTo_X1 hown hK hH 13 (by decide) rfl rfl 0 (by decide) (hts (.fieldLink RX1 15 "StationLine$Putting" "bench" "LStationLine$Bench;") (List.mem_of_getElem? (i := 1) rfl)) rfl dX1_setUpTo_6 ?_
      refine b_get (ci := 0) (C := RX0) (T := TX0) (Nf := 11) (v := .int (z0.1 0)) hx hb hts in_X1_setUpTo_X0 hown hK hH 1 (by decide) rfl rfl 0 (by decide) (hts (.fieldLink RX1 25 "StationLine$Bench" "size" "I") (List.mem_of_getElem? (i := 2) rfl)) rfl dX1_setUpTo_9 ?_
      have i107 := IvC_s0 hJ.1
      refine lv_icmp_ge (tgt := 46) hx hb dX1_setUpTo_12 (by decide) (fun c108 => ?_) (fun c108 => ?_)
      · skip
        refine lv_iload_n hx hb dX1_setUpTo_46 rfl (lv_at hl 2 rfl) ?_
        exact hret _ z0 H locs _ _ ⟨hJ, h2_4⟩ hH dX1_setUpTo_47
      · skip
        have k110a : iv 0 9 x3_4 := iv_ltl (iv_nLe c108) h3_4 i107 (by decide)
        have k110b : iv 1 10 (z0.1 0) := iv_ltr (iv_nLe c108) h3_4 i107 (by decide)
        refine lv_aload_n hx hb dX1_setUpTo_15 rfl (lv_at hl 0 rfl) ?_
        refine b_get (ci := 1) (C := RX1) (T := TX1) (Nf := 2) (v := .ref (q 14)) hx hb hts in_X1_setUpTo_X1 hown hK hH 13 (by decide) rfl rfl 1 (by decide) (hts (.fieldLink RX1 9 "StationLine$Putting" "row" "[I") (List.mem_of_getElem? (i := 3) rfl)) rfl dX1_setUpTo_16 ?_
        refine lv_iload_n hx hb dX1_setUpTo_19 rfl (lv_at hl 3 rfl) ?_
        refine b_iald (v := z0.2.1 14 (x3_4 : Int32).toNatClampNeg) hx hb hK hH 14 (by decide) rfl (iv_in k110a (by decide) (by decide)) rfl dX1_setUpTo_20 ?_
        have i111 : iv 0 10 (z0.2.1 14 (x3_4 : Int32).toNatClampNeg) := IvC_a14 hJ.1 _ (b_inlt (iv_in k110a (by decide) (by decide)))
        refine lv_if_le (tgt := 40) hx hb dX1_setUpTo_21 (by decide) (fun c112 => ?_) (fun c112 => ?_)
        · skip
          have k113a : iv 0 0 (z0.2.1 14 (x3_4 : Int32).toNatClampNeg) := iv_lel (iv_Le c112) i111 (iv_lit (n := 0) 0 (by decide))
          exact HJ40 x2_4  H locs ls h2_4 k110a k110b  hH (lv_sub hl [0, 1, 2, 3] rfl)
        · skip
          have k114b : iv 1 10 (z0.2.1 14 (x3_4 : Int32).toNatClampNeg) := iv_ltr (iv_nLe c112) (iv_lit (n := 0) 0 (by decide)) i111 (by decide)
          refine lv_aload_n hx hb dX1_setUpTo_24 rfl (lv_at hl 0 rfl) ?_
          refine b_get (ci := 1) (C := RX1) (T := TX1) (Nf := 2) (v := .ref (q 14)) hx hb hts in_X1_setUpTo_X1 hown hK hH 13 (by decide) rfl rfl 1 (by decide) (hts (.fieldLink RX1 9 "StationLine$Putting" "row" "[I") (List.mem_of_getElem? (i := 3) rfl)) rfl dX1_setUpTo_25 ?_
          refine lv_iload_n hx hb dX1_setUpTo_28 rfl (lv_at hl 3 rfl) ?_
          refine b_iald (v := z0.2.1 14 (x3_4 : Int32).toNatClampNeg) hx hb hK hH 14 (by decide) rfl (iv_in k110a (by decide) (by decide)) rfl dX1_setUpTo_29 ?_
          have i115 : iv 0 10 (z0.2.1 14 (x3_4 : Int32).toNatClampNeg) := IvC_a14 hJ.1 _ (b_inlt (iv_in k110a (by decide) (by decide)))
          refine lv_iload_n hx hb dX1_setUpTo_30 rfl (lv_at hl 1 rfl) ?_
          refine lv_icmp_gt (tgt := 40) hx hb dX1_setUpTo_31 (by decide) (fun c116 => ?_) (fun c116 => ?_)
          · skip
            have k117a : iv (-2147483648) 9 p0 := iv_ltl (iv_Lt c116) (iv_all p0) i115 (by decide)
            exact HJ40 x2_4  H locs ls h2_4 k110a k110b  hH (lv_sub hl [0, 1, 2, 3] rfl)
          · skip
            have k118b : iv 0 2147483647 p0 := iv_ler (iv_nLt c116) i115 (iv_all p0)
            refine lv_iload_n hx hb dX1_setUpTo_34 rfl (lv_at hl 2 rfl) ?_
            refine lv_iconst (v := 1) hx hb dX1_setUpTo_35 (by decide) ?_
            refine lv_iload_n hx hb dX1_setUpTo_36 rfl (lv_at hl 3 rfl) ?_
            refine lv_ishl hx hb dX1_setUpTo_37 ?_
            refine h_i (a := 1) (b := 512) (iv_bit k110a (by decide) (by decide)) (fun w119 i119 => ?_)
            refine lv_ior hx hb dX1_setUpTo_38 ?_
            refine h_i (a := 0) (b := 1023) (iv_or 10 (b := 1023) (d := 512) (iv_w h2_4 (by decide) (by decide)) (iv_w i119 (by decide) (by decide)) (by decide) (by decide) (by decide) (by decide)) (fun w120 i120 => ?_)
            refine lv_istore_n (lv' := [(2, .int w120), (0, .ref (q 13)), (1, .int p0), (3, .int x3_4)]) hx hb dX1_setUpTo_39 rfl hl (by decide) rfl (fun ls hl => ?_)
            exact HJ40 w120  H locs ls i120 k110a k110b  hH (lv_sub hl [1, 2, 0, 3] rfl)
  refine lv_iconst (v := 0) hx hb dX1_setUpTo_0 (by decide) ?_
  refine lv_istore_n (lv' := [(2, .int 0), (0, .ref (q 13)), (1, .int p0)]) hx hb dX1_setUpTo_1 rfl hl (by decide) rfl (fun ls hl => ?_)
  refine lv_iconst (v := 0) hx hb dX1_setUpTo_2 (by decide) ?_
  refine lv_istore_n (lv' := [(3, .int 0), (2, .int 0), (0, .ref (q 13)), (1, .int p0)]) hx hb dX1_setUpTo_3 rfl hl (by decide) rfl (fun ls hl => ?_)
  exact HL4 _ 0 0  H locs ls (iv_w (iv_lit (n := 0) 0 (by decide)) (by decide) (by decide)) (iv_w (iv_lit (n := 0) 0 (by decide)) (by decide) (by decide))  hH (lv_sub hl [2, 3, 1, 0] rfl) rfl
set_option maxHeartbeats 4000000 in
set_option maxRecDepth 100000 in
theorem g_X1_greatest_13 (l : Launch) (D : va_G) (cy : Nat → ClassId) (q : Nat → Nat) (hq : bJ 66 q) (z0 : zS) (hI : IvC z0)  : bCi l yX1_greatest wsX1_greatest ({ frames := 1, cells := 0, slots := 0, locals := 28 }) D cy 66 (enC cy) q z0 [.ref (q 13)] (fun v z => jJ IvC 0 0 0 z0 z ∧ iv 0 10 v) := by
  refine hM_i cX1_greatest (by decide) rfl (own := RX1) rfl hq (Nat.le_of_ble_eq_true rfl) ?_
  intro p e s m args below meth c Q ls H locs hx hb hml hown hts hK hZ hH hl hret
  have hl : lv_has ls 3 [(0, .ref (q 13))] := hl
  have hJ : jJ IvC 0 0 0 z0 z0 := jJ_rf _ _ _ hI
  have HL4 : ∀ (n : Nat) (x1_4 : Int32) (x2_4 : Int32) (H : Heap) (locs : List Loc) (ls : Array Slot), iv 0 10 x1_4 → iv 0 10 x2_4 → bH D 66 (enC cy) q z0 s.heap H locs → lv_has ls 3 [(0, .ref (q 13)), (1, .int x1_4), (2, .int x2_4)] → (10 - x2_4.toInt).toNat = n → W p l e ({ frames := 1, cells := 0, slots := 0, locals := 28 }) s m args below meth c H locs 0 0 Q (F0 m 4 ls []) := by
    intro n4
    induction n4 using Nat.strongRecOn with
    | ind n4 ih4 =>
      intro x1_4 x2_4 H locs ls h1_4 h2_4 hH hl hn4
      refine lv_iload_n hx hb dX1_greatest_4 rfl (lv_at hl 2 rfl) ?_
      refine lv_aload_n hx hb dX1_greatest_5 rfl (lv_at hl 0 rfl) ?_
      refine b_get (ci := 1) (C := RX1) (T := TX1) (Nf := 2) (v := .ref (q 1)) hx hb hts in_X1_greatest_X1 hown hK hH 13 (by decide) rfl rfl 0 (by decide) (hts (.fieldLink RX1 15 "StationLine$Putting" "bench" "LStationLine$Bench;") (List.mem_of_getElem? (i := 1) rfl)) rfl dX1_greatest_6 ?_
      refine b_get (ci := 0) (C := RX0) (T := TX0) (Nf := 11) (v := .int (z0.1 0)) hx hb hts in_X1_greatest_X0 hown hK hH 1 (by decide) rfl rfl 0 (by decide) (hts (.fieldLink RX1 25 "StationLine$Bench" "size" "I") (List.mem_of_getElem? (i := 2) rfl)) rfl dX1_greatest_9 ?_
      have i50 := IvC_s0 hJ.1
      refine lv_icmp_ge (tgt := 32) hx hb dX1_greatest_12 (by decide) (fun c51 => ?_) (fun c51 => ?_)
      · skip
        refine lv_iload_n hx hb dX1_greatest_32 rfl (lv_at hl 1 rfl) ?_
        exact hret _ z0 H locs _ _ ⟨hJ, h1_4⟩ hH dX1_greatest_33
      · skip
        have k53a : iv 0 9 x2_4 := iv_ltl (iv_nLe c51) h2_4 i50 (by decide)
        have k53b : iv 1 10 (z0.1 0) := iv_ltr (iv_nLe c51) h2_4 i50 (by decide)
        refine lv_iload_n hx hb dX1_greatest_15 rfl (lv_at hl 1 rfl) ?_
        refine lv_aload_n hx hb dX1_greatest_16 rfl (lv_at hl 0 rfl) ?_
        refine b_get (ci := 1) (C := RX1) (T := TX1) (Nf := 2) (v := .ref (q 14)) hx hb hts in_X1_greatest_X1 hown hK hH 13 (by decide) rfl rfl 1 (by decide) (hts (.fieldLink RX1 9 "StationLine$Putting" "row" "[I") (List.mem_of_getElem? (i := 3) rfl)) rfl dX1_greatest_17 ?_
        refine lv_iload_n hx hb dX1_greatest_20 rfl (lv_at hl 2 rfl) ?_
        refine b_iald (v := z0.2.1 14 (x2_4 : Int32).toNatClampNeg) hx hb hK hH 14 (by decide) rfl (iv_in k53a (by decide) (by decide)) rfl dX1_greatest_21 ?_
        have i54 : iv 0 10 (z0.2.1 14 (x2_4 : Int32).toNatClampNeg) := IvC_a14 hJ.1 _ (b_inlt (iv_in k53a (by decide) (by decide)))
        refine va_mmax hx hb (by rw [hml]; exact hl.1.symm) hown (hts (.methodLink RX1 31 Lib.Math.max.name) (List.mem_of_getElem? (i := 4) rfl)) (hts (.static Lib.Math.max.name) (List.mem_of_getElem? (i := 5) rfl)) (hts (.initialized "java/lang/Math") (List.mem_of_getElem? (i := 6) rfl)) (hts (.code Lib.Math.max.name Lib.Math.max.code 2 (some .int)) (List.mem_of_getElem? (i := 7) rfl)) (Nat.le_of_ble_eq_true rfl) (Nat.le_of_ble_eq_true rfl) (Nat.zero_le _) (Nat.zero_le _) dX1_greatest_22 ?_
        refine h_i (a := 0) (b := 10) (iv_max h1_4 i54 (by decide) (by decide) (by decide)) (fun w55 i55 => ?_)
        refine lv_istore_n (lv' := [(1, .int w55), (0, .ref (q 13)), (2, .int x2_4)]) hx hb dX1_greatest_25 rfl hl (by decide) rfl (fun ls hl => ?_)
        have j56 : iv 1 10 (x2_4 + 1) := iv_add k53a (iv_lit (n := 1) 1 (by decide)) (by decide) (by decide) (by decide) (by decide)
        have e56 : (x2_4 + 1).toInt = x2_4.toInt + 1 := (iv_addE k53a (iv_lit (n := 1) 1 (by decide)) (by decide) (by decide)).trans rfl
        refine lv_iinc (v := (x2_4 + 1)) (lv' := [(2, .int (x2_4 + 1)), (1, .int w55), (0, .ref (q 13))]) hx hb dX1_greatest_26 hl (k := 2) rfl rfl (by decide) rfl (fun ls hl => ?_)
        refine lv_goto (tgt := 4) hx hb dX1_greatest_29 (by decide) ?_
        exact ih4 _ (ms_up e56 j56.2 hn4) w55 (x2_4 + 1)  H locs ls i55 (iv_w j56 (by decide) (by decide))  hH (lv_sub hl [2, 1, 0] rfl) rfl
  refine lv_iconst (v := 0) hx hb dX1_greatest_0 (by decide) ?_
  refine lv_istore_n (lv' := [(1, .int 0), (0, .ref (q 13))]) hx hb dX1_greatest_1 rfl hl (by decide) rfl (fun ls hl => ?_)
  refine lv_iconst (v := 0) hx hb dX1_greatest_2 (by decide) ?_
  refine lv_istore_n (lv' := [(2, .int 0), (1, .int 0), (0, .ref (q 13))]) hx hb dX1_greatest_3 rfl hl (by decide) rfl (fun ls hl => ?_)
  exact HL4 _ 0 0  H locs ls (iv_w (iv_lit (n := 0) 0 (by decide)) (by decide) (by decide)) (iv_w (iv_lit (n := 0) 0 (by decide)) (by decide) (by decide))  hH (lv_sub hl [2, 1, 0] rfl) rfl
