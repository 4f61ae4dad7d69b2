theorem sh_upd0 : True := trivial
def ShOk (f : Nat → Int32) : Prop := 1 ≤ (f 0).toInt + (f 1).toInt + (f 2).toInt
def KpOk (f : Nat → Int32) : Prop := iv 0 10 (f 0) ∧ iv 1 1000 (f 2) ∧ (∀ i, i < 30 → iv 0 100 (f (3 + i))) ∧ (∀ i, i < 3 → iv 0 9 (f (33 + i))) ∧ ShOk (fun i => f (33 + i)) ∧ (∀ i, i < 10 → iv 0 10 (f (156 + i)))
theorem sh_upd {f : Nat → Int32} {m v : Int32} {w : Int} (hf : ∀ i, i < 3 → iv 0 9 (f i)) (hm : iv 0 2 m) (hv : iv 0 9 v) (hw : w = (f 0).toInt + (f 1).toInt + (f 2).toInt - (f m.toNatClampNeg).toInt + v.toInt) (h : w ≠ 0) : ShOk (upd f m.toNatClampNeg v) := by
  have h0 := hf 0 (by decide)
  have h1 := hf 1 (by decide)
  have h2 := hf 2 (by decide)
  unfold iv at h0 h1 h2 hm hv
  have e := iv_nat (x := m) (a := 0) (b := 2) hm (by decide)
  unfold ShOk
  rcases (show m.toNatClampNeg = 0 ∨ m.toNatClampNeg = 1 ∨ m.toNatClampNeg = 2 by omega) with e1 | e1 | e1 <;> rw [e1] at hw ⊢ <;> simp only [upd] <;> simp <;> omega
theorem and_l {x y : Int32} (h : x = 0) : x &&& y = 0 := by
  rw [h]
  exact Int32.toBitVec_inj.mp (by rw [Int32.toBitVec_and]; exact BitVec.zero_and)
theorem and_r {x y : Int32} (h : y = 0) : x &&& y = 0 := by
  rw [h]
  exact Int32.toBitVec_inj.mp (by rw [Int32.toBitVec_and]; exact BitVec.and_zero)
theorem ck_and {f : Nat → Int32} {r w x : Int32} {y u v : Int} (h : r = 0 ∨ (u = v ∧ ∀ j : Nat, (j : Int) < x.toInt → iv 0 10 (f j))) (hx : iv 0 20 x) (he : y = x.toInt + 1) (ht : w = 0 ∨ iv 0 10 (f x.toNatClampNeg)) : r &&& w = 0 ∨ (u = v ∧ ∀ j : Nat, (j : Int) < y → iv 0 10 (f j)) := by
  rcases h with h | h
  · exact Or.inl (and_l h)
  · rcases ht with ht | ht
    · exact Or.inl (and_r ht)
    · exact Or.inr ⟨h.1, fun j hj => ck_step hx hj he h.2 ht⟩
def IvM (z : zS) : Prop := iv 0 10 (z.1 0) ∧ iv 1 1000 (z.1 2) ∧ iv 0 11 (z.1 3) ∧ iv 0 20 (z.1 5) ∧ (∀ i : Nat, i < 30 → iv 0 100 (z.2.1 1 i)) ∧ (∀ i : Nat, i < 3 → iv 0 9 (z.2.1 2 i)) ∧ (∀ i : Nat, i < 10 → iv 0 10 (z.2.1 6 i)) ∧ (∀ i : Nat, i < 4 → iv (-1) 40 (z.2.1 10 i)) ∧ (∀ i : Nat, i < 1024 → iv 0 27000 (z.2.1 16 i)) ∧ (∀ i : Nat, i < 10 → iv 0 10 (z.2.1 21 i)) ∧ ShOk (z.2.1 2) ∧ (z.1 4 = 0 ∨ KpOk (z.2.1 8))
theorem IvM_s0 {z : zS} (h : IvM z) : iv 0 10 (z.1 0) := h.1
theorem IvM_s2 {z : zS} (h : IvM z) : iv 1 1000 (z.1 2) := h.2.1
theorem IvM_s3 {z : zS} (h : IvM z) : iv 0 11 (z.1 3) := h.2.2.1
theorem IvM_s5 {z : zS} (h : IvM z) : iv 0 20 (z.1 5) := h.2.2.2.1
theorem IvM_a1 {z : zS} (h : IvM z) : (∀ i : Nat, i < 30 → iv 0 100 (z.2.1 1 i)) := h.2.2.2.2.1
theorem IvM_a2 {z : zS} (h : IvM z) : (∀ i : Nat, i < 3 → iv 0 9 (z.2.1 2 i)) := h.2.2.2.2.2.1
theorem IvM_a6 {z : zS} (h : IvM z) : (∀ i : Nat, i < 10 → iv 0 10 (z.2.1 6 i)) := h.2.2.2.2.2.2.1
theorem IvM_a10 {z : zS} (h : IvM z) : (∀ i : Nat, i < 4 → iv (-1) 40 (z.2.1 10 i)) := h.2.2.2.2.2.2.2.1
theorem IvM_a16 {z : zS} (h : IvM z) : (∀ i : Nat, i < 1024 → iv 0 27000 (z.2.1 16 i)) := h.2.2.2.2.2.2.2.2.1
theorem IvM_a21 {z : zS} (h : IvM z) : (∀ i : Nat, i < 10 → iv 0 10 (z.2.1 21 i)) := h.2.2.2.2.2.2.2.2.2.1
theorem IvM_x0 {z : zS} (h : IvM z) : ShOk (z.2.1 2) := h.2.2.2.2.2.2.2.2.2.2.1
theorem IvM_x1 {z : zS} (h : IvM z) : (z.1 4 = 0 ∨ KpOk (z.2.1 8)) := h.2.2.2.2.2.2.2.2.2.2.2
theorem IvM_S0 {z : zS} {v : Int32} (h : IvM z) (hv : iv 0 10 v) : IvM (upS z 0 v) := ⟨hv, h.2.1, h.2.2.1, h.2.2.2.1, h.2.2.2.2.1, h.2.2.2.2.2.1, h.2.2.2.2.2.2.1, h.2.2.2.2.2.2.2.1, h.2.2.2.2.2.2.2.2.1, h.2.2.2.2.2.2.2.2.2.1, h.2.2.2.2.2.2.2.2.2.2.1, h.2.2.2.2.2.2.2.2.2.2.2⟩
theorem IvM_S1 {z : zS} {v : Int32} (h : IvM z) : IvM (upS z 1 v) := ⟨h.1, h.2.1, h.2.2.1, h.2.2.2.1, h.2.2.2.2.1, h.2.2.2.2.2.1, h.2.2.2.2.2.2.1, h.2.2.2.2.2.2.2.1, h.2.2.2.2.2.2.2.2.1, h.2.2.2.2.2.2.2.2.2.1, h.2.2.2.2.2.2.2.2.2.2.1, h.2.2.2.2.2.2.2.2.2.2.2⟩
theorem IvM_S2 {z : zS} {v : Int32} (h : IvM z) (hv : iv 1 1000 v) : IvM (upS z 2 v) := ⟨h.1, hv, h.2.2.1, h.2.2.2.1, h.2.2.2.2.1, h.2.2.2.2.2.1, h.2.2.2.2.2.2.1, h.2.2.2.2.2.2.2.1, h.2.2.2.2.2.2.2.2.1, h.2.2.2.2.2.2.2.2.2.1, h.2.2.2.2.2.2.2.2.2.2.1, h.2.2.2.2.2.2.2.2.2.2.2⟩
theorem IvM_S3 {z : zS} {v : Int32} (h : IvM z) (hv : iv 0 11 v) : IvM (upS z 3 v) := ⟨h.1, h.2.1, hv, h.2.2.2.1, h.2.2.2.2.1, h.2.2.2.2.2.1, h.2.2.2.2.2.2.1, h.2.2.2.2.2.2.2.1, h.2.2.2.2.2.2.2.2.1, h.2.2.2.2.2.2.2.2.2.1, h.2.2.2.2.2.2.2.2.2.2.1, h.2.2.2.2.2.2.2.2.2.2.2⟩
theorem IvM_S4 {z : zS} {v : Int32} (h : IvM z) (hx1 : ((upS z 4 v).1 4 = 0 ∨ KpOk ((upS z 4 v).2.1 8))) : IvM (upS z 4 v) := ⟨h.1, h.2.1, h.2.2.1, h.2.2.2.1, h.2.2.2.2.1, h.2.2.2.2.2.1, h.2.2.2.2.2.2.1, h.2.2.2.2.2.2.2.1, h.2.2.2.2.2.2.2.2.1, h.2.2.2.2.2.2.2.2.2.1, h.2.2.2.2.2.2.2.2.2.2.1, hx1⟩
theorem IvM_S5 {z : zS} {v : Int32} (h : IvM z) (hv : iv 0 20 v) : IvM (upS z 5 v) := ⟨h.1, h.2.1, h.2.2.1, hv, h.2.2.2.2.1, h.2.2.2.2.2.1, h.2.2.2.2.2.2.1, h.2.2.2.2.2.2.2.1, h.2.2.2.2.2.2.2.2.1, h.2.2.2.2.2.2.2.2.2.1, h.2.2.2.2.2.2.2.2.2.2.1, h.2.2.2.2.2.2.2.2.2.2.2⟩
theorem IvM_S6 {z : zS} {v : Int32} (h : IvM z) : IvM (upS z 6 v) := ⟨h.1, h.2.1, h.2.2.1, h.2.2.2.1, h.2.2.2.2.1, h.2.2.2.2.2.1, h.2.2.2.2.2.2.1, h.2.2.2.2.2.2.2.1, h.2.2.2.2.2.2.2.2.1, h.2.2.2.2.2.2.2.2.2.1, h.2.2.2.2.2.2.2.2.2.2.1, h.2.2.2.2.2.2.2.2.2.2.2⟩
theorem IvM_A {z : zS} {k : Nat} {f : Nat → Int32} (h : IvM z) (hk : k ≠ 1 ∧ k ≠ 2 ∧ k ≠ 6 ∧ k ≠ 8 ∧ k ≠ 10 ∧ k ≠ 16 ∧ k ≠ 21) : IvM (upA z k f) := ⟨h.1, h.2.1, h.2.2.1, h.2.2.2.1, fun i hi => (by show iv _ _ (va_up z.2.1 k f 1 i); rw [va_up_ne z.2.1 f (fun e => hk.1 e.symm)]; exact h.2.2.2.2.1 i hi), fun i hi => (by show iv _ _ (va_up z.2.1 k f 2 i); rw [va_up_ne z.2.1 f (fun e => hk.2.1 e.symm)]; exact h.2.2.2.2.2.1 i hi), fun i hi => (by show iv _ _ (va_up z.2.1 k f 6 i); rw [va_up_ne z.2.1 f (fun e => hk.2.2.1 e.symm)]; exact h.2.2.2.2.2.2.1 i hi), fun i hi => (by show iv _ _ (va_up z.2.1 k f 10 i); rw [va_up_ne z.2.1 f (fun e => hk.2.2.2.2.1 e.symm)]; exact h.2.2.2.2.2.2.2.1 i hi), fun i hi => (by show iv _ _ (va_up z.2.1 k f 16 i); rw [va_up_ne z.2.1 f (fun e => hk.2.2.2.2.2.1 e.symm)]; exact h.2.2.2.2.2.2.2.2.1 i hi), fun i hi => (by show iv _ _ (va_up z.2.1 k f 21 i); rw [va_up_ne z.2.1 f (fun e => hk.2.2.2.2.2.2 e.symm)]; exact h.2.2.2.2.2.2.2.2.2.1 i hi), (by show ShOk ((va_up z.2.1 k f 2)); rw [va_up_ne z.2.1 f (fun e => hk.2.1 e.symm)]; exact h.2.2.2.2.2.2.2.2.2.2.1), (by show (z.1 4 = 0 ∨ KpOk ((va_up z.2.1 k f 8))); rw [va_up_ne z.2.1 f (fun e => hk.2.2.2.1 e.symm)]; exact h.2.2.2.2.2.2.2.2.2.2.2)⟩
theorem IvM_R1 {z : zS} (h : IvM z) {f : Nat → Int32} (hf : ∀ i : Nat, i < 30 → iv 0 100 (f i)) : IvM (upA z 1 f) := ⟨h.1, h.2.1, h.2.2.1, h.2.2.2.1, hf, h.2.2.2.2.2.1, h.2.2.2.2.2.2.1, h.2.2.2.2.2.2.2.1, h.2.2.2.2.2.2.2.2.1, h.2.2.2.2.2.2.2.2.2.1, h.2.2.2.2.2.2.2.2.2.2.1, h.2.2.2.2.2.2.2.2.2.2.2⟩
theorem IvM_A1 {z : zS} (h : IvM z) (j : Nat) {v : Int32} (hv : iv 0 100 v) : IvM (upA z 1 (upd (z.2.1 1) j v)) := IvM_R1 h (rw_up (IvM_a1 h) j hv)
theorem IvM_R2 {z : zS} (h : IvM z) {f : Nat → Int32} (hf : ∀ i : Nat, i < 3 → iv 0 9 (f i)) (hx0 : ShOk ((upA z 2 f).2.1 2)) : IvM (upA z 2 f) := ⟨h.1, h.2.1, h.2.2.1, h.2.2.2.1, h.2.2.2.2.1, hf, h.2.2.2.2.2.2.1, h.2.2.2.2.2.2.2.1, h.2.2.2.2.2.2.2.2.1, h.2.2.2.2.2.2.2.2.2.1, hx0, h.2.2.2.2.2.2.2.2.2.2.2⟩
theorem IvM_R6 {z : zS} (h : IvM z) {f : Nat → Int32} (hf : ∀ i : Nat, i < 10 → iv 0 10 (f i)) : IvM (upA z 6 f) := ⟨h.1, h.2.1, h.2.2.1, h.2.2.2.1, h.2.2.2.2.1, h.2.2.2.2.2.1, hf, h.2.2.2.2.2.2.2.1, h.2.2.2.2.2.2.2.2.1, h.2.2.2.2.2.2.2.2.2.1, h.2.2.2.2.2.2.2.2.2.2.1, h.2.2.2.2.2.2.2.2.2.2.2⟩
theorem IvM_A6 {z : zS} (h : IvM z) (j : Nat) {v : Int32} (hv : iv 0 10 v) : IvM (upA z 6 (upd (z.2.1 6) j v)) := IvM_R6 h (rw_up (IvM_a6 h) j hv)
theorem IvM_R10 {z : zS} (h : IvM z) {f : Nat → Int32} (hf : ∀ i : Nat, i < 4 → iv (-1) 40 (f i)) : IvM (upA z 10 f) := ⟨h.1, h.2.1, h.2.2.1, h.2.2.2.1, h.2.2.2.2.1, h.2.2.2.2.2.1, h.2.2.2.2.2.2.1, hf, h.2.2.2.2.2.2.2.2.1, h.2.2.2.2.2.2.2.2.2.1, h.2.2.2.2.2.2.2.2.2.2.1, h.2.2.2.2.2.2.2.2.2.2.2⟩
theorem IvM_A10 {z : zS} (h : IvM z) (j : Nat) {v : Int32} (hv : iv (-1) 40 v) : IvM (upA z 10 (upd (z.2.1 10) j v)) := IvM_R10 h (rw_up (IvM_a10 h) j hv)
theorem IvM_R16 {z : zS} (h : IvM z) {f : Nat → Int32} (hf : ∀ i : Nat, i < 1024 → iv 0 27000 (f i)) : IvM (upA z 16 f) := ⟨h.1, h.2.1, h.2.2.1, h.2.2.2.1, h.2.2.2.2.1, h.2.2.2.2.2.1, h.2.2.2.2.2.2.1, h.2.2.2.2.2.2.2.1, hf, h.2.2.2.2.2.2.2.2.2.1, h.2.2.2.2.2.2.2.2.2.2.1, h.2.2.2.2.2.2.2.2.2.2.2⟩
theorem IvM_A16 {z : zS} (h : IvM z) (j : Nat) {v : Int32} (hv : iv 0 27000 v) : IvM (upA z 16 (upd (z.2.1 16) j v)) := IvM_R16 h (rw_up (IvM_a16 h) j hv)
theorem IvM_R21 {z : zS} (h : IvM z) {f : Nat → Int32} (hf : ∀ i : Nat, i < 10 → iv 0 10 (f i)) : IvM (upA z 21 f) := ⟨h.1, h.2.1, h.2.2.1, h.2.2.2.1, h.2.2.2.2.1, h.2.2.2.2.2.1, h.2.2.2.2.2.2.1, h.2.2.2.2.2.2.2.1, h.2.2.2.2.2.2.2.2.1, hf, h.2.2.2.2.2.2.2.2.2.2.1, h.2.2.2.2.2.2.2.2.2.2.2⟩
theorem IvM_A21 {z : zS} (h : IvM z) (j : Nat) {v : Int32} (hv : iv 0 10 v) : IvM (upA z 21 (upd (z.2.1 21) j v)) := IvM_R21 h (rw_up (IvM_a21 h) j hv)
theorem IvM_L {z : zS} {k : Nat} {f : Nat → Int64} (h : IvM z) : IvM (upL z k f) := h
set_option maxHeartbeats 4000000 in
set_option maxRecDepth 100000 in
theorem g_X6_meet_0 (l : Launch) (D : va_G) (cy : Nat → ClassId) (q : Nat → Nat) (hq : bJ 23 q) (z0 : zS) (hI : IvM z0) (p0 : Int32) : bCi l yX6_meet wsX6_meet ({ frames := 0, cells := 0, slots := 0, locals := 0 }) D cy 23 (enM cy) q z0 [.ref (q 0), .int p0] (fun v z => jJ IvM 64 0 0 z0 z ∧ iv (-2147483648) 2147483647 v ∧ (v = p0)) := by
  refine hM_i cX6_meet (by decide) rfl (own := RX6) rfl hq (Nat.le_of_ble_eq_true rfl) ?_
  intro p e s m args below meth c Q ls H locs hx hb hml hown hts hK hZ hH hl hret
  have hl : lv_has ls 2 [(0, .ref (q 0)), (1, .int p0)] := hl
  have hJ : jJ IvM 64 0 0 z0 z0 := jJ_rf _ _ _ hI
  refine lv_aload_n hx hb dX6_meet_0 rfl (lv_at hl 0 rfl) ?_
  refine lv_dup hx hb dX6_meet_1 rfl ?_
  refine b_get (ci := 6) (C := RX6) (T := TX6) (Nf := 29) (v := .int (z0.1 6)) hx hb hts in_X6_meet_X6 hown hK hH 0 (by decide) rfl rfl 18 (by decide) (hts (.fieldLink RX6 82 "StationLineModel" "met" "I") (List.mem_of_getElem? (i := 1) rfl)) rfl dX6_meet_2 ?_
  refine lv_iconst (v := 1) hx hb dX6_meet_5 (by decide) ?_
  refine lv_iadd hx hb dX6_meet_6 ?_
  refine lv_topi (fun w3 _ => ?_)
  refine b_put (ci := 6) (C := RX6) (T := TX6) (Nf := 29) (v := .int w3) (ty := .int) hx hb hts in_X6_meet_X6 tyX6 tyX6_ok nmX6 hown hK hH 0 (by decide) rfl rfl 18 (by decide) (hts (.fieldLink RX6 82 "StationLineModel" "met" "I") (List.mem_of_getElem? (i := 1) rfl)) rfl (by decide +kernel) rfl rfl (Nat.le_of_ble_eq_true rfl) (upS z0 6 w3) rfl (enM_S6 _ _ _ _) dX6_meet_7 (fun H locs hH => ?_)
  obtain ⟨z4, hz4⟩ : ∃ w : zS, w = upS z0 6 w3 := ⟨_, rfl⟩
  rw [← hz4] at hH
  have hJ : jJ IvM 64 0 0 z0 z4 := by rw [hz4]; exact jJ_S hJ (by decide) (IvM_S6 hJ.1)
  refine lv_iload_n hx hb dX6_meet_10 rfl (lv_at hl 1 rfl) ?_
  exact hret _ z4 H locs _ _ ⟨hJ, (iv_all p0), rfl⟩ hH dX6_meet_11
set_option maxHeartbeats 4000000 in
set_option maxRecDepth 100000 in
theorem g_X6_isTask_0 (l : Launch) (D : va_G) (cy : Nat → ClassId) (q : Nat → Nat) (hq : bJ 23 q) (z0 : zS) (hI : IvM z0) (p0 : Int32) : bCi l yX6_isTask wsX6_isTask ({ frames := 0, cells := 0, slots := 0, locals := 0 }) D cy 23 (enM cy) q z0 [.ref (q 0), .int p0] (fun v z => jJ IvM 0 0 0 z0 z ∧ iv 0 1 v ∧ (v = 0 ∨ iv 0 9 p0) ∧ (v = 0 ∨ p0.toInt < (z0.1 0).toInt) ∧ (v = 0 ↔ ¬ (0 ≤ p0.toInt ∧ p0.toInt < (z0.1 0).toInt))) := by
  refine hM_z cX6_isTask (by decide) rfl (own := RX6) rfl hq (Nat.le_of_ble_eq_true rfl) ?_
  intro p e s m args below meth c Q ls H locs hx hb hml hown hts hK hZ hH hl hret
  have hl : lv_has ls 2 [(0, .ref (q 0)), (1, .int p0)] := hl
  have hJ : jJ IvM 0 0 0 z0 z0 := jJ_rf _ _ _ hI
  have e00 : (0 : Int32).toInt = 0 := (by decide); have e01 : (1 : Int32).toInt = 1 := (by decide); have e02 : (2 : Int32).toInt = 2 := (by decide); have e03 : (3 : Int32).toInt = 3 := (by decide); have e010 : (10 : Int32).toInt = 10 := (by decide)
  refine lv_iload_n hx hb dX6_isTask_0 rfl (lv_at hl 1 rfl) ?_
  refine lv_if_lt (tgt := 16) hx hb dX6_isTask_1 (by decide) (fun c8 => ?_) (fun c8 => ?_)
  · skip
    have r8 := (iv_Lt c8)
    have k9a : iv (-2147483648) (-1) p0 := iv_ltl (iv_Lt c8) (iv_all p0) (iv_lit (n := 0) 0 (by decide)) (by decide)
    refine lv_iconst (v := 0) hx hb dX6_isTask_16 (by decide) ?_
    exact hret _ z0 H locs _ _ (iv_w (iv_lit (n := 0) 0 (by decide)) (by decide) (by decide)) ⟨hJ, (iv_w (iv_lit (n := 0) 0 (by decide)) (by decide) (by decide)), Or.inl rfl, Or.inl rfl, ⟨fun _ q => (by have := q.1; have := q.2; omega), fun _ => rfl⟩⟩ hH dX6_isTask_17
  · skip
    have r8 := (iv_nLt c8)
    have k10b : iv 0 2147483647 p0 := iv_ler (iv_nLt c8) (iv_lit (n := 0) 0 (by decide)) (iv_all p0)
    refine lv_iload_n hx hb dX6_isTask_4 rfl (lv_at hl 1 rfl) ?_
    refine lv_aload_n hx hb dX6_isTask_5 rfl (lv_at hl 0 rfl) ?_
    refine b_get (ci := 6) (C := RX6) (T := TX6) (Nf := 29) (v := .int (z0.1 0)) hx hb hts in_X6_isTask_X6 hown hK hH 0 (by decide) rfl rfl 0 (by decide) (hts (.fieldLink RX6 85 "StationLineModel" "tasks" "I") (List.mem_of_getElem? (i := 1) rfl)) rfl dX6_isTask_6 ?_
    have i11 := IvM_s0 hJ.1
    have := i11.1; have := i11.2
    refine lv_icmp_ge (tgt := 16) hx hb dX6_isTask_9 (by decide) (fun c12 => ?_) (fun c12 => ?_)
    · skip
      have r12 := (iv_Le c12)
      refine lv_iconst (v := 0) hx hb dX6_isTask_16 (by decide) ?_
      exact hret _ z0 H locs _ _ (iv_w (iv_lit (n := 0) 0 (by decide)) (by decide) (by decide)) ⟨hJ, (iv_w (iv_lit (n := 0) 0 (by decide)) (by decide) (by decide)), Or.inl rfl, Or.inl rfl, ⟨fun _ q => (by have := q.1; have := q.2; omega), fun _ => rfl⟩⟩ hH dX6_isTask_17
    · skip
      have r12 := (iv_nLe c12)
      have k14a : iv 0 9 p0 := iv_ltl (iv_nLe c12) k10b i11 (by decide)
      have k14b : iv 1 10 (z0.1 0) := iv_ltr (iv_nLe c12) k10b i11 (by decide)
      refine lv_iconst (v := 1) hx hb dX6_isTask_12 (by decide) ?_
      refine lv_goto (tgt := 17) hx hb dX6_isTask_13 (by decide) ?_
      exact hret _ z0 H locs _ _ (iv_w (iv_lit (n := 1) 1 (by decide)) (by decide) (by decide)) ⟨hJ, (iv_w (iv_lit (n := 1) 1 (by decide)) (by decide) (by decide)), Or.inr (iv_w k14a (by decide) (by decide)), Or.inr (iv_nLe c12), ⟨fun q => absurd q (by decide), fun q => absurd (show 0 ≤ p0.toInt ∧ p0.toInt < (z0.1 0).toInt from ⟨by omega, by omega⟩) q⟩⟩ hH dX6_isTask_17
set_option maxHeartbeats 4000000 in
set_option maxRecDepth 100000 in
theorem g_X6_in (l : Launch) (D : va_G) (cy : Nat → ClassId) (q : Nat → Nat) (hq : bJ 23 q) (z0 : zS) (hI : IvM z0) (p0 : Int32) (p1 : Int32) : bCi l yX6_in wsX6_in ({ frames := 0, cells := 0, slots := 0, locals := 0 }) D cy 23 (enM cy) q z0 [.int p0, .int p1] (fun v z => jJ IvM 0 0 0 z0 z ∧ iv 0 1 v ∧ (v = inB p0 p1)) := by
  refine hM_z cX6_in (by decide) rfl (own := RX6) rfl hq (Nat.le_of_ble_eq_true rfl) ?_
  intro p e s m args below meth c Q ls H locs hx hb hml hown hts hK hZ hH hl hret
  have hl : lv_has ls 2 [(0, .int p0), (1, .int p1)] := hl
  have hJ : jJ IvM 0 0 0 z0 z0 := jJ_rf _ _ _ hI
  refine lv_iload_n hx hb dX6_in_0 rfl (lv_at hl 0 rfl) ?_
  refine lv_iload_n hx hb dX6_in_1 rfl (lv_at hl 1 rfl) ?_
  refine lv_ishr hx hb dX6_in_2 ?_
  refine lv_iconst (v := 1) hx hb dX6_in_3 (by decide) ?_
  refine lv_iand hx hb dX6_in_4 ?_
  have i7 : iv 0 1 ((p0 >>> (p1 &&& 31)) &&& 1) := (iv_and2 (iv_all (p0 >>> (p1 &&& 31))) (iv_lit (n := 1) 1 (by decide)) (by decide) (by decide))
  refine lv_iconst (v := 1) hx hb dX6_in_5 (by decide) ?_
  refine lv_icmp_ne (tgt := 13) hx hb dX6_in_6 (by decide) (fun c8 => ?_) (fun c8 => ?_)
  · skip
    have k9a : iv 0 0 ((p0 >>> (p1 &&& 31)) &&& 1) := iv_neHi (iv_nEq c8) i7 (by decide) (by decide)
    refine lv_iconst (v := 0) hx hb dX6_in_13 (by decide) ?_
    exact hret _ z0 H locs _ _ (iv_w (iv_lit (n := 0) 0 (by decide)) (by decide) (by decide)) ⟨hJ, (iv_w (iv_lit (n := 0) 0 (by decide)) (by decide) (by decide)), (if_neg c8).symm⟩ hH dX6_in_14
  · skip
    have k10a : iv 1 1 ((p0 >>> (p1 &&& 31)) &&& 1) := iv_eql (iv_Eq c8) i7 (iv_lit (n := 1) 1 (by decide)) (by decide) (by decide)
    refine lv_iconst (v := 1) hx hb dX6_in_9 (by decide) ?_
    refine lv_goto (tgt := 14) hx hb dX6_in_10 (by decide) ?_
    exact hret _ z0 H locs _ _ (iv_w (iv_lit (n := 1) 1 (by decide)) (by decide) (by decide)) ⟨hJ, (iv_w (iv_lit (n := 1) 1 (by decide)) (by decide) (by decide)), (if_pos c8).symm⟩ hH dX6_in_14
set_option maxHeartbeats 4000000 in
set_option maxRecDepth 100000 in
theorem g_X6_all_0 (l : Launch) (D : va_G) (cy : Nat → ClassId) (q : Nat → Nat) (hq : bJ 23 q) (z0 : zS) (hI : IvM z0)  : bCi l yX6_all wsX6_all ({ frames := 0, cells := 0, slots := 0, locals := 0 }) D cy 23 (enM cy) q z0 [.ref (q 0)] (fun v z => jJ IvM 0 0 0 z0 z ∧ iv 0 1023 v ∧ (v = allF z0)) := by
  refine hM_i cX6_all (by decide) rfl (own := RX6) rfl hq (Nat.le_of_ble_eq_true rfl) ?_
  intro p e s m args below meth c Q ls H locs hx hb hml hown hts hK hZ hH hl hret
  have hl : lv_has ls 1 [(0, .ref (q 0))] := hl
  have hJ : jJ IvM 0 0 0 z0 z0 := jJ_rf _ _ _ hI
  refine lv_iconst (v := 1) hx hb dX6_all_0 (by decide) ?_
  refine lv_aload_n hx hb dX6_all_1 rfl (lv_at hl 0 rfl) ?_
  refine b_get (ci := 6) (C := RX6) (T := TX6) (Nf := 29) (v := .int (z0.1 0)) hx hb hts in_X6_all_X6 hown hK hH 0 (by decide) rfl rfl 0 (by decide) (hts (.fieldLink RX6 85 "StationLineModel" "tasks" "I") (List.mem_of_getElem? (i := 1) rfl)) rfl dX6_all_2 ?_
  have i4 := IvM_s0 hJ.1
  refine lv_ishl hx hb dX6_all_5 ?_
  have i5 : iv 1 1024 ((1 : Int32) <<< ((z0.1 0) &&& 31)) := (iv_bitA i4 (by decide) (by decide))
  refine lv_iconst (v := 1) hx hb dX6_all_6 (by decide) ?_
  refine lv_isub hx hb dX6_all_7 ?_
  have i6 : iv 0 1023 (((1 : Int32) <<< ((z0.1 0) &&& 31)) - 1) := (iv_sub i5 (iv_lit (n := 1) 1 (by decide)) (by decide) (by decide) (by decide) (by decide))
  have e6 : (((1 : Int32) <<< ((z0.1 0) &&& 31)) - 1).toInt = ((1 : Int32) <<< ((z0.1 0) &&& 31)).toInt - 1 := ((iv_subE i5 (iv_lit (n := 1) 1 (by decide)) (by decide) (by decide)).trans rfl)
  exact hret _ z0 H locs _ _ ⟨hJ, i6, rfl⟩ hH dX6_all_8
set_option maxHeartbeats 4000000 in
set_option maxRecDepth 100000 in
theorem g_X6_task_0 (l : Launch) (D : va_G) (cy : Nat → ClassId) (q : Nat → Nat) (hq : bJ 23 q) (z0 : zS) (hI : IvM z0)  : bCi l yX6_task wsX6_task ({ frames := 0, cells := 0, slots := 0, locals := 0 }) D cy 23 (enM cy) q z0 [.ref (q 0)] (fun v z => jJ IvM 1 122 0 z0 z ∧ iv (-2) 9 v ∧ (TaskP (z0.1 0) v (z.1 0)) ∧ (TkR (z0.1 0) (z0.2.1 3) (z.2.1 3) ∧ TkR (z0.1 0) (z0.2.1 5) (z.2.1 5)) ∧ (TkT (z0.1 0) (fun a b => z0.2.1 1 (3 * b + a)) (fun a b => z.2.1 1 (3 * b + a))) ∧ (TkM (z0.1 0) (fun x y => z0.2.1 4 (10 * x + y)) (fun x y => z.2.1 4 (10 * x + y)))) := by
  refine hM_i cX6_task (by decide) rfl (own := RX6) rfl hq (Nat.le_of_ble_eq_true rfl) ?_
  intro p e s m args below meth c Q ls H locs hx hb hml hown hts hK hZ hH hl hret
  have hl : lv_has ls 3 [(0, .ref (q 0))] := hl
  have hJ : jJ IvM 1 122 0 z0 z0 := jJ_rf _ _ _ hI
  have e00 : (0 : Int32).toInt = 0 := (by decide); have e01 : (1 : Int32).toInt = 1 := (by decide); have e02 : (2 : Int32).toInt = 2 := (by decide); have e03 : (3 : Int32).toInt = 3 := (by decide); have e010 : (10 : Int32).toInt = 10 := (by decide)
  have HL19 : ∀ (n : Nat) (x1_19 : Int32) (x2_19 : Int32) (z_19 : zS) (H : Heap) (locs : List Loc) (ls : Array Slot), iv 0 9 x1_19 → iv 0 3 x2_19 → iv 0 9 (z_19.1 0) → (z_19.1 0 = z0.1 0 ∧ x1_19 = z0.1 0 ∧ ¬ z0.1 0 = 10 ∧ z_19.2.1 3 = z0.2.1 3 ∧ z_19.2.1 5 = z0.2.1 5 ∧ TRd (z0.2.1 1) (z_19.2.1 1) (z0.1 0).toNatClampNeg (x2_19 : Int32).toNatClampNeg ∧ z_19.2.1 4 = z0.2.1 4) → jJ IvM 1 122 0 z0 z_19 → bH D 23 (enM cy) q z_19 s.heap H locs → lv_has ls 3 [(0, .ref (q 0)), (1, .int x1_19), (2, .int x2_19)] → (3 - x2_19.toInt).toNat = n → W p l e ({ frames := 0, cells := 0, slots := 0, locals := 0 }) s m args below meth c H locs 0 0 Q (F0 m 19 ls []) := by
    intro n19
    induction n19 using Nat.strongRecOn with
    | ind n19 ih19 =>
      intro x1_19 x2_19 z_19 H locs ls h1_19 h2_19 gh0_19 ex_19 hJ hH hl hn19
      have := h1_19.1; have := h1_19.2; have := h2_19.1; have := h2_19.2; have := gh0_19.1; have := gh0_19.2
      have HL64 : ∀ (n : Nat) (x2_64 : Int32) (z_64 : zS) (H : Heap) (locs : List Loc) (ls : Array Slot), iv 0 10 x2_64 → iv 0 9 (z_64.1 0) → (z_64.1 0 = z0.1 0 ∧ x1_19 = z0.1 0 ∧ ¬ z0.1 0 = 10 ∧ z_64.2.1 3 = upd (z0.2.1 3) (z0.1 0).toNatClampNeg 0 ∧ z_64.2.1 5 = upd (z0.2.1 5) (z0.1 0).toNatClampNeg 0 ∧ TRd (z0.2.1 1) (z_64.2.1 1) (z0.1 0).toNatClampNeg 3 ∧ PRd (z0.2.1 4) (z_64.2.1 4) (z0.1 0).toNatClampNeg (x2_64 : Int32).toNatClampNeg) → jJ IvM 1 122 0 z0 z_64 → bH D 23 (enM cy) q z_64 s.heap H locs → lv_has ls 3 [(0, .ref (q 0)), (1, .int x1_19), (2, .int x2_64)] → (10 - x2_64.toInt).toNat = n → W p l e ({ frames := 0, cells := 0, slots := 0, locals := 0 }) s m args below meth c H locs 0 0 Q (F0 m 64 ls []) := by
        intro n64
        induction n64 using Nat.strongRecOn with
        | ind n64 ih64 =>
          intro x2_64 z_64 H locs ls h2_64 gh0_64 ex_64 hJ hH hl hn64
          have := h2_64.1; have := h2_64.2; have := gh0_64.1; have := gh0_64.2
          refine lv_iload_n hx hb dX6_task_64 rfl (lv_at hl 2 rfl) ?_
          refine lv_bipush (v := 10) hx hb dX6_task_65 (by decide) ?_
          refine lv_icmp_ge (tgt := 100) hx hb dX6_task_67 (by decide) (fun c120 => ?_) (fun c120 => ?_)
          · skip
            have r120 := (iv_Le c120)
            have k121b : iv 10 10 x2_64 := iv_ler (iv_Le c120) (iv_lit (n := 10) 10 (by decide)) h2_64
            refine lv_aload_n hx hb dX6_task_100 rfl (lv_at hl 0 rfl) ?_
            refine lv_dup hx hb dX6_task_101 rfl ?_
            refine b_get (ci := 6) (C := RX6) (T := TX6) (Nf := 29) (v := .int (z_64.1 0)) hx hb hts in_X6_task_X6 hown hK hH 0 (by decide) rfl rfl 0 (by decide) (hts (.fieldLink RX6 85 "StationLineModel" "tasks" "I") (List.mem_of_getElem? (i := 1) rfl)) rfl dX6_task_102 ?_
            have := gh0_64.1; have := gh0_64.2
            refine lv_iconst (v := 1) hx hb dX6_task_105 (by decide) ?_
            refine lv_iadd hx hb dX6_task_106 ?_
            have i122 : iv 1 10 ((z_64.1 0) + 1) := (iv_add gh0_64 (iv_lit (n := 1) 1 (by decide)) (by decide) (by decide) (by decide) (by decide))
            have e122 : ((z_64.1 0) + 1).toInt = (z_64.1 0).toInt + 1 := ((iv_addE gh0_64 (iv_lit (n := 1) 1 (by decide)) (by decide) (by decide)).trans rfl)
            have := i122.1; have := i122.2
            refine b_put (ci := 6) (C := RX6) (T := TX6) (Nf := 29) (v := .int ((z_64.1 0) + 1)) (ty := .int) hx hb hts in_X6_task_X6 tyX6 tyX6_ok nmX6 hown hK hH 0 (by decide) rfl rfl 0 (by decide) (hts (.fieldLink RX6 85 "StationLineModel" "tasks" "I") (List.mem_of_getElem? (i := 1) rfl)) rfl (by decide +kernel) rfl rfl (Nat.le_of_ble_eq_true rfl) (upS z_64 0 ((z_64.1 0) + 1)) rfl (enM_S0 _ _ _ _) dX6_task_107 (fun H locs hH => ?_)
            obtain ⟨z123, hz123⟩ : ∃ w : zS, w = upS z_64 0 ((z_64.1 0) + 1) := ⟨_, rfl⟩
            rw [← hz123] at hH
            have hJ : jJ IvM 1 122 0 z0 z123 := by rw [hz123]; exact jJ_S hJ (by decide) (IvM_S0 hJ.1 (iv_w i122 (by decide) (by decide)))
            have g124 : iv 1 10 (z123.1 0) := by rw [hz123]; exact i122
            refine lv_iload_n hx hb dX6_task_110 rfl (lv_at hl 1 rfl) ?_
            exact hret _ z123 H locs _ _ ⟨hJ, (iv_w h1_19 (by decide) (by decide)), ⟨fun q => absurd q ex_64.2.2.1, fun _ => ⟨ex_64.2.1, by rw [hz123]; exact congrArg (· + 1) ex_64.1⟩⟩, ⟨⟨fun q => absurd q ex_64.2.2.1, fun _ => (((show z123.2.1 3 = z_64.2.1 3 by rw [hz123]; first | rfl | exact upA_n (by omega)))).trans ex_64.2.2.2.1⟩, ⟨fun q => absurd q ex_64.2.2.1, fun _ => (((show z123.2.1 5 = z_64.2.1 5 by rw [hz123]; first | rfl | exact upA_n (by omega)))).trans ex_64.2.2.2.2.1⟩⟩, (TkT_m (x := 3) (by rw [((show z123.2.1 1 = z_64.2.1 1 by rw [hz123]; first | rfl | exact upA_n (by omega)))]; exact ex_64.2.2.2.2.2.1) rfl ex_64.2.2.1), (TkM_m (by rw [((show z123.2.1 4 = z_64.2.1 4 by rw [hz123]; first | rfl | exact upA_n (by omega)))]; exact ex_64.2.2.2.2.2.2) (by have h9 := k121b; have := h9.1; have := h9.2; have := iv_nat h9 (by decide); omega) ex_64.2.2.1)⟩ hH dX6_task_111
          · skip
            have r120 := (iv_nLe c120)
            have k125a : iv 0 9 x2_64 := iv_ltl (iv_nLe c120) h2_64 (iv_lit (n := 10) 10 (by decide)) (by decide)
            refine lv_aload_n hx hb dX6_task_70 rfl (lv_at hl 0 rfl) ?_
            refine b_get (ci := 6) (C := RX6) (T := TX6) (Nf := 29) (v := .ref (q 4)) hx hb hts in_X6_task_X6 hown hK hH 0 (by decide) rfl rfl 4 (by decide) (hts (.fieldLink RX6 19 "StationLineModel" "pairs" "[I") (List.mem_of_getElem? (i := 6) rfl)) rfl dX6_task_71 ?_
            refine lv_bipush (v := 10) hx hb dX6_task_74 (by decide) ?_
            refine lv_iload_n hx hb dX6_task_76 rfl (lv_at hl 1 rfl) ?_
            refine lv_imul hx hb dX6_task_77 ?_
            have i126 : iv 0 90 ((10 : Int32) * x1_19) := (iv_mul (iv_lit (n := 10) 10 (by decide)) h1_19 (by decide) (by decide) (by decide) (by decide) (by decide))
            refine lv_iload_n hx hb dX6_task_78 rfl (lv_at hl 2 rfl) ?_
            refine lv_iadd hx hb dX6_task_79 ?_
            have i127 : iv 0 99 (((10 : Int32) * x1_19) + x2_64) := (iv_add i126 k125a (by decide) (by decide) (by decide) (by decide))
            refine lv_iconst (v := 0) hx hb dX6_task_80 (by decide) ?_
            refine b_iast hx hb hK hH 4 (by decide) rfl (iv_in i127 (by decide) (by decide)) (upA z_64 4 (upd (z_64.2.1 4) (((10 : Int32) * x1_19) + x2_64 : Int32).toNatClampNeg 0)) rfl (enM_A _ _ _ _ _) dX6_task_81 (fun H locs hH => ?_)
            obtain ⟨z128, hz128⟩ : ∃ w : zS, w = upA z_64 4 (upd (z_64.2.1 4) (((10 : Int32) * x1_19) + x2_64 : Int32).toNatClampNeg 0) := ⟨_, rfl⟩
            rw [← hz128] at hH
            have hJ : jJ IvM 1 122 0 z0 z128 := by rw [hz128]; exact jJ_A hJ (by decide) (IvM_A hJ.1 (by decide))
            have g129 : iv 0 9 (z128.1 0) := by rw [hz128]; exact gh0_64
            refine lv_aload_n hx hb dX6_task_82 rfl (lv_at hl 0 rfl) ?_
            refine b_get (ci := 6) (C := RX6) (T := TX6) (Nf := 29) (v := .ref (q 4)) hx hb hts in_X6_task_X6 hown hK hH 0 (by decide) rfl rfl 4 (by decide) (hts (.fieldLink RX6 19 "StationLineModel" "pairs" "[I") (List.mem_of_getElem? (i := 6) rfl)) rfl dX6_task_83 ?_
            refine lv_bipush (v := 10) hx hb dX6_task_86 (by decide) ?_
            refine lv_iload_n hx hb dX6_task_88 rfl (lv_at hl 2 rfl) ?_
            refine lv_imul hx hb dX6_task_89 ?_
            have i130 : iv 0 90 ((10 : Int32) * x2_64) := (iv_mul (iv_lit (n := 10) 10 (by decide)) k125a (by decide) (by decide) (by decide) (by decide) (by decide))
            refine lv_iload_n hx hb dX6_task_90 rfl (lv_at hl 1 rfl) ?_
            refine lv_iadd hx hb dX6_task_91 ?_
            have i131 : iv 0 99 (((10 : Int32) * x2_64) + x1_19) := (iv_add i130 h1_19 (by decide) (by decide) (by decide) (by decide))
            refine lv_iconst (v := 0) hx hb dX6_task_92 (by decide) ?_
            refine b_iast hx hb hK hH 4 (by decide) rfl (iv_in i131 (by decide) (by decide)) (upA z128 4 (upd (z128.2.1 4) (((10 : Int32) * x2_64) + x1_19 : Int32).toNatClampNeg 0)) rfl (enM_A _ _ _ _ _) dX6_task_93 (fun H locs hH => ?_)
            obtain ⟨z132, hz132⟩ : ∃ w : zS, w = upA z128 4 (upd (z128.2.1 4) (((10 : Int32) * x2_64) + x1_19 : Int32).toNatClampNeg 0) := ⟨_, rfl⟩
            rw [← hz132] at hH
            have hJ : jJ IvM 1 122 0 z0 z132 := by rw [hz132]; exact jJ_A hJ (by decide) (IvM_A hJ.1 (by decide))
            have g133 : iv 0 9 (z132.1 0) := by rw [hz132]; exact g129
            have j134 : iv 1 10 (x2_64 + 1) := iv_add k125a (iv_lit (n := 1) 1 (by decide)) (by decide) (by decide) (by decide) (by decide)
            have e134 : (x2_64 + 1).toInt = x2_64.toInt + 1 := (iv_addE k125a (iv_lit (n := 1) 1 (by decide)) (by decide) (by decide)).trans rfl
            refine lv_iinc (v := (x2_64 + 1)) (lv' := [(2, .int (x2_64 + 1)), (0, .ref (q 0)), (1, .int x1_19)]) hx hb dX6_task_94 hl (k := 2) rfl rfl (by decide) rfl (fun ls hl => ?_)
            refine lv_goto (tgt := 64) hx hb dX6_task_97 (by decide) ?_
            exact ih64 _ (ms_up e134 j134.2 hn64) (x2_64 + 1) z132 H locs ls (iv_w j134 (by decide) (by decide)) g133 ⟨(((show z132.1 0 = z128.1 0 by rw [hz132]; first | rfl | exact upA_n (by omega))).trans ((show z128.1 0 = z_64.1 0 by rw [hz128]; first | rfl | exact upA_n (by omega)))).trans ex_64.1, ex_64.2.1, ex_64.2.2.1, ((((show z132.2.1 3 = z128.2.1 3 by rw [hz132]; first | rfl | exact upA_n (by omega))).trans ((show z128.2.1 3 = z_64.2.1 3 by rw [hz128]; first | rfl | exact upA_n (by omega))))).trans ex_64.2.2.2.1, ((((show z132.2.1 5 = z128.2.1 5 by rw [hz132]; first | rfl | exact upA_n (by omega))).trans ((show z128.2.1 5 = z_64.2.1 5 by rw [hz128]; first | rfl | exact upA_n (by omega))))).trans ex_64.2.2.2.2.1, (by rw [(((show z132.2.1 1 = z128.2.1 1 by rw [hz132]; first | rfl | exact upA_n (by omega))).trans ((show z128.2.1 1 = z_64.2.1 1 by rw [hz128]; first | rfl | exact upA_n (by omega))))]; exact ex_64.2.2.2.2.2.1), (PRd_st ex_64.2.2.2.2.2.2 (congrArg Int32.toNatClampNeg ex_64.2.1) (by rw [← ex_64.2.1]; have h9 := h1_19; have := h9.2; have := iv_nat h9 (by decide); omega) (by have h9 := k125a; have := h9.2; have := iv_nat h9 (by decide); omega) (ix10 (iv_w h1_19 (by decide) (by decide)) (iv_w k125a (by decide) (by decide))) (ix10 (iv_w k125a (by decide) (by decide)) (iv_w h1_19 (by decide) (by decide))) (show z128.2.1 4 = _ by rw [hz128]; exact upA_e) (show z132.2.1 4 = _ by rw [hz132]; exact upA_e) (by have := iv_nat k125a (by decide); have := iv_nat j134 (by decide); omega))⟩ hJ hH (lv_sub hl [1, 2, 0] rfl) rfl
      refine lv_iload_n hx hb dX6_task_19 rfl (lv_at hl 2 rfl) ?_
      refine lv_iconst (v := 3) hx hb dX6_task_20 (by decide) ?_
      refine lv_icmp_ge (tgt := 41) hx hb dX6_task_21 (by decide) (fun c135 => ?_) (fun c135 => ?_)
      · skip
        have r135 := (iv_Le c135)
        have k136b : iv 3 3 x2_19 := iv_ler (iv_Le c135) (iv_lit (n := 3) 3 (by decide)) h2_19
        refine lv_aload_n hx hb dX6_task_41 rfl (lv_at hl 0 rfl) ?_
        refine b_get (ci := 6) (C := RX6) (T := TX6) (Nf := 29) (v := .ref (q 3)) hx hb hts in_X6_task_X6 hown hK hH 0 (by decide) rfl rfl 3 (by decide) (hts (.fieldLink RX6 16 "StationLineModel" "straight" "[I") (List.mem_of_getElem? (i := 3) rfl)) rfl dX6_task_42 ?_
        refine lv_iload_n hx hb dX6_task_45 rfl (lv_at hl 1 rfl) ?_
        refine lv_iconst (v := 0) hx hb dX6_task_46 (by decide) ?_
        refine b_iast hx hb hK hH 3 (by decide) rfl (iv_in h1_19 (by decide) (by decide)) (upA z_19 3 (upd (z_19.2.1 3) (x1_19 : Int32).toNatClampNeg 0)) rfl (enM_A _ _ _ _ _) dX6_task_47 (fun H locs hH => ?_)
        obtain ⟨z137, hz137⟩ : ∃ w : zS, w = upA z_19 3 (upd (z_19.2.1 3) (x1_19 : Int32).toNatClampNeg 0) := ⟨_, rfl⟩
        rw [← hz137] at hH
        have hJ : jJ IvM 1 122 0 z0 z137 := by rw [hz137]; exact jJ_A hJ (by decide) (IvM_A hJ.1 (by decide))
        have g138 : iv 0 9 (z137.1 0) := by rw [hz137]; exact gh0_19
        refine lv_aload_n hx hb dX6_task_48 rfl (lv_at hl 0 rfl) ?_
        refine b_get (ci := 6) (C := RX6) (T := TX6) (Nf := 29) (v := .ref (q 5)) hx hb hts in_X6_task_X6 hown hK hH 0 (by decide) rfl rfl 5 (by decide) (hts (.fieldLink RX6 22 "StationLineModel" "held" "[I") (List.mem_of_getElem? (i := 4) rfl)) rfl dX6_task_49 ?_
        refine lv_iload_n hx hb dX6_task_52 rfl (lv_at hl 1 rfl) ?_
        refine lv_iconst (v := 0) hx hb dX6_task_53 (by decide) ?_
        refine b_iast hx hb hK hH 5 (by decide) rfl (iv_in h1_19 (by decide) (by decide)) (upA z137 5 (upd (z137.2.1 5) (x1_19 : Int32).toNatClampNeg 0)) rfl (enM_A _ _ _ _ _) dX6_task_54 (fun H locs hH => ?_)
        obtain ⟨z139, hz139⟩ : ∃ w : zS, w = upA z137 5 (upd (z137.2.1 5) (x1_19 : Int32).toNatClampNeg 0) := ⟨_, rfl⟩
        rw [← hz139] at hH
        have hJ : jJ IvM 1 122 0 z0 z139 := by rw [hz139]; exact jJ_A hJ (by decide) (IvM_A hJ.1 (by decide))
        have g140 : iv 0 9 (z139.1 0) := by rw [hz139]; exact g138
        refine lv_aload_n hx hb dX6_task_55 rfl (lv_at hl 0 rfl) ?_
        refine b_get (ci := 6) (C := RX6) (T := TX6) (Nf := 29) (v := .ref (q 6)) hx hb hts in_X6_task_X6 hown hK hH 0 (by decide) rfl rfl 6 (by decide) (hts (.fieldLink RX6 25 "StationLineModel" "hand" "[I") (List.mem_of_getElem? (i := 5) rfl)) rfl dX6_task_56 ?_
        refine lv_iload_n hx hb dX6_task_59 rfl (lv_at hl 1 rfl) ?_
        refine lv_iconst (v := 0) hx hb dX6_task_60 (by decide) ?_
        refine b_iast hx hb hK hH 6 (by decide) rfl (iv_in h1_19 (by decide) (by decide)) (upA z139 6 (upd (z139.2.1 6) (x1_19 : Int32).toNatClampNeg 0)) rfl (enM_A _ _ _ _ _) dX6_task_61 (fun H locs hH => ?_)
        obtain ⟨z141, hz141⟩ : ∃ w : zS, w = upA z139 6 (upd (z139.2.1 6) (x1_19 : Int32).toNatClampNeg 0) := ⟨_, rfl⟩
        rw [← hz141] at hH
        have hJ : jJ IvM 1 122 0 z0 z141 := by rw [hz141]; exact jJ_A hJ (by decide) (IvM_A6 hJ.1 _ (iv_w (iv_lit (n := 0) 0 (by decide)) (by decide) (by decide)))
        have g142 : iv 0 9 (z141.1 0) := by rw [hz141]; exact g140
        refine lv_iconst (v := 0) hx hb dX6_task_62 (by decide) ?_
        refine lv_istore_n (lv' := [(2, .int 0), (0, .ref (q 0)), (1, .int x1_19)]) hx hb dX6_task_63 rfl hl (by decide) rfl (fun ls hl => ?_)
        exact HL64 _ 0 z141 H locs ls (iv_w (iv_lit (n := 0) 0 (by decide)) (by decide) (by decide)) g142 ⟨(((show z141.1 0 = z139.1 0 by rw [hz141]; first | rfl | exact upA_n (by omega))).trans (((show z139.1 0 = z137.1 0 by rw [hz139]; first | rfl | exact upA_n (by omega))).trans ((show z137.1 0 = z_19.1 0 by rw [hz137]; first | rfl | exact upA_n (by omega))))).trans ex_19.1, ex_19.2.1, ex_19.2.2.1, ((((show z141.2.1 3 = z139.2.1 3 by rw [hz141]; first | rfl | exact upA_n (by omega))).trans ((show z139.2.1 3 = z137.2.1 3 by rw [hz139]; first | rfl | exact upA_n (by omega))))).trans ((show z137.2.1 3 = upd (z_19.2.1 3) (x1_19 : Int32).toNatClampNeg 0 by rw [hz137]; exact upA_e).trans (upd_c ((rfl).trans ex_19.2.2.2.1) ex_19.2.1)), (((show z141.2.1 5 = z139.2.1 5 by rw [hz141]; first | rfl | exact upA_n (by omega)))).trans ((show z139.2.1 5 = upd (z137.2.1 5) (x1_19 : Int32).toNatClampNeg 0 by rw [hz139]; exact upA_e).trans (upd_c ((((show z137.2.1 5 = z_19.2.1 5 by rw [hz137]; first | rfl | exact upA_n (by omega)))).trans ex_19.2.2.2.2.1) ex_19.2.1)), (by rw [(((show z141.2.1 1 = z139.2.1 1 by rw [hz141]; first | rfl | exact upA_n (by omega))).trans (((show z139.2.1 1 = z137.2.1 1 by rw [hz139]; first | rfl | exact upA_n (by omega))).trans ((show z137.2.1 1 = z_19.2.1 1 by rw [hz137]; first | rfl | exact upA_n (by omega)))))]; exact (show (3 : Nat) = (x2_19 : Int32).toNatClampNeg by have h9 := k136b; have := h9.1; have := h9.2; have := iv_nat h9 (by decide); omega) ▸ ex_19.2.2.2.2.2.1), (show PRd (z0.2.1 4) (z141.2.1 4) _ (0 : Int32).toNatClampNeg by rw [((((show z141.2.1 4 = z139.2.1 4 by rw [hz141]; first | rfl | exact upA_n (by omega))).trans (((show z139.2.1 4 = z137.2.1 4 by rw [hz139]; first | rfl | exact upA_n (by omega))).trans ((show z137.2.1 4 = z_19.2.1 4 by rw [hz137]; first | rfl | exact upA_n (by omega)))))).trans ex_19.2.2.2.2.2.2]; exact PRd_0)⟩ hJ hH (lv_sub hl [1, 2, 0] rfl) rfl
      · skip
        have r135 := (iv_nLe c135)
        have k143a : iv 0 2 x2_19 := iv_ltl (iv_nLe c135) h2_19 (iv_lit (n := 3) 3 (by decide)) (by decide)
        refine lv_aload_n hx hb dX6_task_24 rfl (lv_at hl 0 rfl) ?_
        refine b_get (ci := 6) (C := RX6) (T := TX6) (Nf := 29) (v := .ref (q 1)) hx hb hts in_X6_task_X6 hown hK hH 0 (by decide) rfl rfl 1 (by decide) (hts (.fieldLink RX6 7 "StationLineModel" "times" "[I") (List.mem_of_getElem? (i := 2) rfl)) rfl dX6_task_25 ?_
        refine lv_iconst (v := 3) hx hb dX6_task_28 (by decide) ?_
        refine lv_iload_n hx hb dX6_task_29 rfl (lv_at hl 1 rfl) ?_
        refine lv_imul hx hb dX6_task_30 ?_
        have i144 : iv 0 27 ((3 : Int32) * x1_19) := (iv_mul (iv_lit (n := 3) 3 (by decide)) h1_19 (by decide) (by decide) (by decide) (by decide) (by decide))
        refine lv_iload_n hx hb dX6_task_31 rfl (lv_at hl 2 rfl) ?_
        refine lv_iadd hx hb dX6_task_32 ?_
        have i145 : iv 0 29 (((3 : Int32) * x1_19) + x2_19) := (iv_add i144 k143a (by decide) (by decide) (by decide) (by decide))
        refine lv_iconst (v := 1) hx hb dX6_task_33 (by decide) ?_
        refine b_iast hx hb hK hH 1 (by decide) rfl (iv_in i145 (by decide) (by decide)) (upA z_19 1 (upd (z_19.2.1 1) (((3 : Int32) * x1_19) + x2_19 : Int32).toNatClampNeg 1)) rfl (enM_A _ _ _ _ _) dX6_task_34 (fun H locs hH => ?_)
        obtain ⟨z146, hz146⟩ : ∃ w : zS, w = upA z_19 1 (upd (z_19.2.1 1) (((3 : Int32) * x1_19) + x2_19 : Int32).toNatClampNeg 1) := ⟨_, rfl⟩
        rw [← hz146] at hH
        have hJ : jJ IvM 1 122 0 z0 z146 := by rw [hz146]; exact jJ_A hJ (by decide) (IvM_A1 hJ.1 _ (iv_w (iv_lit (n := 1) 1 (by decide)) (by decide) (by decide)))
        have g147 : iv 0 9 (z146.1 0) := by rw [hz146]; exact gh0_19
        have j148 : iv 1 3 (x2_19 + 1) := iv_add k143a (iv_lit (n := 1) 1 (by decide)) (by decide) (by decide) (by decide) (by decide)
        have e148 : (x2_19 + 1).toInt = x2_19.toInt + 1 := (iv_addE k143a (iv_lit (n := 1) 1 (by decide)) (by decide) (by decide)).trans rfl
        refine lv_iinc (v := (x2_19 + 1)) (lv' := [(2, .int (x2_19 + 1)), (0, .ref (q 0)), (1, .int x1_19)]) hx hb dX6_task_35 hl (k := 2) rfl rfl (by decide) rfl (fun ls hl => ?_)
        refine lv_goto (tgt := 19) hx hb dX6_task_38 (by decide) ?_
        exact ih19 _ (ms_up e148 j148.2 hn19) x1_19 (x2_19 + 1) z146 H locs ls h1_19 (iv_w j148 (by decide) (by decide)) g147 ⟨((show z146.1 0 = z_19.1 0 by rw [hz146]; first | rfl | exact upA_n (by omega))).trans ex_19.1, ex_19.2.1, ex_19.2.2.1, (((show z146.2.1 3 = z_19.2.1 3 by rw [hz146]; first | rfl | exact upA_n (by omega)))).trans ex_19.2.2.2.1, (((show z146.2.1 5 = z_19.2.1 5 by rw [hz146]; first | rfl | exact upA_n (by omega)))).trans ex_19.2.2.2.2.1, (by rw [hz146, upA_e]; exact TRd_st ex_19.2.2.2.2.2.1 (ix3 (iv_w h1_19 (by decide) (by decide)) (iv_w k143a (by decide) (by decide))) (by have h9 := k143a; have := h9.2; have := iv_nat h9 (by decide); omega) (congrArg Int32.toNatClampNeg ex_19.2.1) (by have := iv_nat k143a (by decide); have := iv_nat j148 (by decide); omega)), (((show z146.2.1 4 = z_19.2.1 4 by rw [hz146]; first | rfl | exact upA_n (by omega)))).trans ex_19.2.2.2.2.2.2⟩ hJ hH (lv_sub hl [1, 2, 0] rfl) rfl
  refine lv_aload_n hx hb dX6_task_0 rfl (lv_at hl 0 rfl) ?_
  refine b_get (ci := 6) (C := RX6) (T := TX6) (Nf := 29) (v := .int (z0.1 0)) hx hb hts in_X6_task_X6 hown hK hH 0 (by decide) rfl rfl 0 (by decide) (hts (.fieldLink RX6 85 "StationLineModel" "tasks" "I") (List.mem_of_getElem? (i := 1) rfl)) rfl dX6_task_1 ?_
  have i149 := IvM_s0 hJ.1
  have := i149.1; have := i149.2
  refine lv_bipush (v := 10) hx hb dX6_task_4 (by decide) ?_
  refine lv_icmp_ne (tgt := 12) hx hb dX6_task_6 (by decide) (fun c150 => ?_) (fun c150 => ?_)
  · skip
    have r150 := (iv_nEq c150)
    have k151a : iv 0 9 (z0.1 0) := iv_neHi (iv_nEq c150) i149 (by decide) (by decide)
    refine lv_aload_n hx hb dX6_task_12 rfl (lv_at hl 0 rfl) ?_
    refine b_get (ci := 6) (C := RX6) (T := TX6) (Nf := 29) (v := .int (z0.1 0)) hx hb hts in_X6_task_X6 hown hK hH 0 (by decide) rfl rfl 0 (by decide) (hts (.fieldLink RX6 85 "StationLineModel" "tasks" "I") (List.mem_of_getElem? (i := 1) rfl)) rfl dX6_task_13 ?_
    have := k151a.1; have := k151a.2
    refine lv_istore_n (lv' := [(1, .int (z0.1 0)), (0, .ref (q 0))]) hx hb dX6_task_16 rfl hl (by decide) rfl (fun ls hl => ?_)
    refine lv_iconst (v := 0) hx hb dX6_task_17 (by decide) ?_
    refine lv_istore_n (lv' := [(2, .int 0), (1, .int (z0.1 0)), (0, .ref (q 0))]) hx hb dX6_task_18 rfl hl (by decide) rfl (fun ls hl => ?_)
    exact HL19 _ (z0.1 0) 0 z0 H locs ls k151a (iv_w (iv_lit (n := 0) 0 (by decide)) (by decide) (by decide)) k151a ⟨rfl, rfl, c150, rfl, rfl, TRd_0, rfl⟩ hJ hH (lv_sub hl [2, 1, 0] rfl) rfl
  · skip
    have r150 := (iv_Eq c150)
    have k152a : iv 10 10 (z0.1 0) := iv_eql (iv_Eq c150) i149 (iv_lit (n := 10) 10 (by decide)) (by decide) (by decide)
    refine lv_bipush (v := (-2)) hx hb dX6_task_9 (by decide) ?_
    exact hret _ z0 H locs _ _ ⟨hJ, (iv_w (iv_lit (n := (-2)) (-2) (by decide)) (by decide) (by decide)), ⟨fun _ => ⟨rfl, rfl⟩, fun q => absurd c150 q⟩, ⟨⟨fun _ => rfl, fun q => absurd c150 q⟩, ⟨fun _ => rfl, fun q => absurd c150 q⟩⟩, ⟨fun _ _ _ _ _ => rfl, fun q => absurd c150 q⟩, ⟨fun _ _ _ _ _ => rfl, fun q => absurd c150 q⟩⟩ hH dX6_task_11
set_option maxHeartbeats 4000000 in
set_option maxRecDepth 100000 in
theorem g_X6_isMake (l : Launch) (D : va_G) (cy : Nat → ClassId) (q : Nat → Nat) (hq : bJ 23 q) (z0 : zS) (hI : IvM z0) (p0 : Int32) : bCi l yX6_isMake wsX6_isMake ({ frames := 0, cells := 0, slots := 0, locals := 0 }) D cy 23 (enM cy) q z0 [.int p0] (fun v z => jJ IvM 0 0 0 z0 z ∧ iv 0 1 v ∧ (v = 0 ∨ iv 0 2 p0) ∧ (v = 0 ↔ ¬ iv 0 2 p0)) := by
  refine hM_z cX6_isMake (by decide) rfl (own := RX6) rfl hq (Nat.le_of_ble_eq_true rfl) ?_
  intro p e s m args below meth c Q ls H locs hx hb hml hown hts hK hZ hH hl hret
  have hl : lv_has ls 1 [(0, .int p0)] := hl
  have hJ : jJ IvM 0 0 0 z0 z0 := jJ_rf _ _ _ hI
  have e00 : (0 : Int32).toInt = 0 := (by decide); have e01 : (1 : Int32).toInt = 1 := (by decide); have e02 : (2 : Int32).toInt = 2 := (by decide); have e03 : (3 : Int32).toInt = 3 := (by decide); have e010 : (10 : Int32).toInt = 10 := (by decide)
  have e4 : (4 : Int32).toInt = 4 := (by decide)
  refine lv_iload_n hx hb dX6_isMake_0 rfl (lv_at hl 0 rfl) ?_
  refine lv_if_lt (tgt := 13) hx hb dX6_isMake_1 (by decide) (fun c7 => ?_) (fun c7 => ?_)
  · skip
    have r7 := (iv_Lt c7)
    have k8a : iv (-2147483648) (-1) p0 := iv_ltl (iv_Lt c7) (iv_all p0) (iv_lit (n := 0) 0 (by decide)) (by decide)
    refine lv_iconst (v := 0) hx hb dX6_isMake_13 (by decide) ?_
    exact hret _ z0 H locs _ _ (iv_w (iv_lit (n := 0) 0 (by decide)) (by decide) (by decide)) ⟨hJ, (iv_w (iv_lit (n := 0) 0 (by decide)) (by decide) (by decide)), Or.inl rfl, ⟨fun _ q => (by have := q.1; have := q.2; omega), fun _ => rfl⟩⟩ hH dX6_isMake_14
  · skip
    have r7 := (iv_nLt c7)
    have k9b : iv 0 2147483647 p0 := iv_ler (iv_nLt c7) (iv_lit (n := 0) 0 (by decide)) (iv_all p0)
    refine lv_iload_n hx hb dX6_isMake_4 rfl (lv_at hl 0 rfl) ?_
    refine lv_iconst (v := 3) hx hb dX6_isMake_5 (by decide) ?_
    refine lv_icmp_ge (tgt := 13) hx hb dX6_isMake_6 (by decide) (fun c10 => ?_) (fun c10 => ?_)
    · skip
      have r10 := (iv_Le c10)
      have k11b : iv 3 2147483647 p0 := iv_ler (iv_Le c10) (iv_lit (n := 3) 3 (by decide)) k9b
      refine lv_iconst (v := 0) hx hb dX6_isMake_13 (by decide) ?_
      exact hret _ z0 H locs _ _ (iv_w (iv_lit (n := 0) 0 (by decide)) (by decide) (by decide)) ⟨hJ, (iv_w (iv_lit (n := 0) 0 (by decide)) (by decide) (by decide)), Or.inl rfl, ⟨fun _ q => (by have := q.1; have := q.2; omega), fun _ => rfl⟩⟩ hH dX6_isMake_14
    · skip
      have r10 := (iv_nLe c10)
      have k12a : iv 0 2 p0 := iv_ltl (iv_nLe c10) k9b (iv_lit (n := 3) 3 (by decide)) (by decide)
      refine lv_iconst (v := 1) hx hb dX6_isMake_9 (by decide) ?_
      refine lv_goto (tgt := 14) hx hb dX6_isMake_10 (by decide) ?_
      exact hret _ z0 H locs _ _ (iv_w (iv_lit (n := 1) 1 (by decide)) (by decide) (by decide)) ⟨hJ, (iv_w (iv_lit (n := 1) 1 (by decide)) (by decide) (by decide)), Or.inr (iv_w k12a (by decide) (by decide)), ⟨fun q => absurd q (by decide), fun q => absurd (show iv 0 2 p0 from ⟨by omega, by omega⟩) q⟩⟩ hH dX6_isMake_14
set_option maxHeartbeats 4000000 in
set_option maxRecDepth 100000 in
theorem g_X6_time_0 (l : Launch) (D : va_G) (cy : Nat → ClassId) (q : Nat → Nat) (hq : bJ 23 q) (z0 : zS) (hI : IvM z0) (p0 : Int32) (p1 : Int32) (p2 : Int32) : bCi l yX6_time wsX6_time ({ frames := 1, cells := 0, slots := 0, locals := 21 }) D cy 23 (enM cy) q z0 [.ref (q 0), .int p0, .int p1, .int p2] (fun v z => jJ IvM 0 2 0 z0 z ∧ iv (-2) 100 v ∧ (TimeP (z0.1 0) (fun a b => z0.2.1 1 (3 * b + a)) p0 p1 p2 v (fun a b => z.2.1 1 (3 * b + a)))) := by
  refine hM_i cX6_time (by decide) rfl (own := RX6) rfl hq (Nat.le_of_ble_eq_true rfl) ?_
  intro p e s m args below meth c Q ls H locs hx hb hml hown hts hK hZ hH hl hret
  have hl : lv_has ls 5 [(0, .ref (q 0)), (1, .int p0), (2, .int p1), (3, .int p2)] := hl
  have hJ : jJ IvM 0 2 0 z0 z0 := jJ_rf _ _ _ hI
  have e00 : (0 : Int32).toInt = 0 := (by decide); have e01 : (1 : Int32).toInt = 1 := (by decide); have e02 : (2 : Int32).toInt = 2 := (by decide); have e03 : (3 : Int32).toInt = 3 := (by decide); have e010 : (10 : Int32).toInt = 10 := (by decide)
  have e100 : (100 : Int32).toInt = 100 := (by decide)
  refine lv_aload_n hx hb dX6_time_0 rfl (lv_at hl 0 rfl) ?_
  refine lv_iload_n hx hb dX6_time_1 rfl (lv_at hl 1 rfl) ?_
  refine b_calli (As := [.int p0]) (rest := []) ⟨hx, hb, hml, hown, hts⟩ 0 6 (g_X6_isTask_0 l D cy q hH.2.1 z0 hJ.1 p0) (cwV 1 hts gX6_time_X6_isTask rfl rfl rfl (by decide +kernel) ⟨Nat.le_of_ble_eq_true rfl, Nat.le_of_ble_eq_true rfl⟩) hK hZ hH (by decide) rfl rfl rfl hl.1 rfl (Nat.le_of_ble_eq_true rfl) ⟨Nat.zero_le _, Nat.zero_le _⟩ dX6_time_2 (fun w23 z23 H locs hp hH => ?_)
  rw [Ag_0 hp.1.2] at hH
  have i23 := hp.2.1
  have := i23.1; have := i23.2
  have tr23_0 := hp.2.2.1
  have f23_0 := hp.2.2.2.1
  have f23_1 := hp.2.2.2.2
  refine lv_if_eq (tgt := 26) hx hb dX6_time_5 (by decide) (fun c24 => ?_) (fun c24 => ?_)
  · skip
    have r24 := (iv_Eq c24)
    have k25a : iv 0 0 w23 := iv_eql (iv_Eq c24) i23 (iv_lit (n := 0) 0 (by decide)) (by decide) (by decide)
    refine lv_bipush (v := (-2)) hx hb dX6_time_26 (by decide) ?_
    exact hret _ z0 H locs _ _ ⟨hJ, (iv_w (iv_lit (n := (-2)) (-2) (by decide)) (by decide) (by decide)), ⟨fun q => absurd q (fun q => absurd ⟨q.1, q.2.1⟩ (f23_1.mp c24)), fun _ => ⟨rfl, fun _ _ _ _ => rfl⟩⟩⟩ hH dX6_time_28
  · skip
    have k26 : iv 0 9 p0 := (tr23_0).resolve_left c24
    have := k26.1; have := k26.2
    have r24 := (iv_nEq c24)
    have k27a : iv 1 1 w23 := iv_neLo (iv_nEq c24) i23 (by decide) (by decide)
    refine lv_iload_n hx hb dX6_time_8 rfl (lv_at hl 2 rfl) ?_
    refine b_stati (As := [.int p1]) (rest := []) ⟨hx, hb, hml, hown, hts⟩ (g_X6_isMake l D cy q hH.2.1 z0 hJ.1 p1) (va_cwS 1 hts gX6_time_X6_isMake rfl rfl rfl (by decide +kernel) ⟨Nat.le_of_ble_eq_true rfl, Nat.le_of_ble_eq_true rfl⟩) hK hZ hH rfl hl.1 rfl (Nat.le_of_ble_eq_true rfl) ⟨Nat.zero_le _, Nat.zero_le _⟩ dX6_time_9 (fun w28 z28 H locs hp hH => ?_)
    rw [Ag_0 hp.1.2] at hH
    have i28 := hp.2.1
    have := i28.1; have := i28.2
    have tr28_0 := hp.2.2.1
    have f28_0 := hp.2.2.2
    refine lv_if_eq (tgt := 26) hx hb dX6_time_12 (by decide) (fun c29 => ?_) (fun c29 => ?_)
    · skip
      have r29 := (iv_Eq c29)
      have k30a : iv 0 0 w28 := iv_eql (iv_Eq c29) i28 (iv_lit (n := 0) 0 (by decide)) (by decide) (by decide)
      refine lv_bipush (v := (-2)) hx hb dX6_time_26 (by decide) ?_
      exact hret _ z0 H locs _ _ ⟨hJ, (iv_w (iv_lit (n := (-2)) (-2) (by decide)) (by decide) (by decide)), ⟨fun q => absurd q (fun q => absurd q.2.2.1 (f28_0.mp c29)), fun _ => ⟨rfl, fun _ _ _ _ => rfl⟩⟩⟩ hH dX6_time_28
    · skip
      have k31 : iv 0 2 p1 := (tr28_0).resolve_left c29
      have := k31.1; have := k31.2
      have r29 := (iv_nEq c29)
      have k32a : iv 1 1 w28 := iv_neLo (iv_nEq c29) i28 (by decide) (by decide)
      refine lv_iload_n hx hb dX6_time_15 rfl (lv_at hl 3 rfl) ?_
      refine lv_iconst (v := 1) hx hb dX6_time_16 (by decide) ?_
      refine lv_icmp_lt (tgt := 26) hx hb dX6_time_17 (by decide) (fun c33 => ?_) (fun c33 => ?_)
      · skip
        have r33 := (iv_Lt c33)
        have k34a : iv (-2147483648) 0 p2 := iv_ltl (iv_Lt c33) (iv_all p2) (iv_lit (n := 1) 1 (by decide)) (by decide)
        refine lv_bipush (v := (-2)) hx hb dX6_time_26 (by decide) ?_
        exact hret _ z0 H locs _ _ ⟨hJ, (iv_w (iv_lit (n := (-2)) (-2) (by decide)) (by decide) (by decide)), ⟨fun q => absurd q (fun q => (by have := q.2.2.2.1; have := q.2.2.2.2; omega)), fun _ => ⟨rfl, fun _ _ _ _ => rfl⟩⟩⟩ hH dX6_time_28
      · skip
        have r33 := (iv_nLt c33)
        have k35b : iv 1 2147483647 p2 := iv_ler (iv_nLt c33) (iv_lit (n := 1) 1 (by decide)) (iv_all p2)
        refine lv_iload_n hx hb dX6_time_20 rfl (lv_at hl 3 rfl) ?_
        refine lv_bipush (v := 100) hx hb dX6_time_21 (by decide) ?_
        refine lv_icmp_le (tgt := 29) hx hb dX6_time_23 (by decide) (fun c36 => ?_) (fun c36 => ?_)
        · skip
          have r36 := (iv_Le c36)
          have k37a : iv 1 100 p2 := iv_lel (iv_Le c36) k35b (iv_lit (n := 100) 100 (by decide))
          refine lv_aload_n hx hb dX6_time_29 rfl (lv_at hl 0 rfl) ?_
          refine b_get (ci := 6) (C := RX6) (T := TX6) (Nf := 29) (v := .ref (q 1)) hx hb hts in_X6_time_X6 hown hK hH 0 (by decide) rfl rfl 1 (by decide) (hts (.fieldLink RX6 7 "StationLineModel" "times" "[I") (List.mem_of_getElem? (i := 1) rfl)) rfl dX6_time_30 ?_
          refine lv_iconst (v := 3) hx hb dX6_time_33 (by decide) ?_
          refine lv_iload_n hx hb dX6_time_34 rfl (lv_at hl 1 rfl) ?_
          refine lv_imul hx hb dX6_time_35 ?_
          have i38 : iv 0 27 ((3 : Int32) * p0) := (iv_mul (iv_lit (n := 3) 3 (by decide)) k26 (by decide) (by decide) (by decide) (by decide) (by decide))
          refine lv_iload_n hx hb dX6_time_36 rfl (lv_at hl 2 rfl) ?_
          refine lv_iadd hx hb dX6_time_37 ?_
          have i39 : iv 0 29 (((3 : Int32) * p0) + p1) := (iv_add i38 k31 (by decide) (by decide) (by decide) (by decide))
          refine b_iald (v := z0.2.1 1 (((3 : Int32) * p0) + p1 : Int32).toNatClampNeg) hx hb hK hH 1 (by decide) rfl (iv_in i39 (by decide) (by decide)) rfl dX6_time_38 ?_
          have i40 : iv 0 100 (z0.2.1 1 (((3 : Int32) * p0) + p1 : Int32).toNatClampNeg) := IvM_a1 hJ.1 _ (b_inlt (iv_in i39 (by decide) (by decide)))
          have := i40.1; have := i40.2
          refine lv_istore (lv' := [(4, .int (z0.2.1 1 (((3 : Int32) * p0) + p1 : Int32).toNatClampNeg)), (0, .ref (q 0)), (1, .int p0), (2, .int p1), (3, .int p2)]) hx hb dX6_time_39 hl (by decide) rfl (fun ls hl => ?_)
          refine lv_aload_n hx hb dX6_time_41 rfl (lv_at hl 1 rfl) ?_
          refine b_get (ci := 6) (C := RX6) (T := TX6) (Nf := 29) (v := .ref (q 1)) hx hb hts in_X6_time_X6 hown hK hH 0 (by decide) rfl rfl 1 (by decide) (hts (.fieldLink RX6 7 "StationLineModel" "times" "[I") (List.mem_of_getElem? (i := 1) rfl)) rfl dX6_time_42 ?_
          refine lv_iconst (v := 3) hx hb dX6_time_45 (by decide) ?_
          refine lv_iload_n hx hb dX6_time_46 rfl (lv_at hl 2 rfl) ?_
          refine lv_imul hx hb dX6_time_47 ?_
          have i41 : iv 0 27 ((3 : Int32) * p0) := (iv_mul (iv_lit (n := 3) 3 (by decide)) k26 (by decide) (by decide) (by decide) (by decide) (by decide))
          refine lv_iload_n hx hb dX6_time_48 rfl (lv_at hl 3 rfl) ?_
          refine lv_iadd hx hb dX6_time_49 ?_
          have i42 : iv 0 29 (((3 : Int32) * p0) + p1) := (iv_add i41 k31 (by decide) (by decide) (by decide) (by decide))
          refine lv_iload_n hx hb dX6_time_50 rfl (lv_at hl 4 rfl) ?_
          refine b_iast hx hb hK hH 1 (by decide) rfl (iv_in i42 (by decide) (by decide)) (upA z0 1 (upd (z0.2.1 1) (((3 : Int32) * p0) + p1 : Int32).toNatClampNeg p2)) rfl (enM_A _ _ _ _ _) dX6_time_51 (fun H locs hH => ?_)
          obtain ⟨z43, hz43⟩ : ∃ w : zS, w = upA z0 1 (upd (z0.2.1 1) (((3 : Int32) * p0) + p1 : Int32).toNatClampNeg p2) := ⟨_, rfl⟩
          rw [← hz43] at hH
          have hJ : jJ IvM 0 2 0 z0 z43 := by rw [hz43]; exact jJ_A hJ (by decide) (IvM_A1 hJ.1 _ (iv_w k37a (by decide) (by decide)))
          refine lv_iload hx hb dX6_time_52 (lv_at hl 0 rfl) ?_
          exact hret _ z43 H locs _ _ ⟨hJ, (iv_w i40 (by decide) (by decide)), ⟨fun _ => ⟨congrArg (z0.2.1 1) (ix3 k26 k31), (by rw [hz43]; exact set_m (ix3 k26 k31) (by have h9 := k31; have := h9.2; have := iv_nat h9 (by decide); omega))⟩, fun q => absurd ⟨(Classical.byContradiction (fun n => c24 (f23_1.mpr n))).1, (Classical.byContradiction (fun n => c24 (f23_1.mpr n))).2, (Classical.byContradiction (fun n => c29 (f28_0.mpr n))), ⟨by omega, by omega⟩⟩ q⟩⟩ hH dX6_time_54
        · skip
          have r36 := (iv_nLe c36)
          have k44b : iv 101 2147483647 p2 := iv_ltr (iv_nLe c36) (iv_lit (n := 100) 100 (by decide)) k35b (by decide)
          refine lv_bipush (v := (-2)) hx hb dX6_time_26 (by decide) ?_
          exact hret _ z0 H locs _ _ ⟨hJ, (iv_w (iv_lit (n := (-2)) (-2) (by decide)) (by decide) (by decide)), ⟨fun q => absurd q (fun q => (by have := q.2.2.2.1; have := q.2.2.2.2; omega)), fun _ => ⟨rfl, fun _ _ _ _ => rfl⟩⟩⟩ hH dX6_time_28
set_option maxHeartbeats 4000000 in
set_option maxRecDepth 100000 in
theorem g_X6_isStation (l : Launch) (D : va_G) (cy : Nat → ClassId) (q : Nat → Nat) (hq : bJ 23 q) (z0 : zS) (hI : IvM z0) (p0 : Int32) : bCi l yX6_isStation wsX6_isStation ({ frames := 0, cells := 0, slots := 0, locals := 0 }) D cy 23 (enM cy) q z0 [.int p0] (fun v z => jJ IvM 0 0 0 z0 z ∧ iv 0 1 v ∧ (v = 0 ∨ iv 0 10 p0) ∧ (v = 0 ↔ ¬ iv 0 10 p0)) := by
  refine hM_z cX6_isStation (by decide) rfl (own := RX6) rfl hq (Nat.le_of_ble_eq_true rfl) ?_
  intro p e s m args below meth c Q ls H locs hx hb hml hown hts hK hZ hH hl hret
  have hl : lv_has ls 1 [(0, .int p0)] := hl
  have hJ : jJ IvM 0 0 0 z0 z0 := jJ_rf _ _ _ hI
  have e00 : (0 : Int32).toInt = 0 := (by decide); have e01 : (1 : Int32).toInt = 1 := (by decide); have e02 : (2 : Int32).toInt = 2 := (by decide); have e03 : (3 : Int32).toInt = 3 := (by decide); have e010 : (10 : Int32).toInt = 10 := (by decide)
  have e4 : (4 : Int32).toInt = 4 := (by decide)
  refine lv_iload_n hx hb dX6_isStation_0 rfl (lv_at hl 0 rfl) ?_
  refine lv_if_lt (tgt := 14) hx hb dX6_isStation_1 (by decide) (fun c7 => ?_) (fun c7 => ?_)
  · skip
    have r7 := (iv_Lt c7)
    have k8a : iv (-2147483648) (-1) p0 := iv_ltl (iv_Lt c7) (iv_all p0) (iv_lit (n := 0) 0 (by decide)) (by decide)
    refine lv_iconst (v := 0) hx hb dX6_isStation_14 (by decide) ?_
    exact hret _ z0 H locs _ _ (iv_w (iv_lit (n := 0) 0 (by decide)) (by decide) (by decide)) ⟨hJ, (iv_w (iv_lit (n := 0) 0 (by decide)) (by decide) (by decide)), Or.inl rfl, ⟨fun _ q => (by have := q.1; have := q.2; omega), fun _ => rfl⟩⟩ hH dX6_isStation_15
  · skip
    have r7 := (iv_nLt c7)
    have k9b : iv 0 2147483647 p0 := iv_ler (iv_nLt c7) (iv_lit (n := 0) 0 (by decide)) (iv_all p0)
    refine lv_iload_n hx hb dX6_isStation_4 rfl (lv_at hl 0 rfl) ?_
    refine lv_bipush (v := 10) hx hb dX6_isStation_5 (by decide) ?_
    refine lv_icmp_gt (tgt := 14) hx hb dX6_isStation_7 (by decide) (fun c10 => ?_) (fun c10 => ?_)
    · skip
      have r10 := (iv_Lt c10)
      have k11b : iv 11 2147483647 p0 := iv_ltr (iv_Lt c10) (iv_lit (n := 10) 10 (by decide)) k9b (by decide)
      refine lv_iconst (v := 0) hx hb dX6_isStation_14 (by decide) ?_
      exact hret _ z0 H locs _ _ (iv_w (iv_lit (n := 0) 0 (by decide)) (by decide) (by decide)) ⟨hJ, (iv_w (iv_lit (n := 0) 0 (by decide)) (by decide) (by decide)), Or.inl rfl, ⟨fun _ q => (by have := q.1; have := q.2; omega), fun _ => rfl⟩⟩ hH dX6_isStation_15
    · skip
      have r10 := (iv_nLt c10)
      have k12a : iv 0 10 p0 := iv_lel (iv_nLt c10) k9b (iv_lit (n := 10) 10 (by decide))
      refine lv_iconst (v := 1) hx hb dX6_isStation_10 (by decide) ?_
      refine lv_goto (tgt := 15) hx hb dX6_isStation_11 (by decide) ?_
      exact hret _ z0 H locs _ _ (iv_w (iv_lit (n := 1) 1 (by decide)) (by decide) (by decide)) ⟨hJ, (iv_w (iv_lit (n := 1) 1 (by decide)) (by decide) (by decide)), Or.inr (iv_w k12a (by decide) (by decide)), ⟨fun q => absurd q (by decide), fun q => absurd (show iv 0 10 p0 from ⟨by omega, by omega⟩) q⟩⟩ hH dX6_isStation_15
set_option maxHeartbeats 4000000 in
set_option maxRecDepth 100000 in
theorem g_X6_free_0 (l : Launch) (D : va_G) (cy : Nat → ClassId) (q : Nat → Nat) (hq : bJ 23 q) (z0 : zS) (hI : IvM z0) (p0 : Int32) (p1 : Int32) : bCi l yX6_free wsX6_free ({ frames := 1, cells := 0, slots := 0, locals := 21 }) D cy 23 (enM cy) q z0 [.ref (q 0), .int p0, .int p1] (fun v z => jJ IvM 0 8 0 z0 z ∧ iv (-2) 1 v ∧ (FrP (z0.1 0) (z0.2.1 3) p0 p1 v (z.2.1 3))) := by
  refine hM_i cX6_free (by decide) rfl (own := RX6) rfl hq (Nat.le_of_ble_eq_true rfl) ?_
  intro p e s m args below meth c Q ls H locs hx hb hml hown hts hK hZ hH hl hret
  have hl : lv_has ls 4 [(0, .ref (q 0)), (1, .int p0), (2, .int p1)] := hl
  have hJ : jJ IvM 0 8 0 z0 z0 := jJ_rf _ _ _ hI
  have e00 : (0 : Int32).toInt = 0 := (by decide); have e01 : (1 : Int32).toInt = 1 := (by decide); have e02 : (2 : Int32).toInt = 2 := (by decide); have e03 : (3 : Int32).toInt = 3 := (by decide); have e010 : (10 : Int32).toInt = 10 := (by decide)
  refine lv_aload_n hx hb dX6_free_0 rfl (lv_at hl 0 rfl) ?_
  refine lv_iload_n hx hb dX6_free_1 rfl (lv_at hl 1 rfl) ?_
  refine b_calli (As := [.int p0]) (rest := []) ⟨hx, hb, hml, hown, hts⟩ 0 6 (g_X6_isTask_0 l D cy q hH.2.1 z0 hJ.1 p0) (cwV 1 hts gX6_free_X6_isTask rfl rfl rfl (by decide +kernel) ⟨Nat.le_of_ble_eq_true rfl, Nat.le_of_ble_eq_true rfl⟩) hK hZ hH (by decide) rfl rfl rfl hl.1 rfl (Nat.le_of_ble_eq_true rfl) ⟨Nat.zero_le _, Nat.zero_le _⟩ dX6_free_2 (fun w23 z23 H locs hp hH => ?_)
  rw [Ag_0 hp.1.2] at hH
  have i23 := hp.2.1
  have := i23.1; have := i23.2
  have tr23_0 := hp.2.2.1
  have f23_0 := hp.2.2.2.1
  have f23_1 := hp.2.2.2.2
  refine lv_if_eq (tgt := 16) hx hb dX6_free_5 (by decide) (fun c24 => ?_) (fun c24 => ?_)
  · skip
    have r24 := (iv_Eq c24)
    have k25a : iv 0 0 w23 := iv_eql (iv_Eq c24) i23 (iv_lit (n := 0) 0 (by decide)) (by decide) (by decide)
    refine lv_bipush (v := (-2)) hx hb dX6_free_16 (by decide) ?_
    exact hret _ z0 H locs _ _ ⟨hJ, (iv_w (iv_lit (n := (-2)) (-2) (by decide)) (by decide) (by decide)), ⟨fun _ => ⟨rfl, rfl⟩, fun q => absurd q (fun q => absurd q.1 (f23_1.mp c24))⟩⟩ hH dX6_free_18
  · skip
    have k26 : iv 0 9 p0 := (tr23_0).resolve_left c24
    have := k26.1; have := k26.2
    have r24 := (iv_nEq c24)
    have k27a : iv 1 1 w23 := iv_neLo (iv_nEq c24) i23 (by decide) (by decide)
    refine lv_aload_n hx hb dX6_free_8 rfl (lv_at hl 0 rfl) ?_
    refine lv_iload_n hx hb dX6_free_9 rfl (lv_at hl 2 rfl) ?_
    refine b_calli (As := [.int p1]) (rest := []) ⟨hx, hb, hml, hown, hts⟩ 0 6 (g_X6_isTask_0 l D cy q hH.2.1 z0 hJ.1 p1) (cwV 1 hts gX6_free_X6_isTask rfl rfl rfl (by decide +kernel) ⟨Nat.le_of_ble_eq_true rfl, Nat.le_of_ble_eq_true rfl⟩) hK hZ hH (by decide) rfl rfl rfl hl.1 rfl (Nat.le_of_ble_eq_true rfl) ⟨Nat.zero_le _, Nat.zero_le _⟩ dX6_free_10 (fun w28 z28 H locs hp hH => ?_)
    rw [Ag_0 hp.1.2] at hH
    have i28 := hp.2.1
    have := i28.1; have := i28.2
    have tr28_0 := hp.2.2.1
    have f28_0 := hp.2.2.2.1
    have f28_1 := hp.2.2.2.2
    refine lv_if_ne (tgt := 19) hx hb dX6_free_13 (by decide) (fun c29 => ?_) (fun c29 => ?_)
    · skip
      have k30 : iv 0 9 p1 := (tr28_0).resolve_left c29
      have := k30.1; have := k30.2
      have r29 := (iv_nEq c29)
      have k31a : iv 1 1 w28 := iv_neLo (iv_nEq c29) i28 (by decide) (by decide)
      refine lv_aload_n hx hb dX6_free_19 rfl (lv_at hl 0 rfl) ?_
      refine b_get (ci := 6) (C := RX6) (T := TX6) (Nf := 29) (v := .ref (q 3)) hx hb hts in_X6_free_X6 hown hK hH 0 (by decide) rfl rfl 3 (by decide) (hts (.fieldLink RX6 16 "StationLineModel" "straight" "[I") (List.mem_of_getElem? (i := 1) rfl)) rfl dX6_free_20 ?_
      refine lv_iload_n hx hb dX6_free_23 rfl (lv_at hl 2 rfl) ?_
      refine b_iald (v := z0.2.1 3 (p1 : Int32).toNatClampNeg) hx hb hK hH 3 (by decide) rfl (iv_in k30 (by decide) (by decide)) rfl dX6_free_24 ?_
      refine lv_iload_n hx hb dX6_free_25 rfl (lv_at hl 1 rfl) ?_
      refine b_stati (As := [.int (z0.2.1 3 (p1 : Int32).toNatClampNeg), .int p0]) (rest := []) ⟨hx, hb, hml, hown, hts⟩ (g_X6_in l D cy q hH.2.1 z0 hJ.1 (z0.2.1 3 (p1 : Int32).toNatClampNeg) p0) (va_cwS 2 hts gX6_free_X6_in rfl rfl rfl (by decide +kernel) ⟨Nat.le_of_ble_eq_true rfl, Nat.le_of_ble_eq_true rfl⟩) hK hZ hH rfl hl.1 rfl (Nat.le_of_ble_eq_true rfl) ⟨Nat.zero_le _, Nat.zero_le _⟩ dX6_free_26 (fun w32 z32 H locs hp hH => ?_)
      rw [Ag_0 hp.1.2] at hH
      have i32 := hp.2.1
      have := i32.1; have := i32.2
      have f32_0 := hp.2.2
      refine lv_if_eq (tgt := 36) hx hb dX6_free_29 (by decide) (fun c33 => ?_) (fun c33 => ?_)
      · skip
        have r33 := (iv_Eq c33)
        have k34a : iv 0 0 w32 := iv_eql (iv_Eq c33) i32 (iv_lit (n := 0) 0 (by decide)) (by decide) (by decide)
        refine lv_iconst (v := 0) hx hb dX6_free_36 (by decide) ?_
        refine lv_istore_n (lv' := [(3, .int 0), (0, .ref (q 0)), (1, .int p0), (2, .int p1)]) hx hb dX6_free_37 rfl hl (by decide) rfl (fun ls hl => ?_)
        refine lv_aload_n hx hb dX6_free_38 rfl (lv_at hl 1 rfl) ?_
        refine b_get (ci := 6) (C := RX6) (T := TX6) (Nf := 29) (v := .ref (q 3)) hx hb hts in_X6_free_X6 hown hK hH 0 (by decide) rfl rfl 3 (by decide) (hts (.fieldLink RX6 16 "StationLineModel" "straight" "[I") (List.mem_of_getElem? (i := 1) rfl)) rfl dX6_free_39 ?_
        refine lv_iload_n hx hb dX6_free_42 rfl (lv_at hl 3 rfl) ?_
        refine lv_dup2_11 hx hb dX6_free_43 rfl rfl ?_
        refine b_iald (v := z0.2.1 3 (p1 : Int32).toNatClampNeg) hx hb hK hH 3 (by decide) rfl (iv_in k30 (by decide) (by decide)) rfl dX6_free_44 ?_
        refine lv_iconst (v := 1) hx hb dX6_free_45 (by decide) ?_
        refine lv_iload_n hx hb dX6_free_46 rfl (lv_at hl 2 rfl) ?_
        refine lv_ishl hx hb dX6_free_47 ?_
        have i35 : iv 1 512 ((1 : Int32) <<< (p0 &&& 31)) := (iv_bit k26 (by decide) (by decide))
        refine lv_iconst (v := (-1)) hx hb dX6_free_48 (by decide) ?_
        refine lv_ixor hx hb dX6_free_49 ?_
        refine lv_iand hx hb dX6_free_50 ?_
        refine b_iast hx hb hK hH 3 (by decide) rfl (iv_in k30 (by decide) (by decide)) (upA z0 3 (upd (z0.2.1 3) (p1 : Int32).toNatClampNeg ((z0.2.1 3 (p1 : Int32).toNatClampNeg) &&& (((1 : Int32) <<< (p0 &&& 31)) ^^^ (-1))))) rfl (enM_A _ _ _ _ _) dX6_free_51 (fun H locs hH => ?_)
        obtain ⟨z38, hz38⟩ : ∃ w : zS, w = upA z0 3 (upd (z0.2.1 3) (p1 : Int32).toNatClampNeg ((z0.2.1 3 (p1 : Int32).toNatClampNeg) &&& (((1 : Int32) <<< (p0 &&& 31)) ^^^ (-1)))) := ⟨_, rfl⟩
        rw [← hz38] at hH
        have hJ : jJ IvM 0 8 0 z0 z38 := by rw [hz38]; exact jJ_A hJ (by decide) (IvM_A hJ.1 (by decide))
        refine lv_iload_n hx hb dX6_free_52 rfl (lv_at hl 0 rfl) ?_
        exact hret _ z38 H locs _ _ ⟨hJ, (iv_w (iv_lit (n := 0) 0 (by decide)) (by decide) (by decide)), ⟨fun q => absurd ⟨(Classical.byContradiction (fun n => c24 (f23_1.mpr n))), (Classical.byContradiction (fun n => c29 (f28_1.mpr n)))⟩ q, fun _ => ⟨fun b => absurd b (in_no k26 f32_0 c33), fun b => ⟨rfl, ((show z38.2.1 3 = upd (z0.2.1 3) p1.toNatClampNeg (z0.2.1 3 p1.toNatClampNeg &&& (((1 : Int32) <<< (p0 &&& 31)) ^^^ (-1))) by rw [hz38]; exact upA_e)).trans (upd_same (and_same k26 b))⟩⟩⟩⟩ hH dX6_free_53
      · skip
        have r33 := (iv_nEq c33)
        have k39a : iv 1 1 w32 := iv_neLo (iv_nEq c33) i32 (by decide) (by decide)
        refine lv_iconst (v := 1) hx hb dX6_free_32 (by decide) ?_
        refine lv_goto (tgt := 37) hx hb dX6_free_33 (by decide) ?_
        refine lv_istore_n (lv' := [(3, .int 1), (0, .ref (q 0)), (1, .int p0), (2, .int p1)]) hx hb dX6_free_37 rfl hl (by decide) rfl (fun ls hl => ?_)
        refine lv_aload_n hx hb dX6_free_38 rfl (lv_at hl 1 rfl) ?_
        refine b_get (ci := 6) (C := RX6) (T := TX6) (Nf := 29) (v := .ref (q 3)) hx hb hts in_X6_free_X6 hown hK hH 0 (by decide) rfl rfl 3 (by decide) (hts (.fieldLink RX6 16 "StationLineModel" "straight" "[I") (List.mem_of_getElem? (i := 1) rfl)) rfl dX6_free_39 ?_
        refine lv_iload_n hx hb dX6_free_42 rfl (lv_at hl 3 rfl) ?_
        refine lv_dup2_11 hx hb dX6_free_43 rfl rfl ?_
        refine b_iald (v := z0.2.1 3 (p1 : Int32).toNatClampNeg) hx hb hK hH 3 (by decide) rfl (iv_in k30 (by decide) (by decide)) rfl dX6_free_44 ?_
        refine lv_iconst (v := 1) hx hb dX6_free_45 (by decide) ?_
        refine lv_iload_n hx hb dX6_free_46 rfl (lv_at hl 2 rfl) ?_
        refine lv_ishl hx hb dX6_free_47 ?_
        have i40 : iv 1 512 ((1 : Int32) <<< (p0 &&& 31)) := (iv_bit k26 (by decide) (by decide))
        refine lv_iconst (v := (-1)) hx hb dX6_free_48 (by decide) ?_
        refine lv_ixor hx hb dX6_free_49 ?_
        refine lv_iand hx hb dX6_free_50 ?_
        refine b_iast hx hb hK hH 3 (by decide) rfl (iv_in k30 (by decide) (by decide)) (upA z0 3 (upd (z0.2.1 3) (p1 : Int32).toNatClampNeg ((z0.2.1 3 (p1 : Int32).toNatClampNeg) &&& (((1 : Int32) <<< (p0 &&& 31)) ^^^ (-1))))) rfl (enM_A _ _ _ _ _) dX6_free_51 (fun H locs hH => ?_)
        obtain ⟨z43, hz43⟩ : ∃ w : zS, w = upA z0 3 (upd (z0.2.1 3) (p1 : Int32).toNatClampNeg ((z0.2.1 3 (p1 : Int32).toNatClampNeg) &&& (((1 : Int32) <<< (p0 &&& 31)) ^^^ (-1)))) := ⟨_, rfl⟩
        rw [← hz43] at hH
        have hJ : jJ IvM 0 8 0 z0 z43 := by rw [hz43]; exact jJ_A hJ (by decide) (IvM_A hJ.1 (by decide))
        refine lv_iload_n hx hb dX6_free_52 rfl (lv_at hl 0 rfl) ?_
        exact hret _ z43 H locs _ _ ⟨hJ, (iv_w (iv_lit (n := 1) 1 (by decide)) (by decide) (by decide)), ⟨fun q => absurd ⟨(Classical.byContradiction (fun n => c24 (f23_1.mpr n))), (Classical.byContradiction (fun n => c29 (f28_1.mpr n)))⟩ q, fun _ => ⟨fun _ => ⟨rfl, (show z43.2.1 3 = upd (z0.2.1 3) p1.toNatClampNeg (z0.2.1 3 p1.toNatClampNeg &&& (((1 : Int32) <<< (p0 &&& 31)) ^^^ (-1))) by rw [hz43]; exact upA_e)⟩, fun b => absurd (in_yes k26 f32_0 c33) b⟩⟩⟩ hH dX6_free_53
    · skip
      have r29 := (iv_Eq c29)
      have k44a : iv 0 0 w28 := iv_eql (iv_Eq c29) i28 (iv_lit (n := 0) 0 (by decide)) (by decide) (by decide)
      refine lv_bipush (v := (-2)) hx hb dX6_free_16 (by decide) ?_
      exact hret _ z0 H locs _ _ ⟨hJ, (iv_w (iv_lit (n := (-2)) (-2) (by decide)) (by decide) (by decide)), ⟨fun _ => ⟨rfl, rfl⟩, fun q => absurd q (fun q => absurd q.2 (f28_1.mp c29))⟩⟩ hH dX6_free_18
set_option maxHeartbeats 4000000 in
set_option maxRecDepth 100000 in
theorem g_X6_ring_0 (l : Launch) (D : va_G) (cy : Nat → ClassId) (q : Nat → Nat) (hq : bJ 23 q) (z0 : zS) (hI : IvM z0) (p0 : Int32) : bCi l yX6_ring wsX6_ring ({ frames := 0, cells := 0, slots := 0, locals := 0 }) D cy 23 (enM cy) q z0 [.ref (q 0), .int p0] (fun v z => jJ IvM 0 0 0 z0 z ∧ iv (-2147483648) 2147483647 v ∧ (RiP (z0.1 3) (z0.2.1 7) p0 v)) := by
  refine hM_i cX6_ring (by decide) rfl (own := RX6) rfl hq (Nat.le_of_ble_eq_true rfl) ?_
  intro p e s m args below meth c Q ls H locs hx hb hml hown hts hK hZ hH hl hret
  have hl : lv_has ls 2 [(0, .ref (q 0)), (1, .int p0)] := hl
  have hJ : jJ IvM 0 0 0 z0 z0 := jJ_rf _ _ _ hI
  have e00 : (0 : Int32).toInt = 0 := (by decide); have e01 : (1 : Int32).toInt = 1 := (by decide); have e02 : (2 : Int32).toInt = 2 := (by decide); have e03 : (3 : Int32).toInt = 3 := (by decide); have e010 : (10 : Int32).toInt = 10 := (by decide)
  refine lv_iload_n hx hb dX6_ring_0 rfl (lv_at hl 1 rfl) ?_
  refine lv_if_lt (tgt := 12) hx hb dX6_ring_1 (by decide) (fun c8 => ?_) (fun c8 => ?_)
  · skip
    have r8 := (iv_Lt c8)
    have k9a : iv (-2147483648) (-1) p0 := iv_ltl (iv_Lt c8) (iv_all p0) (iv_lit (n := 0) 0 (by decide)) (by decide)
    refine lv_bipush (v := (-4)) hx hb dX6_ring_12 (by decide) ?_
    refine lv_goto (tgt := 23) hx hb dX6_ring_14 (by decide) ?_
    exact hret _ z0 H locs _ _ ⟨hJ, (iv_w (iv_lit (n := (-4)) (-4) (by decide)) (by decide) (by decide)), ⟨fun q => absurd q.2 (by have := q.1; omega), fun _ => rfl⟩⟩ hH dX6_ring_23
  · skip
    have r8 := (iv_nLt c8)
    have k10b : iv 0 2147483647 p0 := iv_ler (iv_nLt c8) (iv_lit (n := 0) 0 (by decide)) (iv_all p0)
    refine lv_iload_n hx hb dX6_ring_4 rfl (lv_at hl 1 rfl) ?_
    refine lv_aload_n hx hb dX6_ring_5 rfl (lv_at hl 0 rfl) ?_
    refine b_get (ci := 6) (C := RX6) (T := TX6) (Nf := 29) (v := .int (z0.1 3)) hx hb hts in_X6_ring_X6 hown hK hH 0 (by decide) rfl rfl 9 (by decide) (hts (.fieldLink RX6 103 "StationLineModel" "ringMany" "I") (List.mem_of_getElem? (i := 1) rfl)) rfl dX6_ring_6 ?_
    have i11 := IvM_s3 hJ.1
    have := i11.1; have := i11.2
    refine lv_icmp_lt (tgt := 17) hx hb dX6_ring_9 (by decide) (fun c12 => ?_) (fun c12 => ?_)
    · skip
      have r12 := (iv_Lt c12)
      have k13a : iv 0 10 p0 := iv_ltl (iv_Lt c12) k10b i11 (by decide)
      have k13b : iv 1 11 (z0.1 3) := iv_ltr (iv_Lt c12) k10b i11 (by decide)
      refine lv_aload_n hx hb dX6_ring_17 rfl (lv_at hl 0 rfl) ?_
      refine b_get (ci := 6) (C := RX6) (T := TX6) (Nf := 29) (v := .ref (q 7)) hx hb hts in_X6_ring_X6 hown hK hH 0 (by decide) rfl rfl 10 (by decide) (hts (.fieldLink RX6 32 "StationLineModel" "ring" "[I") (List.mem_of_getElem? (i := 2) rfl)) rfl dX6_ring_18 ?_
      refine lv_iload_n hx hb dX6_ring_21 rfl (lv_at hl 1 rfl) ?_
      refine b_iald (v := z0.2.1 7 (p0 : Int32).toNatClampNeg) hx hb hK hH 7 (by decide) rfl (iv_in k13a (by decide) (by decide)) rfl dX6_ring_22 ?_
      exact hret _ z0 H locs _ _ ⟨hJ, (iv_all (z0.2.1 7 (p0 : Int32).toNatClampNeg)), ⟨fun _ => rfl, fun q => absurd ⟨by omega, by omega⟩ q⟩⟩ hH dX6_ring_23
    · skip
      have r12 := (iv_nLt c12)
      refine lv_bipush (v := (-4)) hx hb dX6_ring_12 (by decide) ?_
      refine lv_goto (tgt := 23) hx hb dX6_ring_14 (by decide) ?_
      exact hret _ z0 H locs _ _ ⟨hJ, (iv_w (iv_lit (n := (-4)) (-4) (by decide)) (by decide) (by decide)), ⟨fun q => absurd q.2 (by have := q.1; omega), fun _ => rfl⟩⟩ hH dX6_ring_23
set_option maxHeartbeats 4000000 in
set_option maxRecDepth 100000 in
theorem g_X6_pair_0 (l : Launch) (D : va_G) (cy : Nat → ClassId) (q : Nat → Nat) (hq : bJ 23 q) (z0 : zS) (hI : IvM z0) (p0 : Int32) (p1 : Int32) (p2 : Int32) : bCi l yX6_pair wsX6_pair ({ frames := 1, cells := 0, slots := 0, locals := 21 }) D cy 23 (enM cy) q z0 [.ref (q 0), .int p0, .int p1, .int p2] (fun v z => jJ IvM 0 16 0 z0 z ∧ iv (-2147483648) 2147483647 v ∧ (PairP (z0.1 0) (fun x y => z0.2.1 4 (10 * x + y)) p0 p1 p2 v (fun x y => z.2.1 4 (10 * x + y)))) := by
  refine hM_i cX6_pair (by decide) rfl (own := RX6) rfl hq (Nat.le_of_ble_eq_true rfl) ?_
  intro p e s m args below meth c Q ls H locs hx hb hml hown hts hK hZ hH hl hret
  have hl : lv_has ls 5 [(0, .ref (q 0)), (1, .int p0), (2, .int p1), (3, .int p2)] := hl
  have hJ : jJ IvM 0 16 0 z0 z0 := jJ_rf _ _ _ hI
  have e00 : (0 : Int32).toInt = 0 := (by decide); have e01 : (1 : Int32).toInt = 1 := (by decide); have e02 : (2 : Int32).toInt = 2 := (by decide); have e03 : (3 : Int32).toInt = 3 := (by decide); have e010 : (10 : Int32).toInt = 10 := (by decide)
  refine lv_aload_n hx hb dX6_pair_0 rfl (lv_at hl 0 rfl) ?_
  refine lv_iload_n hx hb dX6_pair_1 rfl (lv_at hl 1 rfl) ?_
  refine b_calli (As := [.int p0]) (rest := []) ⟨hx, hb, hml, hown, hts⟩ 0 6 (g_X6_isTask_0 l D cy q hH.2.1 z0 hJ.1 p0) (cwV 1 hts gX6_pair_X6_isTask rfl rfl rfl (by decide +kernel) ⟨Nat.le_of_ble_eq_true rfl, Nat.le_of_ble_eq_true rfl⟩) hK hZ hH (by decide) rfl rfl rfl hl.1 rfl (Nat.le_of_ble_eq_true rfl) ⟨Nat.zero_le _, Nat.zero_le _⟩ dX6_pair_2 (fun w28 z28 H locs hp hH => ?_)
  rw [Ag_0 hp.1.2] at hH
  have i28 := hp.2.1
  have := i28.1; have := i28.2
  have tr28_0 := hp.2.2.1
  have f28_0 := hp.2.2.2.1
  have f28_1 := hp.2.2.2.2
  refine lv_if_eq (tgt := 30) hx hb dX6_pair_5 (by decide) (fun c29 => ?_) (fun c29 => ?_)
  · skip
    have r29 := (iv_Eq c29)
    have k30a : iv 0 0 w28 := iv_eql (iv_Eq c29) i28 (iv_lit (n := 0) 0 (by decide)) (by decide) (by decide)
    refine lv_bipush (v := (-2)) hx hb dX6_pair_30 (by decide) ?_
    exact hret _ z0 H locs _ _ ⟨hJ, (iv_w (iv_lit (n := (-2)) (-2) (by decide)) (by decide) (by decide)), ⟨fun q => absurd q (fun q => absurd q.1 (f28_1.mp c29)), fun _ => ⟨rfl, fun _ _ _ _ => rfl⟩⟩⟩ hH dX6_pair_32
  · skip
    have k31 : iv 0 9 p0 := (tr28_0).resolve_left c29
    have := k31.1; have := k31.2
    have r29 := (iv_nEq c29)
    have k32a : iv 1 1 w28 := iv_neLo (iv_nEq c29) i28 (by decide) (by decide)
    refine lv_aload_n hx hb dX6_pair_8 rfl (lv_at hl 0 rfl) ?_
    refine lv_iload_n hx hb dX6_pair_9 rfl (lv_at hl 2 rfl) ?_
    refine b_calli (As := [.int p1]) (rest := []) ⟨hx, hb, hml, hown, hts⟩ 0 6 (g_X6_isTask_0 l D cy q hH.2.1 z0 hJ.1 p1) (cwV 1 hts gX6_pair_X6_isTask rfl rfl rfl (by decide +kernel) ⟨Nat.le_of_ble_eq_true rfl, Nat.le_of_ble_eq_true rfl⟩) hK hZ hH (by decide) rfl rfl rfl hl.1 rfl (Nat.le_of_ble_eq_true rfl) ⟨Nat.zero_le _, Nat.zero_le _⟩ dX6_pair_10 (fun w33 z33 H locs hp hH => ?_)
    rw [Ag_0 hp.1.2] at hH
    have i33 := hp.2.1
    have := i33.1; have := i33.2
    have tr33_0 := hp.2.2.1
    have f33_0 := hp.2.2.2.1
    have f33_1 := hp.2.2.2.2
    refine lv_if_eq (tgt := 30) hx hb dX6_pair_13 (by decide) (fun c34 => ?_) (fun c34 => ?_)
    · skip
      have r34 := (iv_Eq c34)
      have k35a : iv 0 0 w33 := iv_eql (iv_Eq c34) i33 (iv_lit (n := 0) 0 (by decide)) (by decide) (by decide)
      refine lv_bipush (v := (-2)) hx hb dX6_pair_30 (by decide) ?_
      exact hret _ z0 H locs _ _ ⟨hJ, (iv_w (iv_lit (n := (-2)) (-2) (by decide)) (by decide) (by decide)), ⟨fun q => absurd q (fun q => absurd q.2.1 (f33_1.mp c34)), fun _ => ⟨rfl, fun _ _ _ _ => rfl⟩⟩⟩ hH dX6_pair_32
    · skip
      have k36 : iv 0 9 p1 := (tr33_0).resolve_left c34
      have := k36.1; have := k36.2
      have r34 := (iv_nEq c34)
      have k37a : iv 1 1 w33 := iv_neLo (iv_nEq c34) i33 (by decide) (by decide)
      refine lv_iload_n hx hb dX6_pair_16 rfl (lv_at hl 1 rfl) ?_
      refine lv_iload_n hx hb dX6_pair_17 rfl (lv_at hl 2 rfl) ?_
      refine lv_icmp_eq (tgt := 30) hx hb dX6_pair_18 (by decide) (fun c38 => ?_) (fun c38 => ?_)
      · skip
        have r38 := (iv_Eq c38)
        refine lv_bipush (v := (-2)) hx hb dX6_pair_30 (by decide) ?_
        exact hret _ z0 H locs _ _ ⟨hJ, (iv_w (iv_lit (n := (-2)) (-2) (by decide)) (by decide) (by decide)), ⟨fun q => absurd q (fun q => absurd c38 q.2.2.1), fun _ => ⟨rfl, fun _ _ _ _ => rfl⟩⟩⟩ hH dX6_pair_32
      · skip
        have r38 := (iv_nEq c38)
        refine lv_iload_n hx hb dX6_pair_21 rfl (lv_at hl 3 rfl) ?_
        refine lv_if_lt (tgt := 30) hx hb dX6_pair_22 (by decide) (fun c41 => ?_) (fun c41 => ?_)
        · skip
          have r41 := (iv_Lt c41)
          have k42a : iv (-2147483648) (-1) p2 := iv_ltl (iv_Lt c41) (iv_all p2) (iv_lit (n := 0) 0 (by decide)) (by decide)
          refine lv_bipush (v := (-2)) hx hb dX6_pair_30 (by decide) ?_
          exact hret _ z0 H locs _ _ ⟨hJ, (iv_w (iv_lit (n := (-2)) (-2) (by decide)) (by decide) (by decide)), ⟨fun q => absurd q (fun q => (by have := q.2.2.2.1; have := q.2.2.2.2; omega)), fun _ => ⟨rfl, fun _ _ _ _ => rfl⟩⟩⟩ hH dX6_pair_32
        · skip
          have r41 := (iv_nLt c41)
          have k43b : iv 0 2147483647 p2 := iv_ler (iv_nLt c41) (iv_lit (n := 0) 0 (by decide)) (iv_all p2)
          refine lv_iload_n hx hb dX6_pair_25 rfl (lv_at hl 3 rfl) ?_
          refine lv_iconst (v := 2) hx hb dX6_pair_26 (by decide) ?_
          refine lv_icmp_le (tgt := 33) hx hb dX6_pair_27 (by decide) (fun c44 => ?_) (fun c44 => ?_)
          · skip
            have r44 := (iv_Le c44)
            have k45a : iv 0 2 p2 := iv_lel (iv_Le c44) k43b (iv_lit (n := 2) 2 (by decide))
            refine lv_aload_n hx hb dX6_pair_33 rfl (lv_at hl 0 rfl) ?_
            refine b_get (ci := 6) (C := RX6) (T := TX6) (Nf := 29) (v := .ref (q 4)) hx hb hts in_X6_pair_X6 hown hK hH 0 (by decide) rfl rfl 4 (by decide) (hts (.fieldLink RX6 19 "StationLineModel" "pairs" "[I") (List.mem_of_getElem? (i := 1) rfl)) rfl dX6_pair_34 ?_
            refine lv_bipush (v := 10) hx hb dX6_pair_37 (by decide) ?_
            refine lv_iload_n hx hb dX6_pair_39 rfl (lv_at hl 1 rfl) ?_
            refine lv_imul hx hb dX6_pair_40 ?_
            have i46 : iv 0 90 ((10 : Int32) * p0) := (iv_mul (iv_lit (n := 10) 10 (by decide)) k31 (by decide) (by decide) (by decide) (by decide) (by decide))
            refine lv_iload_n hx hb dX6_pair_41 rfl (lv_at hl 2 rfl) ?_
            refine lv_iadd hx hb dX6_pair_42 ?_
            have i47 : iv 0 99 (((10 : Int32) * p0) + p1) := (iv_add i46 k36 (by decide) (by decide) (by decide) (by decide))
            refine b_iald (v := z0.2.1 4 (((10 : Int32) * p0) + p1 : Int32).toNatClampNeg) hx hb hK hH 4 (by decide) rfl (iv_in i47 (by decide) (by decide)) rfl dX6_pair_43 ?_
            refine lv_istore (lv' := [(4, .int (z0.2.1 4 (((10 : Int32) * p0) + p1 : Int32).toNatClampNeg)), (0, .ref (q 0)), (1, .int p0), (2, .int p1), (3, .int p2)]) hx hb dX6_pair_44 hl (by decide) rfl (fun ls hl => ?_)
            refine lv_aload_n hx hb dX6_pair_46 rfl (lv_at hl 1 rfl) ?_
            refine b_get (ci := 6) (C := RX6) (T := TX6) (Nf := 29) (v := .ref (q 4)) hx hb hts in_X6_pair_X6 hown hK hH 0 (by decide) rfl rfl 4 (by decide) (hts (.fieldLink RX6 19 "StationLineModel" "pairs" "[I") (List.mem_of_getElem? (i := 1) rfl)) rfl dX6_pair_47 ?_
            refine lv_bipush (v := 10) hx hb dX6_pair_50 (by decide) ?_
            refine lv_iload_n hx hb dX6_pair_52 rfl (lv_at hl 2 rfl) ?_
            refine lv_imul hx hb dX6_pair_53 ?_
            have i48 : iv 0 90 ((10 : Int32) * p0) := (iv_mul (iv_lit (n := 10) 10 (by decide)) k31 (by decide) (by decide) (by decide) (by decide) (by decide))
            refine lv_iload_n hx hb dX6_pair_54 rfl (lv_at hl 3 rfl) ?_
            refine lv_iadd hx hb dX6_pair_55 ?_
            have i49 : iv 0 99 (((10 : Int32) * p0) + p1) := (iv_add i48 k36 (by decide) (by decide) (by decide) (by decide))
            refine lv_iload_n hx hb dX6_pair_56 rfl (lv_at hl 4 rfl) ?_
            refine b_iast hx hb hK hH 4 (by decide) rfl (iv_in i49 (by decide) (by decide)) (upA z0 4 (upd (z0.2.1 4) (((10 : Int32) * p0) + p1 : Int32).toNatClampNeg p2)) rfl (enM_A _ _ _ _ _) dX6_pair_57 (fun H locs hH => ?_)
            obtain ⟨z50, hz50⟩ : ∃ w : zS, w = upA z0 4 (upd (z0.2.1 4) (((10 : Int32) * p0) + p1 : Int32).toNatClampNeg p2) := ⟨_, rfl⟩
            rw [← hz50] at hH
            have hJ : jJ IvM 0 16 0 z0 z50 := by rw [hz50]; exact jJ_A hJ (by decide) (IvM_A hJ.1 (by decide))
            refine lv_aload_n hx hb dX6_pair_58 rfl (lv_at hl 1 rfl) ?_
            refine b_get (ci := 6) (C := RX6) (T := TX6) (Nf := 29) (v := .ref (q 4)) hx hb hts in_X6_pair_X6 hown hK hH 0 (by decide) rfl rfl 4 (by decide) (hts (.fieldLink RX6 19 "StationLineModel" "pairs" "[I") (List.mem_of_getElem? (i := 1) rfl)) rfl dX6_pair_59 ?_
            refine lv_bipush (v := 10) hx hb dX6_pair_62 (by decide) ?_
            refine lv_iload_n hx hb dX6_pair_64 rfl (lv_at hl 3 rfl) ?_
            refine lv_imul hx hb dX6_pair_65 ?_
            have i51 : iv 0 90 ((10 : Int32) * p1) := (iv_mul (iv_lit (n := 10) 10 (by decide)) k36 (by decide) (by decide) (by decide) (by decide) (by decide))
            refine lv_iload_n hx hb dX6_pair_66 rfl (lv_at hl 2 rfl) ?_
            refine lv_iadd hx hb dX6_pair_67 ?_
            have i52 : iv 0 99 (((10 : Int32) * p1) + p0) := (iv_add i51 k31 (by decide) (by decide) (by decide) (by decide))
            refine lv_iload_n hx hb dX6_pair_68 rfl (lv_at hl 4 rfl) ?_
            refine b_iast hx hb hK hH 4 (by decide) rfl (iv_in i52 (by decide) (by decide)) (upA z50 4 (upd (z50.2.1 4) (((10 : Int32) * p1) + p0 : Int32).toNatClampNeg p2)) rfl (enM_A _ _ _ _ _) dX6_pair_69 (fun H locs hH => ?_)
            obtain ⟨z53, hz53⟩ : ∃ w : zS, w = upA z50 4 (upd (z50.2.1 4) (((10 : Int32) * p1) + p0 : Int32).toNatClampNeg p2) := ⟨_, rfl⟩
            rw [← hz53] at hH
            have hJ : jJ IvM 0 16 0 z0 z53 := by rw [hz53]; exact jJ_A hJ (by decide) (IvM_A hJ.1 (by decide))
            refine lv_iload hx hb dX6_pair_70 (lv_at hl 0 rfl) ?_
            exact hret _ z53 H locs _ _ ⟨hJ, (iv_all (z0.2.1 4 (((10 : Int32) * p0) + p1 : Int32).toNatClampNeg)), ⟨fun _ => ⟨congrArg (z0.2.1 4) (ix10 k31 k36), (pm_set (by have h9 := k31; have := h9.2; have := iv_nat h9 (by decide); omega) (by have h9 := k36; have := h9.2; have := iv_nat h9 (by decide); omega) (ix10 k31 k36) (ix10 k36 k31) (show z50.2.1 4 = _ by rw [hz50]; exact upA_e) (show z53.2.1 4 = _ by rw [hz53]; exact upA_e))⟩, fun q => absurd ⟨(Classical.byContradiction (fun n => c29 (f28_1.mpr n))), (Classical.byContradiction (fun n => c34 (f33_1.mpr n))), c38, ⟨by omega, by omega⟩⟩ q⟩⟩ hH dX6_pair_72
          · skip
            have r44 := (iv_nLe c44)
            have k54b : iv 3 2147483647 p2 := iv_ltr (iv_nLe c44) (iv_lit (n := 2) 2 (by decide)) k43b (by decide)
            refine lv_bipush (v := (-2)) hx hb dX6_pair_30 (by decide) ?_
            exact hret _ z0 H locs _ _ ⟨hJ, (iv_w (iv_lit (n := (-2)) (-2) (by decide)) (by decide) (by decide)), ⟨fun q => absurd q (fun q => (by have := q.2.2.2.1; have := q.2.2.2.2; omega)), fun _ => ⟨rfl, fun _ _ _ _ => rfl⟩⟩⟩ hH dX6_pair_32
set_option maxHeartbeats 4000000 in
set_option maxRecDepth 100000 in
theorem g_X6_hold_0 (l : Launch) (D : va_G) (cy : Nat → ClassId) (q : Nat → Nat) (hq : bJ 23 q) (z0 : zS) (hI : IvM z0) (p0 : Int32) (p1 : Int32) : bCi l yX6_hold wsX6_hold ({ frames := 1, cells := 0, slots := 0, locals := 21 }) D cy 23 (enM cy) q z0 [.ref (q 0), .int p0, .int p1] (fun v z => jJ IvM 0 32 0 z0 z ∧ iv (-2147483648) 2147483647 v ∧ (PtP (z0.1 0) (z0.2.1 5) p0 p1 v (z.2.1 5))) := by
  refine hM_i cX6_hold (by decide) rfl (own := RX6) rfl hq (Nat.le_of_ble_eq_true rfl) ?_
  intro p e s m args below meth c Q ls H locs hx hb hml hown hts hK hZ hH hl hret
  have hl : lv_has ls 4 [(0, .ref (q 0)), (1, .int p0), (2, .int p1)] := hl
  have hJ : jJ IvM 0 32 0 z0 z0 := jJ_rf _ _ _ hI
  have e00 : (0 : Int32).toInt = 0 := (by decide); have e01 : (1 : Int32).toInt = 1 := (by decide); have e02 : (2 : Int32).toInt = 2 := (by decide); have e03 : (3 : Int32).toInt = 3 := (by decide); have e010 : (10 : Int32).toInt = 10 := (by decide)
  refine lv_aload_n hx hb dX6_hold_0 rfl (lv_at hl 0 rfl) ?_
  refine lv_iload_n hx hb dX6_hold_1 rfl (lv_at hl 1 rfl) ?_
  refine b_calli (As := [.int p0]) (rest := []) ⟨hx, hb, hml, hown, hts⟩ 0 6 (g_X6_isTask_0 l D cy q hH.2.1 z0 hJ.1 p0) (cwV 1 hts gX6_hold_X6_isTask rfl rfl rfl (by decide +kernel) ⟨Nat.le_of_ble_eq_true rfl, Nat.le_of_ble_eq_true rfl⟩) hK hZ hH (by decide) rfl rfl rfl hl.1 rfl (Nat.le_of_ble_eq_true rfl) ⟨Nat.zero_le _, Nat.zero_le _⟩ dX6_hold_2 (fun w12 z12 H locs hp hH => ?_)
  rw [Ag_0 hp.1.2] at hH
  have i12 := hp.2.1
  have := i12.1; have := i12.2
  have tr12_0 := hp.2.2.1
  have f12_0 := hp.2.2.2.1
  have f12_1 := hp.2.2.2.2
  refine lv_if_eq (tgt := 15) hx hb dX6_hold_5 (by decide) (fun c13 => ?_) (fun c13 => ?_)
  · skip
    have r13 := (iv_Eq c13)
    have k14a : iv 0 0 w12 := iv_eql (iv_Eq c13) i12 (iv_lit (n := 0) 0 (by decide)) (by decide) (by decide)
    refine lv_bipush (v := (-2)) hx hb dX6_hold_15 (by decide) ?_
    exact hret _ z0 H locs _ _ ⟨hJ, (iv_w (iv_lit (n := (-2)) (-2) (by decide)) (by decide) (by decide)), ⟨fun q => absurd ⟨q.1, q.2.1⟩ (f12_1.mp c13), fun _ => ⟨rfl, rfl⟩⟩⟩ hH dX6_hold_17
  · skip
    have k15 : iv 0 9 p0 := (tr12_0).resolve_left c13
    have := k15.1; have := k15.2
    have r13 := (iv_nEq c13)
    have k16a : iv 1 1 w12 := iv_neLo (iv_nEq c13) i12 (by decide) (by decide)
    refine lv_iload_n hx hb dX6_hold_8 rfl (lv_at hl 2 rfl) ?_
    refine b_stati (As := [.int p1]) (rest := []) ⟨hx, hb, hml, hown, hts⟩ (g_X6_isStation l D cy q hH.2.1 z0 hJ.1 p1) (va_cwS 1 hts gX6_hold_X6_isStation rfl rfl rfl (by decide +kernel) ⟨Nat.le_of_ble_eq_true rfl, Nat.le_of_ble_eq_true rfl⟩) hK hZ hH rfl hl.1 rfl (Nat.le_of_ble_eq_true rfl) ⟨Nat.zero_le _, Nat.zero_le _⟩ dX6_hold_9 (fun w17 z17 H locs hp hH => ?_)
    rw [Ag_0 hp.1.2] at hH
    have i17 := hp.2.1
    have := i17.1; have := i17.2
    have tr17_0 := hp.2.2.1
    have f17_0 := hp.2.2.2
    refine lv_if_ne (tgt := 18) hx hb dX6_hold_12 (by decide) (fun c18 => ?_) (fun c18 => ?_)
    · skip
      have k19 : iv 0 10 p1 := (tr17_0).resolve_left c18
      have := k19.1; have := k19.2
      have r18 := (iv_nEq c18)
      have k20a : iv 1 1 w17 := iv_neLo (iv_nEq c18) i17 (by decide) (by decide)
      refine lv_aload_n hx hb dX6_hold_18 rfl (lv_at hl 0 rfl) ?_
      refine b_get (ci := 6) (C := RX6) (T := TX6) (Nf := 29) (v := .ref (q 5)) hx hb hts in_X6_hold_X6 hown hK hH 0 (by decide) rfl rfl 5 (by decide) (hts (.fieldLink RX6 22 "StationLineModel" "held" "[I") (List.mem_of_getElem? (i := 1) rfl)) rfl dX6_hold_19 ?_
      refine lv_iload_n hx hb dX6_hold_22 rfl (lv_at hl 1 rfl) ?_
      refine b_iald (v := z0.2.1 5 (p0 : Int32).toNatClampNeg) hx hb hK hH 5 (by decide) rfl (iv_in k15 (by decide) (by decide)) rfl dX6_hold_23 ?_
      refine lv_istore_n (lv' := [(3, .int (z0.2.1 5 (p0 : Int32).toNatClampNeg)), (0, .ref (q 0)), (1, .int p0), (2, .int p1)]) hx hb dX6_hold_24 rfl hl (by decide) rfl (fun ls hl => ?_)
      refine lv_aload_n hx hb dX6_hold_25 rfl (lv_at hl 1 rfl) ?_
      refine b_get (ci := 6) (C := RX6) (T := TX6) (Nf := 29) (v := .ref (q 5)) hx hb hts in_X6_hold_X6 hown hK hH 0 (by decide) rfl rfl 5 (by decide) (hts (.fieldLink RX6 22 "StationLineModel" "held" "[I") (List.mem_of_getElem? (i := 1) rfl)) rfl dX6_hold_26 ?_
      refine lv_iload_n hx hb dX6_hold_29 rfl (lv_at hl 2 rfl) ?_
      refine lv_iload_n hx hb dX6_hold_30 rfl (lv_at hl 3 rfl) ?_
      refine b_iast hx hb hK hH 5 (by decide) rfl (iv_in k15 (by decide) (by decide)) (upA z0 5 (upd (z0.2.1 5) (p0 : Int32).toNatClampNeg p1)) rfl (enM_A _ _ _ _ _) dX6_hold_31 (fun H locs hH => ?_)
      obtain ⟨z21, hz21⟩ : ∃ w : zS, w = upA z0 5 (upd (z0.2.1 5) (p0 : Int32).toNatClampNeg p1) := ⟨_, rfl⟩
      rw [← hz21] at hH
      have hJ : jJ IvM 0 32 0 z0 z21 := by rw [hz21]; exact jJ_A hJ (by decide) (IvM_A hJ.1 (by decide))
      refine lv_iload_n hx hb dX6_hold_32 rfl (lv_at hl 0 rfl) ?_
      exact hret _ z21 H locs _ _ ⟨hJ, (iv_all (z0.2.1 5 (p0 : Int32).toNatClampNeg)), ⟨fun _ => ⟨rfl, by rw [hz21]; exact upA_e⟩, fun q => absurd ⟨(Classical.byContradiction (fun n => c13 (f12_1.mpr n))).1, (Classical.byContradiction (fun n => c13 (f12_1.mpr n))).2, (Classical.byContradiction (fun n => c18 (f17_0.mpr n)))⟩ q⟩⟩ hH dX6_hold_33
    · skip
      have r18 := (iv_Eq c18)
      have k22a : iv 0 0 w17 := iv_eql (iv_Eq c18) i17 (iv_lit (n := 0) 0 (by decide)) (by decide) (by decide)
      refine lv_bipush (v := (-2)) hx hb dX6_hold_15 (by decide) ?_
      exact hret _ z0 H locs _ _ ⟨hJ, (iv_w (iv_lit (n := (-2)) (-2) (by decide)) (by decide) (by decide)), ⟨fun q => absurd q.2.2 (f17_0.mp c18), fun _ => ⟨rfl, rfl⟩⟩⟩ hH dX6_hold_17
set_option maxHeartbeats 4000000 in
set_option maxRecDepth 100000 in
theorem g_X6_line_0 (l : Launch) (D : va_G) (cy : Nat → ClassId) (q : Nat → Nat) (hq : bJ 23 q) (z0 : zS) (hI : IvM z0) (p0 : Int32) : bCi l yX6_line wsX6_line ({ frames := 0, cells := 0, slots := 0, locals := 0 }) D cy 23 (enM cy) q z0 [.ref (q 0), .int p0] (fun v z => jJ IvM 2 0 0 z0 z ∧ iv (-2147483648) 2147483647 v ∧ (RgP 0 3 p0 (z0.1 1) v (z.1 1))) := by
  refine hM_i cX6_line (by decide) rfl (own := RX6) rfl hq (Nat.le_of_ble_eq_true rfl) ?_
  intro p e s m args below meth c Q ls H locs hx hb hml hown hts hK hZ hH hl hret
  have hl : lv_has ls 3 [(0, .ref (q 0)), (1, .int p0)] := hl
  have hJ : jJ IvM 2 0 0 z0 z0 := jJ_rf _ _ _ hI
  have e00 : (0 : Int32).toInt = 0 := (by decide); have e01 : (1 : Int32).toInt = 1 := (by decide); have e02 : (2 : Int32).toInt = 2 := (by decide); have e03 : (3 : Int32).toInt = 3 := (by decide); have e010 : (10 : Int32).toInt = 10 := (by decide)
  have e3 : (3 : Int32).toInt = 3 := (by decide); have e1k : (1000 : Int32).toInt = 1000 := (by decide)
  refine lv_iload_n hx hb dX6_line_0 rfl (lv_at hl 1 rfl) ?_
  refine lv_if_lt (tgt := 9) hx hb dX6_line_1 (by decide) (fun c9 => ?_) (fun c9 => ?_)
  · skip
    have r9 := (iv_Lt c9)
    have k10a : iv (-2147483648) (-1) p0 := iv_ltl (iv_Lt c9) (iv_all p0) (iv_lit (n := 0) 0 (by decide)) (by decide)
    refine lv_bipush (v := (-2)) hx hb dX6_line_9 (by decide) ?_
    exact hret _ z0 H locs _ _ ⟨hJ, (iv_w (iv_lit (n := (-2)) (-2) (by decide)) (by decide) (by decide)), ⟨fun q => (by have := q.1; have := q.2; omega), fun _ => ⟨rfl, rfl⟩⟩⟩ hH dX6_line_11
  · skip
    have r9 := (iv_nLt c9)
    have k11b : iv 0 2147483647 p0 := iv_ler (iv_nLt c9) (iv_lit (n := 0) 0 (by decide)) (iv_all p0)
    refine lv_iload_n hx hb dX6_line_4 rfl (lv_at hl 1 rfl) ?_
    refine lv_iconst (v := 3) hx hb dX6_line_5 (by decide) ?_
    refine lv_icmp_le (tgt := 12) hx hb dX6_line_6 (by decide) (fun c12 => ?_) (fun c12 => ?_)
    · skip
      have r12 := (iv_Le c12)
      have k13a : iv 0 3 p0 := iv_lel (iv_Le c12) k11b (iv_lit (n := 3) 3 (by decide))
      refine lv_aload_n hx hb dX6_line_12 rfl (lv_at hl 0 rfl) ?_
      refine b_get (ci := 6) (C := RX6) (T := TX6) (Nf := 29) (v := .int (z0.1 1)) hx hb hts in_X6_line_X6 hown hK hH 0 (by decide) rfl rfl 7 (by decide) (hts (.fieldLink RX6 113 "StationLineModel" "kind" "I") (List.mem_of_getElem? (i := 1) rfl)) rfl dX6_line_13 ?_
      refine lv_istore_n (lv' := [(2, .int (z0.1 1)), (0, .ref (q 0)), (1, .int p0)]) hx hb dX6_line_16 rfl hl (by decide) rfl (fun ls hl => ?_)
      refine lv_aload_n hx hb dX6_line_17 rfl (lv_at hl 1 rfl) ?_
      refine lv_iload_n hx hb dX6_line_18 rfl (lv_at hl 2 rfl) ?_
      refine b_put (ci := 6) (C := RX6) (T := TX6) (Nf := 29) (v := .int p0) (ty := .int) hx hb hts in_X6_line_X6 tyX6 tyX6_ok nmX6 hown hK hH 0 (by decide) rfl rfl 7 (by decide) (hts (.fieldLink RX6 113 "StationLineModel" "kind" "I") (List.mem_of_getElem? (i := 1) rfl)) rfl (by decide +kernel) rfl rfl (Nat.le_of_ble_eq_true rfl) (upS z0 1 p0) rfl (enM_S1 _ _ _ _) dX6_line_19 (fun H locs hH => ?_)
      obtain ⟨z14, hz14⟩ : ∃ w : zS, w = upS z0 1 p0 := ⟨_, rfl⟩
      rw [← hz14] at hH
      have hJ : jJ IvM 2 0 0 z0 z14 := by rw [hz14]; exact jJ_S hJ (by decide) (IvM_S1 hJ.1)
      have g15 : iv 0 3 (z14.1 1) := by rw [hz14]; exact k13a
      refine lv_iload_n hx hb dX6_line_22 rfl (lv_at hl 0 rfl) ?_
      exact hret _ z14 H locs _ _ ⟨hJ, (iv_all (z0.1 1)), ⟨fun _ => ⟨rfl, by rw [hz14]; rfl⟩, fun q => absurd (show iv 0 3 p0 from ⟨by omega, by omega⟩) q⟩⟩ hH dX6_line_23
    · skip
      have r12 := (iv_nLe c12)
      have k16b : iv 4 2147483647 p0 := iv_ltr (iv_nLe c12) (iv_lit (n := 3) 3 (by decide)) k11b (by decide)
      refine lv_bipush (v := (-2)) hx hb dX6_line_9 (by decide) ?_
      exact hret _ z0 H locs _ _ ⟨hJ, (iv_w (iv_lit (n := (-2)) (-2) (by decide)) (by decide) (by decide)), ⟨fun q => (by have := q.1; have := q.2; omega), fun _ => ⟨rfl, rfl⟩⟩⟩ hH dX6_line_11
set_option maxHeartbeats 4000000 in
set_option maxRecDepth 100000 in
theorem g_X6_beat_0 (l : Launch) (D : va_G) (cy : Nat → ClassId) (q : Nat → Nat) (hq : bJ 23 q) (z0 : zS) (hI : IvM z0) (p0 : Int32) : bCi l yX6_beat wsX6_beat ({ frames := 0, cells := 0, slots := 0, locals := 0 }) D cy 23 (enM cy) q z0 [.ref (q 0), .int p0] (fun v z => jJ IvM 4 0 0 z0 z ∧ iv (-2) 1000 v ∧ (RgP 1 1000 p0 (z0.1 2) v (z.1 2))) := by
  refine hM_i cX6_beat (by decide) rfl (own := RX6) rfl hq (Nat.le_of_ble_eq_true rfl) ?_
  intro p e s m args below meth c Q ls H locs hx hb hml hown hts hK hZ hH hl hret
  have hl : lv_has ls 3 [(0, .ref (q 0)), (1, .int p0)] := hl
  have hJ : jJ IvM 4 0 0 z0 z0 := jJ_rf _ _ _ hI
  have e00 : (0 : Int32).toInt = 0 := (by decide); have e01 : (1 : Int32).toInt = 1 := (by decide); have e02 : (2 : Int32).toInt = 2 := (by decide); have e03 : (3 : Int32).toInt = 3 := (by decide); have e010 : (10 : Int32).toInt = 10 := (by decide)
  have e3 : (3 : Int32).toInt = 3 := (by decide); have e1k : (1000 : Int32).toInt = 1000 := (by decide)
  refine lv_iload_n hx hb dX6_beat_0 rfl (lv_at hl 1 rfl) ?_
  refine lv_iconst (v := 1) hx hb dX6_beat_1 (by decide) ?_
  refine lv_icmp_lt (tgt := 12) hx hb dX6_beat_2 (by decide) (fun c10 => ?_) (fun c10 => ?_)
  · skip
    have r10 := (iv_Lt c10)
    have k11a : iv (-2147483648) 0 p0 := iv_ltl (iv_Lt c10) (iv_all p0) (iv_lit (n := 1) 1 (by decide)) (by decide)
    refine lv_bipush (v := (-2)) hx hb dX6_beat_12 (by decide) ?_
    exact hret _ z0 H locs _ _ ⟨hJ, (iv_w (iv_lit (n := (-2)) (-2) (by decide)) (by decide) (by decide)), ⟨fun q => (by have := q.1; have := q.2; omega), fun _ => ⟨rfl, rfl⟩⟩⟩ hH dX6_beat_14
  · skip
    have r10 := (iv_nLt c10)
    have k12b : iv 1 2147483647 p0 := iv_ler (iv_nLt c10) (iv_lit (n := 1) 1 (by decide)) (iv_all p0)
    refine lv_iload_n hx hb dX6_beat_5 rfl (lv_at hl 1 rfl) ?_
    refine lv_sipush (v := 1000) hx hb dX6_beat_6 (by decide) ?_
    refine lv_icmp_le (tgt := 15) hx hb dX6_beat_9 (by decide) (fun c13 => ?_) (fun c13 => ?_)
    · skip
      have r13 := (iv_Le c13)
      have k14a : iv 1 1000 p0 := iv_lel (iv_Le c13) k12b (iv_lit (n := 1000) 1000 (by decide))
      refine lv_aload_n hx hb dX6_beat_15 rfl (lv_at hl 0 rfl) ?_
      refine b_get (ci := 6) (C := RX6) (T := TX6) (Nf := 29) (v := .int (z0.1 2)) hx hb hts in_X6_beat_X6 hown hK hH 0 (by decide) rfl rfl 8 (by decide) (hts (.fieldLink RX6 28 "StationLineModel" "beat" "I") (List.mem_of_getElem? (i := 1) rfl)) rfl dX6_beat_16 ?_
      have i15 := IvM_s2 hJ.1
      have := i15.1; have := i15.2
      refine lv_istore_n (lv' := [(2, .int (z0.1 2)), (0, .ref (q 0)), (1, .int p0)]) hx hb dX6_beat_19 rfl hl (by decide) rfl (fun ls hl => ?_)
      refine lv_aload_n hx hb dX6_beat_20 rfl (lv_at hl 1 rfl) ?_
      refine lv_iload_n hx hb dX6_beat_21 rfl (lv_at hl 2 rfl) ?_
      refine b_put (ci := 6) (C := RX6) (T := TX6) (Nf := 29) (v := .int p0) (ty := .int) hx hb hts in_X6_beat_X6 tyX6 tyX6_ok nmX6 hown hK hH 0 (by decide) rfl rfl 8 (by decide) (hts (.fieldLink RX6 28 "StationLineModel" "beat" "I") (List.mem_of_getElem? (i := 1) rfl)) rfl (by decide +kernel) rfl rfl (Nat.le_of_ble_eq_true rfl) (upS z0 2 p0) rfl (enM_S2 _ _ _ _) dX6_beat_22 (fun H locs hH => ?_)
      obtain ⟨z16, hz16⟩ : ∃ w : zS, w = upS z0 2 p0 := ⟨_, rfl⟩
      rw [← hz16] at hH
      have hJ : jJ IvM 4 0 0 z0 z16 := by rw [hz16]; exact jJ_S hJ (by decide) (IvM_S2 hJ.1 (iv_w k14a (by decide) (by decide)))
      have g17 : iv 1 1000 (z16.1 2) := by rw [hz16]; exact k14a
      refine lv_iload_n hx hb dX6_beat_25 rfl (lv_at hl 0 rfl) ?_
      exact hret _ z16 H locs _ _ ⟨hJ, (iv_w i15 (by decide) (by decide)), ⟨fun _ => ⟨rfl, by rw [hz16]; rfl⟩, fun q => absurd (show iv 1 1000 p0 from ⟨by omega, by omega⟩) q⟩⟩ hH dX6_beat_26
    · skip
      have r13 := (iv_nLe c13)
      have k18b : iv 1001 2147483647 p0 := iv_ltr (iv_nLe c13) (iv_lit (n := 1000) 1000 (by decide)) k12b (by decide)
      refine lv_bipush (v := (-2)) hx hb dX6_beat_12 (by decide) ?_
      exact hret _ z0 H locs _ _ ⟨hJ, (iv_w (iv_lit (n := (-2)) (-2) (by decide)) (by decide) (by decide)), ⟨fun q => (by have := q.1; have := q.2; omega), fun _ => ⟨rfl, rfl⟩⟩⟩ hH dX6_beat_14
set_option maxHeartbeats 4000000 in
set_option maxRecDepth 100000 in
theorem g_X6_put_0 (l : Launch) (D : va_G) (cy : Nat → ClassId) (q : Nat → Nat) (hq : bJ 23 q) (z0 : zS) (hI : IvM z0) (p0 : Int32) (p1 : Int32) : bCi l yX6_put wsX6_put ({ frames := 1, cells := 0, slots := 0, locals := 21 }) D cy 23 (enM cy) q z0 [.ref (q 0), .int p0, .int p1] (fun v z => jJ IvM 0 64 0 z0 z ∧ iv (-2) 10 v) := by
  refine hM_i cX6_put (by decide) rfl (own := RX6) rfl hq (Nat.le_of_ble_eq_true rfl) ?_
  intro p e s m args below meth c Q ls H locs hx hb hml hown hts hK hZ hH hl hret
  have hl : lv_has ls 4 [(0, .ref (q 0)), (1, .int p0), (2, .int p1)] := hl
  have hJ : jJ IvM 0 64 0 z0 z0 := jJ_rf _ _ _ hI
  have HJ15 : ∀ (z_15 : zS) (H : Heap) (locs : List Loc) (ls : Array Slot), jJ IvM 0 64 0 z0 z_15 → bH D 23 (enM cy) q z_15 s.heap H locs → lv_has ls 4 [] → W p l e ({ frames := 1, cells := 0, slots := 0, locals := 21 }) s m args below meth c H locs 0 0 Q (F0 m 15 ls []) := by
    intro z_15 H locs ls hJ hH hl
    refine lv_bipush (v := (-2)) hx hb dX6_put_15 (by decide) ?_
    exact hret _ z_15 H locs _ _ ⟨hJ, (iv_w (iv_lit (n := (-2)) (-2) (by decide)) (by decide) (by decide))⟩ hH dX6_put_17
  refine lv_aload_n hx hb dX6_put_0 rfl (lv_at hl 0 rfl) ?_
  refine lv_iload_n hx hb dX6_put_1 rfl (lv_at hl 1 rfl) ?_
  refine b_calli (As := [.int p0]) (rest := []) ⟨hx, hb, hml, hown, hts⟩ 0 6 (g_X6_isTask_0 l D cy q hH.2.1 z0 hJ.1 p0) (cwV 1 hts gX6_put_X6_isTask rfl rfl rfl (by decide +kernel) ⟨Nat.le_of_ble_eq_true rfl, Nat.le_of_ble_eq_true rfl⟩) hK hZ hH (by decide) rfl rfl rfl hl.1 rfl (Nat.le_of_ble_eq_true rfl) ⟨Nat.zero_le _, Nat.zero_le _⟩ dX6_put_2 (fun w13 z13 H locs hp hH => ?_)
  rw [Ag_0 hp.1.2] at hH
  have i13 := hp.2.1
  have tr13_0 := hp.2.2.1
  have f13_0 := hp.2.2.2.1
  have f13_1 := hp.2.2.2.2
  refine lv_if_eq (tgt := 15) hx hb dX6_put_5 (by decide) (fun c14 => ?_) (fun c14 => ?_)
  · skip
    have k15a : iv 0 0 w13 := iv_eql (iv_Eq c14) i13 (iv_lit (n := 0) 0 (by decide)) (by decide) (by decide)
    exact HJ15  z0 H locs ls  hJ hH (lv_sub hl [] rfl)
  · skip
    have k16 : iv 0 9 p0 := (tr13_0).resolve_left c14
    have k17a : iv 1 1 w13 := iv_neLo (iv_nEq c14) i13 (by decide) (by decide)
    refine lv_iload_n hx hb dX6_put_8 rfl (lv_at hl 2 rfl) ?_
    refine b_stati (As := [.int p1]) (rest := []) ⟨hx, hb, hml, hown, hts⟩ (g_X6_isStation l D cy q hH.2.1 z0 hJ.1 p1) (va_cwS 1 hts gX6_put_X6_isStation rfl rfl rfl (by decide +kernel) ⟨Nat.le_of_ble_eq_true rfl, Nat.le_of_ble_eq_true rfl⟩) hK hZ hH rfl hl.1 rfl (Nat.le_of_ble_eq_true rfl) ⟨Nat.zero_le _, Nat.zero_le _⟩ dX6_put_9 (fun w18 z18 H locs hp hH => ?_)
    rw [Ag_0 hp.1.2] at hH
    have i18 := hp.2.1
    have tr18_0 := hp.2.2.1
    have f18_0 := hp.2.2.2
    refine lv_if_ne (tgt := 18) hx hb dX6_put_12 (by decide) (fun c19 => ?_) (fun c19 => ?_)
    · skip
      have k20 : iv 0 10 p1 := (tr18_0).resolve_left c19
      have k21a : iv 1 1 w18 := iv_neLo (iv_nEq c19) i18 (by decide) (by decide)
      refine lv_aload_n hx hb dX6_put_18 rfl (lv_at hl 0 rfl) ?_
      refine b_get (ci := 6) (C := RX6) (T := TX6) (Nf := 29) (v := .ref (q 6)) hx hb hts in_X6_put_X6 hown hK hH 0 (by decide) rfl rfl 6 (by decide) (hts (.fieldLink RX6 25 "StationLineModel" "hand" "[I") (List.mem_of_getElem? (i := 1) rfl)) rfl dX6_put_19 ?_
      refine lv_iload_n hx hb dX6_put_22 rfl (lv_at hl 1 rfl) ?_
      refine b_iald (v := z0.2.1 6 (p0 : Int32).toNatClampNeg) hx hb hK hH 6 (by decide) rfl (iv_in k16 (by decide) (by decide)) rfl dX6_put_23 ?_
      have i22 : iv 0 10 (z0.2.1 6 (p0 : Int32).toNatClampNeg) := IvM_a6 hJ.1 _ (b_inlt (iv_in k16 (by decide) (by decide)))
      refine lv_istore_n (lv' := [(3, .int (z0.2.1 6 (p0 : Int32).toNatClampNeg)), (0, .ref (q 0)), (1, .int p0), (2, .int p1)]) hx hb dX6_put_24 rfl hl (by decide) rfl (fun ls hl => ?_)
      refine lv_aload_n hx hb dX6_put_25 rfl (lv_at hl 1 rfl) ?_
      refine b_get (ci := 6) (C := RX6) (T := TX6) (Nf := 29) (v := .ref (q 6)) hx hb hts in_X6_put_X6 hown hK hH 0 (by decide) rfl rfl 6 (by decide) (hts (.fieldLink RX6 25 "StationLineModel" "hand" "[I") (List.mem_of_getElem? (i := 1) rfl)) rfl dX6_put_26 ?_
      refine lv_iload_n hx hb dX6_put_29 rfl (lv_at hl 2 rfl) ?_
      refine lv_iload_n hx hb dX6_put_30 rfl (lv_at hl 3 rfl) ?_
      refine b_iast hx hb hK hH 6 (by decide) rfl (iv_in k16 (by decide) (by decide)) (upA z0 6 (upd (z0.2.1 6) (p0 : Int32).toNatClampNeg p1)) rfl (enM_A _ _ _ _ _) dX6_put_31 (fun H locs hH => ?_)
      obtain ⟨z23, hz23⟩ : ∃ w : zS, w = upA z0 6 (upd (z0.2.1 6) (p0 : Int32).toNatClampNeg p1) := ⟨_, rfl⟩
      rw [← hz23] at hH
      have hJ : jJ IvM 0 64 0 z0 z23 := by rw [hz23]; exact jJ_A hJ (by decide) (IvM_A6 hJ.1 _ (iv_w k20 (by decide) (by decide)))
      refine lv_iload_n hx hb dX6_put_32 rfl (lv_at hl 0 rfl) ?_
      exact hret _ z23 H locs _ _ ⟨hJ, (iv_w i22 (by decide) (by decide))⟩ hH dX6_put_33
    · skip
      have k24a : iv 0 0 w18 := iv_eql (iv_Eq c19) i18 (iv_lit (n := 0) 0 (by decide)) (by decide) (by decide)
      exact HJ15  z0 H locs ls  hJ hH (lv_sub hl [] rfl)
set_option maxHeartbeats 4000000 in
set_option maxRecDepth 100000 in
theorem g_X6_isSheet (l : Launch) (D : va_G) (cy : Nat → ClassId) (q : Nat → Nat) (hq : bJ 23 q) (z0 : zS) (hI : IvM z0) (p0 : Int32) : bCi l yX6_isSheet wsX6_isSheet ({ frames := 0, cells := 0, slots := 0, locals := 0 }) D cy 23 (enM cy) q z0 [.int p0] (fun v z => jJ IvM 0 0 0 z0 z ∧ iv 0 1 v ∧ (v = 0 ∨ iv 0 3 p0) ∧ (v = 0 ↔ ¬ iv 0 3 p0)) := by
  refine hM_z cX6_isSheet (by decide) rfl (own := RX6) rfl hq (Nat.le_of_ble_eq_true rfl) ?_
  intro p e s m args below meth c Q ls H locs hx hb hml hown hts hK hZ hH hl hret
  have hl : lv_has ls 1 [(0, .int p0)] := hl
  have hJ : jJ IvM 0 0 0 z0 z0 := jJ_rf _ _ _ hI
  have e00 : (0 : Int32).toInt = 0 := (by decide); have e01 : (1 : Int32).toInt = 1 := (by decide); have e02 : (2 : Int32).toInt = 2 := (by decide); have e03 : (3 : Int32).toInt = 3 := (by decide); have e010 : (10 : Int32).toInt = 10 := (by decide)
  have e4 : (4 : Int32).toInt = 4 := (by decide)
  refine lv_iload_n hx hb dX6_isSheet_0 rfl (lv_at hl 0 rfl) ?_
  refine lv_if_lt (tgt := 13) hx hb dX6_isSheet_1 (by decide) (fun c7 => ?_) (fun c7 => ?_)
  · skip
    have r7 := (iv_Lt c7)
    have k8a : iv (-2147483648) (-1) p0 := iv_ltl (iv_Lt c7) (iv_all p0) (iv_lit (n := 0) 0 (by decide)) (by decide)
    refine lv_iconst (v := 0) hx hb dX6_isSheet_13 (by decide) ?_
    exact hret _ z0 H locs _ _ (iv_w (iv_lit (n := 0) 0 (by decide)) (by decide) (by decide)) ⟨hJ, (iv_w (iv_lit (n := 0) 0 (by decide)) (by decide) (by decide)), Or.inl rfl, ⟨fun _ q => (by have := q.1; have := q.2; omega), fun _ => rfl⟩⟩ hH dX6_isSheet_14
  · skip
    have r7 := (iv_nLt c7)
    have k9b : iv 0 2147483647 p0 := iv_ler (iv_nLt c7) (iv_lit (n := 0) 0 (by decide)) (iv_all p0)
    refine lv_iload_n hx hb dX6_isSheet_4 rfl (lv_at hl 0 rfl) ?_
    refine lv_iconst (v := 4) hx hb dX6_isSheet_5 (by decide) ?_
    refine lv_icmp_ge (tgt := 13) hx hb dX6_isSheet_6 (by decide) (fun c10 => ?_) (fun c10 => ?_)
    · skip
      have r10 := (iv_Le c10)
      have k11b : iv 4 2147483647 p0 := iv_ler (iv_Le c10) (iv_lit (n := 4) 4 (by decide)) k9b
      refine lv_iconst (v := 0) hx hb dX6_isSheet_13 (by decide) ?_
      exact hret _ z0 H locs _ _ (iv_w (iv_lit (n := 0) 0 (by decide)) (by decide) (by decide)) ⟨hJ, (iv_w (iv_lit (n := 0) 0 (by decide)) (by decide) (by decide)), Or.inl rfl, ⟨fun _ q => (by have := q.1; have := q.2; omega), fun _ => rfl⟩⟩ hH dX6_isSheet_14
    · skip
      have r10 := (iv_nLe c10)
      have k12a : iv 0 3 p0 := iv_ltl (iv_nLe c10) k9b (iv_lit (n := 4) 4 (by decide)) (by decide)
      refine lv_iconst (v := 1) hx hb dX6_isSheet_9 (by decide) ?_
      refine lv_goto (tgt := 14) hx hb dX6_isSheet_10 (by decide) ?_
      exact hret _ z0 H locs _ _ (iv_w (iv_lit (n := 1) 1 (by decide)) (by decide) (by decide)) ⟨hJ, (iv_w (iv_lit (n := 1) 1 (by decide)) (by decide) (by decide)), Or.inr (iv_w k12a (by decide) (by decide)), ⟨fun q => absurd q (by decide), fun q => absurd (show iv 0 3 p0 from ⟨by omega, by omega⟩) q⟩⟩ hH dX6_isSheet_14
set_option maxHeartbeats 4000000 in
set_option maxRecDepth 100000 in
theorem g_X6_sheet_0 (l : Launch) (D : va_G) (cy : Nat → ClassId) (q : Nat → Nat) (hq : bJ 23 q) (z0 : zS) (hI : IvM z0) (p0 : Int32) (p1 : Int32) (p2 : Int32) : bCi l yX6_sheet wsX6_sheet ({ frames := 1, cells := 0, slots := 0, locals := 21 }) D cy 23 (enM cy) q z0 [.ref (q 0), .int p0, .int p1, .int p2] (fun v z => jJ IvM 64 3584 0 z0 z ∧ iv (-2147483648) 2147483647 v ∧ (ShP p0 p1 p2 v) ∧ (SzP (z0.2.1 10) p0 p1 p2 (z.2.1 10)) ∧ (SoP (z0.2.1 9) p0 p1 p2 (z.2.1 9)) ∧ (ShG p0 p1 p2 (fun s i => z0.2.1 11 (40 * s + i)) (fun s i => z.2.1 11 (40 * s + i)))) := by
  refine hM_i cX6_sheet (by decide) rfl (own := RX6) rfl hq (Nat.le_of_ble_eq_true rfl) ?_
  intro p e s m args below meth c Q ls H locs hx hb hml hown hts hK hZ hH hl hret
  have hl : lv_has ls 5 [(0, .ref (q 0)), (1, .int p0), (2, .int p1), (3, .int p2)] := hl
  have hJ : jJ IvM 64 3584 0 z0 z0 := jJ_rf _ _ _ hI
  have e00 : (0 : Int32).toInt = 0 := (by decide); have e01 : (1 : Int32).toInt = 1 := (by decide); have e02 : (2 : Int32).toInt = 2 := (by decide); have e03 : (3 : Int32).toInt = 3 := (by decide); have e010 : (10 : Int32).toInt = 10 := (by decide)
  have e40 : (40 : Int32).toInt = 40 := (by decide)
  have HL53 : ∀ (n : Nat) (x4_53 : Int32) (z_53 : zS) (H : Heap) (locs : List Loc) (ls : Array Slot), iv 0 3 p0 → iv 0 40 p2 → iv 0 40 x4_53 → (iv 0 3 p0 ∧ iv 0 2 p1 ∧ 0 ≤ p2.toInt ∧ p2.toInt ≤ 40 ∧ z_53.2.1 10 = upd (z0.2.1 10) p0.toNatClampNeg p2 ∧ z_53.2.1 9 = upd (z0.2.1 9) p0.toNatClampNeg p1 ∧ ShL (z0.2.1 11) (z_53.2.1 11) p0 x4_53) → jJ IvM 64 3584 0 z0 z_53 → bH D 23 (enM cy) q z_53 s.heap H locs → lv_has ls 5 [(0, .ref (q 0)), (1, .int p0), (3, .int p2), (4, .int x4_53)] → (40 - x4_53.toInt).toNat = n → W p l e ({ frames := 1, cells := 0, slots := 0, locals := 21 }) s m args below meth c H locs 0 0 Q (F0 m 53 ls []) := by
    intro n53
    induction n53 using Nat.strongRecOn with
    | ind n53 ih53 =>
      intro x4_53 z_53 H locs ls h1_53 h3_53 h4_53 ex_53 hJ hH hl hn53
      have := h1_53.1; have := h1_53.2; have := h3_53.1; have := h3_53.2; have := h4_53.1; have := h4_53.2
      refine lv_iload hx hb dX6_sheet_53 (lv_at hl 3 rfl) ?_
      refine lv_iload_n hx hb dX6_sheet_55 rfl (lv_at hl 2 rfl) ?_
      refine lv_icmp_ge (tgt := 78) hx hb dX6_sheet_56 (by decide) (fun c112 => ?_) (fun c112 => ?_)
      · skip
        have r112 := (iv_Le c112)
        refine lv_iload_n hx hb dX6_sheet_78 rfl (lv_at hl 2 rfl) ?_
        exact hret _ z_53 H locs _ _ ⟨hJ, (iv_w h3_53 (by decide) (by decide)), ⟨fun q => ⟨fun r => absurd r (by have := ex_53.2.2.1; omega), fun _ => rfl⟩, fun q => absurd ⟨ex_53.1, ex_53.2.1, ex_53.2.2.2.1⟩ q⟩, ⟨fun _ => ex_53.2.2.2.2.1, fun q => absurd ⟨ex_53.1, ex_53.2.1, ⟨ex_53.2.2.1, ex_53.2.2.2.1⟩⟩ q⟩, ⟨fun _ => ex_53.2.2.2.2.2.1, fun q => absurd ⟨ex_53.1, ex_53.2.1, ⟨ex_53.2.2.1, ex_53.2.2.2.1⟩⟩ q⟩, ⟨fun _ a b ha hb => ⟨fun e => ex_53.2.2.2.2.2.2.2 (40 * a + b) (by omega), fun e hb2 => (show z_53.2.1 11 (40 * a + b) = 0 by rw [e]; exact ex_53.2.2.2.2.2.2.1 b (by omega))⟩, fun q => absurd ⟨ex_53.1, ex_53.2.1, ⟨ex_53.2.2.1, ex_53.2.2.2.1⟩⟩ q⟩⟩ hH dX6_sheet_79
      · skip
        have r112 := (iv_nLe c112)
        have k114a : iv 0 39 x4_53 := iv_ltl (iv_nLe c112) h4_53 h3_53 (by decide)
        have k114b : iv 1 40 p2 := iv_ltr (iv_nLe c112) h4_53 h3_53 (by decide)
        refine lv_aload_n hx hb dX6_sheet_59 rfl (lv_at hl 0 rfl) ?_
        refine b_get (ci := 6) (C := RX6) (T := TX6) (Nf := 29) (v := .ref (q 11)) hx hb hts in_X6_sheet_X6 hown hK hH 0 (by decide) rfl rfl 15 (by decide) (hts (.fieldLink RX6 44 "StationLineModel" "sheet" "[I") (List.mem_of_getElem? (i := 3) rfl)) rfl dX6_sheet_60 ?_
        refine lv_bipush (v := 40) hx hb dX6_sheet_63 (by decide) ?_
        refine lv_iload_n hx hb dX6_sheet_65 rfl (lv_at hl 1 rfl) ?_
        refine lv_imul hx hb dX6_sheet_66 ?_
        have i115 : iv 0 120 ((40 : Int32) * p0) := (iv_mul (iv_lit (n := 40) 40 (by decide)) h1_53 (by decide) (by decide) (by decide) (by decide) (by decide))
        refine lv_iload hx hb dX6_sheet_67 (lv_at hl 3 rfl) ?_
        refine lv_iadd hx hb dX6_sheet_69 ?_
        have i116 : iv 0 159 (((40 : Int32) * p0) + x4_53) := (iv_add i115 k114a (by decide) (by decide) (by decide) (by decide))
        refine lv_iconst (v := 0) hx hb dX6_sheet_70 (by decide) ?_
        refine b_iast hx hb hK hH 11 (by decide) rfl (iv_in i116 (by decide) (by decide)) (upA z_53 11 (upd (z_53.2.1 11) (((40 : Int32) * p0) + x4_53 : Int32).toNatClampNeg 0)) rfl (enM_A _ _ _ _ _) dX6_sheet_71 (fun H locs hH => ?_)
        obtain ⟨z117, hz117⟩ : ∃ w : zS, w = upA z_53 11 (upd (z_53.2.1 11) (((40 : Int32) * p0) + x4_53 : Int32).toNatClampNeg 0) := ⟨_, rfl⟩
        rw [← hz117] at hH
        have hJ : jJ IvM 64 3584 0 z0 z117 := by rw [hz117]; exact jJ_A hJ (by decide) (IvM_A hJ.1 (by decide))
        have j118 : iv 1 40 (x4_53 + 1) := iv_add k114a (iv_lit (n := 1) 1 (by decide)) (by decide) (by decide) (by decide) (by decide)
        have e118 : (x4_53 + 1).toInt = x4_53.toInt + 1 := (iv_addE k114a (iv_lit (n := 1) 1 (by decide)) (by decide) (by decide)).trans rfl
        refine lv_iinc (v := (x4_53 + 1)) (lv' := [(4, .int (x4_53 + 1)), (0, .ref (q 0)), (1, .int p0), (3, .int p2)]) hx hb dX6_sheet_72 hl (k := 3) rfl rfl (by decide) rfl (fun ls hl => ?_)
        refine lv_goto (tgt := 53) hx hb dX6_sheet_75 (by decide) ?_
        exact ih53 _ (ms_up e118 j118.2 hn53) (x4_53 + 1) z117 H locs ls h1_53 (iv_w k114b (by decide) (by decide)) (iv_w j118 (by decide) (by decide)) ⟨ex_53.1, ex_53.2.1, ex_53.2.2.1, ex_53.2.2.2.1, (((show z117.2.1 10 = z_53.2.1 10 by rw [hz117]; first | rfl | exact upA_n (by omega)))).trans ex_53.2.2.2.2.1, (((show z117.2.1 9 = z_53.2.1 9 by rw [hz117]; first | rfl | exact upA_n (by omega)))).trans ex_53.2.2.2.2.2.1, (by rw [hz117, upA_e]; exact sh_st ex_53.1 (iv_w k114a (by decide) (by decide)) rfl (e118) ex_53.2.2.2.2.2.2)⟩ hJ hH (lv_sub hl [1, 2, 3, 0] rfl) rfl
  refine lv_iload_n hx hb dX6_sheet_0 rfl (lv_at hl 1 rfl) ?_
  refine b_stati (As := [.int p0]) (rest := []) ⟨hx, hb, hml, hown, hts⟩ (g_X6_isSheet l D cy q hH.2.1 z0 hJ.1 p0) (va_cwS 1 hts gX6_sheet_X6_isSheet rfl rfl rfl (by decide +kernel) ⟨Nat.le_of_ble_eq_true rfl, Nat.le_of_ble_eq_true rfl⟩) hK hZ hH rfl hl.1 rfl (Nat.le_of_ble_eq_true rfl) ⟨Nat.zero_le _, Nat.zero_le _⟩ dX6_sheet_1 (fun w119 z119 H locs hp hH => ?_)
  rw [Ag_0 hp.1.2] at hH
  have i119 := hp.2.1
  have := i119.1; have := i119.2
  have tr119_0 := hp.2.2.1
  have f119_0 := hp.2.2.2
  refine lv_if_eq (tgt := 22) hx hb dX6_sheet_4 (by decide) (fun c120 => ?_) (fun c120 => ?_)
  · skip
    have r120 := (iv_Eq c120)
    have k121a : iv 0 0 w119 := iv_eql (iv_Eq c120) i119 (iv_lit (n := 0) 0 (by decide)) (by decide) (by decide)
    refine lv_bipush (v := (-2)) hx hb dX6_sheet_22 (by decide) ?_
    exact hret _ z0 H locs _ _ ⟨hJ, (iv_w (iv_lit (n := (-2)) (-2) (by decide)) (by decide) (by decide)), ⟨fun q => absurd q.1 (f119_0.mp c120), fun _ => rfl⟩, ⟨fun q => absurd q.1 (f119_0.mp c120), fun _ => rfl⟩, ⟨fun q => absurd q.1 (f119_0.mp c120), fun _ => rfl⟩, ⟨fun q => absurd q (fun q => absurd q.1 (f119_0.mp c120)), fun _ => fun _ _ _ _ => rfl⟩⟩ hH dX6_sheet_24
  · skip
    have k122 : iv 0 3 p0 := (tr119_0).resolve_left c120
    have := k122.1; have := k122.2
    have r120 := (iv_nEq c120)
    have k123a : iv 1 1 w119 := iv_neLo (iv_nEq c120) i119 (by decide) (by decide)
    refine lv_iload_n hx hb dX6_sheet_7 rfl (lv_at hl 2 rfl) ?_
    refine lv_if_lt (tgt := 22) hx hb dX6_sheet_8 (by decide) (fun c124 => ?_) (fun c124 => ?_)
    · skip
      have r124 := (iv_Lt c124)
      have k125a : iv (-2147483648) (-1) p1 := iv_ltl (iv_Lt c124) (iv_all p1) (iv_lit (n := 0) 0 (by decide)) (by decide)
      refine lv_bipush (v := (-2)) hx hb dX6_sheet_22 (by decide) ?_
      exact hret _ z0 H locs _ _ ⟨hJ, (iv_w (iv_lit (n := (-2)) (-2) (by decide)) (by decide) (by decide)), ⟨fun q => (by have := q.1.1; have := q.1.2; have := q.2.1.1; have := q.2.1.2; have := q.2.2; omega), fun _ => rfl⟩, ⟨fun q => (by have := q.2.1.1; have := q.2.1.2; have := q.2.2.1; have := q.2.2.2; omega), fun _ => rfl⟩, ⟨fun q => (by have := q.2.1.1; have := q.2.1.2; have := q.2.2.1; have := q.2.2.2; omega), fun _ => rfl⟩, ⟨fun q => absurd q (fun q => (by have := q.2.1.1; have := q.2.1.2; have := q.2.2.1; have := q.2.2.2; omega)), fun _ => fun _ _ _ _ => rfl⟩⟩ hH dX6_sheet_24
    · skip
      have r124 := (iv_nLt c124)
      have k126b : iv 0 2147483647 p1 := iv_ler (iv_nLt c124) (iv_lit (n := 0) 0 (by decide)) (iv_all p1)
      refine lv_iload_n hx hb dX6_sheet_11 rfl (lv_at hl 2 rfl) ?_
      refine lv_iconst (v := 2) hx hb dX6_sheet_12 (by decide) ?_
      refine lv_icmp_gt (tgt := 22) hx hb dX6_sheet_13 (by decide) (fun c127 => ?_) (fun c127 => ?_)
      · skip
        have r127 := (iv_Lt c127)
        have k128b : iv 3 2147483647 p1 := iv_ltr (iv_Lt c127) (iv_lit (n := 2) 2 (by decide)) k126b (by decide)
        refine lv_bipush (v := (-2)) hx hb dX6_sheet_22 (by decide) ?_
        exact hret _ z0 H locs _ _ ⟨hJ, (iv_w (iv_lit (n := (-2)) (-2) (by decide)) (by decide) (by decide)), ⟨fun q => (by have := q.1.1; have := q.1.2; have := q.2.1.1; have := q.2.1.2; have := q.2.2; omega), fun _ => rfl⟩, ⟨fun q => (by have := q.2.1.1; have := q.2.1.2; have := q.2.2.1; have := q.2.2.2; omega), fun _ => rfl⟩, ⟨fun q => (by have := q.2.1.1; have := q.2.1.2; have := q.2.2.1; have := q.2.2.2; omega), fun _ => rfl⟩, ⟨fun q => absurd q (fun q => (by have := q.2.1.1; have := q.2.1.2; have := q.2.2.1; have := q.2.2.2; omega)), fun _ => fun _ _ _ _ => rfl⟩⟩ hH dX6_sheet_24
      · skip
        have r127 := (iv_nLt c127)
        have k129a : iv 0 2 p1 := iv_lel (iv_nLt c127) k126b (iv_lit (n := 2) 2 (by decide))
        refine lv_iload_n hx hb dX6_sheet_16 rfl (lv_at hl 3 rfl) ?_
        refine lv_bipush (v := 40) hx hb dX6_sheet_17 (by decide) ?_
        refine lv_icmp_le (tgt := 25) hx hb dX6_sheet_19 (by decide) (fun c130 => ?_) (fun c130 => ?_)
        · skip
          have r130 := (iv_Le c130)
          have k131a : iv (-2147483648) 40 p2 := iv_lel (iv_Le c130) (iv_all p2) (iv_lit (n := 40) 40 (by decide))
          refine lv_iload_n hx hb dX6_sheet_25 rfl (lv_at hl 3 rfl) ?_
          refine lv_if_ge (tgt := 36) hx hb dX6_sheet_26 (by decide) (fun c132 => ?_) (fun c132 => ?_)
          · skip
            have r132 := (iv_Le c132)
            have k133b : iv 0 40 p2 := iv_ler (iv_Le c132) (iv_lit (n := 0) 0 (by decide)) k131a
            refine lv_aload_n hx hb dX6_sheet_36 rfl (lv_at hl 0 rfl) ?_
            refine b_get (ci := 6) (C := RX6) (T := TX6) (Nf := 29) (v := .ref (q 9)) hx hb hts in_X6_sheet_X6 hown hK hH 0 (by decide) rfl rfl 13 (by decide) (hts (.fieldLink RX6 38 "StationLineModel" "sheetSort" "[I") (List.mem_of_getElem? (i := 1) rfl)) rfl dX6_sheet_37 ?_
            refine lv_iload_n hx hb dX6_sheet_40 rfl (lv_at hl 1 rfl) ?_
            refine lv_iload_n hx hb dX6_sheet_41 rfl (lv_at hl 2 rfl) ?_
            refine b_iast hx hb hK hH 9 (by decide) rfl (iv_in k122 (by decide) (by decide)) (upA z0 9 (upd (z0.2.1 9) (p0 : Int32).toNatClampNeg p1)) rfl (enM_A _ _ _ _ _) dX6_sheet_42 (fun H locs hH => ?_)
            obtain ⟨z134, hz134⟩ : ∃ w : zS, w = upA z0 9 (upd (z0.2.1 9) (p0 : Int32).toNatClampNeg p1) := ⟨_, rfl⟩
            rw [← hz134] at hH
            have hJ : jJ IvM 64 3584 0 z0 z134 := by rw [hz134]; exact jJ_A hJ (by decide) (IvM_A hJ.1 (by decide))
            refine lv_aload_n hx hb dX6_sheet_43 rfl (lv_at hl 0 rfl) ?_
            refine b_get (ci := 6) (C := RX6) (T := TX6) (Nf := 29) (v := .ref (q 10)) hx hb hts in_X6_sheet_X6 hown hK hH 0 (by decide) rfl rfl 14 (by decide) (hts (.fieldLink RX6 41 "StationLineModel" "sheetSize" "[I") (List.mem_of_getElem? (i := 2) rfl)) rfl dX6_sheet_44 ?_
            refine lv_iload_n hx hb dX6_sheet_47 rfl (lv_at hl 1 rfl) ?_
            refine lv_iload_n hx hb dX6_sheet_48 rfl (lv_at hl 3 rfl) ?_
            refine b_iast hx hb hK hH 10 (by decide) rfl (iv_in k122 (by decide) (by decide)) (upA z134 10 (upd (z134.2.1 10) (p0 : Int32).toNatClampNeg p2)) rfl (enM_A _ _ _ _ _) dX6_sheet_49 (fun H locs hH => ?_)
            obtain ⟨z135, hz135⟩ : ∃ w : zS, w = upA z134 10 (upd (z134.2.1 10) (p0 : Int32).toNatClampNeg p2) := ⟨_, rfl⟩
            rw [← hz135] at hH
            have hJ : jJ IvM 64 3584 0 z0 z135 := by rw [hz135]; exact jJ_A hJ (by decide) (IvM_A10 hJ.1 _ (iv_w k133b (by decide) (by decide)))
            refine lv_iconst (v := 0) hx hb dX6_sheet_50 (by decide) ?_
            refine lv_istore (lv' := [(4, .int 0), (0, .ref (q 0)), (1, .int p0), (2, .int p1), (3, .int p2)]) hx hb dX6_sheet_51 hl (by decide) rfl (fun ls hl => ?_)
            exact HL53 _ 0 z135 H locs ls k122 k133b (iv_w (iv_lit (n := 0) 0 (by decide)) (by decide) (by decide)) ⟨k122, ⟨by omega, by omega⟩, by omega, by omega, (show z135.2.1 10 = upd (z134.2.1 10) p0.toNatClampNeg p2 by rw [hz135]; exact upA_e).trans (upd_c (show z134.2.1 10 = z0.2.1 10 by rw [hz134]; rfl) rfl), (show z135.2.1 9 = z134.2.1 9 by rw [hz135]; rfl).trans (show z134.2.1 9 = upd (z0.2.1 9) p0.toNatClampNeg p1 by rw [hz134]; exact upA_e), ⟨fun b hb => absurd hb (by omega), fun c _ => congrFun ((((show z135.2.1 11 = z134.2.1 11 by rw [hz135]; first | rfl | exact upA_n (by omega))).trans ((show z134.2.1 11 = z0.2.1 11 by rw [hz134]; first | rfl | exact upA_n (by omega))))) c⟩⟩ hJ hH (lv_sub hl [1, 2, 4, 0] rfl) rfl
          · skip
            have r132 := (iv_nLe c132)
            have k136a : iv (-2147483648) (-1) p2 := iv_ltl (iv_nLe c132) k131a (iv_lit (n := 0) 0 (by decide)) (by decide)
            refine lv_aload_n hx hb dX6_sheet_29 rfl (lv_at hl 0 rfl) ?_
            refine lv_bipush (v := (-13)) hx hb dX6_sheet_30 (by decide) ?_
            refine b_calli (As := [.int (-13)]) (rest := []) ⟨hx, hb, hml, hown, hts⟩ 0 6 (g_X6_meet_0 l D cy q hH.2.1 z0 hJ.1 (-13)) (cwV 1 hts gX6_sheet_X6_meet rfl rfl rfl (by decide +kernel) ⟨Nat.le_of_ble_eq_true rfl, Nat.le_of_ble_eq_true rfl⟩) hK hZ hH (by decide) rfl rfl rfl hl.1 rfl (Nat.le_of_ble_eq_true rfl) ⟨Nat.zero_le _, Nat.zero_le _⟩ dX6_sheet_32 (fun w137 z137 H locs hp hH => ?_)
            have hJ := jJ_tr hJ hp.1 (by decide) (by decide) (by decide)
            have f137_0 := hp.2.2
            have hA137 := hp.1.2
            exact hret _ z137 H locs _ _ ⟨hJ, (iv_all w137), ⟨fun q => ⟨fun _ => f137_0, fun r => absurd r (by omega)⟩, fun q => absurd ⟨by first | assumption | exact ⟨by omega, by omega⟩, by first | assumption | exact ⟨by omega, by omega⟩, by omega⟩ q⟩, ⟨fun q => (by have := q.2.1.1; have := q.2.1.2; have := q.2.2.1; have := q.2.2.2; omega), fun _ => ((hA137.2.1 10 (by decide)))⟩, ⟨fun q => (by have := q.2.1.1; have := q.2.1.2; have := q.2.2.1; have := q.2.2.2; omega), fun _ => ((hA137.2.1 9 (by decide)))⟩, ⟨fun q => absurd q (fun q => (by have := q.2.1.1; have := q.2.1.2; have := q.2.2.1; have := q.2.2.2; omega)), fun _ => (m_same (hA137.2.1 11 (by decide)))⟩⟩ hH dX6_sheet_35
        · skip
          have r130 := (iv_nLe c130)
          have k138b : iv 41 2147483647 p2 := iv_ltr (iv_nLe c130) (iv_lit (n := 40) 40 (by decide)) (iv_all p2) (by decide)
          refine lv_bipush (v := (-2)) hx hb dX6_sheet_22 (by decide) ?_
          exact hret _ z0 H locs _ _ ⟨hJ, (iv_w (iv_lit (n := (-2)) (-2) (by decide)) (by decide) (by decide)), ⟨fun q => (by have := q.1.1; have := q.1.2; have := q.2.1.1; have := q.2.1.2; have := q.2.2; omega), fun _ => rfl⟩, ⟨fun q => (by have := q.2.1.1; have := q.2.1.2; have := q.2.2.1; have := q.2.2.2; omega), fun _ => rfl⟩, ⟨fun q => (by have := q.2.1.1; have := q.2.1.2; have := q.2.2.1; have := q.2.2.2; omega), fun _ => rfl⟩, ⟨fun q => absurd q (fun q => (by have := q.2.1.1; have := q.2.1.2; have := q.2.2.1; have := q.2.2.2; omega)), fun _ => fun _ _ _ _ => rfl⟩⟩ hH dX6_sheet_24
set_option maxHeartbeats 4000000 in
set_option maxRecDepth 100000 in
theorem g_X6_write_0 (l : Launch) (D : va_G) (cy : Nat → ClassId) (q : Nat → Nat) (hq : bJ 23 q) (z0 : zS) (hI : IvM z0) (p0 : Int32) (p1 : Int32) (p2 : Int32) : bCi l yX6_write wsX6_write ({ frames := 1, cells := 0, slots := 0, locals := 21 }) D cy 23 (enM cy) q z0 [.ref (q 0), .int p0, .int p1, .int p2] (fun v z => jJ IvM 64 2048 0 z0 z ∧ iv (-2147483648) 2147483647 v ∧ (WrP (z0.2.1 10) (z0.2.1 9) (fun s i => z0.2.1 11 (40 * s + i)) p0 p1 p2 v (fun s i => z.2.1 11 (40 * s + i)))) := by
  refine hM_i cX6_write (by decide) rfl (own := RX6) rfl hq (Nat.le_of_ble_eq_true rfl) ?_
  intro p e s m args below meth c Q ls H locs hx hb hml hown hts hK hZ hH hl hret
  have hl : lv_has ls 5 [(0, .ref (q 0)), (1, .int p0), (2, .int p1), (3, .int p2)] := hl
  have hJ : jJ IvM 64 2048 0 z0 z0 := jJ_rf _ _ _ hI
  have e00 : (0 : Int32).toInt = 0 := (by decide); have e01 : (1 : Int32).toInt = 1 := (by decide); have e02 : (2 : Int32).toInt = 2 := (by decide); have e03 : (3 : Int32).toInt = 3 := (by decide); have e010 : (10 : Int32).toInt = 10 := (by decide)
  refine lv_iload_n hx hb dX6_write_0 rfl (lv_at hl 1 rfl) ?_
  refine b_stati (As := [.int p0]) (rest := []) ⟨hx, hb, hml, hown, hts⟩ (g_X6_isSheet l D cy q hH.2.1 z0 hJ.1 p0) (va_cwS 1 hts gX6_write_X6_isSheet rfl rfl rfl (by decide +kernel) ⟨Nat.le_of_ble_eq_true rfl, Nat.le_of_ble_eq_true rfl⟩) hK hZ hH rfl hl.1 rfl (Nat.le_of_ble_eq_true rfl) ⟨Nat.zero_le _, Nat.zero_le _⟩ dX6_write_1 (fun w35 z35 H locs hp hH => ?_)
  rw [Ag_0 hp.1.2] at hH
  have i35 := hp.2.1
  have := i35.1; have := i35.2
  have tr35_0 := hp.2.2.1
  have f35_0 := hp.2.2.2
  refine lv_if_ne (tgt := 10) hx hb dX6_write_4 (by decide) (fun c36 => ?_) (fun c36 => ?_)
  · skip
    have k37 : iv 0 3 p0 := (tr35_0).resolve_left c36
    have := k37.1; have := k37.2
    have r36 := (iv_nEq c36)
    have k38a : iv 1 1 w35 := iv_neLo (iv_nEq c36) i35 (by decide) (by decide)
    refine lv_aload_n hx hb dX6_write_10 rfl (lv_at hl 0 rfl) ?_
    refine b_get (ci := 6) (C := RX6) (T := TX6) (Nf := 29) (v := .ref (q 10)) hx hb hts in_X6_write_X6 hown hK hH 0 (by decide) rfl rfl 14 (by decide) (hts (.fieldLink RX6 41 "StationLineModel" "sheetSize" "[I") (List.mem_of_getElem? (i := 1) rfl)) rfl dX6_write_11 ?_
    refine lv_iload_n hx hb dX6_write_14 rfl (lv_at hl 1 rfl) ?_
    refine b_iald (v := z0.2.1 10 (p0 : Int32).toNatClampNeg) hx hb hK hH 10 (by decide) rfl (iv_in k37 (by decide) (by decide)) rfl dX6_write_15 ?_
    have i39 : iv (-1) 40 (z0.2.1 10 (p0 : Int32).toNatClampNeg) := IvM_a10 hJ.1 _ (b_inlt (iv_in k37 (by decide) (by decide)))
    have := i39.1; have := i39.2
    refine lv_if_ge (tgt := 26) hx hb dX6_write_16 (by decide) (fun c40 => ?_) (fun c40 => ?_)
    · skip
      have r40 := (iv_Le c40)
      have k41b : iv 0 40 (z0.2.1 10 (p0 : Int32).toNatClampNeg) := iv_ler (iv_Le c40) (iv_lit (n := 0) 0 (by decide)) i39
      refine lv_iload_n hx hb dX6_write_26 rfl (lv_at hl 2 rfl) ?_
      refine lv_if_lt (tgt := 40) hx hb dX6_write_27 (by decide) (fun c42 => ?_) (fun c42 => ?_)
      · skip
        have r42 := (iv_Lt c42)
        have k43a : iv (-2147483648) (-1) p1 := iv_ltl (iv_Lt c42) (iv_all p1) (iv_lit (n := 0) 0 (by decide)) (by decide)
        refine lv_aload_n hx hb dX6_write_40 rfl (lv_at hl 0 rfl) ?_
        refine lv_bipush (v := (-11)) hx hb dX6_write_41 (by decide) ?_
        refine b_calli (As := [.int (-11)]) (rest := []) ⟨hx, hb, hml, hown, hts⟩ 0 6 (g_X6_meet_0 l D cy q hH.2.1 z0 hJ.1 (-11)) (cwV 1 hts gX6_write_X6_meet rfl rfl rfl (by decide +kernel) ⟨Nat.le_of_ble_eq_true rfl, Nat.le_of_ble_eq_true rfl⟩) hK hZ hH (by decide) rfl rfl rfl hl.1 rfl (Nat.le_of_ble_eq_true rfl) ⟨Nat.zero_le _, Nat.zero_le _⟩ dX6_write_43 (fun w44 z44 H locs hp hH => ?_)
        have hJ := jJ_tr hJ hp.1 (by decide) (by decide) (by decide)
        have f44_0 := hp.2.2
        have hA44 := hp.1.2
        exact hret _ z44 H locs _ _ ⟨hJ, (iv_all w44), ⟨fun q => absurd (iv_w k37 (by decide) (by decide)) q, fun _ => ⟨fun r9 => absurd r9 (by omega), fun _ => ⟨fun _ => ⟨f44_0, (m_same (hA44.2.1 11 (by decide)))⟩, fun r9 => absurd r9.2 (by have := r9.1; omega)⟩⟩⟩⟩ hH dX6_write_46
      · skip
        have r42 := (iv_nLt c42)
        have k45b : iv 0 2147483647 p1 := iv_ler (iv_nLt c42) (iv_lit (n := 0) 0 (by decide)) (iv_all p1)
        refine lv_iload_n hx hb dX6_write_30 rfl (lv_at hl 2 rfl) ?_
        refine lv_aload_n hx hb dX6_write_31 rfl (lv_at hl 0 rfl) ?_
        refine b_get (ci := 6) (C := RX6) (T := TX6) (Nf := 29) (v := .ref (q 10)) hx hb hts in_X6_write_X6 hown hK hH 0 (by decide) rfl rfl 14 (by decide) (hts (.fieldLink RX6 41 "StationLineModel" "sheetSize" "[I") (List.mem_of_getElem? (i := 1) rfl)) rfl dX6_write_32 ?_
        refine lv_iload_n hx hb dX6_write_35 rfl (lv_at hl 1 rfl) ?_
        refine b_iald (v := z0.2.1 10 (p0 : Int32).toNatClampNeg) hx hb hK hH 10 (by decide) rfl (iv_in k37 (by decide) (by decide)) rfl dX6_write_36 ?_
        have i46 : iv (-1) 40 (z0.2.1 10 (p0 : Int32).toNatClampNeg) := IvM_a10 hJ.1 _ (b_inlt (iv_in k37 (by decide) (by decide)))
        have := i46.1; have := i46.2
        refine lv_icmp_lt (tgt := 47) hx hb dX6_write_37 (by decide) (fun c47 => ?_) (fun c47 => ?_)
        · skip
          have r47 := (iv_Lt c47)
          have k48a : iv 0 39 p1 := iv_ltl (iv_Lt c47) k45b i46 (by decide)
          have k48b : iv 1 40 (z0.2.1 10 (p0 : Int32).toNatClampNeg) := iv_ltr (iv_Lt c47) k45b i46 (by decide)
          refine lv_aload_n hx hb dX6_write_47 rfl (lv_at hl 0 rfl) ?_
          refine b_get (ci := 6) (C := RX6) (T := TX6) (Nf := 29) (v := .ref (q 11)) hx hb hts in_X6_write_X6 hown hK hH 0 (by decide) rfl rfl 15 (by decide) (hts (.fieldLink RX6 44 "StationLineModel" "sheet" "[I") (List.mem_of_getElem? (i := 2) rfl)) rfl dX6_write_48 ?_
          refine lv_bipush (v := 40) hx hb dX6_write_51 (by decide) ?_
          refine lv_iload_n hx hb dX6_write_53 rfl (lv_at hl 1 rfl) ?_
          refine lv_imul hx hb dX6_write_54 ?_
          have i49 : iv 0 120 ((40 : Int32) * p0) := (iv_mul (iv_lit (n := 40) 40 (by decide)) k37 (by decide) (by decide) (by decide) (by decide) (by decide))
          refine lv_iload_n hx hb dX6_write_55 rfl (lv_at hl 2 rfl) ?_
          refine lv_iadd hx hb dX6_write_56 ?_
          have i50 : iv 0 159 (((40 : Int32) * p0) + p1) := (iv_add i49 k48a (by decide) (by decide) (by decide) (by decide))
          refine b_iald (v := z0.2.1 11 (((40 : Int32) * p0) + p1 : Int32).toNatClampNeg) hx hb hK hH 11 (by decide) rfl (iv_in i50 (by decide) (by decide)) rfl dX6_write_57 ?_
          refine lv_istore (lv' := [(4, .int (z0.2.1 11 (((40 : Int32) * p0) + p1 : Int32).toNatClampNeg)), (0, .ref (q 0)), (1, .int p0), (2, .int p1), (3, .int p2)]) hx hb dX6_write_58 hl (by decide) rfl (fun ls hl => ?_)
          refine lv_aload_n hx hb dX6_write_60 rfl (lv_at hl 1 rfl) ?_
          refine b_get (ci := 6) (C := RX6) (T := TX6) (Nf := 29) (v := .ref (q 11)) hx hb hts in_X6_write_X6 hown hK hH 0 (by decide) rfl rfl 15 (by decide) (hts (.fieldLink RX6 44 "StationLineModel" "sheet" "[I") (List.mem_of_getElem? (i := 2) rfl)) rfl dX6_write_61 ?_
          refine lv_bipush (v := 40) hx hb dX6_write_64 (by decide) ?_
          refine lv_iload_n hx hb dX6_write_66 rfl (lv_at hl 2 rfl) ?_
          refine lv_imul hx hb dX6_write_67 ?_
          have i51 : iv 0 120 ((40 : Int32) * p0) := (iv_mul (iv_lit (n := 40) 40 (by decide)) k37 (by decide) (by decide) (by decide) (by decide) (by decide))
          refine lv_iload_n hx hb dX6_write_68 rfl (lv_at hl 3 rfl) ?_
          refine lv_iadd hx hb dX6_write_69 ?_
          have i52 : iv 0 159 (((40 : Int32) * p0) + p1) := (iv_add i51 k48a (by decide) (by decide) (by decide) (by decide))
          refine lv_aload_n hx hb dX6_write_70 rfl (lv_at hl 1 rfl) ?_
          refine b_get (ci := 6) (C := RX6) (T := TX6) (Nf := 29) (v := .ref (q 9)) hx hb hts in_X6_write_X6 hown hK hH 0 (by decide) rfl rfl 13 (by decide) (hts (.fieldLink RX6 38 "StationLineModel" "sheetSort" "[I") (List.mem_of_getElem? (i := 3) rfl)) rfl dX6_write_71 ?_
          refine lv_iload_n hx hb dX6_write_74 rfl (lv_at hl 2 rfl) ?_
          refine b_iald (v := z0.2.1 9 (p0 : Int32).toNatClampNeg) hx hb hK hH 9 (by decide) rfl (iv_in k37 (by decide) (by decide)) rfl dX6_write_75 ?_
          refine lv_if_ne (tgt := 84) hx hb dX6_write_76 (by decide) (fun c53 => ?_) (fun c53 => ?_)
          · skip
            have r53 := (iv_nEq c53)
            refine lv_aload_n hx hb dX6_write_84 rfl (lv_at hl 1 rfl) ?_
            refine b_get (ci := 6) (C := RX6) (T := TX6) (Nf := 29) (v := .ref (q 9)) hx hb hts in_X6_write_X6 hown hK hH 0 (by decide) rfl rfl 13 (by decide) (hts (.fieldLink RX6 38 "StationLineModel" "sheetSort" "[I") (List.mem_of_getElem? (i := 3) rfl)) rfl dX6_write_85 ?_
            refine lv_iload_n hx hb dX6_write_88 rfl (lv_at hl 2 rfl) ?_
            refine b_iald (v := z0.2.1 9 (p0 : Int32).toNatClampNeg) hx hb hK hH 9 (by decide) rfl (iv_in k37 (by decide) (by decide)) rfl dX6_write_89 ?_
            refine lv_iconst (v := 1) hx hb dX6_write_90 (by decide) ?_
            refine lv_icmp_ne (tgt := 99) hx hb dX6_write_91 (by decide) (fun c55 => ?_) (fun c55 => ?_)
            · skip
              have r55 := (iv_nEq c55)
              refine lv_iload_n hx hb dX6_write_99 rfl (lv_at hl 4 rfl) ?_
              refine b_iast hx hb hK hH 11 (by decide) rfl (iv_in i52 (by decide) (by decide)) (upA z0 11 (upd (z0.2.1 11) (((40 : Int32) * p0) + p1 : Int32).toNatClampNeg p2)) rfl (enM_A _ _ _ _ _) dX6_write_100 (fun H locs hH => ?_)
              obtain ⟨z57, hz57⟩ : ∃ w : zS, w = upA z0 11 (upd (z0.2.1 11) (((40 : Int32) * p0) + p1 : Int32).toNatClampNeg p2) := ⟨_, rfl⟩
              rw [← hz57] at hH
              have hJ : jJ IvM 64 2048 0 z0 z57 := by rw [hz57]; exact jJ_A hJ (by decide) (IvM_A hJ.1 (by decide))
              refine lv_iload hx hb dX6_write_101 (lv_at hl 0 rfl) ?_
              exact hret _ z57 H locs _ _ ⟨hJ, (iv_all (z0.2.1 11 (((40 : Int32) * p0) + p1 : Int32).toNatClampNeg)), ⟨fun q => absurd (iv_w k37 (by decide) (by decide)) q, fun _ => ⟨fun r9 => absurd r9 (by omega), fun _ => ⟨fun r9 => absurd ⟨by omega, by omega⟩ r9, fun _ => ⟨congrArg (z0.2.1 11) (ix40 (iv_w k37 (by decide) (by decide)) ⟨by omega, by omega⟩), (by rw [hz57, ← (nar_2 c53 c55)]; exact wr_m (ix40 (iv_w k37 (by decide) (by decide)) ⟨by omega, by omega⟩) (by have := iv_nat (a := 0) (b := 39) (x := p1) ⟨by omega, by omega⟩ (by decide); omega))⟩⟩⟩⟩⟩ hH dX6_write_103
            · skip
              have r55 := (iv_Eq c55)
              have k58a : iv 1 1 (z0.2.1 9 (p0 : Int32).toNatClampNeg) := iv_eql (iv_Eq c55) (iv_all (z0.2.1 9 (p0 : Int32).toNatClampNeg)) (iv_lit (n := 1) 1 (by decide)) (by decide) (by decide)
              refine lv_iload_n hx hb dX6_write_94 rfl (lv_at hl 4 rfl) ?_
              refine lv_i2s hx hb dX6_write_95 rfl ?_
              refine lv_goto (tgt := 100) hx hb dX6_write_96 (by decide) ?_
              refine b_iast hx hb hK hH 11 (by decide) rfl (iv_in i52 (by decide) (by decide)) (upA z0 11 (upd (z0.2.1 11) (((40 : Int32) * p0) + p1 : Int32).toNatClampNeg p2.toInt16.toInt32)) rfl (enM_A _ _ _ _ _) dX6_write_100 (fun H locs hH => ?_)
              obtain ⟨z60, hz60⟩ : ∃ w : zS, w = upA z0 11 (upd (z0.2.1 11) (((40 : Int32) * p0) + p1 : Int32).toNatClampNeg p2.toInt16.toInt32) := ⟨_, rfl⟩
              rw [← hz60] at hH
              have hJ : jJ IvM 64 2048 0 z0 z60 := by rw [hz60]; exact jJ_A hJ (by decide) (IvM_A hJ.1 (by decide))
              refine lv_iload hx hb dX6_write_101 (lv_at hl 0 rfl) ?_
              exact hret _ z60 H locs _ _ ⟨hJ, (iv_all (z0.2.1 11 (((40 : Int32) * p0) + p1 : Int32).toNatClampNeg)), ⟨fun q => absurd (iv_w k37 (by decide) (by decide)) q, fun _ => ⟨fun r9 => absurd r9 (by omega), fun _ => ⟨fun r9 => absurd ⟨by omega, by omega⟩ r9, fun _ => ⟨congrArg (z0.2.1 11) (ix40 (iv_w k37 (by decide) (by decide)) ⟨by omega, by omega⟩), (by rw [hz60, ← (nar_1 c53 c55)]; exact wr_m (ix40 (iv_w k37 (by decide) (by decide)) ⟨by omega, by omega⟩) (by have := iv_nat (a := 0) (b := 39) (x := p1) ⟨by omega, by omega⟩ (by decide); omega))⟩⟩⟩⟩⟩ hH dX6_write_103
          · skip
            have r53 := (iv_Eq c53)
            have k61a : iv 0 0 (z0.2.1 9 (p0 : Int32).toNatClampNeg) := iv_eql (iv_Eq c53) (iv_all (z0.2.1 9 (p0 : Int32).toNatClampNeg)) (iv_lit (n := 0) 0 (by decide)) (by decide) (by decide)
            refine lv_iload_n hx hb dX6_write_79 rfl (lv_at hl 4 rfl) ?_
            refine lv_i2b hx hb dX6_write_80 rfl ?_
            refine lv_goto (tgt := 100) hx hb dX6_write_81 (by decide) ?_
            refine b_iast hx hb hK hH 11 (by decide) rfl (iv_in i52 (by decide) (by decide)) (upA z0 11 (upd (z0.2.1 11) (((40 : Int32) * p0) + p1 : Int32).toNatClampNeg p2.toInt8.toInt32)) rfl (enM_A _ _ _ _ _) dX6_write_100 (fun H locs hH => ?_)
            obtain ⟨z63, hz63⟩ : ∃ w : zS, w = upA z0 11 (upd (z0.2.1 11) (((40 : Int32) * p0) + p1 : Int32).toNatClampNeg p2.toInt8.toInt32) := ⟨_, rfl⟩
            rw [← hz63] at hH
            have hJ : jJ IvM 64 2048 0 z0 z63 := by rw [hz63]; exact jJ_A hJ (by decide) (IvM_A hJ.1 (by decide))
            refine lv_iload hx hb dX6_write_101 (lv_at hl 0 rfl) ?_
            exact hret _ z63 H locs _ _ ⟨hJ, (iv_all (z0.2.1 11 (((40 : Int32) * p0) + p1 : Int32).toNatClampNeg)), ⟨fun q => absurd (iv_w k37 (by decide) (by decide)) q, fun _ => ⟨fun r9 => absurd r9 (by omega), fun _ => ⟨fun r9 => absurd ⟨by omega, by omega⟩ r9, fun _ => ⟨congrArg (z0.2.1 11) (ix40 (iv_w k37 (by decide) (by decide)) ⟨by omega, by omega⟩), (by rw [hz63, ← (nar_0 c53)]; exact wr_m (ix40 (iv_w k37 (by decide) (by decide)) ⟨by omega, by omega⟩) (by have := iv_nat (a := 0) (b := 39) (x := p1) ⟨by omega, by omega⟩ (by decide); omega))⟩⟩⟩⟩⟩ hH dX6_write_103
        · skip
          have r47 := (iv_nLt c47)
          refine lv_aload_n hx hb dX6_write_40 rfl (lv_at hl 0 rfl) ?_
          refine lv_bipush (v := (-11)) hx hb dX6_write_41 (by decide) ?_
          refine b_calli (As := [.int (-11)]) (rest := []) ⟨hx, hb, hml, hown, hts⟩ 0 6 (g_X6_meet_0 l D cy q hH.2.1 z0 hJ.1 (-11)) (cwV 1 hts gX6_write_X6_meet rfl rfl rfl (by decide +kernel) ⟨Nat.le_of_ble_eq_true rfl, Nat.le_of_ble_eq_true rfl⟩) hK hZ hH (by decide) rfl rfl rfl hl.1 rfl (Nat.le_of_ble_eq_true rfl) ⟨Nat.zero_le _, Nat.zero_le _⟩ dX6_write_43 (fun w65 z65 H locs hp hH => ?_)
          have hJ := jJ_tr hJ hp.1 (by decide) (by decide) (by decide)
          have f65_0 := hp.2.2
          have hA65 := hp.1.2
          exact hret _ z65 H locs _ _ ⟨hJ, (iv_all w65), ⟨fun q => absurd (iv_w k37 (by decide) (by decide)) q, fun _ => ⟨fun r9 => absurd r9 (by omega), fun _ => ⟨fun _ => ⟨f65_0, (m_same (hA65.2.1 11 (by decide)))⟩, fun r9 => absurd r9.2 (by have := r9.1; omega)⟩⟩⟩⟩ hH dX6_write_46
    · skip
      have r40 := (iv_nLe c40)
      have k66a : iv (-1) (-1) (z0.2.1 10 (p0 : Int32).toNatClampNeg) := iv_ltl (iv_nLe c40) i39 (iv_lit (n := 0) 0 (by decide)) (by decide)
      refine lv_aload_n hx hb dX6_write_19 rfl (lv_at hl 0 rfl) ?_
      refine lv_bipush (v := (-10)) hx hb dX6_write_20 (by decide) ?_
      refine b_calli (As := [.int (-10)]) (rest := []) ⟨hx, hb, hml, hown, hts⟩ 0 6 (g_X6_meet_0 l D cy q hH.2.1 z0 hJ.1 (-10)) (cwV 1 hts gX6_write_X6_meet rfl rfl rfl (by decide +kernel) ⟨Nat.le_of_ble_eq_true rfl, Nat.le_of_ble_eq_true rfl⟩) hK hZ hH (by decide) rfl rfl rfl hl.1 rfl (Nat.le_of_ble_eq_true rfl) ⟨Nat.zero_le _, Nat.zero_le _⟩ dX6_write_22 (fun w67 z67 H locs hp hH => ?_)
      have hJ := jJ_tr hJ hp.1 (by decide) (by decide) (by decide)
      have f67_0 := hp.2.2
      have hA67 := hp.1.2
      exact hret _ z67 H locs _ _ ⟨hJ, (iv_all w67), ⟨fun q => absurd (iv_w k37 (by decide) (by decide)) q, fun _ => ⟨fun _ => ⟨f67_0, (m_same (hA67.2.1 11 (by decide)))⟩, fun r9 => absurd r9 (by omega)⟩⟩⟩ hH dX6_write_25
  · skip
    have r36 := (iv_Eq c36)
    have k68a : iv 0 0 w35 := iv_eql (iv_Eq c36) i35 (iv_lit (n := 0) 0 (by decide)) (by decide) (by decide)
    refine lv_bipush (v := (-2)) hx hb dX6_write_7 (by decide) ?_
    exact hret _ z0 H locs _ _ ⟨hJ, (iv_w (iv_lit (n := (-2)) (-2) (by decide)) (by decide) (by decide)), ⟨fun _ => ⟨rfl, fun _ _ _ _ => rfl⟩, fun q => absurd q (f35_0.mp c36)⟩⟩ hH dX6_write_9
set_option maxHeartbeats 4000000 in
set_option maxRecDepth 100000 in
theorem g_X6_lose_0 (l : Launch) (D : va_G) (cy : Nat → ClassId) (q : Nat → Nat) (hq : bJ 23 q) (z0 : zS) (hI : IvM z0) (p0 : Int32) : bCi l yX6_lose wsX6_lose ({ frames := 1, cells := 0, slots := 0, locals := 20 }) D cy 23 (enM cy) q z0 [.ref (q 0), .int p0] (fun v z => jJ IvM 0 1024 0 z0 z ∧ iv (-2) 1 v ∧ (LoP (z0.2.1 10) p0 v (z.2.1 10))) := by
  refine hM_i cX6_lose (by decide) rfl (own := RX6) rfl hq (Nat.le_of_ble_eq_true rfl) ?_
  intro p e s m args below meth c Q ls H locs hx hb hml hown hts hK hZ hH hl hret
  have hl : lv_has ls 3 [(0, .ref (q 0)), (1, .int p0)] := hl
  have hJ : jJ IvM 0 1024 0 z0 z0 := jJ_rf _ _ _ hI
  have e00 : (0 : Int32).toInt = 0 := (by decide); have e01 : (1 : Int32).toInt = 1 := (by decide); have e02 : (2 : Int32).toInt = 2 := (by decide); have e03 : (3 : Int32).toInt = 3 := (by decide); have e010 : (10 : Int32).toInt = 10 := (by decide)
  refine lv_iload_n hx hb dX6_lose_0 rfl (lv_at hl 1 rfl) ?_
  refine b_stati (As := [.int p0]) (rest := []) ⟨hx, hb, hml, hown, hts⟩ (g_X6_isSheet l D cy q hH.2.1 z0 hJ.1 p0) (va_cwS 1 hts gX6_lose_X6_isSheet rfl rfl rfl (by decide +kernel) ⟨Nat.le_of_ble_eq_true rfl, Nat.le_of_ble_eq_true rfl⟩) hK hZ hH rfl hl.1 rfl (Nat.le_of_ble_eq_true rfl) ⟨Nat.zero_le _, Nat.zero_le _⟩ dX6_lose_1 (fun w12 z12 H locs hp hH => ?_)
  rw [Ag_0 hp.1.2] at hH
  have i12 := hp.2.1
  have := i12.1; have := i12.2
  have tr12_0 := hp.2.2.1
  have f12_0 := hp.2.2.2
  refine lv_if_ne (tgt := 10) hx hb dX6_lose_4 (by decide) (fun c13 => ?_) (fun c13 => ?_)
  · skip
    have k14 : iv 0 3 p0 := (tr12_0).resolve_left c13
    have := k14.1; have := k14.2
    have r13 := (iv_nEq c13)
    have k15a : iv 1 1 w12 := iv_neLo (iv_nEq c13) i12 (by decide) (by decide)
    refine lv_aload_n hx hb dX6_lose_10 rfl (lv_at hl 0 rfl) ?_
    refine b_get (ci := 6) (C := RX6) (T := TX6) (Nf := 29) (v := .ref (q 10)) hx hb hts in_X6_lose_X6 hown hK hH 0 (by decide) rfl rfl 14 (by decide) (hts (.fieldLink RX6 41 "StationLineModel" "sheetSize" "[I") (List.mem_of_getElem? (i := 1) rfl)) rfl dX6_lose_11 ?_
    refine lv_iload_n hx hb dX6_lose_14 rfl (lv_at hl 1 rfl) ?_
    refine b_iald (v := z0.2.1 10 (p0 : Int32).toNatClampNeg) hx hb hK hH 10 (by decide) rfl (iv_in k14 (by decide) (by decide)) rfl dX6_lose_15 ?_
    have i16 : iv (-1) 40 (z0.2.1 10 (p0 : Int32).toNatClampNeg) := IvM_a10 hJ.1 _ (b_inlt (iv_in k14 (by decide) (by decide)))
    have := i16.1; have := i16.2
    refine lv_if_lt (tgt := 23) hx hb dX6_lose_16 (by decide) (fun c17 => ?_) (fun c17 => ?_)
    · skip
      have r17 := (iv_Lt c17)
      have k18a : iv (-1) (-1) (z0.2.1 10 (p0 : Int32).toNatClampNeg) := iv_ltl (iv_Lt c17) i16 (iv_lit (n := 0) 0 (by decide)) (by decide)
      refine lv_iconst (v := 0) hx hb dX6_lose_23 (by decide) ?_
      refine lv_istore_n (lv' := [(2, .int 0), (0, .ref (q 0)), (1, .int p0)]) hx hb dX6_lose_24 rfl hl (by decide) rfl (fun ls hl => ?_)
      refine lv_aload_n hx hb dX6_lose_25 rfl (lv_at hl 1 rfl) ?_
      refine b_get (ci := 6) (C := RX6) (T := TX6) (Nf := 29) (v := .ref (q 10)) hx hb hts in_X6_lose_X6 hown hK hH 0 (by decide) rfl rfl 14 (by decide) (hts (.fieldLink RX6 41 "StationLineModel" "sheetSize" "[I") (List.mem_of_getElem? (i := 1) rfl)) rfl dX6_lose_26 ?_
      refine lv_iload_n hx hb dX6_lose_29 rfl (lv_at hl 2 rfl) ?_
      refine lv_iconst (v := (-1)) hx hb dX6_lose_30 (by decide) ?_
      refine b_iast hx hb hK hH 10 (by decide) rfl (iv_in k14 (by decide) (by decide)) (upA z0 10 (upd (z0.2.1 10) (p0 : Int32).toNatClampNeg (-1))) rfl (enM_A _ _ _ _ _) dX6_lose_31 (fun H locs hH => ?_)
      obtain ⟨z19, hz19⟩ : ∃ w : zS, w = upA z0 10 (upd (z0.2.1 10) (p0 : Int32).toNatClampNeg (-1)) := ⟨_, rfl⟩
      rw [← hz19] at hH
      have hJ : jJ IvM 0 1024 0 z0 z19 := by rw [hz19]; exact jJ_A hJ (by decide) (IvM_A10 hJ.1 _ (iv_w (iv_lit (n := (-1)) (-1) (by decide)) (by decide) (by decide)))
      refine lv_iload_n hx hb dX6_lose_32 rfl (lv_at hl 0 rfl) ?_
      exact hret _ z19 H locs _ _ ⟨hJ, (iv_w (iv_lit (n := 0) 0 (by decide)) (by decide) (by decide)), ⟨fun _ => ⟨⟨fun _ => rfl, fun r9 => absurd r9 (by omega)⟩, by rw [hz19]; exact upA_e⟩, fun q => absurd (iv_w k14 (by decide) (by decide)) q⟩⟩ hH dX6_lose_33
    · skip
      have r17 := (iv_nLt c17)
      have k20b : iv 0 40 (z0.2.1 10 (p0 : Int32).toNatClampNeg) := iv_ler (iv_nLt c17) (iv_lit (n := 0) 0 (by decide)) i16
      refine lv_iconst (v := 1) hx hb dX6_lose_19 (by decide) ?_
      refine lv_goto (tgt := 24) hx hb dX6_lose_20 (by decide) ?_
      refine lv_istore_n (lv' := [(2, .int 1), (0, .ref (q 0)), (1, .int p0)]) hx hb dX6_lose_24 rfl hl (by decide) rfl (fun ls hl => ?_)
      refine lv_aload_n hx hb dX6_lose_25 rfl (lv_at hl 1 rfl) ?_
      refine b_get (ci := 6) (C := RX6) (T := TX6) (Nf := 29) (v := .ref (q 10)) hx hb hts in_X6_lose_X6 hown hK hH 0 (by decide) rfl rfl 14 (by decide) (hts (.fieldLink RX6 41 "StationLineModel" "sheetSize" "[I") (List.mem_of_getElem? (i := 1) rfl)) rfl dX6_lose_26 ?_
      refine lv_iload_n hx hb dX6_lose_29 rfl (lv_at hl 2 rfl) ?_
      refine lv_iconst (v := (-1)) hx hb dX6_lose_30 (by decide) ?_
      refine b_iast hx hb hK hH 10 (by decide) rfl (iv_in k14 (by decide) (by decide)) (upA z0 10 (upd (z0.2.1 10) (p0 : Int32).toNatClampNeg (-1))) rfl (enM_A _ _ _ _ _) dX6_lose_31 (fun H locs hH => ?_)
      obtain ⟨z21, hz21⟩ : ∃ w : zS, w = upA z0 10 (upd (z0.2.1 10) (p0 : Int32).toNatClampNeg (-1)) := ⟨_, rfl⟩
      rw [← hz21] at hH
      have hJ : jJ IvM 0 1024 0 z0 z21 := by rw [hz21]; exact jJ_A hJ (by decide) (IvM_A10 hJ.1 _ (iv_w (iv_lit (n := (-1)) (-1) (by decide)) (by decide) (by decide)))
      refine lv_iload_n hx hb dX6_lose_32 rfl (lv_at hl 0 rfl) ?_
      exact hret _ z21 H locs _ _ ⟨hJ, (iv_w (iv_lit (n := 1) 1 (by decide)) (by decide) (by decide)), ⟨fun _ => ⟨⟨fun r9 => absurd r9 (by omega), fun _ => rfl⟩, by rw [hz21]; exact upA_e⟩, fun q => absurd (iv_w k14 (by decide) (by decide)) q⟩⟩ hH dX6_lose_33
  · skip
    have r13 := (iv_Eq c13)
    have k22a : iv 0 0 w12 := iv_eql (iv_Eq c13) i12 (iv_lit (n := 0) 0 (by decide)) (by decide) (by decide)
    refine lv_bipush (v := (-2)) hx hb dX6_lose_7 (by decide) ?_
    exact hret _ z0 H locs _ _ ⟨hJ, (iv_w (iv_lit (n := (-2)) (-2) (by decide)) (by decide) (by decide)), ⟨fun q => absurd q (f12_0.mp c13), fun _ => ⟨rfl, rfl⟩⟩⟩ hH dX6_lose_9
set_option maxHeartbeats 4000000 in
set_option maxRecDepth 100000 in
theorem g_X6_tell_0 (l : Launch) (D : va_G) (cy : Nat → ClassId) (q : Nat → Nat) (hq : bJ 23 q) (z0 : zS) (hI : IvM z0) (p0 : Int32) : bCi l yX6_tell wsX6_tell ({ frames := 0, cells := 0, slots := 0, locals := 0 }) D cy 23 (enM cy) q z0 [.ref (q 0), .int p0] (fun v z => jJ IvM 32 4096 0 z0 z ∧ iv (-2) 20 v ∧ (TellP (z0.1 5) v (z.1 5))) := by
  refine hM_i cX6_tell (by decide) rfl (own := RX6) rfl hq (Nat.le_of_ble_eq_true rfl) ?_
  intro p e s m args below meth c Q ls H locs hx hb hml hown hts hK hZ hH hl hret
  have hl : lv_has ls 2 [(0, .ref (q 0)), (1, .int p0)] := hl
  have hJ : jJ IvM 32 4096 0 z0 z0 := jJ_rf _ _ _ hI
  have e00 : (0 : Int32).toInt = 0 := (by decide); have e01 : (1 : Int32).toInt = 1 := (by decide); have e02 : (2 : Int32).toInt = 2 := (by decide); have e03 : (3 : Int32).toInt = 3 := (by decide); have e010 : (10 : Int32).toInt = 10 := (by decide)
  refine lv_aload_n hx hb dX6_tell_0 rfl (lv_at hl 0 rfl) ?_
  refine b_get (ci := 6) (C := RX6) (T := TX6) (Nf := 29) (v := .int (z0.1 5)) hx hb hts in_X6_tell_X6 hown hK hH 0 (by decide) rfl rfl 16 (by decide) (hts (.fieldLink RX6 201 "StationLineModel" "waits" "I") (List.mem_of_getElem? (i := 1) rfl)) rfl dX6_tell_1 ?_
  have i10 := IvM_s5 hJ.1
  have := i10.1; have := i10.2
  refine lv_bipush (v := 20) hx hb dX6_tell_4 (by decide) ?_
  refine lv_icmp_ne (tgt := 12) hx hb dX6_tell_6 (by decide) (fun c11 => ?_) (fun c11 => ?_)
  · skip
    have r11 := (iv_nEq c11)
    have k12a : iv 0 19 (z0.1 5) := iv_neHi (iv_nEq c11) i10 (by decide) (by decide)
    refine lv_aload_n hx hb dX6_tell_12 rfl (lv_at hl 0 rfl) ?_
    refine b_get (ci := 6) (C := RX6) (T := TX6) (Nf := 29) (v := .ref (q 12)) hx hb hts in_X6_tell_X6 hown hK hH 0 (by decide) rfl rfl 17 (by decide) (hts (.fieldLink RX6 47 "StationLineModel" "waiting" "[I") (List.mem_of_getElem? (i := 2) rfl)) rfl dX6_tell_13 ?_
    refine lv_aload_n hx hb dX6_tell_16 rfl (lv_at hl 0 rfl) ?_
    refine b_get (ci := 6) (C := RX6) (T := TX6) (Nf := 29) (v := .int (z0.1 5)) hx hb hts in_X6_tell_X6 hown hK hH 0 (by decide) rfl rfl 16 (by decide) (hts (.fieldLink RX6 201 "StationLineModel" "waits" "I") (List.mem_of_getElem? (i := 1) rfl)) rfl dX6_tell_17 ?_
    have := k12a.1; have := k12a.2
    refine lv_iload_n hx hb dX6_tell_20 rfl (lv_at hl 1 rfl) ?_
    refine b_iast hx hb hK hH 12 (by decide) rfl (iv_in k12a (by decide) (by decide)) (upA z0 12 (upd (z0.2.1 12) (z0.1 5 : Int32).toNatClampNeg p0)) rfl (enM_A _ _ _ _ _) dX6_tell_21 (fun H locs hH => ?_)
    obtain ⟨z13, hz13⟩ : ∃ w : zS, w = upA z0 12 (upd (z0.2.1 12) (z0.1 5 : Int32).toNatClampNeg p0) := ⟨_, rfl⟩
    rw [← hz13] at hH
    have hJ : jJ IvM 32 4096 0 z0 z13 := by rw [hz13]; exact jJ_A hJ (by decide) (IvM_A hJ.1 (by decide))
    have g14 : iv 0 19 (z13.1 5) := by rw [hz13]; exact k12a
    refine lv_aload_n hx hb dX6_tell_22 rfl (lv_at hl 0 rfl) ?_
    refine lv_dup hx hb dX6_tell_23 rfl ?_
    refine b_get (ci := 6) (C := RX6) (T := TX6) (Nf := 29) (v := .int (z13.1 5)) hx hb hts in_X6_tell_X6 hown hK hH 0 (by decide) rfl rfl 16 (by decide) (hts (.fieldLink RX6 201 "StationLineModel" "waits" "I") (List.mem_of_getElem? (i := 1) rfl)) rfl dX6_tell_24 ?_
    have := g14.1; have := g14.2
    refine lv_iconst (v := 1) hx hb dX6_tell_27 (by decide) ?_
    refine lv_iadd hx hb dX6_tell_28 ?_
    have i15 : iv 1 20 ((z13.1 5) + 1) := (iv_add g14 (iv_lit (n := 1) 1 (by decide)) (by decide) (by decide) (by decide) (by decide))
    have e15 : ((z13.1 5) + 1).toInt = (z13.1 5).toInt + 1 := ((iv_addE g14 (iv_lit (n := 1) 1 (by decide)) (by decide) (by decide)).trans rfl)
    have := i15.1; have := i15.2
    refine b_put (ci := 6) (C := RX6) (T := TX6) (Nf := 29) (v := .int ((z13.1 5) + 1)) (ty := .int) hx hb hts in_X6_tell_X6 tyX6 tyX6_ok nmX6 hown hK hH 0 (by decide) rfl rfl 16 (by decide) (hts (.fieldLink RX6 201 "StationLineModel" "waits" "I") (List.mem_of_getElem? (i := 1) rfl)) rfl (by decide +kernel) rfl rfl (Nat.le_of_ble_eq_true rfl) (upS z13 5 ((z13.1 5) + 1)) rfl (enM_S5 _ _ _ _) dX6_tell_29 (fun H locs hH => ?_)
    obtain ⟨z16, hz16⟩ : ∃ w : zS, w = upS z13 5 ((z13.1 5) + 1) := ⟨_, rfl⟩
    rw [← hz16] at hH
    have hJ : jJ IvM 32 4096 0 z0 z16 := by rw [hz16]; exact jJ_S hJ (by decide) (IvM_S5 hJ.1 (iv_w i15 (by decide) (by decide)))
    have g17 : iv 1 20 (z16.1 5) := by rw [hz16]; exact i15
    refine lv_aload_n hx hb dX6_tell_32 rfl (lv_at hl 0 rfl) ?_
    refine b_get (ci := 6) (C := RX6) (T := TX6) (Nf := 29) (v := .int (z16.1 5)) hx hb hts in_X6_tell_X6 hown hK hH 0 (by decide) rfl rfl 16 (by decide) (hts (.fieldLink RX6 201 "StationLineModel" "waits" "I") (List.mem_of_getElem? (i := 1) rfl)) rfl dX6_tell_33 ?_
    have := g17.1; have := g17.2
    exact hret _ z16 H locs _ _ ⟨hJ, (iv_w g17 (by decide) (by decide)), ⟨fun q => absurd q c11, fun _ => ⟨(by rw [hz16, hz13]; rfl), (by rw [hz16, hz13]; rfl)⟩⟩⟩ hH dX6_tell_36
  · skip
    have r11 := (iv_Eq c11)
    have k18a : iv 20 20 (z0.1 5) := iv_eql (iv_Eq c11) i10 (iv_lit (n := 20) 20 (by decide)) (by decide) (by decide)
    refine lv_bipush (v := (-2)) hx hb dX6_tell_9 (by decide) ?_
    exact hret _ z0 H locs _ _ ⟨hJ, (iv_w (iv_lit (n := (-2)) (-2) (by decide)) (by decide) (by decide)), ⟨fun _ => ⟨rfl, rfl⟩, fun q => absurd c11 q⟩⟩ hH dX6_tell_11
set_option maxHeartbeats 4000000 in
set_option maxRecDepth 100000 in
theorem g_X6_setAt_0_6 (l : Launch) (D : va_G) (cy : Nat → ClassId) (q : Nat → Nat) (hq : bJ 23 q) (z0 : zS) (hI : IvM z0) (p1 : Int32) : bCi l yX6_setAt wsX6_setAt ({ frames := 0, cells := 0, slots := 0, locals := 0 }) D cy 23 (enM cy) q z0 [.ref (q 0), .ref (q 6), .int p1] (fun v z => jJ IvM 0 0 0 z0 z ∧ iv 0 1023 v ∧ (v = setF (z0.2.1 6) p1 (z0.1 0).toNatClampNeg)) := by
  refine hM_i cX6_setAt (by decide) rfl (own := RX6) rfl hq (Nat.le_of_ble_eq_true rfl) ?_
  intro p e s m args below meth c Q ls H locs hx hb hml hown hts hK hZ hH hl hret
  have hl : lv_has ls 5 [(0, .ref (q 0)), (1, .ref (q 6)), (2, .int p1)] := hl
  have hJ : jJ IvM 0 0 0 z0 z0 := jJ_rf _ _ _ hI
  have e00 : (0 : Int32).toInt = 0 := (by decide); have e01 : (1 : Int32).toInt = 1 := (by decide); have e02 : (2 : Int32).toInt = 2 := (by decide); have e03 : (3 : Int32).toInt = 3 := (by decide); have e010 : (10 : Int32).toInt = 10 := (by decide)
  have N1 := (IvM_s0 hI).1; have N2 := (IvM_s0 hI).2
  have HL5 : ∀ (n : Nat) (x3_5 : Int32) (x4_5 : Int32) (H : Heap) (locs : List Loc) (ls : Array Slot), iv 0 1023 x3_5 → iv 0 10 x4_5 → (x3_5 = setF (z0.2.1 6) p1 (x4_5 : Int32).toNatClampNeg ∧ (x4_5 : Int32).toInt ≤ (z0.1 0).toInt) → bH D 23 (enM cy) q z0 s.heap H locs → lv_has ls 5 [(0, .ref (q 0)), (1, .ref (q 6)), (2, .int p1), (3, .int x3_5), (4, .int x4_5)] → (10 - x4_5.toInt).toNat = n → W p l e ({ frames := 0, cells := 0, slots := 0, locals := 0 }) s m args below meth c H locs 0 0 Q (F0 m 5 ls []) := by
    intro n5
    induction n5 using Nat.strongRecOn with
    | ind n5 ih5 =>
      intro x3_5 x4_5 H locs ls h3_5 h4_5 ex_5 hH hl hn5
      have := h3_5.1; have := h3_5.2; have := h4_5.1; have := h4_5.2
      refine lv_iload hx hb dX6_setAt_5 (lv_at hl 4 rfl) ?_
      refine lv_aload_n hx hb dX6_setAt_7 rfl (lv_at hl 0 rfl) ?_
      refine b_get (ci := 6) (C := RX6) (T := TX6) (Nf := 29) (v := .int (z0.1 0)) hx hb hts in_X6_setAt_X6 hown hK hH 0 (by decide) rfl rfl 0 (by decide) (hts (.fieldLink RX6 85 "StationLineModel" "tasks" "I") (List.mem_of_getElem? (i := 1) rfl)) rfl dX6_setAt_8 ?_
      have i104 := IvM_s0 hJ.1
      have := i104.1; have := i104.2
      refine lv_icmp_ge (tgt := 39) hx hb dX6_setAt_11 (by decide) (fun c105 => ?_) (fun c105 => ?_)
      · skip
        have r105 := (iv_Le c105)
        refine lv_iload_n hx hb dX6_setAt_39 rfl (lv_at hl 3 rfl) ?_
        exact hret _ z0 H locs _ _ ⟨hJ, h3_5, (by rw [show (z0.1 0).toNatClampNeg = (x4_5 : Int32).toNatClampNeg from (by have := ex_5.2; have := iv_nat (IvM_s0 hI) (by decide); have := iv_nat h4_5 (by decide); omega)]; exact ex_5.1)⟩ hH dX6_setAt_40
      · skip
        have r105 := (iv_nLe c105)
        have k107a : iv 0 9 x4_5 := iv_ltl (iv_nLe c105) h4_5 i104 (by decide)
        have k107b : iv 1 10 (z0.1 0) := iv_ltr (iv_nLe c105) h4_5 i104 (by decide)
        refine lv_iload_n hx hb dX6_setAt_14 rfl (lv_at hl 3 rfl) ?_
        refine lv_aload_n hx hb dX6_setAt_15 rfl (lv_at hl 1 rfl) ?_
        refine lv_iload hx hb dX6_setAt_16 (lv_at hl 4 rfl) ?_
        refine b_iald (v := z0.2.1 6 (x4_5 : Int32).toNatClampNeg) hx hb hK hH 6 (by decide) rfl (iv_in k107a (by decide) (by decide)) rfl dX6_setAt_18 ?_
        have i108 : iv 0 10 (z0.2.1 6 (x4_5 : Int32).toNatClampNeg) := IvM_a6 hJ.1 _ (b_inlt (iv_in k107a (by decide) (by decide)))
        have := i108.1; have := i108.2
        refine lv_iload_n hx hb dX6_setAt_19 rfl (lv_at hl 2 rfl) ?_
        refine lv_icmp_ne (tgt := 30) hx hb dX6_setAt_20 (by decide) (fun c109 => ?_) (fun c109 => ?_)
        · skip
          have r109 := (iv_nEq c109)
          refine lv_iconst (v := 0) hx hb dX6_setAt_30 (by decide) ?_
          refine lv_ior hx hb dX6_setAt_31 ?_
          have i111 : iv 0 1023 (x3_5 ||| 0) := (iv_or 10 (b := 1023) (d := 0) (iv_w h3_5 (by decide) (by decide)) (iv_w (iv_lit (n := 0) 0 (by decide)) (by decide) (by decide)) (by decide) (by decide) (by decide) (by decide))
          refine lv_istore_n (lv' := [(3, .int (x3_5 ||| 0)), (0, .ref (q 0)), (1, .ref (q 6)), (2, .int p1), (4, .int x4_5)]) hx hb dX6_setAt_32 rfl hl (by decide) rfl (fun ls hl => ?_)
          have j112 : iv 1 10 (x4_5 + 1) := iv_add k107a (iv_lit (n := 1) 1 (by decide)) (by decide) (by decide) (by decide) (by decide)
          have e112 : (x4_5 + 1).toInt = x4_5.toInt + 1 := (iv_addE k107a (iv_lit (n := 1) 1 (by decide)) (by decide) (by decide)).trans rfl
          refine lv_iinc (v := (x4_5 + 1)) (lv' := [(4, .int (x4_5 + 1)), (3, .int (x3_5 ||| 0)), (0, .ref (q 0)), (1, .ref (q 6)), (2, .int p1)]) hx hb dX6_setAt_33 hl (k := 4) rfl rfl (by decide) rfl (fun ls hl => ?_)
          refine lv_goto (tgt := 5) hx hb dX6_setAt_36 (by decide) ?_
          exact ih5 _ (ms_up e112 j112.2 hn5) (x3_5 ||| 0) (x4_5 + 1)  H locs ls i111 (iv_w j112 (by decide) (by decide)) ⟨set_n ex_5.1 (by have := iv_nat k107a (by decide); have := iv_nat j112 (by decide); omega) c109, by omega⟩  hH (lv_sub hl [2, 3, 4, 1, 0] rfl) rfl
        · skip
          have r109 := (iv_Eq c109)
          have k113b : iv 0 10 p1 := iv_eql ((iv_Eq c109)).symm (iv_all p1) i108 (by decide) (by decide)
          refine lv_iconst (v := 1) hx hb dX6_setAt_23 (by decide) ?_
          refine lv_iload hx hb dX6_setAt_24 (lv_at hl 4 rfl) ?_
          refine lv_ishl hx hb dX6_setAt_26 ?_
          have i114 : iv 1 512 ((1 : Int32) <<< (x4_5 &&& 31)) := (iv_bit k107a (by decide) (by decide))
          refine lv_goto (tgt := 31) hx hb dX6_setAt_27 (by decide) ?_
          refine lv_ior hx hb dX6_setAt_31 ?_
          have i115 : iv 0 1023 (x3_5 ||| ((1 : Int32) <<< (x4_5 &&& 31))) := (iv_or 10 (b := 1023) (d := 512) (iv_w h3_5 (by decide) (by decide)) (iv_w i114 (by decide) (by decide)) (by decide) (by decide) (by decide) (by decide))
          refine lv_istore_n (lv' := [(3, .int (x3_5 ||| ((1 : Int32) <<< (x4_5 &&& 31)))), (0, .ref (q 0)), (1, .ref (q 6)), (2, .int p1), (4, .int x4_5)]) hx hb dX6_setAt_32 rfl hl (by decide) rfl (fun ls hl => ?_)
          have j116 : iv 1 10 (x4_5 + 1) := iv_add k107a (iv_lit (n := 1) 1 (by decide)) (by decide) (by decide) (by decide) (by decide)
          have e116 : (x4_5 + 1).toInt = x4_5.toInt + 1 := (iv_addE k107a (iv_lit (n := 1) 1 (by decide)) (by decide) (by decide)).trans rfl
          refine lv_iinc (v := (x4_5 + 1)) (lv' := [(4, .int (x4_5 + 1)), (3, .int (x3_5 ||| ((1 : Int32) <<< (x4_5 &&& 31)))), (0, .ref (q 0)), (1, .ref (q 6)), (2, .int p1)]) hx hb dX6_setAt_33 hl (k := 4) rfl rfl (by decide) rfl (fun ls hl => ?_)
          refine lv_goto (tgt := 5) hx hb dX6_setAt_36 (by decide) ?_
          exact ih5 _ (ms_up e116 j116.2 hn5) (x3_5 ||| ((1 : Int32) <<< (x4_5 &&& 31))) (x4_5 + 1)  H locs ls i115 (iv_w j116 (by decide) (by decide)) ⟨set_s ex_5.1 k107a (by have := iv_nat k107a (by decide); have := iv_nat j116 (by decide); omega) c109, by omega⟩  hH (lv_sub hl [2, 3, 4, 1, 0] rfl) rfl
  refine lv_iconst (v := 0) hx hb dX6_setAt_0 (by decide) ?_
  refine lv_istore_n (lv' := [(3, .int 0), (0, .ref (q 0)), (1, .ref (q 6)), (2, .int p1)]) hx hb dX6_setAt_1 rfl hl (by decide) rfl (fun ls hl => ?_)
  refine lv_iconst (v := 0) hx hb dX6_setAt_2 (by decide) ?_
  refine lv_istore (lv' := [(4, .int 0), (3, .int 0), (0, .ref (q 0)), (1, .ref (q 6)), (2, .int p1)]) hx hb dX6_setAt_3 hl (by decide) rfl (fun ls hl => ?_)
  exact HL5 _ 0 0  H locs ls (iv_w (iv_lit (n := 0) 0 (by decide)) (by decide) (by decide)) (iv_w (iv_lit (n := 0) 0 (by decide)) (by decide) (by decide)) ⟨rfl, by omega⟩  hH (lv_sub hl [2, 3, 4, 1, 0] rfl) rfl
set_option maxHeartbeats 4000000 in
set_option maxRecDepth 100000 in
theorem g_X6_areUpTo_0_6 (l : Launch) (D : va_G) (cy : Nat → ClassId) (q : Nat → Nat) (hq : bJ 23 q) (z0 : zS) (hI : IvM z0) (p1 : Int32) (p2 : Int32) : bCi l yX6_areUpTo wsX6_areUpTo ({ frames := 1, cells := 0, slots := 0, locals := 21 }) D cy 23 (enM cy) q z0 [.ref (q 0), .ref (q 6), .int p1, .int p2] (fun v z => jJ IvM 0 0 0 z0 z ∧ iv 0 1 v) := by
  refine hM_z cX6_areUpTo (by decide) rfl (own := RX6) rfl hq (Nat.le_of_ble_eq_true rfl) ?_
  intro p e s m args below meth c Q ls H locs hx hb hml hown hts hK hZ hH hl hret
  have hl : lv_has ls 6 [(0, .ref (q 0)), (1, .ref (q 6)), (2, .int p1), (3, .int p2)] := hl
  have hJ : jJ IvM 0 0 0 z0 z0 := jJ_rf _ _ _ hI
  have HL6 : ∀ (n : Nat) (x4_6 : Int32) (x5_6 : Int32) (H : Heap) (locs : List Loc) (ls : Array Slot), iv 0 1 x4_6 → iv 0 10 x5_6 → bH D 23 (enM cy) q z0 s.heap H locs → lv_has ls 6 [(0, .ref (q 0)), (1, .ref (q 6)), (2, .int p1), (3, .int p2), (4, .int x4_6), (5, .int x5_6)] → (10 - x5_6.toInt).toNat = n → W p l e ({ frames := 1, cells := 0, slots := 0, locals := 21 }) s m args below meth c H locs 0 0 Q (F0 m 6 ls []) := by
    intro n6
    induction n6 using Nat.strongRecOn with
    | ind n6 ih6 =>
      intro x4_6 x5_6 H locs ls h4_6 h5_6 hH hl hn6
      have HJ46 : ∀ (t0_46 : Int32) (t1_46 : Int32) (H : Heap) (locs : List Loc) (ls : Array Slot), iv 0 9 x5_6 → iv 0 1 t0_46 → iv 0 1 t1_46 → iv 1 10 (z0.1 0) → bH D 23 (enM cy) q z0 s.heap H locs → lv_has ls 6 [(0, .ref (q 0)), (1, .ref (q 6)), (2, .int p1), (3, .int p2), (5, .int x5_6)] → W p l e ({ frames := 1, cells := 0, slots := 0, locals := 21 }) s m args below meth c H locs 0 0 Q (F0 m 46 ls [.int t0_46, .int t1_46]) := by
        intro t0_46 t1_46 H locs ls h5_46 g0_46 g1_46 gh0_46 hH hl
        refine lv_iand hx hb dX6_areUpTo_46 ?_
        refine h_iL (a := 0) (b := 1) (iv_and g1_46 g0_46 (by decide) (by decide)) (iv_andlt g1_46 (by decide)) (fun w126 i126 e126 => ?_)
        refine lv_istore (lv' := [(4, .int w126), (0, .ref (q 0)), (1, .ref (q 6)), (2, .int p1), (3, .int p2), (5, .int x5_6)]) hx hb dX6_areUpTo_47 hl (by decide) rfl (fun ls hl => ?_)
        have j127 : iv 1 10 (x5_6 + 1) := iv_add h5_46 (iv_lit (n := 1) 1 (by decide)) (by decide) (by decide) (by decide) (by decide)
        have e127 : (x5_6 + 1).toInt = x5_6.toInt + 1 := (iv_addE h5_46 (iv_lit (n := 1) 1 (by decide)) (by decide) (by decide)).trans rfl
        refine lv_iinc (v := (x5_6 + 1)) (lv' := [(5, .int (x5_6 + 1)), (4, .int w126), (0, .ref (q 0)), (1, .ref (q 6)), (2, .int p1), (3, .int p2)]) hx hb dX6_areUpTo_49 hl (k := 5) rfl rfl (by decide) rfl (fun ls hl => ?_)
        refine lv_goto (tgt := 6) hx hb dX6_areUpTo_52 (by decide) ?_
        exact ih6 _ (ms_up e127 j127.2 hn6) w126 (x5_6 + 1)  H locs ls i126 (iv_w j127 (by decide) (by decide))  hH (lv_sub hl [2, 3, 4, 5, 1, 0] rfl) rfl
      have HJ41 : ∀ (t0_41 : Int32) (H : Heap) (locs : List Loc) (ls : Array Slot), iv 0 9 x5_6 → iv 0 1 t0_41 → iv 1 10 (z0.1 0) → bH D 23 (enM cy) q z0 s.heap H locs → lv_has ls 6 [(0, .ref (q 0)), (1, .ref (q 6)), (2, .int p1), (3, .int p2), (5, .int x5_6)] → W p l e ({ frames := 1, cells := 0, slots := 0, locals := 21 }) s m args below meth c H locs 0 0 Q (F0 m 41 ls [.int t0_41]) := by
        intro t0_41 H locs ls h5_41 g0_41 gh0_41 hH hl
        refine lv_iconst (v := 1) hx hb dX6_areUpTo_41 (by decide) ?_
        refine lv_goto (tgt := 46) hx hb dX6_areUpTo_42 (by decide) ?_
        exact HJ46 1 t0_41  H locs ls h5_41 (iv_w (iv_lit (n := 1) 1 (by decide)) (by decide) (by decide)) g0_41 gh0_41  hH (lv_sub hl [0, 1, 2, 3, 4] rfl)
      have HJ45 : ∀ (t0_45 : Int32) (H : Heap) (locs : List Loc) (ls : Array Slot), iv 0 9 x5_6 → iv 0 1 t0_45 → iv 1 10 (z0.1 0) → bH D 23 (enM cy) q z0 s.heap H locs → lv_has ls 6 [(0, .ref (q 0)), (1, .ref (q 6)), (2, .int p1), (3, .int p2), (5, .int x5_6)] → W p l e ({ frames := 1, cells := 0, slots := 0, locals := 21 }) s m args below meth c H locs 0 0 Q (F0 m 45 ls [.int t0_45]) := by
        intro t0_45 H locs ls h5_45 g0_45 gh0_45 hH hl
        refine lv_iconst (v := 0) hx hb dX6_areUpTo_45 (by decide) ?_
        exact HJ46 0 t0_45  H locs ls h5_45 (iv_w (iv_lit (n := 0) 0 (by decide)) (by decide) (by decide)) g0_45 gh0_45  hH (lv_sub hl [0, 1, 2, 3, 4] rfl)
      refine lv_iload hx hb dX6_areUpTo_6 (lv_at hl 5 rfl) ?_
      refine lv_aload_n hx hb dX6_areUpTo_8 rfl (lv_at hl 0 rfl) ?_
      refine b_get (ci := 6) (C := RX6) (T := TX6) (Nf := 29) (v := .int (z0.1 0)) hx hb hts in_X6_areUpTo_X6 hown hK hH 0 (by decide) rfl rfl 0 (by decide) (hts (.fieldLink RX6 85 "StationLineModel" "tasks" "I") (List.mem_of_getElem? (i := 1) rfl)) rfl dX6_areUpTo_9 ?_
      have i128 := IvM_s0 hJ.1
      refine lv_icmp_ge (tgt := 55) hx hb dX6_areUpTo_12 (by decide) (fun c129 => ?_) (fun c129 => ?_)
      · skip
        refine lv_iload hx hb dX6_areUpTo_55 (lv_at hl 4 rfl) ?_
        exact hret _ z0 H locs _ _ (iv_w h4_6 (by decide) (by decide)) ⟨hJ, h4_6⟩ hH dX6_areUpTo_57
      · skip
        have k131a : iv 0 9 x5_6 := iv_ltl (iv_nLe c129) h5_6 i128 (by decide)
        have k131b : iv 1 10 (z0.1 0) := iv_ltr (iv_nLe c129) h5_6 i128 (by decide)
        refine lv_iload hx hb dX6_areUpTo_15 (lv_at hl 4 rfl) ?_
        refine lv_iload_n hx hb dX6_areUpTo_17 rfl (lv_at hl 2 rfl) ?_
        refine lv_iload hx hb dX6_areUpTo_18 (lv_at hl 5 rfl) ?_
        refine b_stati (As := [.int p1, .int x5_6]) (rest := [.int x4_6]) ⟨hx, hb, hml, hown, hts⟩ (g_X6_in l D cy q hH.2.1 z0 hJ.1 p1 x5_6) (va_cwS 2 hts gX6_areUpTo_X6_in rfl rfl rfl (by decide +kernel) ⟨Nat.le_of_ble_eq_true rfl, Nat.le_of_ble_eq_true rfl⟩) hK hZ hH rfl hl.1 rfl (Nat.le_of_ble_eq_true rfl) ⟨Nat.zero_le _, Nat.zero_le _⟩ dX6_areUpTo_20 (fun w132 z132 H locs hp hH => ?_)
        rw [Ag_0 hp.1.2] at hH
        have i132 := hp.2.1
        have f132_0 := hp.2.2
        refine lv_if_eq (tgt := 41) hx hb dX6_areUpTo_23 (by decide) (fun c133 => ?_) (fun c133 => ?_)
        · skip
          have k134a : iv 0 0 w132 := iv_eql (iv_Eq c133) i132 (iv_lit (n := 0) 0 (by decide)) (by decide) (by decide)
          exact HJ41 x4_6  H locs ls k131a h4_6 k131b  hH (lv_sub hl [0, 1, 2, 3, 5] rfl)
        · skip
          have k135a : iv 1 1 w132 := iv_neLo (iv_nEq c133) i132 (by decide) (by decide)
          refine lv_aload_n hx hb dX6_areUpTo_26 rfl (lv_at hl 1 rfl) ?_
          refine lv_iload hx hb dX6_areUpTo_27 (lv_at hl 5 rfl) ?_
          refine b_iald (v := z0.2.1 6 (x5_6 : Int32).toNatClampNeg) hx hb hK hH 6 (by decide) rfl (iv_in k131a (by decide) (by decide)) rfl dX6_areUpTo_29 ?_
          have i136 : iv 0 10 (z0.2.1 6 (x5_6 : Int32).toNatClampNeg) := IvM_a6 hJ.1 _ (b_inlt (iv_in k131a (by decide) (by decide)))
          refine lv_if_le (tgt := 45) hx hb dX6_areUpTo_30 (by decide) (fun c137 => ?_) (fun c137 => ?_)
          · skip
            have k138a : iv 0 0 (z0.2.1 6 (x5_6 : Int32).toNatClampNeg) := iv_lel (iv_Le c137) i136 (iv_lit (n := 0) 0 (by decide))
            exact HJ45 x4_6  H locs ls k131a h4_6 k131b  hH (lv_sub hl [0, 1, 2, 3, 5] rfl)
          · skip
            have k139b : iv 1 10 (z0.2.1 6 (x5_6 : Int32).toNatClampNeg) := iv_ltr (iv_nLe c137) (iv_lit (n := 0) 0 (by decide)) i136 (by decide)
            refine lv_aload_n hx hb dX6_areUpTo_33 rfl (lv_at hl 1 rfl) ?_
            refine lv_iload hx hb dX6_areUpTo_34 (lv_at hl 5 rfl) ?_
            refine b_iald (v := z0.2.1 6 (x5_6 : Int32).toNatClampNeg) hx hb hK hH 6 (by decide) rfl (iv_in k131a (by decide) (by decide)) rfl dX6_areUpTo_36 ?_
            have i140 : iv 0 10 (z0.2.1 6 (x5_6 : Int32).toNatClampNeg) := IvM_a6 hJ.1 _ (b_inlt (iv_in k131a (by decide) (by decide)))
            refine lv_iload_n hx hb dX6_areUpTo_37 rfl (lv_at hl 3 rfl) ?_
            refine lv_icmp_gt (tgt := 45) hx hb dX6_areUpTo_38 (by decide) (fun c141 => ?_) (fun c141 => ?_)
            · skip
              have k142a : iv (-2147483648) 9 p2 := iv_ltl (iv_Lt c141) (iv_all p2) i140 (by decide)
              exact HJ45 x4_6  H locs ls k131a h4_6 k131b  hH (lv_sub hl [0, 1, 2, 3, 5] rfl)
            · skip
              have k143b : iv 0 2147483647 p2 := iv_ler (iv_nLt c141) i140 (iv_all p2)
              exact HJ41 x4_6  H locs ls k131a h4_6 k131b  hH (lv_sub hl [0, 1, 2, 3, 5] rfl)
  refine lv_iconst (v := 1) hx hb dX6_areUpTo_0 (by decide) ?_
  refine lv_istore (lv' := [(4, .int 1), (0, .ref (q 0)), (1, .ref (q 6)), (2, .int p1), (3, .int p2)]) hx hb dX6_areUpTo_1 hl (by decide) rfl (fun ls hl => ?_)
  refine lv_iconst (v := 0) hx hb dX6_areUpTo_3 (by decide) ?_
  refine lv_istore (lv' := [(5, .int 0), (4, .int 1), (0, .ref (q 0)), (1, .ref (q 6)), (2, .int p1), (3, .int p2)]) hx hb dX6_areUpTo_4 hl (by decide) rfl (fun ls hl => ?_)
  exact HL6 _ 1 0  H locs ls (iv_w (iv_lit (n := 1) 1 (by decide)) (by decide) (by decide)) (iv_w (iv_lit (n := 0) 0 (by decide)) (by decide) (by decide))  hH (lv_sub hl [2, 3, 4, 5, 1, 0] rfl) rfl
set_option maxHeartbeats 4000000 in
set_option maxRecDepth 100000 in
theorem g_X6_setAt_0_21 (l : Launch) (D : va_G) (cy : Nat → ClassId) (q : Nat → Nat) (hq : bJ 23 q) (z0 : zS) (hI : IvM z0) (p1 : Int32) : bCi l yX6_setAt wsX6_setAt ({ frames := 0, cells := 0, slots := 0, locals := 0 }) D cy 23 (enM cy) q z0 [.ref (q 0), .ref (q 21), .int p1] (fun v z => jJ IvM 0 0 0 z0 z ∧ iv 0 1023 v ∧ (v = setF (z0.2.1 21) p1 (z0.1 0).toNatClampNeg)) := by
  refine hM_i cX6_setAt (by decide) rfl (own := RX6) rfl hq (Nat.le_of_ble_eq_true rfl) ?_
  intro p e s m args below meth c Q ls H locs hx hb hml hown hts hK hZ hH hl hret
  have hl : lv_has ls 5 [(0, .ref (q 0)), (1, .ref (q 21)), (2, .int p1)] := hl
  have hJ : jJ IvM 0 0 0 z0 z0 := jJ_rf _ _ _ hI
  have e00 : (0 : Int32).toInt = 0 := (by decide); have e01 : (1 : Int32).toInt = 1 := (by decide); have e02 : (2 : Int32).toInt = 2 := (by decide); have e03 : (3 : Int32).toInt = 3 := (by decide); have e010 : (10 : Int32).toInt = 10 := (by decide)
  have N1 := (IvM_s0 hI).1; have N2 := (IvM_s0 hI).2
  have HL5 : ∀ (n : Nat) (x3_5 : Int32) (x4_5 : Int32) (H : Heap) (locs : List Loc) (ls : Array Slot), iv 0 1023 x3_5 → iv 0 10 x4_5 → (x3_5 = setF (z0.2.1 21) p1 (x4_5 : Int32).toNatClampNeg ∧ (x4_5 : Int32).toInt ≤ (z0.1 0).toInt) → bH D 23 (enM cy) q z0 s.heap H locs → lv_has ls 5 [(0, .ref (q 0)), (1, .ref (q 21)), (2, .int p1), (3, .int x3_5), (4, .int x4_5)] → (10 - x4_5.toInt).toNat = n → W p l e ({ frames := 0, cells := 0, slots := 0, locals := 0 }) s m args below meth c H locs 0 0 Q (F0 m 5 ls []) := by
    intro n5
    induction n5 using Nat.strongRecOn with
    | ind n5 ih5 =>
      intro x3_5 x4_5 H locs ls h3_5 h4_5 ex_5 hH hl hn5
      have := h3_5.1; have := h3_5.2; have := h4_5.1; have := h4_5.2
      refine lv_iload hx hb dX6_setAt_5 (lv_at hl 4 rfl) ?_
      refine lv_aload_n hx hb dX6_setAt_7 rfl (lv_at hl 0 rfl) ?_
      refine b_get (ci := 6) (C := RX6) (T := TX6) (Nf := 29) (v := .int (z0.1 0)) hx hb hts in_X6_setAt_X6 hown hK hH 0 (by decide) rfl rfl 0 (by decide) (hts (.fieldLink RX6 85 "StationLineModel" "tasks" "I") (List.mem_of_getElem? (i := 1) rfl)) rfl dX6_setAt_8 ?_
      have i104 := IvM_s0 hJ.1
      have := i104.1; have := i104.2
      refine lv_icmp_ge (tgt := 39) hx hb dX6_setAt_11 (by decide) (fun c105 => ?_) (fun c105 => ?_)
      · skip
        have r105 := (iv_Le c105)
        refine lv_iload_n hx hb dX6_setAt_39 rfl (lv_at hl 3 rfl) ?_
        exact hret _ z0 H locs _ _ ⟨hJ, h3_5, (by rw [show (z0.1 0).toNatClampNeg = (x4_5 : Int32).toNatClampNeg from (by have := ex_5.2; have := iv_nat (IvM_s0 hI) (by decide); have := iv_nat h4_5 (by decide); omega)]; exact ex_5.1)⟩ hH dX6_setAt_40
      · skip
        have r105 := (iv_nLe c105)
        have k107a : iv 0 9 x4_5 := iv_ltl (iv_nLe c105) h4_5 i104 (by decide)
        have k107b : iv 1 10 (z0.1 0) := iv_ltr (iv_nLe c105) h4_5 i104 (by decide)
        refine lv_iload_n hx hb dX6_setAt_14 rfl (lv_at hl 3 rfl) ?_
        refine lv_aload_n hx hb dX6_setAt_15 rfl (lv_at hl 1 rfl) ?_
        refine lv_iload hx hb dX6_setAt_16 (lv_at hl 4 rfl) ?_
        refine b_iald (v := z0.2.1 21 (x4_5 : Int32).toNatClampNeg) hx hb hK hH 21 (by decide) rfl (iv_in k107a (by decide) (by decide)) rfl dX6_setAt_18 ?_
        have i108 : iv 0 10 (z0.2.1 21 (x4_5 : Int32).toNatClampNeg) := IvM_a21 hJ.1 _ (b_inlt (iv_in k107a (by decide) (by decide)))
        have := i108.1; have := i108.2
        refine lv_iload_n hx hb dX6_setAt_19 rfl (lv_at hl 2 rfl) ?_
        refine lv_icmp_ne (tgt := 30) hx hb dX6_setAt_20 (by decide) (fun c109 => ?_) (fun c109 => ?_)
        · skip
          have r109 := (iv_nEq c109)
          refine lv_iconst (v := 0) hx hb dX6_setAt_30 (by decide) ?_
          refine lv_ior hx hb dX6_setAt_31 ?_
          have i111 : iv 0 1023 (x3_5 ||| 0) := (iv_or 10 (b := 1023) (d := 0) (iv_w h3_5 (by decide) (by decide)) (iv_w (iv_lit (n := 0) 0 (by decide)) (by decide) (by decide)) (by decide) (by decide) (by decide) (by decide))
          refine lv_istore_n (lv' := [(3, .int (x3_5 ||| 0)), (0, .ref (q 0)), (1, .ref (q 21)), (2, .int p1), (4, .int x4_5)]) hx hb dX6_setAt_32 rfl hl (by decide) rfl (fun ls hl => ?_)
          have j112 : iv 1 10 (x4_5 + 1) := iv_add k107a (iv_lit (n := 1) 1 (by decide)) (by decide) (by decide) (by decide) (by decide)
          have e112 : (x4_5 + 1).toInt = x4_5.toInt + 1 := (iv_addE k107a (iv_lit (n := 1) 1 (by decide)) (by decide) (by decide)).trans rfl
          refine lv_iinc (v := (x4_5 + 1)) (lv' := [(4, .int (x4_5 + 1)), (3, .int (x3_5 ||| 0)), (0, .ref (q 0)), (1, .ref (q 21)), (2, .int p1)]) hx hb dX6_setAt_33 hl (k := 4) rfl rfl (by decide) rfl (fun ls hl => ?_)
          refine lv_goto (tgt := 5) hx hb dX6_setAt_36 (by decide) ?_
          exact ih5 _ (ms_up e112 j112.2 hn5) (x3_5 ||| 0) (x4_5 + 1)  H locs ls i111 (iv_w j112 (by decide) (by decide)) ⟨set_n ex_5.1 (by have := iv_nat k107a (by decide); have := iv_nat j112 (by decide); omega) c109, by omega⟩  hH (lv_sub hl [2, 3, 4, 1, 0] rfl) rfl
        · skip
          have r109 := (iv_Eq c109)
          have k113b : iv 0 10 p1 := iv_eql ((iv_Eq c109)).symm (iv_all p1) i108 (by decide) (by decide)
          refine lv_iconst (v := 1) hx hb dX6_setAt_23 (by decide) ?_
          refine lv_iload hx hb dX6_setAt_24 (lv_at hl 4 rfl) ?_
          refine lv_ishl hx hb dX6_setAt_26 ?_
          have i114 : iv 1 512 ((1 : Int32) <<< (x4_5 &&& 31)) := (iv_bit k107a (by decide) (by decide))
          refine lv_goto (tgt := 31) hx hb dX6_setAt_27 (by decide) ?_
          refine lv_ior hx hb dX6_setAt_31 ?_
          have i115 : iv 0 1023 (x3_5 ||| ((1 : Int32) <<< (x4_5 &&& 31))) := (iv_or 10 (b := 1023) (d := 512) (iv_w h3_5 (by decide) (by decide)) (iv_w i114 (by decide) (by decide)) (by decide) (by decide) (by decide) (by decide))
          refine lv_istore_n (lv' := [(3, .int (x3_5 ||| ((1 : Int32) <<< (x4_5 &&& 31)))), (0, .ref (q 0)), (1, .ref (q 21)), (2, .int p1), (4, .int x4_5)]) hx hb dX6_setAt_32 rfl hl (by decide) rfl (fun ls hl => ?_)
          have j116 : iv 1 10 (x4_5 + 1) := iv_add k107a (iv_lit (n := 1) 1 (by decide)) (by decide) (by decide) (by decide) (by decide)
          have e116 : (x4_5 + 1).toInt = x4_5.toInt + 1 := (iv_addE k107a (iv_lit (n := 1) 1 (by decide)) (by decide) (by decide)).trans rfl
          refine lv_iinc (v := (x4_5 + 1)) (lv' := [(4, .int (x4_5 + 1)), (3, .int (x3_5 ||| ((1 : Int32) <<< (x4_5 &&& 31)))), (0, .ref (q 0)), (1, .ref (q 21)), (2, .int p1)]) hx hb dX6_setAt_33 hl (k := 4) rfl rfl (by decide) rfl (fun ls hl => ?_)
          refine lv_goto (tgt := 5) hx hb dX6_setAt_36 (by decide) ?_
          exact ih5 _ (ms_up e116 j116.2 hn5) (x3_5 ||| ((1 : Int32) <<< (x4_5 &&& 31))) (x4_5 + 1)  H locs ls i115 (iv_w j116 (by decide) (by decide)) ⟨set_s ex_5.1 k107a (by have := iv_nat k107a (by decide); have := iv_nat j116 (by decide); omega) c109, by omega⟩  hH (lv_sub hl [2, 3, 4, 1, 0] rfl) rfl
  refine lv_iconst (v := 0) hx hb dX6_setAt_0 (by decide) ?_
  refine lv_istore_n (lv' := [(3, .int 0), (0, .ref (q 0)), (1, .ref (q 21)), (2, .int p1)]) hx hb dX6_setAt_1 rfl hl (by decide) rfl (fun ls hl => ?_)
  refine lv_iconst (v := 0) hx hb dX6_setAt_2 (by decide) ?_
  refine lv_istore (lv' := [(4, .int 0), (3, .int 0), (0, .ref (q 0)), (1, .ref (q 21)), (2, .int p1)]) hx hb dX6_setAt_3 hl (by decide) rfl (fun ls hl => ?_)
  exact HL5 _ 0 0  H locs ls (iv_w (iv_lit (n := 0) 0 (by decide)) (by decide) (by decide)) (iv_w (iv_lit (n := 0) 0 (by decide)) (by decide) (by decide)) ⟨rfl, by omega⟩  hH (lv_sub hl [2, 3, 4, 1, 0] rfl) rfl
set_option maxHeartbeats 4000000 in
set_option maxRecDepth 100000 in
theorem g_X6_areUpTo_0_21 (l : Launch) (D : va_G) (cy : Nat → ClassId) (q : Nat → Nat) (hq : bJ 23 q) (z0 : zS) (hI : IvM z0) (p1 : Int32) (p2 : Int32) : bCi l yX6_areUpTo wsX6_areUpTo ({ frames := 1, cells := 0, slots := 0, locals := 21 }) D cy 23 (enM cy) q z0 [.ref (q 0), .ref (q 21), .int p1, .int p2] (fun v z => jJ IvM 0 0 0 z0 z ∧ iv 0 1 v) := by
  refine hM_z cX6_areUpTo (by decide) rfl (own := RX6) rfl hq (Nat.le_of_ble_eq_true rfl) ?_
  intro p e s m args below meth c Q ls H locs hx hb hml hown hts hK hZ hH hl hret
  have hl : lv_has ls 6 [(0, .ref (q 0)), (1, .ref (q 21)), (2, .int p1), (3, .int p2)] := hl
  have hJ : jJ IvM 0 0 0 z0 z0 := jJ_rf _ _ _ hI
  have HL6 : ∀ (n : Nat) (x4_6 : Int32) (x5_6 : Int32) (H : Heap) (locs : List Loc) (ls : Array Slot), iv 0 1 x4_6 → iv 0 10 x5_6 → bH D 23 (enM cy) q z0 s.heap H locs → lv_has ls 6 [(0, .ref (q 0)), (1, .ref (q 21)), (2, .int p1), (3, .int p2), (4, .int x4_6), (5, .int x5_6)] → (10 - x5_6.toInt).toNat = n → W p l e ({ frames := 1, cells := 0, slots := 0, locals := 21 }) s m args below meth c H locs 0 0 Q (F0 m 6 ls []) := by
    intro n6
    induction n6 using Nat.strongRecOn with
    | ind n6 ih6 =>
      intro x4_6 x5_6 H locs ls h4_6 h5_6 hH hl hn6
      have HJ46 : ∀ (t0_46 : Int32) (t1_46 : Int32) (H : Heap) (locs : List Loc) (ls : Array Slot), iv 0 9 x5_6 → iv 0 1 t0_46 → iv 0 1 t1_46 → iv 1 10 (z0.1 0) → bH D 23 (enM cy) q z0 s.heap H locs → lv_has ls 6 [(0, .ref (q 0)), (1, .ref (q 21)), (2, .int p1), (3, .int p2), (5, .int x5_6)] → W p l e ({ frames := 1, cells := 0, slots := 0, locals := 21 }) s m args below meth c H locs 0 0 Q (F0 m 46 ls [.int t0_46, .int t1_46]) := by
        intro t0_46 t1_46 H locs ls h5_46 g0_46 g1_46 gh0_46 hH hl
        refine lv_iand hx hb dX6_areUpTo_46 ?_
        refine h_iL (a := 0) (b := 1) (iv_and g1_46 g0_46 (by decide) (by decide)) (iv_andlt g1_46 (by decide)) (fun w126 i126 e126 => ?_)
        refine lv_istore (lv' := [(4, .int w126), (0, .ref (q 0)), (1, .ref (q 21)), (2, .int p1), (3, .int p2), (5, .int x5_6)]) hx hb dX6_areUpTo_47 hl (by decide) rfl (fun ls hl => ?_)
        have j127 : iv 1 10 (x5_6 + 1) := iv_add h5_46 (iv_lit (n := 1) 1 (by decide)) (by decide) (by decide) (by decide) (by decide)
        have e127 : (x5_6 + 1).toInt = x5_6.toInt + 1 := (iv_addE h5_46 (iv_lit (n := 1) 1 (by decide)) (by decide) (by decide)).trans rfl
        refine lv_iinc (v := (x5_6 + 1)) (lv' := [(5, .int (x5_6 + 1)), (4, .int w126), (0, .ref (q 0)), (1, .ref (q 21)), (2, .int p1), (3, .int p2)]) hx hb dX6_areUpTo_49 hl (k := 5) rfl rfl (by decide) rfl (fun ls hl => ?_)
        refine lv_goto (tgt := 6) hx hb dX6_areUpTo_52 (by decide) ?_
        exact ih6 _ (ms_up e127 j127.2 hn6) w126 (x5_6 + 1)  H locs ls i126 (iv_w j127 (by decide) (by decide))  hH (lv_sub hl [2, 3, 4, 5, 1, 0] rfl) rfl
      have HJ41 : ∀ (t0_41 : Int32) (H : Heap) (locs : List Loc) (ls : Array Slot), iv 0 9 x5_6 → iv 0 1 t0_41 → iv 1 10 (z0.1 0) → bH D 23 (enM cy) q z0 s.heap H locs → lv_has ls 6 [(0, .ref (q 0)), (1, .ref (q 21)), (2, .int p1), (3, .int p2), (5, .int x5_6)] → W p l e ({ frames := 1, cells := 0, slots := 0, locals := 21 }) s m args below meth c H locs 0 0 Q (F0 m 41 ls [.int t0_41]) := by
        intro t0_41 H locs ls h5_41 g0_41 gh0_41 hH hl
        refine lv_iconst (v := 1) hx hb dX6_areUpTo_41 (by decide) ?_
        refine lv_goto (tgt := 46) hx hb dX6_areUpTo_42 (by decide) ?_
        exact HJ46 1 t0_41  H locs ls h5_41 (iv_w (iv_lit (n := 1) 1 (by decide)) (by decide) (by decide)) g0_41 gh0_41  hH (lv_sub hl [0, 1, 2, 3, 4] rfl)
      have HJ45 : ∀ (t0_45 : Int32) (H : Heap) (locs : List Loc) (ls : Array Slot), iv 0 9 x5_6 → iv 0 1 t0_45 → iv 1 10 (z0.1 0) → bH D 23 (enM cy) q z0 s.heap H locs → lv_has ls 6 [(0, .ref (q 0)), (1, .ref (q 21)), (2, .int p1), (3, .int p2), (5, .int x5_6)] → W p l e ({ frames := 1, cells := 0, slots := 0, locals := 21 }) s m args below meth c H locs 0 0 Q (F0 m 45 ls [.int t0_45]) := by
        intro t0_45 H locs ls h5_45 g0_45 gh0_45 hH hl
        refine lv_iconst (v := 0) hx hb dX6_areUpTo_45 (by decide) ?_
        exact HJ46 0 t0_45  H locs ls h5_45 (iv_w (iv_lit (n := 0) 0 (by decide)) (by decide) (by decide)) g0_45 gh0_45  hH (lv_sub hl [0, 1, 2, 3, 4] rfl)
      refine lv_iload hx hb dX6_areUpTo_6 (lv_at hl 5 rfl) ?_
      refine lv_aload_n hx hb dX6_areUpTo_8 rfl (lv_at hl 0 rfl) ?_
      refine b_get (ci := 6) (C := RX6) (T := TX6) (Nf := 29) (v := .int (z0.1 0)) hx hb hts in_X6_areUpTo_X6 hown hK hH 0 (by decide) rfl rfl 0 (by decide) (hts (.fieldLink RX6 85 "StationLineModel" "tasks" "I") (List.mem_of_getElem? (i := 1) rfl)) rfl dX6_areUpTo_9 ?_
      have i128 := IvM_s0 hJ.1
      refine lv_icmp_ge (tgt := 55) hx hb dX6_areUpTo_12 (by decide) (fun c129 => ?_) (fun c129 => ?_)
      · skip
        refine lv_iload hx hb dX6_areUpTo_55 (lv_at hl 4 rfl) ?_
        exact hret _ z0 H locs _ _ (iv_w h4_6 (by decide) (by decide)) ⟨hJ, h4_6⟩ hH dX6_areUpTo_57
      · skip
        have k131a : iv 0 9 x5_6 := iv_ltl (iv_nLe c129) h5_6 i128 (by decide)
        have k131b : iv 1 10 (z0.1 0) := iv_ltr (iv_nLe c129) h5_6 i128 (by decide)
        refine lv_iload hx hb dX6_areUpTo_15 (lv_at hl 4 rfl) ?_
        refine lv_iload_n hx hb dX6_areUpTo_17 rfl (lv_at hl 2 rfl) ?_
        refine lv_iload hx hb dX6_areUpTo_18 (lv_at hl 5 rfl) ?_
        refine b_stati (As := [.int p1, .int x5_6]) (rest := [.int x4_6]) ⟨hx, hb, hml, hown, hts⟩ (g_X6_in l D cy q hH.2.1 z0 hJ.1 p1 x5_6) (va_cwS 2 hts gX6_areUpTo_X6_in rfl rfl rfl (by decide +kernel) ⟨Nat.le_of_ble_eq_true rfl, Nat.le_of_ble_eq_true rfl⟩) hK hZ hH rfl hl.1 rfl (Nat.le_of_ble_eq_true rfl) ⟨Nat.zero_le _, Nat.zero_le _⟩ dX6_areUpTo_20 (fun w132 z132 H locs hp hH => ?_)
        rw [Ag_0 hp.1.2] at hH
        have i132 := hp.2.1
        have f132_0 := hp.2.2
        refine lv_if_eq (tgt := 41) hx hb dX6_areUpTo_23 (by decide) (fun c133 => ?_) (fun c133 => ?_)
        · skip
          have k134a : iv 0 0 w132 := iv_eql (iv_Eq c133) i132 (iv_lit (n := 0) 0 (by decide)) (by decide) (by decide)
          exact HJ41 x4_6  H locs ls k131a h4_6 k131b  hH (lv_sub hl [0, 1, 2, 3, 5] rfl)
        · skip
          have k135a : iv 1 1 w132 := iv_neLo (iv_nEq c133) i132 (by decide) (by decide)
          refine lv_aload_n hx hb dX6_areUpTo_26 rfl (lv_at hl 1 rfl) ?_
          refine lv_iload hx hb dX6_areUpTo_27 (lv_at hl 5 rfl) ?_
          refine b_iald (v := z0.2.1 21 (x5_6 : Int32).toNatClampNeg) hx hb hK hH 21 (by decide) rfl (iv_in k131a (by decide) (by decide)) rfl dX6_areUpTo_29 ?_
          have i136 : iv 0 10 (z0.2.1 21 (x5_6 : Int32).toNatClampNeg) := IvM_a21 hJ.1 _ (b_inlt (iv_in k131a (by decide) (by decide)))
          refine lv_if_le (tgt := 45) hx hb dX6_areUpTo_30 (by decide) (fun c137 => ?_) (fun c137 => ?_)
          · skip
            have k138a : iv 0 0 (z0.2.1 21 (x5_6 : Int32).toNatClampNeg) := iv_lel (iv_Le c137) i136 (iv_lit (n := 0) 0 (by decide))
            exact HJ45 x4_6  H locs ls k131a h4_6 k131b  hH (lv_sub hl [0, 1, 2, 3, 5] rfl)
          · skip
            have k139b : iv 1 10 (z0.2.1 21 (x5_6 : Int32).toNatClampNeg) := iv_ltr (iv_nLe c137) (iv_lit (n := 0) 0 (by decide)) i136 (by decide)
            refine lv_aload_n hx hb dX6_areUpTo_33 rfl (lv_at hl 1 rfl) ?_
            refine lv_iload hx hb dX6_areUpTo_34 (lv_at hl 5 rfl) ?_
            refine b_iald (v := z0.2.1 21 (x5_6 : Int32).toNatClampNeg) hx hb hK hH 21 (by decide) rfl (iv_in k131a (by decide) (by decide)) rfl dX6_areUpTo_36 ?_
            have i140 : iv 0 10 (z0.2.1 21 (x5_6 : Int32).toNatClampNeg) := IvM_a21 hJ.1 _ (b_inlt (iv_in k131a (by decide) (by decide)))
            refine lv_iload_n hx hb dX6_areUpTo_37 rfl (lv_at hl 3 rfl) ?_
            refine lv_icmp_gt (tgt := 45) hx hb dX6_areUpTo_38 (by decide) (fun c141 => ?_) (fun c141 => ?_)
            · skip
              have k142a : iv (-2147483648) 9 p2 := iv_ltl (iv_Lt c141) (iv_all p2) i140 (by decide)
              exact HJ45 x4_6  H locs ls k131a h4_6 k131b  hH (lv_sub hl [0, 1, 2, 3, 5] rfl)
            · skip
              have k143b : iv 0 2147483647 p2 := iv_ler (iv_nLt c141) i140 (iv_all p2)
              exact HJ41 x4_6  H locs ls k131a h4_6 k131b  hH (lv_sub hl [0, 1, 2, 3, 5] rfl)
  refine lv_iconst (v := 1) hx hb dX6_areUpTo_0 (by decide) ?_
  refine lv_istore (lv' := [(4, .int 1), (0, .ref (q 0)), (1, .ref (q 21)), (2, .int p1), (3, .int p2)]) hx hb dX6_areUpTo_1 hl (by decide) rfl (fun ls hl => ?_)
  refine lv_iconst (v := 0) hx hb dX6_areUpTo_3 (by decide) ?_
  refine lv_istore (lv' := [(5, .int 0), (4, .int 1), (0, .ref (q 0)), (1, .ref (q 21)), (2, .int p1), (3, .int p2)]) hx hb dX6_areUpTo_4 hl (by decide) rfl (fun ls hl => ?_)
  exact HL6 _ 1 0  H locs ls (iv_w (iv_lit (n := 1) 1 (by decide)) (by decide) (by decide)) (iv_w (iv_lit (n := 0) 0 (by decide)) (by decide) (by decide))  hH (lv_sub hl [2, 3, 4, 5, 1, 0] rfl) rfl
set_option maxHeartbeats 4000000 in
set_option maxRecDepth 100000 in
theorem g_X6_lengthOf_0 (l : Launch) (D : va_G) (cy : Nat → ClassId) (q : Nat → Nat) (hq : bJ 23 q) (z0 : zS) (hI : IvM z0)  : bCi l yX6_lengthOf wsX6_lengthOf ({ frames := 0, cells := 0, slots := 0, locals := 0 }) D cy 23 (enM cy) q z0 [.ref (q 0), .ref (q 6)] (fun v z => jJ IvM 0 0 0 z0 z ∧ iv 0 10 v) := by
  refine hM_i cX6_lengthOf (by decide) rfl (own := RX6) rfl hq (Nat.le_of_ble_eq_true rfl) ?_
  intro p e s m args below meth c Q ls H locs hx hb hml hown hts hK hZ hH hl hret
  have hl : lv_has ls 4 [(0, .ref (q 0)), (1, .ref (q 6))] := hl
  have hJ : jJ IvM 0 0 0 z0 z0 := jJ_rf _ _ _ hI
  have HL4 : ∀ (n : Nat) (x2_4 : Int32) (x3_4 : Int32) (H : Heap) (locs : List Loc) (ls : Array Slot), iv 0 10 x2_4 → iv 0 10 x3_4 → bH D 23 (enM cy) q z0 s.heap H locs → lv_has ls 4 [(0, .ref (q 0)), (1, .ref (q 6)), (2, .int x2_4), (3, .int x3_4)] → (10 - x3_4.toInt).toNat = n → W p l e ({ frames := 0, cells := 0, slots := 0, locals := 0 }) s m args below meth c H locs 0 0 Q (F0 m 4 ls []) := by
    intro n4
    induction n4 using Nat.strongRecOn with
    | ind n4 ih4 =>
      intro x2_4 x3_4 H locs ls h2_4 h3_4 hH hl hn4
      have HJ26 : ∀ (t0_26 : Int32) (H : Heap) (locs : List Loc) (ls : Array Slot), iv 0 9 x3_4 → iv 0 10 t0_26 → iv 1 10 (z0.1 0) → bH D 23 (enM cy) q z0 s.heap H locs → lv_has ls 4 [(0, .ref (q 0)), (1, .ref (q 6)), (3, .int x3_4)] → W p l e ({ frames := 0, cells := 0, slots := 0, locals := 0 }) s m args below meth c H locs 0 0 Q (F0 m 26 ls [.int t0_26]) := by
        intro t0_26 H locs ls h3_26 g0_26 gh0_26 hH hl
        refine lv_istore_n (lv' := [(2, .int t0_26), (0, .ref (q 0)), (1, .ref (q 6)), (3, .int x3_4)]) hx hb dX6_lengthOf_26 rfl hl (by decide) rfl (fun ls hl => ?_)
        have j71 : iv 1 10 (x3_4 + 1) := iv_add h3_26 (iv_lit (n := 1) 1 (by decide)) (by decide) (by decide) (by decide) (by decide)
        have e71 : (x3_4 + 1).toInt = x3_4.toInt + 1 := (iv_addE h3_26 (iv_lit (n := 1) 1 (by decide)) (by decide) (by decide)).trans rfl
        refine lv_iinc (v := (x3_4 + 1)) (lv' := [(3, .int (x3_4 + 1)), (2, .int t0_26), (0, .ref (q 0)), (1, .ref (q 6))]) hx hb dX6_lengthOf_27 hl (k := 3) rfl rfl (by decide) rfl (fun ls hl => ?_)
        refine lv_goto (tgt := 4) hx hb dX6_lengthOf_30 (by decide) ?_
        exact ih4 _ (ms_up e71 j71.2 hn4) t0_26 (x3_4 + 1)  H locs ls g0_26 (iv_w j71 (by decide) (by decide))  hH (lv_sub hl [2, 3, 1, 0] rfl) rfl
      refine lv_iload_n hx hb dX6_lengthOf_4 rfl (lv_at hl 3 rfl) ?_
      refine lv_aload_n hx hb dX6_lengthOf_5 rfl (lv_at hl 0 rfl) ?_
      refine b_get (ci := 6) (C := RX6) (T := TX6) (Nf := 29) (v := .int (z0.1 0)) hx hb hts in_X6_lengthOf_X6 hown hK hH 0 (by decide) rfl rfl 0 (by decide) (hts (.fieldLink RX6 85 "StationLineModel" "tasks" "I") (List.mem_of_getElem? (i := 1) rfl)) rfl dX6_lengthOf_6 ?_
      have i72 := IvM_s0 hJ.1
      refine lv_icmp_ge (tgt := 33) hx hb dX6_lengthOf_9 (by decide) (fun c73 => ?_) (fun c73 => ?_)
      · skip
        refine lv_iload_n hx hb dX6_lengthOf_33 rfl (lv_at hl 2 rfl) ?_
        exact hret _ z0 H locs _ _ ⟨hJ, h2_4⟩ hH dX6_lengthOf_34
      · skip
        have k75a : iv 0 9 x3_4 := iv_ltl (iv_nLe c73) h3_4 i72 (by decide)
        have k75b : iv 1 10 (z0.1 0) := iv_ltr (iv_nLe c73) h3_4 i72 (by decide)
        refine lv_aload_n hx hb dX6_lengthOf_12 rfl (lv_at hl 1 rfl) ?_
        refine lv_iload_n hx hb dX6_lengthOf_13 rfl (lv_at hl 3 rfl) ?_
        refine b_iald (v := z0.2.1 6 (x3_4 : Int32).toNatClampNeg) hx hb hK hH 6 (by decide) rfl (iv_in k75a (by decide) (by decide)) rfl dX6_lengthOf_14 ?_
        have i76 : iv 0 10 (z0.2.1 6 (x3_4 : Int32).toNatClampNeg) := IvM_a6 hJ.1 _ (b_inlt (iv_in k75a (by decide) (by decide)))
        refine lv_iload_n hx hb dX6_lengthOf_15 rfl (lv_at hl 2 rfl) ?_
        refine lv_icmp_le (tgt := 25) hx hb dX6_lengthOf_16 (by decide) (fun c77 => ?_) (fun c77 => ?_)
        · skip
          refine lv_iload_n hx hb dX6_lengthOf_25 rfl (lv_at hl 2 rfl) ?_
          exact HJ26 x2_4  H locs ls k75a h2_4 k75b  hH (lv_sub hl [0, 1, 3] rfl)
        · skip
          have k79a : iv 0 9 x2_4 := iv_ltl (iv_nLe c77) h2_4 i76 (by decide)
          have k79b : iv 1 10 (z0.2.1 6 (x3_4 : Int32).toNatClampNeg) := iv_ltr (iv_nLe c77) h2_4 i76 (by decide)
          refine lv_aload_n hx hb dX6_lengthOf_19 rfl (lv_at hl 1 rfl) ?_
          refine lv_iload_n hx hb dX6_lengthOf_20 rfl (lv_at hl 3 rfl) ?_
          refine b_iald (v := z0.2.1 6 (x3_4 : Int32).toNatClampNeg) hx hb hK hH 6 (by decide) rfl (iv_in k75a (by decide) (by decide)) rfl dX6_lengthOf_21 ?_
          have i80 : iv 0 10 (z0.2.1 6 (x3_4 : Int32).toNatClampNeg) := IvM_a6 hJ.1 _ (b_inlt (iv_in k75a (by decide) (by decide)))
          refine lv_goto (tgt := 26) hx hb dX6_lengthOf_22 (by decide) ?_
          exact HJ26 (z0.2.1 6 (x3_4 : Int32).toNatClampNeg)  H locs ls k75a i80 k75b  hH (lv_sub hl [0, 1, 3] rfl)
  refine lv_iconst (v := 0) hx hb dX6_lengthOf_0 (by decide) ?_
  refine lv_istore_n (lv' := [(2, .int 0), (0, .ref (q 0)), (1, .ref (q 6))]) hx hb dX6_lengthOf_1 rfl hl (by decide) rfl (fun ls hl => ?_)
  refine lv_iconst (v := 0) hx hb dX6_lengthOf_2 (by decide) ?_
  refine lv_istore_n (lv' := [(3, .int 0), (2, .int 0), (0, .ref (q 0)), (1, .ref (q 6))]) hx hb dX6_lengthOf_3 rfl hl (by decide) rfl (fun ls hl => ?_)
  exact HL4 _ 0 0  H locs ls (iv_w (iv_lit (n := 0) 0 (by decide)) (by decide) (by decide)) (iv_w (iv_lit (n := 0) 0 (by decide)) (by decide) (by decide))  hH (lv_sub hl [2, 3, 1, 0] rfl) rfl
set_option maxHeartbeats 4000000 in
set_option maxRecDepth 100000 in
theorem g_X6_length_0 (l : Launch) (D : va_G) (cy : Nat → ClassId) (q : Nat → Nat) (hq : bJ 23 q) (z0 : zS) (hI : IvM z0)  : bCi l yX6_length wsX6_length ({ frames := 1, cells := 0, slots := 0, locals := 23 }) D cy 23 (enM cy) q z0 [.ref (q 0)] (fun v z => jJ IvM 0 0 0 z0 z ∧ iv 0 10 v) := by
  refine hM_i cX6_length (by decide) rfl (own := RX6) rfl hq (Nat.le_of_ble_eq_true rfl) ?_
  intro p e s m args below meth c Q ls H locs hx hb hml hown hts hK hZ hH hl hret
  have hl : lv_has ls 1 [(0, .ref (q 0))] := hl
  have hJ : jJ IvM 0 0 0 z0 z0 := jJ_rf _ _ _ hI
  refine lv_aload_n hx hb dX6_length_0 rfl (lv_at hl 0 rfl) ?_
  refine lv_aload_n hx hb dX6_length_1 rfl (lv_at hl 0 rfl) ?_
  refine b_get (ci := 6) (C := RX6) (T := TX6) (Nf := 29) (v := .ref (q 6)) hx hb hts in_X6_length_X6 hown hK hH 0 (by decide) rfl rfl 6 (by decide) (hts (.fieldLink RX6 25 "StationLineModel" "hand" "[I") (List.mem_of_getElem? (i := 1) rfl)) rfl dX6_length_2 ?_
  refine b_calli (As := [.ref (q 6)]) (rest := []) ⟨hx, hb, hml, hown, hts⟩ 0 6 (g_X6_lengthOf_0 l D cy q hH.2.1 z0 hJ.1 ) (cwV 1 hts gX6_length_X6_lengthOf rfl rfl rfl (by decide +kernel) ⟨Nat.le_of_ble_eq_true rfl, Nat.le_of_ble_eq_true rfl⟩) hK hZ hH (by decide) rfl rfl rfl hl.1 rfl (Nat.le_of_ble_eq_true rfl) ⟨Nat.zero_le _, Nat.zero_le _⟩ dX6_length_5 (fun w2 z2 H locs hp hH => ?_)
  rw [Ag_0 hp.1.2] at hH
  have i2 := hp.2
  exact hret _ z0 H locs _ _ ⟨hJ, i2⟩ hH dX6_length_8
