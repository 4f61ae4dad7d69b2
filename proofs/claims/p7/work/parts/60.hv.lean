/-! HAVOC: contracts in any state. iv: an int lies between two numbers; Ag: what a method doesn't write is as it was. -/
def iv (a b : Int) (x : Int32) : Prop := a ≤ x.toInt ∧ x.toInt ≤ b
theorem iv_w {a b c d : Int} {x : Int32} (h : iv a b x) (h1 : c ≤ a) (h2 : b ≤ d) : iv c d x := ⟨Int.le_trans h1 h.1, Int.le_trans h.2 h2⟩
theorem iv_all (x : Int32) : iv (-2147483648) 2147483647 x := by
  have h1 := Int32.le_toInt x
  have h2 := Int32.toInt_lt x
  exact ⟨h1, by omega⟩
theorem iv_bm {t e f : Int} (h1 : e ≤ t) (h2 : t ≤ f) (h3 : -2147483648 ≤ e) (h4 : f ≤ 2147483647) : t.bmod (2 ^ 32) = t := by
  rw [Int.bmod_def]
  omega
theorem iv_add {a b c d e f : Int} {x y : Int32} (hx : iv a b x) (hy : iv c d y) (he : e ≤ a + c) (hf : b + d ≤ f) (h3 : -2147483648 ≤ e) (h4 : f ≤ 2147483647) : iv e f (x + y) := by
  have h1 : e ≤ x.toInt + y.toInt := by have := hx.1; have := hy.1; omega
  have h2 : x.toInt + y.toInt ≤ f := by have := hx.2; have := hy.2; omega
  unfold iv
  rw [Int32.toInt_add, iv_bm h1 h2 h3 h4]
  exact ⟨h1, h2⟩
theorem iv_sub {a b c d e f : Int} {x y : Int32} (hx : iv a b x) (hy : iv c d y) (he : e ≤ a - d) (hf : b - c ≤ f) (h3 : -2147483648 ≤ e) (h4 : f ≤ 2147483647) : iv e f (x - y) := by
  have h1 : e ≤ x.toInt - y.toInt := by have := hx.1; have := hy.2; omega
  have h2 : x.toInt - y.toInt ≤ f := by have := hx.2; have := hy.1; omega
  unfold iv
  rw [Int32.toInt_sub, iv_bm h1 h2 h3 h4]
  exact ⟨h1, h2⟩
theorem iv_addE {a b c d : Int} {x y : Int32} (hx : iv a b x) (hy : iv c d y) (h3 : -2147483648 ≤ a + c) (h4 : b + d ≤ 2147483647) : (x + y).toInt = x.toInt + y.toInt := by
  rw [Int32.toInt_add]
  exact iv_bm (e := a + c) (f := b + d) (by have := hx.1; have := hy.1; omega) (by have := hx.2; have := hy.2; omega) h3 h4
theorem iv_subE {a b c d : Int} {x y : Int32} (hx : iv a b x) (hy : iv c d y) (h3 : -2147483648 ≤ a - d) (h4 : b - c ≤ 2147483647) : (x - y).toInt = x.toInt - y.toInt := by
  rw [Int32.toInt_sub]
  exact iv_bm (e := a - d) (f := b - c) (by have := hx.1; have := hy.2; omega) (by have := hx.2; have := hy.1; omega) h3 h4
/-- a product of two that aren't below 0 -/
theorem iv_mul {a b c d e f : Int} {x y : Int32} (hx : iv a b x) (hy : iv c d y) (ha : 0 ≤ a) (hc : 0 ≤ c) (he : e ≤ a * c) (hf : b * d ≤ f) (h4 : f ≤ 2147483647) : iv e f (x * y) := by
  have h0 : 0 ≤ x.toInt * y.toInt := Int.mul_nonneg (Int.le_trans ha hx.1) (Int.le_trans hc hy.1)
  have h1 : e ≤ x.toInt * y.toInt := Int.le_trans he (Int.mul_le_mul hx.1 hy.1 hc (Int.le_trans ha hx.1))
  have h2 : x.toInt * y.toInt ≤ f := Int.le_trans (Int.mul_le_mul hx.2 hy.2 (Int.le_trans hc hy.1) (Int.le_trans ha (Int.le_trans hx.1 hx.2))) hf
  unfold iv
  rw [Int32.toInt_mul, iv_bm h0 h2 (by decide) h4]
  exact ⟨h1, h2⟩
theorem iv_mulE {a b c d : Int} {x y : Int32} (hx : iv a b x) (hy : iv c d y) (ha : 0 ≤ a) (hc : 0 ≤ c) (h4 : b * d ≤ 2147483647) : (x * y).toInt = x.toInt * y.toInt := by
  have h0 : 0 ≤ x.toInt * y.toInt := Int.mul_nonneg (Int.le_trans ha hx.1) (Int.le_trans hc hy.1)
  have h2 : x.toInt * y.toInt ≤ b * d := Int.mul_le_mul hx.2 hy.2 (Int.le_trans hc hy.1) (Int.le_trans ha (Int.le_trans hx.1 hx.2))
  rw [Int32.toInt_mul, iv_bm h0 h2 (by decide) h4]
theorem iv_n {x : Int32} {b : Int} (h : iv 0 b x) : ∃ n : Nat, (n : Int) ≤ b ∧ x.toInt = n ∧ x.toBitVec = BitVec.ofNat 32 n ∧ n < 2147483648 := by
  have h2 := Int32.toInt_lt x
  refine ⟨x.toInt.toNat, by have := h.1; have := h.2; omega, by have := h.1; omega, ?_, by omega⟩
  have h1 := h.1
  apply BitVec.eq_of_toNat_eq
  rw [BitVec.toNat_ofNat]
  have e : x.toInt = x.toBitVec.toInt := rfl
  have l := x.toBitVec.isLt
  rw [e] at h1 ⊢
  rw [BitVec.toInt_eq_toNat_cond] at h1 ⊢
  split at h1 <;> split <;> omega
theorem iv_ofn {n : Nat} (h : n < 2147483648) (x : Int32) (e : x.toBitVec = BitVec.ofNat 32 n) : x.toInt = n := by
  have e1 : x.toInt = x.toBitVec.toInt := rfl
  rw [e1, e, BitVec.toInt_eq_toNat_cond, BitVec.toNat_ofNat, Nat.mod_eq_of_lt (by omega)]
  rw [if_pos (by omega)]
theorem iv_and {a b c d f : Int} {x y : Int32} (hx : iv a b x) (hy : iv c d y) (ha : 0 ≤ a) (hf : b ≤ f) : iv 0 f (x &&& y) := by
  have h1 : (x &&& y).toInt = (x.toBitVec &&& y.toBitVec).toInt := rfl
  obtain ⟨n, h2, h3, h4, h5⟩ := iv_n (iv_w hx ha (Int.le_refl b))
  have l : (x.toBitVec &&& y.toBitVec).toNat ≤ n := by
    rw [BitVec.toNat_and, h4, BitVec.toNat_ofNat, Nat.mod_eq_of_lt (by omega)]
    exact Nat.and_le_left
  unfold iv
  rw [h1, BitVec.toInt_eq_toNat_cond, if_pos (by omega)]
  omega
theorem iv_and2 {a b c d f : Int} {x y : Int32} (hx : iv a b x) (hy : iv c d y) (hc : 0 ≤ c) (hf : d ≤ f) : iv 0 f (x &&& y) := by
  have h := iv_and hy hx hc hf
  have e : x &&& y = y &&& x := Int32.toBitVec_inj.mp (by rw [Int32.toBitVec_and, Int32.toBitVec_and, BitVec.and_comm])
  rw [e]
  exact h
theorem iv_andlt {a b : Int} {x y : Int32} (hx : iv a b x) (ha : 0 ≤ a) : (x &&& y).toInt ≤ x.toInt := by
  have h := iv_and (f := x.toInt) (x := x) (y := y) (a := a) (b := x.toInt) ⟨hx.1, Int.le_refl _⟩ (iv_all y) ha (Int.le_refl _)
  exact h.2
theorem iv_or (k : Nat) {b d : Int} {x y : Int32} (hx : iv 0 b x) (hy : iv 0 d y) (hk : k < 31) (hb : b < (2 ^ k : Nat)) (hd : d < (2 ^ k : Nat)) {f : Int} (hf : ((2 ^ k : Nat) : Int) ≤ f + 1) : iv 0 f (x ||| y) := by
  obtain ⟨n, h2, h3, h4, h5⟩ := iv_n hx
  obtain ⟨m, g2, g3, g4, g5⟩ := iv_n hy
  have l : n ||| m < 2 ^ k := Nat.or_lt_two_pow (by omega) (by omega)
  have hp : (2 : Nat) ^ k ≤ 2 ^ 30 := Nat.pow_le_pow_right (by decide) (by omega)
  have e : (x ||| y).toInt = ((n ||| m : Nat) : Int) := iv_ofn (by omega) _ (by
    rw [Int32.toBitVec_or, h4, g4]
    apply BitVec.eq_of_getLsbD_eq
    intro i hi
    simp [hi])
  unfold iv
  rw [e]
  omega
theorem iv_ofE {x : Int32} {n : Nat} (hn : n < 2147483648) (h : x.toInt = n) : x = Int32.ofNat n := by
  apply Int32.toInt_inj.mp
  rw [h]
  exact (iv_ofn hn (Int32.ofNat n) rfl).symm
/-- one bit, at a place 0 .. 9 -/
theorem iv_bit {a b : Int} {x : Int32} (hx : iv a b x) (ha : 0 ≤ a) (hb : b ≤ 9) : iv 1 512 (1 <<< (x &&& 31)) := by
  have h1 := hx.1
  have h2 := hx.2
  rcases (show x.toInt = (0 : Nat) ∨ x.toInt = (1 : Nat) ∨ x.toInt = (2 : Nat) ∨ x.toInt = (3 : Nat) ∨ x.toInt = (4 : Nat) ∨ x.toInt = (5 : Nat) ∨ x.toInt = (6 : Nat) ∨ x.toInt = (7 : Nat) ∨ x.toInt = (8 : Nat) ∨ x.toInt = (9 : Nat) by omega) with e | e | e | e | e | e | e | e | e | e <;> (rw [iv_ofE (by decide) e]; exact ⟨by decide, by decide⟩)
/-- the bits below a place 0 .. 10, as a set -/
theorem iv_bitA {a b : Int} {x : Int32} (hx : iv a b x) (ha : 0 ≤ a) (hb : b ≤ 10) : iv 1 1024 (1 <<< (x &&& 31)) := by
  have h1 := hx.1
  have h2 := hx.2
  rcases (show x.toInt = (0 : Nat) ∨ x.toInt = (1 : Nat) ∨ x.toInt = (2 : Nat) ∨ x.toInt = (3 : Nat) ∨ x.toInt = (4 : Nat) ∨ x.toInt = (5 : Nat) ∨ x.toInt = (6 : Nat) ∨ x.toInt = (7 : Nat) ∨ x.toInt = (8 : Nat) ∨ x.toInt = (9 : Nat) ∨ x.toInt = (10 : Nat) by omega) with e | e | e | e | e | e | e | e | e | e | e <;> (rw [iv_ofE (by decide) e]; exact ⟨by decide, by decide⟩)
theorem iv_in {a b : Int} {x : Int32} {n : Nat} (h : iv a b x) (ha : 0 ≤ a) (hb : b < (n : Int)) : vp_in x n := by
  have h1 := h.1
  have h2 := h.2
  intro q
  rcases q with q | q
  · rw [b_lt] at q
    have e0 : (0 : Int32).toInt = 0 := by decide
    omega
  · have e : x.toNatClampNeg = x.toInt.toNat := rfl
    omega
theorem iv_nat {a b : Int} {x : Int32} (h : iv a b x) (ha : 0 ≤ a) : (x.toNatClampNeg : Int) = x.toInt := by
  have h1 := h.1
  have e : x.toNatClampNeg = x.toInt.toNat := rfl
  omega
/-! what a branch says -/
theorem iv_Lt {x y : Int32} (h : x < y) : x.toInt < y.toInt := (b_lt x y).mp h
theorem iv_Le {x y : Int32} (h : x ≤ y) : x.toInt ≤ y.toInt := (b_le x y).mp h
theorem iv_nLt {x y : Int32} (h : ¬ x < y) : y.toInt ≤ x.toInt := by rw [b_lt] at h; omega
theorem iv_nLe {x y : Int32} (h : ¬ x ≤ y) : y.toInt < x.toInt := by rw [b_le] at h; omega
theorem iv_Eq {x y : Int32} (h : x = y) : x.toInt = y.toInt := by rw [h]
theorem iv_nEq {x y : Int32} (h : ¬ x = y) : x.toInt ≠ y.toInt := by rw [b_eq] at h; exact h
theorem iv_ltl {a b c d e : Int} {x y : Int32} (h : x.toInt < y.toInt) (hx : iv a b x) (hy : iv c d y) (he : d ≤ e + 1) : iv a e x := ⟨hx.1, by have := hy.2; omega⟩
theorem iv_ltr {a b c d e : Int} {x y : Int32} (h : x.toInt < y.toInt) (hx : iv a b x) (hy : iv c d y) (he : e ≤ a + 1) : iv e d y := ⟨by have := hx.1; omega, hy.2⟩
theorem iv_lel {a b c d : Int} {x y : Int32} (h : x.toInt ≤ y.toInt) (hx : iv a b x) (hy : iv c d y) : iv a d x := ⟨hx.1, Int.le_trans h hy.2⟩
theorem iv_ler {a b c d : Int} {x y : Int32} (h : x.toInt ≤ y.toInt) (hx : iv a b x) (hy : iv c d y) : iv a d y := ⟨Int.le_trans hx.1 h, hy.2⟩
theorem iv_eql {a b c d e f : Int} {x y : Int32} (h : x.toInt = y.toInt) (hx : iv a b x) (hy : iv c d y) (he : e ≤ a ∨ e ≤ c) (hf : b ≤ f ∨ d ≤ f) : iv e f x := ⟨by have := hx.1; have := hy.1; omega, by have := hx.2; have := hy.2; omega⟩
theorem iv_neLo {a b e : Int} {x y : Int32} (h : x.toInt ≠ y.toInt) (hx : iv a b x) (hy : y.toInt = a) (he : e ≤ a + 1) : iv e b x := ⟨by have := hx.1; omega, hx.2⟩
theorem iv_neHi {a b e : Int} {x y : Int32} (h : x.toInt ≠ y.toInt) (hx : iv a b x) (hy : y.toInt = b) (he : b ≤ e + 1) : iv a e x := ⟨hx.1, by have := hx.2; omega⟩
theorem iv_lit {n : Int} (x : Int32) (h : x.toInt = n) : iv n n x := ⟨Int.le_of_eq h.symm, Int.le_of_eq h⟩
theorem iv_max {a b c d e f : Int} {x y : Int32} (hx : iv a b x) (hy : iv c d y) (h1 : e ≤ a ∨ e ≤ c) (h2 : b ≤ f) (h3 : d ≤ f) : iv e f (if x < y then y else x) := by
  have := hx.1; have := hx.2; have := hy.1; have := hy.2
  split
  · rename_i h; rw [b_lt] at h; constructor <;> omega
  · rename_i h; rw [b_lt] at h; constructor <;> omega
theorem iv_min {a b c d e f : Int} {x y : Int32} (hx : iv a b x) (hy : iv c d y) (h1 : e ≤ a) (h2 : e ≤ c) (h3 : b ≤ f ∨ d ≤ f) : iv e f (if y < x then y else x) := by
  have := hx.1; have := hx.2; have := hy.1; have := hy.2
  split
  · rename_i h; rw [b_lt] at h; constructor <;> omega
  · rename_i h; rw [b_lt] at h; constructor <;> omega
theorem iv_01 {x : Int32} (h : iv 0 1 x) : narrow .boolean (.int x) = .int x := by
  have h1 := h.1
  have h2 := h.2
  rcases (show x.toInt = (0 : Nat) ∨ x.toInt = (1 : Nat) by omega) with e | e <;> (rw [iv_ofE (by decide) e]; rfl)
theorem iv_nz {a b : Int} {x : Int32} (h : iv a b x) (ha : 1 ≤ a) : ¬ x = 0 := fun e => by
  have h1 := h.1
  rw [e] at h1
  have e0 : (0 : Int32).toInt = 0 := by decide
  omega
theorem iv_ge0 {a b : Int} {x : Int32} (h : iv a b x) (ha : 0 ≤ a) : ¬ x < 0 := fun e => by
  have h1 := h.1
  rw [b_lt] at e
  have e0 : (0 : Int32).toInt = 0 := by decide
  omega
theorem iv_cl {a b : Int} {x : Int32} {n : Nat} (h : iv a b x) (hb : b ≤ (n : Int)) : x.toNatClampNeg ≤ n := by
  have h1 := h.2
  have e : x.toNatClampNeg = x.toInt.toNat := rfl
  omega
theorem tb_grp {b g0 n k : Nat} (h : ∀ i, i < n → b.testBit (g0 + i) = true) (hk : g0 ≤ k ∧ k < g0 + n) : b.testBit k = true := by
  have h1 := h (k - g0) (by omega)
  rwa [show g0 + (k - g0) = k by omega] at h1
theorem iv_x1 {x : Int32} (h : iv 0 1 x) : iv 0 1 (x ^^^ 1) := by
  have h1 := h.1
  have h2 := h.2
  rcases (show x.toInt = (0 : Nat) ∨ x.toInt = (1 : Nat) by omega) with e | e <;> (rw [iv_ofE (by decide) e]; exact ⟨by decide, by decide⟩)
theorem rw_up {n : Nat} {a b : Int} {g : Nat → Int32} (hg : ∀ i, i < n → iv a b (g i)) (j : Nat) {v : Int32} (hv : iv a b v) : ∀ i, i < n → iv a b (upd g j v i) := fun i hi => by
  by_cases e : i = j
  · subst e
    rw [pk_us]
    exact hv
  · rw [pk_un e]
    exact hg i hi
theorem rw_cpy {n m : Nat} {a b : Int} {f g : Nat → Int32} (hf : ∀ i, i < n → iv a b (f i)) (hg : ∀ i, i < n → iv a b (g i)) : ∀ i, i < n → iv a b (va_cpy f g (0 : Int32).toNatClampNeg (0 : Int32).toNatClampNeg m i) := fun i hi => by
  have e : (0 : Int32).toNatClampNeg = 0 := by decide
  rw [e]
  unfold va_cpy
  split
  · rw [show 0 + (i - 0) = i by omega]
    exact hf i hi
  · exact hg i hi
theorem rw_cpyN {n m : Nat} {a b : Int} {f g : Nat → Int32} (hf : ∀ i, i < m → iv a b (f i)) (hg : ∀ i, i < n → iv a b (g i)) : ∀ i, i < n → iv a b (va_cpy f g (0 : Int32).toNatClampNeg (0 : Int32).toNatClampNeg m i) := fun i hi => by
  have e : (0 : Int32).toNatClampNeg = 0 := by decide
  rw [e]
  unfold va_cpy
  split
  · rename_i h
    rw [show 0 + (i - 0) = i by omega]
    exact hf i (by omega)
  · exact hg i hi
theorem iv_addW {a b : Int} {x y : Int32} (h1 : a ≤ x.toInt + y.toInt) (h2 : x.toInt + y.toInt ≤ b) (h3 : -2147483648 ≤ a) (h4 : b ≤ 2147483647) : iv a b (x + y) := by
  unfold iv
  rw [Int32.toInt_add, iv_bm h1 h2 h3 h4]
  exact ⟨h1, h2⟩
theorem rw_fill {n : Nat} {a b : Int} {f : Nat → Int32} {v : Int32} (h : ∀ j, j < n → f j = v) (hv : iv a b v) : ∀ i, i < n → iv a b (f i) := fun i hi => by
  rw [h i hi]
  exact hv
theorem iv_one {n : Int} {x y : Int32} (h : iv n n x) (hy : y.toInt = n) : x = y := by
  apply Int32.toInt_inj.mp
  have h1 := h.1
  have h2 := h.2
  omega
theorem bCv_mono {l : Launch} {y : MethodName} {ws : List Cond} {rm : Room} {D : va_G} {cy : Nat → ClassId} {N : Nat} {en : bN} {q : Nat → Nat} {z : zS} {av : List Value} {post post' : zS → Prop} (h : bCv l y ws rm D cy N en q z av post) (hm : ∀ z', post z' → post' z') : bCv l y ws rm D cy N en q z av post' := fun sz p e h1 h2 h3 s m args below hf ha hP hK => by
  obtain ⟨n, o, a, b, c, d⟩ := h sz p e h1 h2 h3 s m args below hf ha hP hK
  obtain ⟨⟨⟨u, d1, d2, d3⟩, d4⟩, d5⟩ := d
  exact ⟨n, o, a, b, c, ⟨⟨u, d1, hm u d2, d3⟩, d4⟩, d5⟩
theorem ms_up {x y : Int32} {n : Nat} {a b : Int} (e : y.toInt = x.toInt + 1) (h : y.toInt ≤ b) (hn : (a - x.toInt).toNat = n) (hb : b ≤ a := by decide) : (a - y.toInt).toNat < n := by omega
theorem ms_down {x y : Int32} {n : Nat} {a b : Int} (e : y.toInt = x.toInt + (-1)) (h : b ≤ y.toInt) (hn : (x.toInt - a).toNat = n) (hb : a ≤ b := by decide) : (y.toInt - a).toNat < n := by omega
/-! what stays -/
def Ag (a b c : Nat) (z z' : zS) : Prop := (∀ k, a.testBit k = false → z'.1 k = z.1 k) ∧ (∀ k, b.testBit k = false → z'.2.1 k = z.2.1 k) ∧ (∀ k, c.testBit k = false → z'.2.2 k = z.2.2 k)
theorem Ag_rf (a b c : Nat) (z : zS) : Ag a b c z z := ⟨fun _ _ => rfl, fun _ _ => rfl, fun _ _ => rfl⟩
theorem Ag_0 {z z' : zS} (h : Ag 0 0 0 z z') : z' = z := by
  obtain ⟨h1, h2, h3⟩ := h
  have e1 : z'.1 = z.1 := funext fun k => h1 k (Nat.zero_testBit k)
  have e2 : z'.2.1 = z.2.1 := funext fun k => h2 k (Nat.zero_testBit k)
  have e3 : z'.2.2 = z.2.2 := funext fun k => h3 k (Nat.zero_testBit k)
  exact Prod.ext e1 (Prod.ext e2 e3)
theorem tb_or {a a' k : Nat} (h : a' ||| a = a) (hk : a.testBit k = false) : a'.testBit k = false := by
  rw [← h, Nat.testBit_or] at hk
  exact (Bool.or_eq_false_iff.mp hk).1
theorem Ag_tr {a b c a' b' c' : Nat} {z z1 z2 : zS} (h : Ag a b c z z1) (h2 : Ag a' b' c' z1 z2) (ha : a' ||| a = a) (hb : b' ||| b = b) (hc : c' ||| c = c) : Ag a b c z z2 :=
  ⟨fun k hk => (h2.1 k (tb_or ha hk)).trans (h.1 k hk), fun k hk => (h2.2.1 k (tb_or hb hk)).trans (h.2.1 k hk), fun k hk => (h2.2.2 k (tb_or hc hk)).trans (h.2.2 k hk)⟩
def jJ (P : zS → Prop) (a b c : Nat) (z0 z : zS) : Prop := P z ∧ Ag a b c z0 z
theorem jJ_rf {P : zS → Prop} (a b c : Nat) {z : zS} (h : P z) : jJ P a b c z z := ⟨h, Ag_rf a b c z⟩
theorem jJ_tr {P : zS → Prop} {a b c a' b' c' : Nat} {z0 z z1 : zS} (h : jJ P a b c z0 z) (h2 : jJ P a' b' c' z z1) (ha : a' ||| a = a) (hb : b' ||| b = b) (hc : c' ||| c = c) : jJ P a b c z0 z1 := ⟨h2.1, Ag_tr h.2 h2.2 ha hb hc⟩
theorem jJ_S {P : zS → Prop} {a b c : Nat} {z0 z : zS} (h : jJ P a b c z0 z) {k : Nat} {v : Int32} (hk : a.testBit k = true) (hP : P (upS z k v)) : jJ P a b c z0 (upS z k v) :=
  ⟨hP, fun j hj => (va_up_ne _ _ (fun e => by rw [e, hk] at hj; cases hj)).trans (h.2.1 j hj), h.2.2.1, h.2.2.2⟩
theorem jJ_A {P : zS → Prop} {a b c : Nat} {z0 z : zS} (h : jJ P a b c z0 z) {k : Nat} {f : Nat → Int32} (hk : b.testBit k = true) (hP : P (upA z k f)) : jJ P a b c z0 (upA z k f) :=
  ⟨hP, h.2.1, fun j hj => (va_up_ne _ _ (fun e => by rw [e, hk] at hj; cases hj)).trans (h.2.2.1 j hj), h.2.2.2⟩
theorem jJ_L {P : zS → Prop} {a b c : Nat} {z0 z : zS} (h : jJ P a b c z0 z) {k : Nat} {f : Nat → Int64} (hk : c.testBit k = true) (hP : P (upL z k f)) : jJ P a b c z0 (upL z k f) :=
  ⟨hP, h.2.1, h.2.2.1, fun j hj => (va_up_ne _ _ (fun e => by rw [e, hk] at hj; cases hj)).trans (h.2.2.2 j hj)⟩
section HV
variable {p : Program} {l : Launch} {e : Env} {R : Room} {s : State} {m : MethodId} {args : Array Value} {below : List Frame} {meth : Method} {c : Code} {H : Heap} {locs : List Loc} {cells slots : Nat} {Q : State → Prop}
variable {cc : ByteArray} {pc : Nat} {ls : Array Slot} {rest st0 : List Value} {D : va_G} {cy : Nat → ClassId} {H0 : Heap} {N : Nat} {en : bN} {q : Nat → Nat} {z : zS}
theorem h_i {x : Int32} {a b : Int} (h : iv a b x) (k : ∀ w : Int32, iv a b w → W p l e R s m args below meth c H locs cells slots Q (F0 m pc ls (.int w :: rest))) : W p l e R s m args below meth c H locs cells slots Q (F0 m pc ls (.int x :: rest)) := k x h
theorem h_l {x : Int64} (k : ∀ w : Int64, W p l e R s m args below meth c H locs cells slots Q (F0 m pc ls (.long w :: rest))) : W p l e R s m args below meth c H locs cells slots Q (F0 m pc ls (.long x :: rest)) := k x
theorem h_iE {x : Int32} {a b t : Int} (h : iv a b x) (he : x.toInt = t) (k : ∀ w : Int32, iv a b w → w.toInt = t → W p l e R s m args below meth c H locs cells slots Q (F0 m pc ls (.int w :: rest))) : W p l e R s m args below meth c H locs cells slots Q (F0 m pc ls (.int x :: rest)) := k x h he
theorem h_iL {x : Int32} {a b t : Int} (h : iv a b x) (he : x.toInt ≤ t) (k : ∀ w : Int32, iv a b w → w.toInt ≤ t → W p l e R s m args below meth c H locs cells slots Q (F0 m pc ls (.int w :: rest))) : W p l e R s m args below meth c H locs cells slots Q (F0 m pc ls (.int x :: rest)) := k x h he
theorem h_aald (hx : p.tables.exec = Jvm.exec) (hb : c.code = cc) (hK : bK D cy s) (hH : bH D N en q z H0 H locs) (k t0 g0 : Nat) {n cA : Nat} {ty : FieldType} (hk : k < N) (he : en q z k = .inl (cA, n, .inr (.inr (.inr (.inr (fun i => if i < n then some (q (g0 + i)) else none)))))) (ht : (bT cy)[t0]? = some (cA, .array ty)) {i : Int32} (hin : vp_in i n) (hdg : decode cc pc = .ok (.aaload, 1))
    (kk : ∀ j : Nat, g0 ≤ j ∧ j < g0 + n → W p l e R s m args below meth c H locs cells slots Q (F0 m (pc + 1) ls (.ref (q j) :: rest))) : W p l e R s m args below meth c H locs cells slots Q (F0 m pc ls (.int i :: .ref (q k) :: rest)) := by
  have hlt : i.toNatClampNeg < n := Nat.not_le.mp fun q => hin (Or.inr q)
  exact b_aald (a := q (g0 + i.toNatClampNeg)) hx hb hK hH k t0 hk he ht hin (if_pos hlt) hdg (kk _ ⟨Nat.le_add_right _ _, Nat.add_lt_add_left hlt g0⟩)
theorem h_aaldE (hx : p.tables.exec = Jvm.exec) (hb : c.code = cc) (hK : bK D cy s) (hH : bH D N en q z H0 H locs) (k t0 g0 : Nat) {n cA : Nat} {ty : FieldType} (hk : k < N) (he : en q z k = .inl (cA, n, .inr (.inr (.inr (.inr (fun i => if i < n then some (q (g0 + i)) else none)))))) (ht : (bT cy)[t0]? = some (cA, .array ty)) {i : Int32} (hin : vp_in i n) (hdg : decode cc pc = .ok (.aaload, 1))
    (kk : ∀ j : Nat, g0 ≤ j ∧ j < g0 + n → j = g0 + i.toNatClampNeg → W p l e R s m args below meth c H locs cells slots Q (F0 m (pc + 1) ls (.ref (q j) :: rest))) : W p l e R s m args below meth c H locs cells slots Q (F0 m pc ls (.int i :: .ref (q k) :: rest)) := by
  have hlt : i.toNatClampNeg < n := Nat.not_le.mp fun q => hin (Or.inr q)
  exact b_aald (a := q (g0 + i.toNatClampNeg)) hx hb hK hH k t0 hk he ht hin (if_pos hlt) hdg (kk _ ⟨Nat.le_add_right _ _, Nat.add_lt_add_left hlt g0⟩ rfl)
theorem h_iast (hx : p.tables.exec = Jvm.exec) (hb : c.code = cc) (hK : bK D cy s) (hH : bH D N en q z H0 H locs) (k : Nat) {n : Nat} {f : Nat → Int32} (hk : k < N) (he : en q z k = .inl (cy 0, n, .inl f)) {i x : Int32} (hin : vp_in i n) (z' : zS) (hz : en q z' k = .inl (cy 0, n, .inl (upd f i.toNatClampNeg x))) (ho : ∀ j, j < N → j ≠ k → en q z' j = en q z j) {J : zS → Prop} (hJ : J z') (hdg : decode cc pc = .ok (.iastore, 1))
    (kk : ∀ (z1 : zS) (H1 : Heap) (locs1 : List Loc), J z1 → bH D N en q z1 H0 H1 locs1 → W p l e R s m args below meth c H1 locs1 cells slots Q (F0 m (pc + 1) ls rest)) : W p l e R s m args below meth c H locs cells slots Q (F0 m pc ls (.int x :: .int i :: .ref (q k) :: rest)) :=
  b_iast hx hb hK hH k hk he hin z' hz ho hdg (fun H1 locs1 h => kk z' H1 locs1 hJ h)
theorem h_zast (hx : p.tables.exec = Jvm.exec) (hb : c.code = cc) (hK : bK D cy s) (hH : bH D N en q z H0 H locs) (k : Nat) {n : Nat} {f : Nat → Int32} (hk : k < N) (he : en q z k = .inl (cy 2, n, .inl f)) {i x : Int32} (hin : vp_in i n) (z' : zS) (hz : en q z' k = .inl (cy 2, n, .inl (upd f i.toNatClampNeg (vp_nar .boolean x)))) (ho : ∀ j, j < N → j ≠ k → en q z' j = en q z j) {J : zS → Prop} (hJ : J z') (hdg : decode cc pc = .ok (.bastore, 1))
    (kk : ∀ (z1 : zS) (H1 : Heap) (locs1 : List Loc), J z1 → bH D N en q z1 H0 H1 locs1 → W p l e R s m args below meth c H1 locs1 cells slots Q (F0 m (pc + 1) ls rest)) : W p l e R s m args below meth c H locs cells slots Q (F0 m pc ls (.int x :: .int i :: .ref (q k) :: rest)) :=
  b_zast hx hb hK hH k hk he hin z' hz ho hdg (fun H1 locs1 h => kk z' H1 locs1 hJ h)
theorem h_last (hx : p.tables.exec = Jvm.exec) (hb : c.code = cc) (hK : bK D cy s) (hH : bH D N en q z H0 H locs) (k : Nat) {n : Nat} {f : Nat → Int64} (hk : k < N) (he : en q z k = .inl (cy 1, n, .inr (.inl f))) {i : Int32} {x : Int64} (hin : vp_in i n) (z' : zS) (hz : en q z' k = .inl (cy 1, n, .inr (.inl (vp_updL f i.toNatClampNeg x)))) (ho : ∀ j, j < N → j ≠ k → en q z' j = en q z j) {J : zS → Prop} (hJ : J z') (hdg : decode cc pc = .ok (.lastore, 1))
    (kk : ∀ (z1 : zS) (H1 : Heap) (locs1 : List Loc), J z1 → bH D N en q z1 H0 H1 locs1 → W p l e R s m args below meth c H1 locs1 cells slots Q (F0 m (pc + 1) ls rest)) : W p l e R s m args below meth c H locs cells slots Q (F0 m pc ls (.long x :: .int i :: .ref (q k) :: rest)) :=
  b_last hx hb hK hH k hk he hin z' hz ho hdg (fun H1 locs1 h => kk z' H1 locs1 hJ h)
theorem h_put (hx : p.tables.exec = Jvm.exec) (hb : c.code = cc) {own C : String} {T : u_T} {Nf ci index : Nat} {Ts : List Cond} (hts : ∀ w ∈ Ts, w.before args s = true) (hin : ∀ w ∈ u_ws C T Nf, w ∈ Ts) (ty0 : Nat → FieldType) (hty : ∀ k, k < Nf → parseFieldDescriptor (T k).2.2.1 = some (ty0 k)) (hnm : ∀ a, a < Nf → ∀ b, b < Nf → a ≠ b → (T a).2.1 ≠ (T b).2.1) (hown : s.vm.findClass own = some m.cls) (hK : bK D cy s) (hH : bH D N en q z H0 H locs) (k : Nat) {fs : List Value} (hk : k < N) (he : en q z k = .inr (ci, fs)) (hc : vwCl[ci]? = some (C, T, Nf)) (j : Nat) (hj : j < Nf) (hlink : (Cond.fieldLink own index (T j).1 (T j).2.1 (T j).2.2.1).before args s = true) (hfin : (T j).2.2.2 = false) {ty : FieldType} {v : Value} (hd : parseFieldDescriptor (T j).2.2.1 = some ty) (hn : narrow ty v = v) (hfit : fits ty v = true) (hl : j < fs.length)
    (z' : zS) (hz : en q z' k = .inr (ci, fs.set j v)) (ho : ∀ j, j < N → j ≠ k → en q z' j = en q z j) {J : zS → Prop} (hJ : J z') (hdg : decode cc pc = .ok (.putfield index, 3))
    (kk : ∀ (z1 : zS) (H1 : Heap) (locs1 : List Loc), J z1 → bH D N en q z1 H0 H1 locs1 → W p l e R s m args below meth c H1 locs1 cells slots Q (F0 m (pc + 3) ls rest)) : W p l e R s m args below meth c H locs cells slots Q (F0 m pc ls (v :: .ref (q k) :: rest)) :=
  b_put hx hb hts hin ty0 hty hnm hown hK hH k hk he hc j hj hlink hfin hd hn hfit hl z' hz ho hdg (fun H1 locs1 h => kk z' H1 locs1 hJ h)
theorem h_copyi {own : String} {index : Nat} (hx : p.tables.exec = Jvm.exec) (hb : c.code = cc) (hml : c.maxLocals = ls.size) (hown : s.vm.findClass own = some m.cls) (hlink : (Cond.methodLink own index arraycopyName).before args s = true) (hnat : (Cond.native arraycopyName).before args s = true) (hstat : (Cond.static arraycopyName).before args s = true) (hini : (Cond.initialized "java/lang/System").before args s = true)
    (hK : bK D cy s) (hH : bH D N en q z H0 H locs) (k0 k1 : Nat) {n0 n1 : Nat} {f g : Nat → Int32} (hk0 : k0 < N) (hk1 : k1 < N) (he0 : en q z k0 = .inl (cy 0, n0, .inl f)) (he1 : en q z k1 = .inl (cy 0, n1, .inl g)) {sp dp n : Int32} (h1 : ¬ sp < 0) (h2 : ¬ dp < 0) (h3 : ¬ n < 0) (h4 : sp.toNatClampNeg + n.toNatClampNeg ≤ n0) (h5 : dp.toNatClampNeg + n.toNatClampNeg ≤ n1) (hfr : 1 ≤ R.frames) (hlo : (rest.map fun v => v.category).sum + (nativeFrameWords "java/lang/System" "arraycopy" 5 + 11) ≤ R.locals)
    (z' : zS) (hz : en q z' k1 = .inl (cy 0, n1, .inl (va_cpy f g sp.toNatClampNeg dp.toNatClampNeg n.toNatClampNeg))) (ho : ∀ j, j < N → j ≠ k1 → en q z' j = en q z j) {J : zS → Prop} (hJ : J z') (hdg : decode cc pc = .ok (.invokestatic index, 3))
    (kk : ∀ (z1 : zS) (H1 : Heap) (locs1 : List Loc), J z1 → bH D N en q z1 H0 H1 locs1 → W p l e R s m args below meth c H1 locs1 cells slots Q (F0 m (pc + 3) ls rest)) : W p l e R s m args below meth c H locs cells slots Q (F0 m pc ls (.int n :: .int dp :: .ref (q k1) :: .int sp :: .ref (q k0) :: rest)) :=
  b_copyi hx hb hml hown hlink hnat hstat hini hK hH k0 k1 hk0 hk1 he0 he1 h1 h2 h3 h4 h5 hfr hlo z' hz ho hdg (fun H1 locs1 h => kk z' H1 locs1 hJ h)
variable {y : MethodName} {ws ws' : List Cond} {rm : Room} {av : List Value} {maxL : Nat} {own : String}
theorem hM_i {post : Int32 → zS → Prop} (cc : ByteArray) (hy : plainName y.cls = true) (hw : ws = Cond.code y cc maxL (some .int) :: ws') (hown : y.cls = own) (hq : bJ N q) (hlen : (lg_sl av).length ≤ maxL)
    (h : ∀ (p : Program) (e : Env) (s : State) (m : MethodId) (args : Array Value) (below : List Frame) (meth : Method) (c : Code) (Q : State → Prop) (ls : Array Slot) (H : Heap) (locs : List Loc), p.tables.exec = Jvm.exec → c.code = cc → c.maxLocals = maxL → s.vm.findClass own = some m.cls → (∀ w ∈ ws, w.before args s = true) → bK D cy s → bZ s → bH D N en q z s.heap H locs → lv_has ls maxL (lv_args 0 av) →
      (∀ (v : Int32) (z' : zS) (H : Heap) (locs : List Loc) (pc : Nat) (ls : Array Slot), post v z' → bH D N en q z' s.heap H locs → decode cc pc = .ok (.ireturn, 1) → W p l e rm s m args below meth c H locs 0 0 Q (F0 m pc ls [.int v])) →
      W p l e rm s m args below meth c H locs 0 0 Q (F0 m 0 ls [])) : bCi l y ws rm D cy N en q z av post := by
  intro sz
  refine Met.ofW (cc := cc) (maxL := maxL) (ret := some .int) hy hw ?_
  intro p e s m args below meth c s₁ B hml hv
  obtain ⟨rfl, hsz, hP, hK, hZ⟩ := hv
  have hr := B.returns
  have hlocks := B.notSynchronized
  subst hsz
  rw [lg_entry_eq]
  exact h p e s m _ below meth c _ _ _ _ B.exec B.bytes hml (hown ▸ findClass_of_methodNamed B.named) (atoms_spec (ws := ws) B.pre) hK hZ (bH_in hq hP) (lv_entry av hlen) (fun v z' H locs pc ls hp hH hd => b_iret B.exec B.bytes hr hlocks hH hp hd)
theorem hM_z {post : Int32 → zS → Prop} (cc : ByteArray) (hy : plainName y.cls = true) (hw : ws = Cond.code y cc maxL (some .boolean) :: ws') (hown : y.cls = own) (hq : bJ N q) (hlen : (lg_sl av).length ≤ maxL)
    (h : ∀ (p : Program) (e : Env) (s : State) (m : MethodId) (args : Array Value) (below : List Frame) (meth : Method) (c : Code) (Q : State → Prop) (ls : Array Slot) (H : Heap) (locs : List Loc), p.tables.exec = Jvm.exec → c.code = cc → c.maxLocals = maxL → s.vm.findClass own = some m.cls → (∀ w ∈ ws, w.before args s = true) → bK D cy s → bZ s → bH D N en q z s.heap H locs → lv_has ls maxL (lv_args 0 av) →
      (∀ (v : Int32) (z' : zS) (H : Heap) (locs : List Loc) (pc : Nat) (ls : Array Slot), iv 0 1 v → post v z' → bH D N en q z' s.heap H locs → decode cc pc = .ok (.ireturn, 1) → W p l e rm s m args below meth c H locs 0 0 Q (F0 m pc ls [.int v])) →
      W p l e rm s m args below meth c H locs 0 0 Q (F0 m 0 ls [])) : bCi l y ws rm D cy N en q z av post := by
  intro sz
  refine Met.ofW (cc := cc) (maxL := maxL) (ret := some .boolean) hy hw ?_
  intro p e s m args below meth c s₁ B hml hv
  obtain ⟨rfl, hsz, hP, hK, hZ⟩ := hv
  have hr := B.returns
  have hlocks := B.notSynchronized
  subst hsz
  rw [lg_entry_eq]
  exact h p e s m _ below meth c _ _ _ _ B.exec B.bytes hml (hown ▸ findClass_of_methodNamed B.named) (atoms_spec (ws := ws) B.pre) hK hZ (bH_in hq hP) (lv_entry av hlen) (fun v z' H locs pc ls h01 hp hH hd => b_zret B.exec B.bytes hr hlocks (iv_01 h01) hH hp hd)
theorem hM_l {post : Int64 → zS → Prop} (cc : ByteArray) (hy : plainName y.cls = true) (hw : ws = Cond.code y cc maxL (some .long) :: ws') (hown : y.cls = own) (hq : bJ N q) (hlen : (lg_sl av).length ≤ maxL)
    (h : ∀ (p : Program) (e : Env) (s : State) (m : MethodId) (args : Array Value) (below : List Frame) (meth : Method) (c : Code) (Q : State → Prop) (ls : Array Slot) (H : Heap) (locs : List Loc), p.tables.exec = Jvm.exec → c.code = cc → c.maxLocals = maxL → s.vm.findClass own = some m.cls → (∀ w ∈ ws, w.before args s = true) → bK D cy s → bZ s → bH D N en q z s.heap H locs → lv_has ls maxL (lv_args 0 av) →
      (∀ (v : Int64) (z' : zS) (H : Heap) (locs : List Loc) (pc : Nat) (ls : Array Slot), post v z' → bH D N en q z' s.heap H locs → decode cc pc = .ok (.lreturn, 1) → W p l e rm s m args below meth c H locs 0 0 Q (F0 m pc ls [.long v])) →
      W p l e rm s m args below meth c H locs 0 0 Q (F0 m 0 ls [])) : bCl l y ws rm D cy N en q z av post := by
  intro sz
  refine Met.ofW (cc := cc) (maxL := maxL) (ret := some .long) hy hw ?_
  intro p e s m args below meth c s₁ B hml hv
  obtain ⟨rfl, hsz, hP, hK, hZ⟩ := hv
  have hr := B.returns
  have hlocks := B.notSynchronized
  subst hsz
  rw [lg_entry_eq]
  exact h p e s m _ below meth c _ _ _ _ B.exec B.bytes hml (hown ▸ findClass_of_methodNamed B.named) (atoms_spec (ws := ws) B.pre) hK hZ (bH_in hq hP) (lv_entry av hlen) (fun v z' H locs pc ls hp hH hd => b_lret B.exec B.bytes hr hlocks hH hp hd)
theorem hM_v {post : zS → Prop} (cc : ByteArray) (hy : plainName y.cls = true) (hw : ws = Cond.code y cc maxL none :: ws') (hown : y.cls = own) (hq : bJ N q) (hlen : (lg_sl av).length ≤ maxL)
    (h : ∀ (p : Program) (e : Env) (s : State) (m : MethodId) (args : Array Value) (below : List Frame) (meth : Method) (c : Code) (Q : State → Prop) (ls : Array Slot) (H : Heap) (locs : List Loc), p.tables.exec = Jvm.exec → c.code = cc → c.maxLocals = maxL → s.vm.findClass own = some m.cls → (∀ w ∈ ws, w.before args s = true) → bK D cy s → bZ s → bH D N en q z s.heap H locs → lv_has ls maxL (lv_args 0 av) →
      (∀ (z' : zS) (H : Heap) (locs : List Loc) (pc : Nat) (ls : Array Slot), post z' → bH D N en q z' s.heap H locs → decode cc pc = .ok (.return_, 1) → W p l e rm s m args below meth c H locs 0 0 Q (F0 m pc ls [])) →
      W p l e rm s m args below meth c H locs 0 0 Q (F0 m 0 ls [])) : bCv l y ws rm D cy N en q z av post := by
  intro sz
  refine Met.ofW (cc := cc) (maxL := maxL) (ret := none) hy hw ?_
  intro p e s m args below meth c s₁ B hml hv
  obtain ⟨rfl, hsz, hP, hK, hZ⟩ := hv
  have hr := B.returns
  have hlocks := B.notSynchronized
  subst hsz
  rw [lg_entry_eq]
  exact h p e s m _ below meth c _ _ _ _ B.exec B.bytes hml (hown ▸ findClass_of_methodNamed B.named) (atoms_spec (ws := ws) B.pre) hK hZ (bH_in hq hP) (lv_entry av hlen) (fun z' H locs pc ls hp hH hd => b_vret B.exec B.bytes hr hlocks hH hp hd)
end HV
theorem upA_n {z : zS} {k j : Nat} {f : Nat → Int32} (h : j ≠ k) : (upA z k f).2.1 j = z.2.1 j := va_up_ne _ _ h
theorem upA_e {z : zS} {k : Nat} {f : Nat → Int32} : (upA z k f).2.1 k = f := va_up_self _ _ _
theorem cpyN {f g : Nat → Int32} {n i : Nat} (m : Int32) (hm : m.toNatClampNeg = n) (hi : i < n) : va_cpy f g (0 : Int32).toNatClampNeg (0 : Int32).toNatClampNeg m.toNatClampNeg i = f i := by
  have e : (0 : Int32).toNatClampNeg = 0 := by decide
  rw [hm, e]
  unfold va_cpy
  rw [if_pos (show 0 ≤ i ∧ i < 0 + n from ⟨Nat.zero_le _, by omega⟩), show 0 + (i - 0) = i by omega]
theorem cpy10 {f g : Nat → Int32} {i : Nat} (hi : i < 10) : va_cpy f g (0 : Int32).toNatClampNeg (0 : Int32).toNatClampNeg (10 : Int32).toNatClampNeg i = f i := cpyN 10 (by decide) hi
theorem upd_r {m : Nat} {f g : Nat → Int32} (h : ∀ i, i < m → f i = g i) (k : Nat) (v : Int32) : ∀ i, i < m → upd f k v i = upd g k v i := fun i hi => by
  by_cases e : i = k
  · subst e
    rw [pk_us, pk_us]
  · rw [pk_un e, pk_un e]
    exact h i hi
theorem upd_c {f f' : Nat → Int32} {x x' v : Int32} (h : f = f') (e : x = x') : upd f x.toNatClampNeg v = upd f' x'.toNatClampNeg v := by rw [h, e]
