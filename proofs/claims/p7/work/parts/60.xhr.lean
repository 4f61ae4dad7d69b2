/-! THE REFERENCE: bits, who leads, the steps of a ring -/
def inB (x t : Int32) : Int32 := if (x >>> (t &&& 31)) &&& 1 = 1 then 1 else 0
def bitN (x : Int32) (i : Nat) : Prop := x.toBitVec.getLsbD i = true
theorem iv_nI {b : Int} {x : Int32} (h : iv 0 b x) : x = nI x.toNatClampNeg ∧ (x.toNatClampNeg : Int) = x.toInt := by
  have e := iv_nat h (by decide)
  have h2 := Int32.toInt_lt x
  exact ⟨iv_ofE (by omega) e.symm, e⟩
theorem bitN_or (x y : Int32) (i : Nat) : bitN (x ||| y) i ↔ bitN x i ∨ bitN y i := by
  unfold bitN
  rw [Int32.toBitVec_or, BitVec.getLsbD_or, Bool.or_eq_true]
theorem bitN_0 (i : Nat) : ¬ bitN 0 i := by
  unfold bitN
  show ¬ (0#32).getLsbD i = true
  simp
theorem shr_n : ∀ n, n < 32 → ((nI n &&& 31).toBitVec.smod 32).toNat = n := by decide +kernel
theorem one_and (y : BitVec 32) : y &&& 1#32 = 1#32 ↔ y.getLsbD 0 = true := by
  constructor
  · intro h
    have h2 := congrArg (fun b : BitVec 32 => b.getLsbD 0) h
    simp only [BitVec.getLsbD_and] at h2
    simpa using h2
  · intro h
    apply BitVec.eq_of_getLsbD_eq
    intro i hi
    rw [BitVec.getLsbD_and]
    by_cases e : i = 0
    · subst e
      rw [h]
      rfl
    · rw [show (1#32).getLsbD i = false by rw [BitVec.getLsbD_one]; simp [e]]
      simp
theorem inB_iff {x t : Int32} (ht : iv 0 31 t) : ¬ inB x t = 0 ↔ bitN x t.toNatClampNeg := by
  obtain ⟨e1, e2⟩ := iv_nI ht
  have hn : t.toNatClampNeg < 32 := by have := ht.2; omega
  generalize t.toNatClampNeg = n at *
  subst e1
  have h1 : ((x >>> (nI n &&& 31)) &&& 1 = 1) ↔ bitN x n := by
    rw [← Int32.toBitVec_inj, Int32.toBitVec_and, Int32.toBitVec_shiftRight]
    show x.toBitVec.sshiftRight ((nI n &&& 31).toBitVec.smod 32).toNat &&& 1#32 = 1#32 ↔ _
    rw [shr_n n hn, one_and, BitVec.getLsbD_sshiftRight]
    unfold bitN
    simp [hn]
  unfold inB
  by_cases h : (x >>> (nI n &&& 31)) &&& 1 = 1
  · rw [if_pos h]
    exact ⟨fun _ => h1.mp h, fun _ => by decide⟩
  · rw [if_neg h]
    exact ⟨fun q => absurd rfl q, fun q => absurd (h1.mpr q) h⟩
def Rch (f : Nat → Int32) (n a x : Nat) : Prop := ∀ S : Nat → Prop, (∀ y, bitN (f a) y → S y) → (∀ k y, S k → k < n → bitN (f k) y → S y) → S x
theorem Rch_one {f : Nat → Int32} {n a x : Nat} (h : bitN (f a) x) : Rch f n a x := fun _ h1 _ => h1 x h
theorem Rch_step {f : Nat → Int32} {n a k x : Nat} (h : Rch f n a k) (hk : k < n) (hx : bitN (f k) x) : Rch f n a x := fun S h1 h2 => h2 k x (h S h1 h2) hk hx
def LdP (f : Nat → Int32) (n a : Nat) (s : Int32) : Prop := ∀ x, x < 32 → bitN s x → Rch f n a x
def subB (a b : Int32) : Prop := b ||| a = b
theorem subB_rf (a : Int32) : subB a a := by
  unfold subB
  exact Int32.toBitVec_inj.mp (by rw [Int32.toBitVec_or]; exact BitVec.or_self)
theorem subB_0 (b : Int32) : subB 0 b := by
  unfold subB
  exact Int32.toBitVec_inj.mp (by rw [Int32.toBitVec_or]; exact BitVec.or_zero)
theorem subB_bit {a b : Int32} (h : subB a b) (i : Nat) (hi : bitN a i) : bitN b i := by
  unfold subB at h
  rw [← h, bitN_or]
  exact Or.inr hi
theorem subB_of {a b : Int32} (h : ∀ i, bitN a i → bitN b i) : subB a b := by
  unfold subB
  apply Int32.toBitVec_inj.mp
  rw [Int32.toBitVec_or]
  apply BitVec.eq_of_getLsbD_eq
  intro i hi
  rw [BitVec.getLsbD_or]
  have h1 := h i
  unfold bitN at h1
  cases hb : b.toBitVec.getLsbD i <;> cases ha : a.toBitVec.getLsbD i <;> simp_all
theorem subB_or {a b : Int32} (h : subB a b) (v : Int32) : subB a (b ||| v) := subB_of (fun i hi => (bitN_or b v i).mpr (Or.inl (subB_bit h i hi)))
theorem ld_meas {b s : Int32} (h : subB b s) (hne : ¬ s = b) : 4294967296 - s.toBitVec.toNat < 4294967296 - b.toBitVec.toNat := by
  have h1 : b.toBitVec.toNat ≤ s.toBitVec.toNat := by
    unfold subB at h
    have h2 : s.toBitVec = s.toBitVec ||| b.toBitVec := by rw [← Int32.toBitVec_or, h]
    have h3 : s.toBitVec.toNat = s.toBitVec.toNat ||| b.toBitVec.toNat := by
      rw [← BitVec.toNat_or, ← h2]
    rw [h3]
    exact Nat.right_le_or
  have h2 : b.toBitVec.toNat ≠ s.toBitVec.toNat := fun e => hne (Int32.toBitVec_inj.mp (BitVec.eq_of_toNat_eq e.symm))
  have h3 := s.toBitVec.isLt
  omega
theorem ld_or {f : Nat → Int32} {n a : Nat} {s v b : Int32} (h : LdP f n a s ∧ subB b s) (hv : ∀ x, x < 32 → bitN v x → Rch f n a x) : LdP f n a (s ||| v) ∧ subB b (s ||| v) := by
  refine ⟨fun x hx hb => ?_, subB_or h.2 v⟩
  rcases (bitN_or s v x).mp hb with q | q
  · exact h.1 x hx q
  · exact hv x hx q
theorem ld_0 {f : Nat → Int32} {n a : Nat} {s b : Int32} (h : LdP f n a s ∧ subB b s) : LdP f n a (s ||| 0) ∧ subB b (s ||| 0) := ld_or h (fun x _ q => absurd q (bitN_0 x))
theorem ld_k {f : Nat → Int32} {n a : Nat} {s b k w : Int32} (h : LdP f n a s ∧ subB b s) (hk : iv 0 9 k) (hkn : k.toNatClampNeg < n) (hw : w = inB s k) (h0 : ¬ w = 0) : LdP f n a (s ||| f k.toNatClampNeg) ∧ subB b (s ||| f k.toNatClampNeg) := by
  rw [hw, inB_iff (iv_w hk (by decide) (by decide))] at h0
  have e := iv_nat hk (by decide)
  have := hk.2
  exact ld_or h (fun x _ q => Rch_step (h.1 _ (by omega) h0) hkn q)
/-! the steps -/
def FR0 (g : Nat → Int32) (a T : Nat) : Prop := ∀ j, j < T → (j = a → (g j).toInt = 0) ∧ (j ≠ a → (g j).toInt = -1)
def FRb (f g : Nat → Int32) (N a : Nat) (n : Int) : Prop :=
  (∀ t, t < N → (g t).toInt = -1 ∨ (0 ≤ (g t).toInt ∧ (g t).toInt ≤ n)) ∧ (∀ t, t < N → ((g t).toInt = 0 ↔ t = a)) ∧ (∀ t, t < N → 1 ≤ (g t).toInt → (∃ k, k < N ∧ bitN (f k) t ∧ (g k).toInt = (g t).toInt - 1) ∧ (∀ k, k < N → 0 ≤ (g k).toInt → bitN (f k) t → (g t).toInt ≤ (g k).toInt + 1))
def FRn (f g : Nat → Int32) (N a : Nat) (n : Int) : Prop := FRb f g N a n ∧ ∀ k t, k < N → t < N → 0 ≤ (g k).toInt → (g k).toInt ≤ n - 1 → bitN (f k) t → 0 ≤ (g t).toInt
def FRt (f g : Nat → Int32) (N a : Nat) (n : Int) (T : Nat) : Prop := FRb f g N a n ∧ (∀ k t, k < N → t < N → 0 ≤ (g k).toInt → (g k).toInt ≤ n - 2 → bitN (f k) t → 0 ≤ (g t).toInt) ∧ ∀ s, s < T → ∀ k, k < N → (g k).toInt = n - 1 → bitN (f k) s → 0 ≤ (g s).toInt
def FRk (f g : Nat → Int32) (N a : Nat) (n : Int) (T K : Nat) : Prop := FRt f g N a n T ∧ ∀ j, j < K → (g j).toInt = n - 1 → bitN (f j) T → 0 ≤ (g T).toInt
theorem fr_1 {f g : Nat → Int32} {N a : Nat} (h : FR0 g a N) : FRn f g N a 0 := by
  refine ⟨⟨fun t ht => ?_, fun t ht => ?_, fun t ht h1 => ?_⟩, fun k t hk ht h1 h2 => by omega⟩
  · by_cases e : t = a
    · have := (h t ht).1 e; omega
    · have := (h t ht).2 e; omega
  · by_cases e : t = a
    · exact ⟨fun _ => e, fun _ => (h t ht).1 e⟩
    · have := (h t ht).2 e; exact ⟨fun q => by omega, fun q => absurd q e⟩
  · by_cases e : t = a
    · have := (h t ht).1 e; omega
    · have := (h t ht).2 e; omega
theorem fr_2 {f g : Nat → Int32} {N a : Nat} {n : Int} (h : FRn f g N a (n - 1)) : FRt f g N a n 0 := by
  refine ⟨⟨fun t ht => ?_, h.1.2.1, h.1.2.2⟩, fun k t hk ht h1 h2 => h.2 k t hk ht h1 (by omega), fun s hs => absurd hs (Nat.not_lt_zero s)⟩
  have := h.1.1 t ht; omega
theorem fr_3 {f g : Nat → Int32} {N a : Nat} {n : Int} {T : Nat} (h : FRt f g N a n T) : FRk f g N a n T 0 := ⟨h, fun j hj => absurd hj (Nat.not_lt_zero j)⟩
theorem fr_4 {f g : Nat → Int32} {N a : Nat} {n : Int} {T K : Nat} (h : FRk f g N a n T K) (hc : ¬ (bitN (f K) T ∧ (g K).toInt = n - 1)) : FRk f g N a n T (K + 1) := by
  refine ⟨h.1, fun j hj h1 h2 => ?_⟩
  by_cases e : j = K
  · subst e; exact absurd ⟨h2, h1⟩ hc
  · exact h.2 j (by omega) h1 h2
theorem fr_5 {f g : Nat → Int32} {N a : Nat} {n : Int} {T K : Nat} {v : Int32} (h : FRk f g N a n T K) (hT : T < N) (hK : K < N) (hn : 1 ≤ n) (hv : v.toInt = n) (h0 : (g T).toInt < 0) (hb : bitN (f K) T) (hg : (g K).toInt = n - 1) : FRk f (upd g T v) N a n T (K + 1) := by
  obtain ⟨⟨⟨h1, h2, h3⟩, h4, h5⟩, h6⟩ := h
  have hu : ∀ j, j ≠ T → upd g T v j = g j := fun j hj => pk_un hj
  have hs : upd g T v T = v := pk_us
  have hm : (g T).toInt = -1 := by have := h1 T hT; omega
  have hKT : K ≠ T := fun e => by rw [e] at hg; omega
  refine ⟨⟨⟨fun t ht => ?_, fun t ht => ?_, fun t ht q => ?_⟩, fun k t hk ht q1 q2 q3 => ?_, fun s hs1 k hk q1 q2 => ?_⟩, fun j hj q1 q2 => ?_⟩
  · by_cases e : t = T
    · subst e; rw [hs]; omega
    · rw [hu t e]; exact h1 t ht
  · by_cases e : t = T
    · subst e; rw [hs]; have := h2 t ht; constructor
      · intro q; omega
      · intro q; have := this.mpr q; omega
    · rw [hu t e]; exact h2 t ht
  · by_cases e : t = T
    · subst e
      refine ⟨⟨K, hK, hb, by rw [hs, hu K hKT]; omega⟩, fun k hk q1 q2 => ?_⟩
      rw [hs]
      by_cases ek : k = t
      · rw [ek, hs]; omega
      · rw [hu k ek] at q1 ⊢
        rcases (show (g k).toInt ≤ n - 2 ∨ n - 1 ≤ (g k).toInt by omega) with r | r
        · have := h4 k t hk hT q1 r q2; omega
        · omega
    · rw [hu t e] at q ⊢
      obtain ⟨⟨k, k1, k2, k3⟩, km⟩ := h3 t ht q
      have hk : k ≠ T := fun e2 => by rw [e2] at k3; omega
      refine ⟨⟨k, k1, k2, by rw [hu k hk]; exact k3⟩, fun j hj q1 q2 => ?_⟩
      by_cases ej : j = T
      · rw [ej, hs]; have := h1 t ht; omega
      · rw [hu j ej] at q1 ⊢; exact km j hj q1 q2
  · by_cases e : t = T
    · subst e; rw [hs]; omega
    · rw [hu t e]
      by_cases ek : k = T
      · rw [ek, hs] at q2; omega
      · rw [hu k ek] at q1 q2; exact h4 k t hk ht q1 q2 q3
  · by_cases e : s = T
    · subst e; rw [hs]; omega
    · rw [hu s e]
      by_cases ek : k = T
      · rw [ek, hs] at q1; omega
      · rw [hu k ek] at q1; exact h5 s hs1 k hk q1 q2
  · rw [hs]; omega
theorem fr_6 {f g : Nat → Int32} {N a : Nat} {n : Int} {T K : Nat} (h : FRk f g N a n T K) (hc : N ≤ K ∨ 0 ≤ (g T).toInt) : FRt f g N a n (T + 1) := by
  refine ⟨h.1.1, h.1.2.1, fun s hs k hk q1 q2 => ?_⟩
  by_cases e : s = T
  · subst e
    rcases hc with hc | hc
    · exact h.2 k (by omega) q1 q2
    · exact hc
  · exact h.1.2.2 s (by omega) k hk q1 q2
theorem fr_7 {f g : Nat → Int32} {N a : Nat} {n : Int} {T : Nat} (h : FRt f g N a n T) (hT : N ≤ T) : FRn f g N a n := by
  refine ⟨h.1, fun k t hk ht q1 q2 q3 => ?_⟩
  rcases (show (g k).toInt ≤ n - 2 ∨ (g k).toInt = n - 1 by omega) with q | q
  · exact h.2.1 k t hk ht q1 q q3
  · exact h.2.2 t (by omega) k hk q q3
theorem pigeon : ∀ (N : Nat) (G : Nat → Nat), ¬ (∀ i, i ≤ N → ∃ k, k < N ∧ G k = i) := by
  intro N
  induction N with
  | zero => intro G h; obtain ⟨k, hk, -⟩ := h 0 (Nat.le_refl 0); omega
  | succ N ih =>
    intro G h
    refine ih (fun k => if G N < G k then G k - 1 else G k) (fun i hi => ?_)
    by_cases hv : i < G N
    · obtain ⟨k, hk, e⟩ := h i (by omega)
      have hkN : k ≠ N := fun q => by rw [q] at e; omega
      exact ⟨k, by omega, by show (if G N < G k then G k - 1 else G k) = i; rw [if_neg (by omega)]; exact e⟩
    · obtain ⟨k, hk, e⟩ := h (i + 1) (by omega)
      have hkN : k ≠ N := fun q => by rw [q] at e; omega
      exact ⟨k, by omega, by show (if G N < G k then G k - 1 else G k) = i; rw [if_pos (by omega)]; omega⟩
theorem fr_lev {f g : Nat → Int32} {N a : Nat} {n : Int} (h : FRb f g N a n) : ∀ (d : Nat) (t : Nat), t < N → (g t).toInt = d → ∀ i, i ≤ d → ∃ k, k < N ∧ (g k).toInt = (i : Nat) := by
  intro d
  induction d with
  | zero => intro t ht e i hi; exact ⟨t, ht, by rw [e]; omega⟩
  | succ d ih =>
    intro t ht e i hi
    rcases (show i = d + 1 ∨ i ≤ d by omega) with q | q
    · exact ⟨t, ht, by rw [e, q]⟩
    · obtain ⟨k, k1, -, k3⟩ := (h.2.2 t ht (by omega)).1
      exact ih k k1 (by omega) i q
theorem fr_top {f g : Nat → Int32} {N a : Nat} (h : FRn f g N a N) {t : Nat} (ht : t < N) : (g t).toInt ≤ N - 1 := by
  have h1 := h.1.1 t ht
  rcases (show (g t).toInt ≤ N - 1 ∨ (g t).toInt = (N : Nat) by omega) with q | q
  · exact q
  · exfalso
    refine pigeon N (fun k => (g k).toInt.toNat) (fun i hi => ?_)
    obtain ⟨k, k1, k2⟩ := fr_lev h.1 N t ht q i hi
    exact ⟨k, k1, by show (g k).toInt.toNat = i; omega⟩
theorem fr_8 {f g : Nat → Int32} {N a b : Nat} (h : FRn f g N a N) (ha : a < N) (hb : b < N) (hr : a = b ∨ Rch f N a b) : 0 ≤ (g b).toInt := by
  have h0 : (g a).toInt = 0 := (h.1.2.1 a ha).mpr rfl
  rcases hr with e | hr
  · rw [← e]; omega
  · exact hr (fun y => y < N → 0 ≤ (g y).toInt) (fun y q hy => h.2 a y ha hy (by omega) (by omega) q) (fun k y ih hk hx hy => h.2 k y hk hy (ih hk) (fr_top h hk) hx) hb
theorem fr0_s {g : Nat → Int32} {a T T' : Nat} {v : Int32} (h : FR0 g a T) (hT : T' = T + 1) (h1 : T = a → v.toInt = 0) (h2 : T ≠ a → v.toInt = -1) : FR0 (upd g T v) a T' := by
  intro j hj
  by_cases e : j = T
  · subst e
    rw [pk_us]
    exact ⟨h1, h2⟩
  · rw [pk_un e]
    exact h j (by omega)
theorem fr0_le {g : Nat → Int32} {a T N : Nat} (h : FR0 g a T) (hN : N ≤ T) : FR0 g a N := fun j hj => h j (by omega)
theorem upd_id (g : Nat → Int32) (T : Nat) : upd g T (g T) = g := by
  funext j
  by_cases e : j = T
  · subst e
    exact pk_us
  · exact pk_un e
theorem fr_4u {f g : Nat → Int32} {N a : Nat} {n : Int} {T K K' : Nat} (h : FRk f g N a n T K) (hK : K' = K + 1) (hc : ¬ (bitN (f K) T ∧ (g K).toInt = n - 1)) : FRk f (upd g T (g T)) N a n T K' := by
  rw [upd_id, hK]
  exact fr_4 h hc
theorem fr_5u {f g : Nat → Int32} {N a : Nat} {n : Int} {T K K' : Nat} {v : Int32} (h : FRk f g N a n T K) (hK' : K' = K + 1) (hT : T < N) (hK : K < N) (hn : 1 ≤ n) (hv : v.toInt = n) (h0 : (g T).toInt < 0) (hb : bitN (f K) T) (hg : (g K).toInt = n - 1) : FRk f (upd g T v) N a n T K' := by
  rw [hK']
  exact fr_5 h hT hK hn hv h0 hb hg
theorem fr_at {f g : Nat → Int32} {N a t : Nat} (h : FRn f g N a N) (ht : t < N) (hne : t ≠ a) (h0 : 0 ≤ (g t).toInt) : 1 ≤ (g t).toInt := by
  have h1 := h.1.2.1 t ht
  rcases (show (g t).toInt = 0 ∨ 1 ≤ (g t).toInt by omega) with q | q
  · exact absurd (h1.mp q) hne
  · exact q
theorem in_no {x t w : Int32} (ht : iv 0 9 t) (hw : w = inB x t) (h0 : w = 0) : ¬ bitN x t.toNatClampNeg := by
  rw [← inB_iff (iv_w ht (by decide) (by decide))]
  intro q
  exact q (hw ▸ h0)
theorem in_yes {x t w : Int32} (ht : iv 0 9 t) (hw : w = inB x t) (h0 : ¬ w = 0) : bitN x t.toNatClampNeg := by
  rw [← inB_iff (iv_w ht (by decide) (by decide)), ← hw]
  exact h0
/-! what a putting's squares are, as a function -/
def setF (g : Nat → Int32) (k : Int32) : Nat → Int32
  | 0 => 0
  | t + 1 => setF g k t ||| (if g t = k then 1 <<< (nI t &&& 31) else 0)
def sumF (f : Nat → Int32) (set : Int32) (m : Nat) : Nat → Int32
  | 0 => 0
  | t + 1 => sumF f set m t + (if inB set (nI t) = 0 then 0 else f (3 * t + m))
def ldF (f sh : Nat → Int32) (kind : Int32) (N : Nat) (set : Int32) : Nat → Int32
  | 0 => 0
  | m + 1 => if kind = 2 then ldF f sh kind N set m + sh m * sumF f set m N else (if 0 < sh m ∧ ldF f sh kind N set m < sumF f set m N then sumF f set m N else ldF f sh kind N set m)
def loadF (z : zS) (set : Int32) : Int32 := if z.1 1 < 2 then sumF (z.2.1 1) set 0 (z.1 0).toNatClampNeg else ldF (z.2.1 1) (z.2.1 2) (z.1 1) (z.1 0).toNatClampNeg set 3
def sqF (z : zS) (g : Nat → Int32) : Nat → Int64
  | 0 => 0
  | k + 1 => sqF z g k + (loadF z (setF g (nI (k + 1)) (z.1 0).toNatClampNeg)).toInt64 * (loadF z (setF g (nI (k + 1)) (z.1 0).toNatClampNeg)).toInt64
def SQ (z : zS) : Int64 := sqF z (z.2.1 6) 10
theorem SQ_eq {z z' : zS} (h0 : z'.1 0 = z.1 0) (h1 : z'.1 1 = z.1 1) (h2 : z'.2.1 1 = z.2.1 1) (h3 : z'.2.1 2 = z.2.1 2) (h4 : z'.2.1 6 = z.2.1 6) : SQ z' = SQ z := by
  have e : ∀ s, loadF z' s = loadF z s := fun s => by unfold loadF; rw [h0, h1, h2, h3]
  have e2 : ∀ k, sqF z' (z'.2.1 6) k = sqF z (z.2.1 6) k := by
    intro k
    induction k with
    | zero => rfl
    | succ k ih => unfold sqF; rw [ih, e, h4, h0]
  exact e2 10
theorem nI_bk {b : Int} {x : Int32} (h : iv 0 b x) {T : Nat} (hT : T = x.toNatClampNeg) : nI T = x := by
  rw [hT]
  exact (iv_nI h).1.symm
theorem set_s {g : Nat → Int32} {k s x : Int32} {b : Int} {T : Nat} (h : s = setF g k x.toNatClampNeg) (hx : iv 0 b x) (hT : T = x.toNatClampNeg + 1) (hc : g x.toNatClampNeg = k) : s ||| (1 <<< (x &&& 31)) = setF g k T := by
  rw [hT]
  show _ = setF g k x.toNatClampNeg ||| (if g x.toNatClampNeg = k then 1 <<< (nI x.toNatClampNeg &&& 31) else 0)
  rw [if_pos hc, nI_bk hx rfl, h]
theorem set_n {g : Nat → Int32} {k s x : Int32} {T : Nat} (h : s = setF g k x.toNatClampNeg) (hT : T = x.toNatClampNeg + 1) (hc : ¬ g x.toNatClampNeg = k) : s ||| 0 = setF g k T := by
  rw [hT]
  show _ = setF g k x.toNatClampNeg ||| (if g x.toNatClampNeg = k then 1 <<< (nI x.toNatClampNeg &&& 31) else 0)
  rw [if_neg hc, h]
theorem sum_s {f : Nat → Int32} {set s x w : Int32} {m : Nat} {b : Int} {T I : Nat} (h : s = sumF f set m x.toNatClampNeg) (hx : iv 0 b x) (hT : T = x.toNatClampNeg + 1) (hw : w = inB set x) (hc : ¬ w = 0) (hI : I = 3 * x.toNatClampNeg + m) : s + f I = sumF f set m T := by
  rw [hT]
  show _ = sumF f set m x.toNatClampNeg + (if inB set (nI x.toNatClampNeg) = 0 then 0 else f (3 * x.toNatClampNeg + m))
  rw [nI_bk hx rfl, if_neg (by rw [← hw]; exact hc), h, hI]
theorem sum_n {f : Nat → Int32} {set s x w : Int32} {m : Nat} {b : Int} {T : Nat} (h : s = sumF f set m x.toNatClampNeg) (hx : iv 0 b x) (hT : T = x.toNatClampNeg + 1) (hw : w = inB set x) (hc : w = 0) : s + 0 = sumF f set m T := by
  rw [hT]
  show _ = sumF f set m x.toNatClampNeg + (if inB set (nI x.toNatClampNeg) = 0 then 0 else f (3 * x.toNatClampNeg + m))
  rw [nI_bk hx rfl, if_pos (by rw [← hw]; exact hc), h]
theorem lgc_lt {x y : Int64} (h : ¬ 0 ≤ lg_cmp x y) : x < y := by
  unfold lg_cmp at h
  by_cases h1 : x > y
  · rw [if_pos h1] at h
    exact absurd (by decide) h
  · rw [if_neg h1] at h
    by_cases h2 : x = y
    · rw [if_pos h2] at h
      exact absurd (by decide) h
    · have h3 : ¬ y.toInt < x.toInt := fun q => h1 (Int64.lt_iff_toInt_lt.mpr q)
      have h4 : ¬ x.toInt = y.toInt := fun q => h2 (Int64.toInt_inj.mp q)
      exact Int64.lt_iff_toInt_lt.mpr (by omega)
/-! how many tasks have no station -/
def czN (g : Nat → Int32) : Nat → Nat
  | 0 => 0
  | n + 1 => czN g n + (if g n = 0 then 1 else 0)
theorem cz_same {g g' : Nat → Int32} : ∀ n, (∀ j, j < n → g' j = g j) → czN g' n = czN g n := by
  intro n
  induction n with
  | zero => intro _; rfl
  | succ n ih => intro h; unfold czN; rw [ih (fun j hj => h j (by omega)), h n (by omega)]
theorem cz_upd {g : Nat → Int32} {i : Nat} {v : Int32} (h0 : g i = 0) (hv : ¬ v = 0) : ∀ n, i < n → czN (upd g i v) n + 1 = czN g n := by
  intro n
  induction n with
  | zero => intro h; omega
  | succ n ih =>
    intro h
    unfold czN
    by_cases e : i = n
    · subst e
      rw [cz_same i (fun j hj => pk_un (by omega)), pk_us, if_neg hv, if_pos h0]
    · have h1 := ih (by omega)
      rw [pk_un (fun q => e q.symm)]
      omega
theorem rl_fall {z z' : zS} {i : Nat} {v : Int32} (hz : z' = upA z 21 (upd (z.2.1 21) i v)) (h0 : z.2.1 21 i = 0) (hv : ¬ v = 0) (hi : i < 10) : czN (z'.2.1 21) 10 + 1 = czN (z.2.1 21) 10 := by
  rw [hz]
  exact cz_upd h0 hv 10 hi
theorem div2 {x : Int32} (h : iv 2 2001 x) : iv 1 1000 (x / 2) ∧ (x / 2).toInt = x.toInt / 2 := by
  have h1 := h.1
  have h2 := h.2
  have e : (x / 2).toInt = x.toInt / 2 := by
    rw [Int32.toInt_div]
    have e2 : (2 : Int32).toInt = 2 := by decide
    rw [e2, Int.tdiv_eq_ediv_of_nonneg (by omega), Int.bmod_def]
    omega
  exact ⟨⟨by omega, by omega⟩, e⟩
theorem ld_m {f sh : Nat → Int32} {kind set l w x : Int32} {N T : Nat} (h : l = ldF f sh kind N set x.toNatClampNeg) (hT : T = x.toNatClampNeg + 1) (hw : w = sumF f set x.toNatClampNeg N) (hk : kind = 2) : l + sh x.toNatClampNeg * w = ldF f sh kind N set T := by
  rw [hT]
  show _ = if kind = 2 then ldF f sh kind N set x.toNatClampNeg + sh x.toNatClampNeg * sumF f set x.toNatClampNeg N else _
  rw [if_pos hk, h, hw]
theorem ld_y {f sh : Nat → Int32} {kind set l w x : Int32} {N T : Nat} (h : l = ldF f sh kind N set x.toNatClampNeg) (hT : T = x.toNatClampNeg + 1) (hw : w = sumF f set x.toNatClampNeg N) (hk : ¬ kind = 2) (h1 : 0 < sh x.toNatClampNeg) (h2 : l < w) : w = ldF f sh kind N set T := by
  rw [hT]
  show _ = if kind = 2 then _ else (if 0 < sh x.toNatClampNeg ∧ ldF f sh kind N set x.toNatClampNeg < sumF f set x.toNatClampNeg N then sumF f set x.toNatClampNeg N else ldF f sh kind N set x.toNatClampNeg)
  rw [if_neg hk, ← h, ← hw, if_pos ⟨h1, h2⟩]
theorem ld_x {f sh : Nat → Int32} {kind set l w x : Int32} {N T : Nat} (h : l = ldF f sh kind N set x.toNatClampNeg) (hT : T = x.toNatClampNeg + 1) (hw : w = sumF f set x.toNatClampNeg N) (hk : ¬ kind = 2) (h1 : ¬ (0 < sh x.toNatClampNeg ∧ l < w)) : l = ldF f sh kind N set T := by
  rw [hT]
  show _ = if kind = 2 then _ else (if 0 < sh x.toNatClampNeg ∧ ldF f sh kind N set x.toNatClampNeg < sumF f set x.toNatClampNeg N then sumF f set x.toNatClampNeg N else ldF f sh kind N set x.toNatClampNeg)
  rw [if_neg hk, ← h, ← hw, if_neg h1]
theorem sq_s {z : zS} {g : Nat → Int32} {s : Int64} {x st w : Int32} {b : Int} {T T0 : Nat} (h : s = sqF z g T0) (hx : iv 0 b x) (h0 : T0 + 1 = x.toNatClampNeg) (hT : T = x.toNatClampNeg) (hs : st = setF g x (z.1 0).toNatClampNeg) (hw : w = loadF z st) : s + w.toInt64 * w.toInt64 = sqF z g T := by
  rw [hT, ← h0]
  show _ = sqF z g T0 + (loadF z (setF g (nI (T0 + 1)) (z.1 0).toNatClampNeg)).toInt64 * (loadF z (setF g (nI (T0 + 1)) (z.1 0).toNatClampNeg)).toInt64
  rw [nI_bk hx h0, ← hs, ← hw, h]
/-! carry -/
theorem cp_miss {f g : Nat → Int32} {sp dp n k : Nat} (h : ¬ (dp ≤ k ∧ k < dp + n)) : va_cpy f g sp dp n k = g k := by
  unfold va_cpy
  rw [if_neg h]
theorem cp_hit {f g : Nat → Int32} {sp dp n k j : Nat} (h : dp ≤ k ∧ k < dp + n) (hj : j = sp + (k - dp)) : va_cpy f g sp dp n k = f j := by
  unfold va_cpy
  rw [if_pos h, hj]
theorem cpy_0 (z : zS) (k : Nat) (f : Nat → Int32) (sp dp : Nat) : upA z k (va_cpy f (z.2.1 k) sp dp 0) = z := by
  have e : va_cpy f (z.2.1 k) sp dp 0 = z.2.1 k := funext fun j => cp_miss (by omega)
  rw [e]
  exact upA_self z k
theorem upA_ne {z : zS} {k j : Nat} {f : Nat → Int32} (h : j ≠ k) : (upA z k f).2.1 j = z.2.1 j := va_up_ne _ _ h
theorem cpy_1 {f g : Nat → Int32} {sp dp T I J : Nat} (hI : I = dp + T) (hJ : J = sp + T) : upd (va_cpy f g sp dp T) I (f J) = va_cpy f g sp dp (T + 1) := by
  funext j
  by_cases e : j = I
  · subst e
    rw [pk_us, cp_hit (j := J) (by omega) (by omega)]
  · rw [pk_un e]
    by_cases h : dp ≤ j ∧ j < dp + T
    · rw [cp_hit (j := sp + (j - dp)) h rfl, cp_hit (j := sp + (j - dp)) (by omega) rfl]
    · rw [cp_miss h, cp_miss (by omega)]
theorem cpy_s0 {z z0 z' : zS} {k a I T T' : Nat} (h : z = upA z0 8 (va_cpy (z0.2.1 k) (z0.2.1 8) 0 a T)) (hz : z' = upA z 8 (upd (z.2.1 8) I (z.2.1 k T))) (hk : k ≠ 8) (hI : I = a + T) (hT : T' = T + 1) : z' = upA z0 8 (va_cpy (z0.2.1 k) (z0.2.1 8) 0 a T') := by
  rw [hz, h, upA_at, upA_ne hk, upA_upA, hT, cpy_1 hI (by omega)]
theorem cpy_s1 {z z0 z' : zS} {k a I T T' : Nat} (h : z = upA z0 k (va_cpy (z0.2.1 8) (z0.2.1 k) a 0 T)) (hz : z' = upA z k (upd (z.2.1 k) T (z.2.1 8 I))) (hk : k ≠ 8) (hI : I = a + T) (hT : T' = T + 1) : z' = upA z0 k (va_cpy (z0.2.1 8) (z0.2.1 k) a 0 T') := by
  rw [hz, h, upA_at, upA_ne (fun e => hk e.symm), upA_upA, hT, cpy_1 (by omega) hI]
def KP (z : zS) (f : Nat → Int32) : Prop := f 0 = z.1 0 ∧ f 1 = z.1 1 ∧ f 2 = z.1 2 ∧ (∀ i, i < 30 → f (3 + i) = z.2.1 1 i) ∧ (∀ i, i < 3 → f (33 + i) = z.2.1 2 i) ∧ (∀ i, i < 10 → f (36 + i) = z.2.1 3 i) ∧ (∀ i, i < 100 → f (46 + i) = z.2.1 4 i) ∧ (∀ i, i < 10 → f (146 + i) = z.2.1 5 i) ∧ (∀ i, i < 10 → f (156 + i) = z.2.1 6 i)
def CAR0 (z z' : zS) : Prop := z'.1 = z.1 ∧ z'.2.2 = z.2.2 ∧ (∀ k, k ≠ 8 → k ≠ 22 → z'.2.1 k = z.2.1 k) ∧ KP z (z'.2.1 8)
def CAR1 (z z' : zS) : Prop := (∀ k, 3 ≤ k → z'.1 k = z.1 k) ∧ z'.2.2 = z.2.2 ∧ (∀ k, k = 8 ∨ (7 ≤ k ∧ k ≠ 22) ∨ k = 0 → z'.2.1 k = z.2.1 k) ∧ KP z' (z.2.1 8)
theorem car_0 {z0 z1 z2 z3 z4 z5 z6 z7 z8 z9 z10 z11 z12 z13 : zS} (h1 : z1 = upA z0 22 (upd (z0.2.1 22) (0 : Int32).toNatClampNeg (z0.1 0))) (h2 : z2 = upA z1 22 (upd (z1.2.1 22) (1 : Int32).toNatClampNeg (z1.1 1))) (h3 : z3 = upA z2 22 (upd (z2.2.1 22) (2 : Int32).toNatClampNeg (z2.1 2))) (h4 : z4 = upA z3 8 (va_cpy (z3.2.1 22) (z3.2.1 8) 0 0 3)) (h5 : z5 = upA z4 8 (va_cpy (z4.2.1 1) (z4.2.1 8) 0 3 30)) (h6 : z6 = upA z5 8 (va_cpy (z5.2.1 2) (z5.2.1 8) 0 33 3)) (h7 : z7 = upA z6 8 (va_cpy (z6.2.1 3) (z6.2.1 8) 0 36 10)) (h8 : z8 = upA z7 8 (va_cpy (z7.2.1 4) (z7.2.1 8) 0 46 100)) (h9 : z9 = upA z8 8 (va_cpy (z8.2.1 5) (z8.2.1 8) 0 146 10)) (h10 : z10 = upA z9 8 (va_cpy (z9.2.1 6) (z9.2.1 8) 0 156 10)) (h11 : z11 = upS z10 0 (z10.2.1 22 0)) (h12 : z12 = upS z11 1 (z11.2.1 22 1)) (h13 : z13 = upS z12 2 (z12.2.1 22 2)) : CAR0 z0 z13 := by
  have s1 : z1.1 = z0.1 := by rw [h1]; rfl
  have s2 : z2.1 = z1.1 := by rw [h2]; rfl
  have s3 : z3.1 = z2.1 := by rw [h3]; rfl
  have s4 : z4.1 = z3.1 := by rw [h4]; rfl
  have s5 : z5.1 = z4.1 := by rw [h5]; rfl
  have s6 : z6.1 = z5.1 := by rw [h6]; rfl
  have s7 : z7.1 = z6.1 := by rw [h7]; rfl
  have s8 : z8.1 = z7.1 := by rw [h8]; rfl
  have s9 : z9.1 = z8.1 := by rw [h9]; rfl
  have s10 : z10.1 = z9.1 := by rw [h10]; rfl
  have l1 : z1.2.2 = z0.2.2 := by rw [h1]; rfl
  have l2 : z2.2.2 = z1.2.2 := by rw [h2]; rfl
  have l3 : z3.2.2 = z2.2.2 := by rw [h3]; rfl
  have l4 : z4.2.2 = z3.2.2 := by rw [h4]; rfl
  have l5 : z5.2.2 = z4.2.2 := by rw [h5]; rfl
  have l6 : z6.2.2 = z5.2.2 := by rw [h6]; rfl
  have l7 : z7.2.2 = z6.2.2 := by rw [h7]; rfl
  have l8 : z8.2.2 = z7.2.2 := by rw [h8]; rfl
  have l9 : z9.2.2 = z8.2.2 := by rw [h9]; rfl
  have l10 : z10.2.2 = z9.2.2 := by rw [h10]; rfl
  have sA : z10.1 = z0.1 := by rw [s10, s9, s8, s7, s6, s5, s4, s3, s2, s1]
  have lA : z13.2.2 = z0.2.2 := by rw [h13, h12, h11]; show z10.2.2 = z0.2.2; rw [l10, l9, l8, l7, l6, l5, l4, l3, l2, l1]
  have r1_1 : z1.2.1 1 = z0.2.1 1 := by rw [h1]; rfl
  have r1_2 : z1.2.1 2 = z0.2.1 2 := by rw [h1]; rfl
  have r1_3 : z1.2.1 3 = z0.2.1 3 := by rw [h1]; rfl
  have r1_4 : z1.2.1 4 = z0.2.1 4 := by rw [h1]; rfl
  have r1_5 : z1.2.1 5 = z0.2.1 5 := by rw [h1]; rfl
  have r1_6 : z1.2.1 6 = z0.2.1 6 := by rw [h1]; rfl
  have r1_8 : z1.2.1 8 = z0.2.1 8 := by rw [h1]; rfl
  have r1_22 : z1.2.1 22 = upd (z0.2.1 22) 0 (z0.1 0) := by rw [h1]; rfl
  have r2_1 : z2.2.1 1 = z1.2.1 1 := by rw [h2]; rfl
  have r2_2 : z2.2.1 2 = z1.2.1 2 := by rw [h2]; rfl
  have r2_3 : z2.2.1 3 = z1.2.1 3 := by rw [h2]; rfl
  have r2_4 : z2.2.1 4 = z1.2.1 4 := by rw [h2]; rfl
  have r2_5 : z2.2.1 5 = z1.2.1 5 := by rw [h2]; rfl
  have r2_6 : z2.2.1 6 = z1.2.1 6 := by rw [h2]; rfl
  have r2_8 : z2.2.1 8 = z1.2.1 8 := by rw [h2]; rfl
  have r2_22 : z2.2.1 22 = upd (z1.2.1 22) 1 (z1.1 1) := by rw [h2]; rfl
  have r3_1 : z3.2.1 1 = z2.2.1 1 := by rw [h3]; rfl
  have r3_2 : z3.2.1 2 = z2.2.1 2 := by rw [h3]; rfl
  have r3_3 : z3.2.1 3 = z2.2.1 3 := by rw [h3]; rfl
  have r3_4 : z3.2.1 4 = z2.2.1 4 := by rw [h3]; rfl
  have r3_5 : z3.2.1 5 = z2.2.1 5 := by rw [h3]; rfl
  have r3_6 : z3.2.1 6 = z2.2.1 6 := by rw [h3]; rfl
  have r3_8 : z3.2.1 8 = z2.2.1 8 := by rw [h3]; rfl
  have r3_22 : z3.2.1 22 = upd (z2.2.1 22) 2 (z2.1 2) := by rw [h3]; rfl
  have r4_1 : z4.2.1 1 = z3.2.1 1 := by rw [h4]; rfl
  have r4_2 : z4.2.1 2 = z3.2.1 2 := by rw [h4]; rfl
  have r4_3 : z4.2.1 3 = z3.2.1 3 := by rw [h4]; rfl
  have r4_4 : z4.2.1 4 = z3.2.1 4 := by rw [h4]; rfl
  have r4_5 : z4.2.1 5 = z3.2.1 5 := by rw [h4]; rfl
  have r4_6 : z4.2.1 6 = z3.2.1 6 := by rw [h4]; rfl
  have r4_8 : z4.2.1 8 = va_cpy (z3.2.1 22) (z3.2.1 8) 0 0 3 := by rw [h4]; rfl
  have r4_22 : z4.2.1 22 = z3.2.1 22 := by rw [h4]; rfl
  have r5_1 : z5.2.1 1 = z4.2.1 1 := by rw [h5]; rfl
  have r5_2 : z5.2.1 2 = z4.2.1 2 := by rw [h5]; rfl
  have r5_3 : z5.2.1 3 = z4.2.1 3 := by rw [h5]; rfl
  have r5_4 : z5.2.1 4 = z4.2.1 4 := by rw [h5]; rfl
  have r5_5 : z5.2.1 5 = z4.2.1 5 := by rw [h5]; rfl
  have r5_6 : z5.2.1 6 = z4.2.1 6 := by rw [h5]; rfl
  have r5_8 : z5.2.1 8 = va_cpy (z4.2.1 1) (z4.2.1 8) 0 3 30 := by rw [h5]; rfl
  have r5_22 : z5.2.1 22 = z4.2.1 22 := by rw [h5]; rfl
  have r6_1 : z6.2.1 1 = z5.2.1 1 := by rw [h6]; rfl
  have r6_2 : z6.2.1 2 = z5.2.1 2 := by rw [h6]; rfl
  have r6_3 : z6.2.1 3 = z5.2.1 3 := by rw [h6]; rfl
  have r6_4 : z6.2.1 4 = z5.2.1 4 := by rw [h6]; rfl
  have r6_5 : z6.2.1 5 = z5.2.1 5 := by rw [h6]; rfl
  have r6_6 : z6.2.1 6 = z5.2.1 6 := by rw [h6]; rfl
  have r6_8 : z6.2.1 8 = va_cpy (z5.2.1 2) (z5.2.1 8) 0 33 3 := by rw [h6]; rfl
  have r6_22 : z6.2.1 22 = z5.2.1 22 := by rw [h6]; rfl
  have r7_1 : z7.2.1 1 = z6.2.1 1 := by rw [h7]; rfl
  have r7_2 : z7.2.1 2 = z6.2.1 2 := by rw [h7]; rfl
  have r7_3 : z7.2.1 3 = z6.2.1 3 := by rw [h7]; rfl
  have r7_4 : z7.2.1 4 = z6.2.1 4 := by rw [h7]; rfl
  have r7_5 : z7.2.1 5 = z6.2.1 5 := by rw [h7]; rfl
  have r7_6 : z7.2.1 6 = z6.2.1 6 := by rw [h7]; rfl
  have r7_8 : z7.2.1 8 = va_cpy (z6.2.1 3) (z6.2.1 8) 0 36 10 := by rw [h7]; rfl
  have r7_22 : z7.2.1 22 = z6.2.1 22 := by rw [h7]; rfl
  have r8_1 : z8.2.1 1 = z7.2.1 1 := by rw [h8]; rfl
  have r8_2 : z8.2.1 2 = z7.2.1 2 := by rw [h8]; rfl
  have r8_3 : z8.2.1 3 = z7.2.1 3 := by rw [h8]; rfl
  have r8_4 : z8.2.1 4 = z7.2.1 4 := by rw [h8]; rfl
  have r8_5 : z8.2.1 5 = z7.2.1 5 := by rw [h8]; rfl
  have r8_6 : z8.2.1 6 = z7.2.1 6 := by rw [h8]; rfl
  have r8_8 : z8.2.1 8 = va_cpy (z7.2.1 4) (z7.2.1 8) 0 46 100 := by rw [h8]; rfl
  have r8_22 : z8.2.1 22 = z7.2.1 22 := by rw [h8]; rfl
  have r9_1 : z9.2.1 1 = z8.2.1 1 := by rw [h9]; rfl
  have r9_2 : z9.2.1 2 = z8.2.1 2 := by rw [h9]; rfl
  have r9_3 : z9.2.1 3 = z8.2.1 3 := by rw [h9]; rfl
  have r9_4 : z9.2.1 4 = z8.2.1 4 := by rw [h9]; rfl
  have r9_5 : z9.2.1 5 = z8.2.1 5 := by rw [h9]; rfl
  have r9_6 : z9.2.1 6 = z8.2.1 6 := by rw [h9]; rfl
  have r9_8 : z9.2.1 8 = va_cpy (z8.2.1 5) (z8.2.1 8) 0 146 10 := by rw [h9]; rfl
  have r9_22 : z9.2.1 22 = z8.2.1 22 := by rw [h9]; rfl
  have r10_1 : z10.2.1 1 = z9.2.1 1 := by rw [h10]; rfl
  have r10_2 : z10.2.1 2 = z9.2.1 2 := by rw [h10]; rfl
  have r10_3 : z10.2.1 3 = z9.2.1 3 := by rw [h10]; rfl
  have r10_4 : z10.2.1 4 = z9.2.1 4 := by rw [h10]; rfl
  have r10_5 : z10.2.1 5 = z9.2.1 5 := by rw [h10]; rfl
  have r10_6 : z10.2.1 6 = z9.2.1 6 := by rw [h10]; rfl
  have r10_8 : z10.2.1 8 = va_cpy (z9.2.1 6) (z9.2.1 8) 0 156 10 := by rw [h10]; rfl
  have r10_22 : z10.2.1 22 = z9.2.1 22 := by rw [h10]; rfl
  have f13 : z13.2.1 = z10.2.1 := by rw [h13, h12, h11]; rfl
  have w0 : z3.2.1 22 0 = z0.1 0 := by rw [r3_22, pk_un (by decide), r2_22, pk_un (by decide), r1_22, pk_us]
  have w1 : z3.2.1 22 1 = z0.1 1 := by rw [r3_22, pk_un (by decide), r2_22, pk_us, s1]
  have w2 : z3.2.1 22 2 = z0.1 2 := by rw [r3_22, pk_us, s2, s1]
  have v22 : z10.2.1 22 = z3.2.1 22 := by rw [r10_22, r9_22, r8_22, r7_22, r6_22, r5_22, r4_22]
  have sc : ∀ k, z13.1 k = z0.1 k := by
    intro k
    rw [h13, h12, h11]
    show va_up (va_up (va_up z10.1 0 (z10.2.1 22 0)) 1 (z10.2.1 22 1)) 2 (z10.2.1 22 2) k = z0.1 k
    rw [v22, w0, w1, w2, sA]
    by_cases e2 : k = 2
    · subst e2; exact va_up_self _ _ _
    · rw [va_up_ne _ _ e2]
      by_cases e1 : k = 1
      · subst e1; exact va_up_self _ _ _
      · rw [va_up_ne _ _ e1]
        by_cases e0 : k = 0
        · subst e0; exact va_up_self _ _ _
        · exact va_up_ne _ _ e0
  have q1 : z4.2.1 1 = z0.2.1 1 := by rw [r4_1, r3_1, r2_1, r1_1]
  have q2 : z5.2.1 2 = z0.2.1 2 := by rw [r5_2, r4_2, r3_2, r2_2, r1_2]
  have q3 : z6.2.1 3 = z0.2.1 3 := by rw [r6_3, r5_3, r4_3, r3_3, r2_3, r1_3]
  have q4 : z7.2.1 4 = z0.2.1 4 := by rw [r7_4, r6_4, r5_4, r4_4, r3_4, r2_4, r1_4]
  have q5 : z8.2.1 5 = z0.2.1 5 := by rw [r8_5, r7_5, r6_5, r5_5, r4_5, r3_5, r2_5, r1_5]
  have q6 : z9.2.1 6 = z0.2.1 6 := by rw [r9_6, r8_6, r7_6, r6_6, r5_6, r4_6, r3_6, r2_6, r1_6]
  refine ⟨funext sc, lA, fun k hk1 hk2 => ?_, ?_⟩
  · rw [f13, h10, h9, h8, h7, h6, h5, h4, h3, h2, h1]
    rw [upA_ne hk1, upA_ne hk1, upA_ne hk1, upA_ne hk1, upA_ne hk1, upA_ne hk1, upA_ne hk1, upA_ne hk2, upA_ne hk2, upA_ne hk2]
  · rw [f13]
    refine ⟨?_, ?_, ?_, fun i hi => ?_, fun i hi => ?_, fun i hi => ?_, fun i hi => ?_, fun i hi => ?_, fun i hi => ?_⟩
    · rw [r10_8, cp_miss (by decide), r9_8, cp_miss (by decide), r8_8, cp_miss (by decide), r7_8, cp_miss (by decide), r6_8, cp_miss (by decide), r5_8, cp_miss (by decide), r4_8, cp_hit (j := 0) (by decide) (by decide)]
      exact w0
    · rw [r10_8, cp_miss (by decide), r9_8, cp_miss (by decide), r8_8, cp_miss (by decide), r7_8, cp_miss (by decide), r6_8, cp_miss (by decide), r5_8, cp_miss (by decide), r4_8, cp_hit (j := 1) (by decide) (by decide)]
      exact w1
    · rw [r10_8, cp_miss (by decide), r9_8, cp_miss (by decide), r8_8, cp_miss (by decide), r7_8, cp_miss (by decide), r6_8, cp_miss (by decide), r5_8, cp_miss (by decide), r4_8, cp_hit (j := 2) (by decide) (by decide)]
      exact w2
    · rw [r10_8, cp_miss (by omega), r9_8, cp_miss (by omega), r8_8, cp_miss (by omega), r7_8, cp_miss (by omega), r6_8, cp_miss (by omega), r5_8, cp_hit (j := i) (by omega) (by omega), q1]
    · rw [r10_8, cp_miss (by omega), r9_8, cp_miss (by omega), r8_8, cp_miss (by omega), r7_8, cp_miss (by omega), r6_8, cp_hit (j := i) (by omega) (by omega), q2]
    · rw [r10_8, cp_miss (by omega), r9_8, cp_miss (by omega), r8_8, cp_miss (by omega), r7_8, cp_hit (j := i) (by omega) (by omega), q3]
    · rw [r10_8, cp_miss (by omega), r9_8, cp_miss (by omega), r8_8, cp_hit (j := i) (by omega) (by omega), q4]
    · rw [r10_8, cp_miss (by omega), r9_8, cp_hit (j := i) (by omega) (by omega), q5]
    · rw [r10_8, cp_hit (j := i) (by omega) (by omega), q6]
theorem car_1 {z0 z1 z2 z3 z4 z5 z6 z7 z8 z9 z10 z11 z12 z13 : zS} (h1 : z1 = upA z0 22 (upd (z0.2.1 22) (0 : Int32).toNatClampNeg (z0.1 0))) (h2 : z2 = upA z1 22 (upd (z1.2.1 22) (1 : Int32).toNatClampNeg (z1.1 1))) (h3 : z3 = upA z2 22 (upd (z2.2.1 22) (2 : Int32).toNatClampNeg (z2.1 2))) (h4 : z4 = upA z3 22 (va_cpy (z3.2.1 8) (z3.2.1 22) 0 0 3)) (h5 : z5 = upA z4 1 (va_cpy (z4.2.1 8) (z4.2.1 1) 3 0 30)) (h6 : z6 = upA z5 2 (va_cpy (z5.2.1 8) (z5.2.1 2) 33 0 3)) (h7 : z7 = upA z6 3 (va_cpy (z6.2.1 8) (z6.2.1 3) 36 0 10)) (h8 : z8 = upA z7 4 (va_cpy (z7.2.1 8) (z7.2.1 4) 46 0 100)) (h9 : z9 = upA z8 5 (va_cpy (z8.2.1 8) (z8.2.1 5) 146 0 10)) (h10 : z10 = upA z9 6 (va_cpy (z9.2.1 8) (z9.2.1 6) 156 0 10)) (h11 : z11 = upS z10 0 (z10.2.1 22 0)) (h12 : z12 = upS z11 1 (z11.2.1 22 1)) (h13 : z13 = upS z12 2 (z12.2.1 22 2)) : CAR1 z0 z13 := by
  have s1 : z1.1 = z0.1 := by rw [h1]; rfl
  have s2 : z2.1 = z1.1 := by rw [h2]; rfl
  have s3 : z3.1 = z2.1 := by rw [h3]; rfl
  have s4 : z4.1 = z3.1 := by rw [h4]; rfl
  have s5 : z5.1 = z4.1 := by rw [h5]; rfl
  have s6 : z6.1 = z5.1 := by rw [h6]; rfl
  have s7 : z7.1 = z6.1 := by rw [h7]; rfl
  have s8 : z8.1 = z7.1 := by rw [h8]; rfl
  have s9 : z9.1 = z8.1 := by rw [h9]; rfl
  have s10 : z10.1 = z9.1 := by rw [h10]; rfl
  have l1 : z1.2.2 = z0.2.2 := by rw [h1]; rfl
  have l2 : z2.2.2 = z1.2.2 := by rw [h2]; rfl
  have l3 : z3.2.2 = z2.2.2 := by rw [h3]; rfl
  have l4 : z4.2.2 = z3.2.2 := by rw [h4]; rfl
  have l5 : z5.2.2 = z4.2.2 := by rw [h5]; rfl
  have l6 : z6.2.2 = z5.2.2 := by rw [h6]; rfl
  have l7 : z7.2.2 = z6.2.2 := by rw [h7]; rfl
  have l8 : z8.2.2 = z7.2.2 := by rw [h8]; rfl
  have l9 : z9.2.2 = z8.2.2 := by rw [h9]; rfl
  have l10 : z10.2.2 = z9.2.2 := by rw [h10]; rfl
  have sA : z10.1 = z0.1 := by rw [s10, s9, s8, s7, s6, s5, s4, s3, s2, s1]
  have lA : z13.2.2 = z0.2.2 := by rw [h13, h12, h11]; show z10.2.2 = z0.2.2; rw [l10, l9, l8, l7, l6, l5, l4, l3, l2, l1]
  have r1_1 : z1.2.1 1 = z0.2.1 1 := by rw [h1]; rfl
  have r1_2 : z1.2.1 2 = z0.2.1 2 := by rw [h1]; rfl
  have r1_3 : z1.2.1 3 = z0.2.1 3 := by rw [h1]; rfl
  have r1_4 : z1.2.1 4 = z0.2.1 4 := by rw [h1]; rfl
  have r1_5 : z1.2.1 5 = z0.2.1 5 := by rw [h1]; rfl
  have r1_6 : z1.2.1 6 = z0.2.1 6 := by rw [h1]; rfl
  have r1_8 : z1.2.1 8 = z0.2.1 8 := by rw [h1]; rfl
  have r1_22 : z1.2.1 22 = upd (z0.2.1 22) 0 (z0.1 0) := by rw [h1]; rfl
  have r2_1 : z2.2.1 1 = z1.2.1 1 := by rw [h2]; rfl
  have r2_2 : z2.2.1 2 = z1.2.1 2 := by rw [h2]; rfl
  have r2_3 : z2.2.1 3 = z1.2.1 3 := by rw [h2]; rfl
  have r2_4 : z2.2.1 4 = z1.2.1 4 := by rw [h2]; rfl
  have r2_5 : z2.2.1 5 = z1.2.1 5 := by rw [h2]; rfl
  have r2_6 : z2.2.1 6 = z1.2.1 6 := by rw [h2]; rfl
  have r2_8 : z2.2.1 8 = z1.2.1 8 := by rw [h2]; rfl
  have r2_22 : z2.2.1 22 = upd (z1.2.1 22) 1 (z1.1 1) := by rw [h2]; rfl
  have r3_1 : z3.2.1 1 = z2.2.1 1 := by rw [h3]; rfl
  have r3_2 : z3.2.1 2 = z2.2.1 2 := by rw [h3]; rfl
  have r3_3 : z3.2.1 3 = z2.2.1 3 := by rw [h3]; rfl
  have r3_4 : z3.2.1 4 = z2.2.1 4 := by rw [h3]; rfl
  have r3_5 : z3.2.1 5 = z2.2.1 5 := by rw [h3]; rfl
  have r3_6 : z3.2.1 6 = z2.2.1 6 := by rw [h3]; rfl
  have r3_8 : z3.2.1 8 = z2.2.1 8 := by rw [h3]; rfl
  have r3_22 : z3.2.1 22 = upd (z2.2.1 22) 2 (z2.1 2) := by rw [h3]; rfl
  have r4_1 : z4.2.1 1 = z3.2.1 1 := by rw [h4]; rfl
  have r4_2 : z4.2.1 2 = z3.2.1 2 := by rw [h4]; rfl
  have r4_3 : z4.2.1 3 = z3.2.1 3 := by rw [h4]; rfl
  have r4_4 : z4.2.1 4 = z3.2.1 4 := by rw [h4]; rfl
  have r4_5 : z4.2.1 5 = z3.2.1 5 := by rw [h4]; rfl
  have r4_6 : z4.2.1 6 = z3.2.1 6 := by rw [h4]; rfl
  have r4_8 : z4.2.1 8 = z3.2.1 8 := by rw [h4]; rfl
  have r4_22 : z4.2.1 22 = va_cpy (z3.2.1 8) (z3.2.1 22) 0 0 3 := by rw [h4]; rfl
  have r5_1 : z5.2.1 1 = va_cpy (z4.2.1 8) (z4.2.1 1) 3 0 30 := by rw [h5]; rfl
  have r5_2 : z5.2.1 2 = z4.2.1 2 := by rw [h5]; rfl
  have r5_3 : z5.2.1 3 = z4.2.1 3 := by rw [h5]; rfl
  have r5_4 : z5.2.1 4 = z4.2.1 4 := by rw [h5]; rfl
  have r5_5 : z5.2.1 5 = z4.2.1 5 := by rw [h5]; rfl
  have r5_6 : z5.2.1 6 = z4.2.1 6 := by rw [h5]; rfl
  have r5_8 : z5.2.1 8 = z4.2.1 8 := by rw [h5]; rfl
  have r5_22 : z5.2.1 22 = z4.2.1 22 := by rw [h5]; rfl
  have r6_1 : z6.2.1 1 = z5.2.1 1 := by rw [h6]; rfl
  have r6_2 : z6.2.1 2 = va_cpy (z5.2.1 8) (z5.2.1 2) 33 0 3 := by rw [h6]; rfl
  have r6_3 : z6.2.1 3 = z5.2.1 3 := by rw [h6]; rfl
  have r6_4 : z6.2.1 4 = z5.2.1 4 := by rw [h6]; rfl
  have r6_5 : z6.2.1 5 = z5.2.1 5 := by rw [h6]; rfl
  have r6_6 : z6.2.1 6 = z5.2.1 6 := by rw [h6]; rfl
  have r6_8 : z6.2.1 8 = z5.2.1 8 := by rw [h6]; rfl
  have r6_22 : z6.2.1 22 = z5.2.1 22 := by rw [h6]; rfl
  have r7_1 : z7.2.1 1 = z6.2.1 1 := by rw [h7]; rfl
  have r7_2 : z7.2.1 2 = z6.2.1 2 := by rw [h7]; rfl
  have r7_3 : z7.2.1 3 = va_cpy (z6.2.1 8) (z6.2.1 3) 36 0 10 := by rw [h7]; rfl
  have r7_4 : z7.2.1 4 = z6.2.1 4 := by rw [h7]; rfl
  have r7_5 : z7.2.1 5 = z6.2.1 5 := by rw [h7]; rfl
  have r7_6 : z7.2.1 6 = z6.2.1 6 := by rw [h7]; rfl
  have r7_8 : z7.2.1 8 = z6.2.1 8 := by rw [h7]; rfl
  have r7_22 : z7.2.1 22 = z6.2.1 22 := by rw [h7]; rfl
  have r8_1 : z8.2.1 1 = z7.2.1 1 := by rw [h8]; rfl
  have r8_2 : z8.2.1 2 = z7.2.1 2 := by rw [h8]; rfl
  have r8_3 : z8.2.1 3 = z7.2.1 3 := by rw [h8]; rfl
  have r8_4 : z8.2.1 4 = va_cpy (z7.2.1 8) (z7.2.1 4) 46 0 100 := by rw [h8]; rfl
  have r8_5 : z8.2.1 5 = z7.2.1 5 := by rw [h8]; rfl
  have r8_6 : z8.2.1 6 = z7.2.1 6 := by rw [h8]; rfl
  have r8_8 : z8.2.1 8 = z7.2.1 8 := by rw [h8]; rfl
  have r8_22 : z8.2.1 22 = z7.2.1 22 := by rw [h8]; rfl
  have r9_1 : z9.2.1 1 = z8.2.1 1 := by rw [h9]; rfl
  have r9_2 : z9.2.1 2 = z8.2.1 2 := by rw [h9]; rfl
  have r9_3 : z9.2.1 3 = z8.2.1 3 := by rw [h9]; rfl
  have r9_4 : z9.2.1 4 = z8.2.1 4 := by rw [h9]; rfl
  have r9_5 : z9.2.1 5 = va_cpy (z8.2.1 8) (z8.2.1 5) 146 0 10 := by rw [h9]; rfl
  have r9_6 : z9.2.1 6 = z8.2.1 6 := by rw [h9]; rfl
  have r9_8 : z9.2.1 8 = z8.2.1 8 := by rw [h9]; rfl
  have r9_22 : z9.2.1 22 = z8.2.1 22 := by rw [h9]; rfl
  have r10_1 : z10.2.1 1 = z9.2.1 1 := by rw [h10]; rfl
  have r10_2 : z10.2.1 2 = z9.2.1 2 := by rw [h10]; rfl
  have r10_3 : z10.2.1 3 = z9.2.1 3 := by rw [h10]; rfl
  have r10_4 : z10.2.1 4 = z9.2.1 4 := by rw [h10]; rfl
  have r10_5 : z10.2.1 5 = z9.2.1 5 := by rw [h10]; rfl
  have r10_6 : z10.2.1 6 = va_cpy (z9.2.1 8) (z9.2.1 6) 156 0 10 := by rw [h10]; rfl
  have r10_8 : z10.2.1 8 = z9.2.1 8 := by rw [h10]; rfl
  have r10_22 : z10.2.1 22 = z9.2.1 22 := by rw [h10]; rfl
  have f13 : z13.2.1 = z10.2.1 := by rw [h13, h12, h11]; rfl
  have w0 : z3.2.1 22 0 = z0.1 0 := by rw [r3_22, pk_un (by decide), r2_22, pk_un (by decide), r1_22, pk_us]
  have w1 : z3.2.1 22 1 = z0.1 1 := by rw [r3_22, pk_un (by decide), r2_22, pk_us, s1]
  have w2 : z3.2.1 22 2 = z0.1 2 := by rw [r3_22, pk_us, s2, s1]
  have k8 : z10.2.1 8 = z0.2.1 8 := by rw [r10_8, r9_8, r8_8, r7_8, r6_8, r5_8, r4_8, r3_8, r2_8, r1_8]
  have k8_3 : z3.2.1 8 = z0.2.1 8 := by rw [r3_8, r2_8, r1_8]
  have k8_4 : z4.2.1 8 = z0.2.1 8 := by rw [r4_8, r3_8, r2_8, r1_8]
  have k8_5 : z5.2.1 8 = z0.2.1 8 := by rw [r5_8, r4_8, r3_8, r2_8, r1_8]
  have k8_6 : z6.2.1 8 = z0.2.1 8 := by rw [r6_8, r5_8, r4_8, r3_8, r2_8, r1_8]
  have k8_7 : z7.2.1 8 = z0.2.1 8 := by rw [r7_8, r6_8, r5_8, r4_8, r3_8, r2_8, r1_8]
  have k8_8 : z8.2.1 8 = z0.2.1 8 := by rw [r8_8, r7_8, r6_8, r5_8, r4_8, r3_8, r2_8, r1_8]
  have k8_9 : z9.2.1 8 = z0.2.1 8 := by rw [r9_8, r8_8, r7_8, r6_8, r5_8, r4_8, r3_8, r2_8, r1_8]
  have v22 : z10.2.1 22 = va_cpy (z3.2.1 8) (z3.2.1 22) 0 0 3 := by rw [r10_22, r9_22, r8_22, r7_22, r6_22, r5_22, r4_22]
  have u0 : z10.2.1 22 0 = z0.2.1 8 0 := by rw [v22, cp_hit (j := 0) (by decide) (by decide), k8_3]
  have u1 : z10.2.1 22 1 = z0.2.1 8 1 := by rw [v22, cp_hit (j := 1) (by decide) (by decide), k8_3]
  have u2 : z10.2.1 22 2 = z0.2.1 8 2 := by rw [v22, cp_hit (j := 2) (by decide) (by decide), k8_3]
  have sc : ∀ k, z13.1 k = va_up (va_up (va_up z0.1 0 (z0.2.1 8 0)) 1 (z0.2.1 8 1)) 2 (z0.2.1 8 2) k := by
    intro k
    rw [h13, h12, h11]
    show va_up (va_up (va_up z10.1 0 (z10.2.1 22 0)) 1 (z10.2.1 22 1)) 2 (z10.2.1 22 2) k = _
    rw [u0, u1, u2, sA]
  refine ⟨fun k hk => ?_, lA, fun k hk => ?_, ?_⟩
  · rw [sc k, va_up_ne _ _ (by omega), va_up_ne _ _ (by omega), va_up_ne _ _ (by omega)]
  · rw [f13, h10, h9, h8, h7, h6, h5, h4, h3, h2, h1]
    rw [upA_ne (by omega), upA_ne (by omega), upA_ne (by omega), upA_ne (by omega), upA_ne (by omega), upA_ne (by omega), upA_ne (by omega), upA_ne (by omega), upA_ne (by omega), upA_ne (by omega)]
  · refine ⟨?_, ?_, ?_, fun i hi => ?_, fun i hi => ?_, fun i hi => ?_, fun i hi => ?_, fun i hi => ?_, fun i hi => ?_⟩
    · rw [sc 0]; rfl
    · rw [sc 1]; rfl
    · rw [sc 2]; rfl
    · rw [f13, r10_1, r9_1, r8_1, r7_1, r6_1, r5_1, cp_hit (j := 3 + i) (by omega) (by omega), k8_4]
    · rw [f13, r10_2, r9_2, r8_2, r7_2, r6_2, cp_hit (j := 33 + i) (by omega) (by omega), k8_5]
    · rw [f13, r10_3, r9_3, r8_3, r7_3, cp_hit (j := 36 + i) (by omega) (by omega), k8_6]
    · rw [f13, r10_4, r9_4, r8_4, cp_hit (j := 46 + i) (by omega) (by omega), k8_7]
    · rw [f13, r10_5, r9_5, cp_hit (j := 146 + i) (by omega) (by omega), k8_8]
    · rw [f13, r10_6, cp_hit (j := 156 + i) (by omega) (by omega), k8_9]
