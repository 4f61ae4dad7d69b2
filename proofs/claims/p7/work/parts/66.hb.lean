/-! BEST: which sets can be next; ways and least sums -/
def LedOk (z : zS) (t : Nat) (set put : Int32) : Prop := (z.2.1 18 t &&& ((put ||| set) ^^^ (-1))) = 0 ∨ (z.1 1 = 1 ∧ (z.2.1 17 t &&& ((put ||| set) ^^^ (-1))) = 0)
def HldOk (z : zS) (t : Nat) (k : Int32) : Prop := z.2.1 5 t ≤ 0 ∨ z.2.1 5 t = k
def CBt (z : zS) (set k put : Int32) (t : Nat) : Prop := inB set (nI t) = 0 ∨ (LedOk z t set put ∧ HldOk z t k)
def CB (z : zS) (set k put : Int32) : Prop := ¬ z.2.1 14 set.toNatClampNeg = 0 ∧ ∀ t, t < (z.1 0).toNatClampNeg → CBt z set k put t
theorem cb_s {P : Nat → Prop} {T T' : Nat} (h : ∀ j, j < T → P j) (hT : T' = T + 1) (hp : P T) : ∀ j, j < T' → P j := fun j hj => by
  rcases (show j < T ∨ j = T by omega) with q | q
  · exact h j q
  · rw [q]; exact hp
theorem cb_in {b : Int} {x w set : Int32} (hx : iv 0 b x) (hw : w = inB set x) (h0 : w = 0) : inB set (nI x.toNatClampNeg) = 0 := by
  rw [nI_bk hx rfl, ← hw]
  exact h0
theorem cb_no {b : Int} {z : zS} {x w set k put : Int32} (hx : iv 0 b x) (hw : w = inB set x) (h0 : ¬ w = 0) (h : ¬ (LedOk z x.toNatClampNeg set put ∧ HldOk z x.toNatClampNeg k)) : ¬ CBt z set k put x.toNatClampNeg := fun q => by
  rcases q with q | q
  · rw [nI_bk hx rfl, ← hw] at q
    exact h0 q
  · exact h q
def allF (z : zS) : Int32 := ((1 : Int32) <<< (z.1 0 &&& 31)) - 1
def sqS (z : zS) (set : Int32) : Int64 := (z.2.1 16 set.toNatClampNeg).toInt64 * (z.2.1 16 set.toNatClampNeg).toInt64
def Lw (z : zS) (k p : Int32) : Int64 := z.2.2 20 ((1024 : Int32) * k + p).toNatClampNeg
def Ww (z : zS) (k p : Int32) : Int64 := z.2.2 19 ((1024 : Int32) * k + p).toNatClampNeg
def NX (z : zS) (set k put even : Int32) : Prop := (set &&& put) = 0 ∧ CB z set k put ∧ 0 ≤ lg_cmp (Lw z k (put ||| set)) 0 ∧ (even = 0 ∨ lg_cmp (sqS z set + Lw z k (put ||| set)) (Lw z (k - 1) put) = 0)
theorem lgc_cases (x y : Int64) : (y.toInt < x.toInt ∧ lg_cmp x y = 1) ∨ (x.toInt = y.toInt ∧ lg_cmp x y = 0) ∨ (x.toInt < y.toInt ∧ lg_cmp x y = -1) := by
  unfold lg_cmp
  by_cases h1 : x > y
  · rw [if_pos h1]
    exact Or.inl ⟨Int64.lt_iff_toInt_lt.mp h1, rfl⟩
  · rw [if_neg h1]
    have h3 : ¬ y.toInt < x.toInt := fun q => h1 (Int64.lt_iff_toInt_lt.mpr q)
    by_cases h2 : x = y
    · rw [if_pos h2]
      exact Or.inr (Or.inl ⟨by rw [h2], rfl⟩)
    · rw [if_neg h2]
      have h4 : ¬ x.toInt = y.toInt := fun q => h2 (Int64.toInt_inj.mp q)
      exact Or.inr (Or.inr ⟨by omega, rfl⟩)
theorem lgc_ge {x y : Int64} : 0 ≤ lg_cmp x y ↔ y.toInt ≤ x.toInt := by
  rcases lgc_cases x y with ⟨a, b⟩ | ⟨a, b⟩ | ⟨a, b⟩ <;> rw [b] <;> constructor <;> intro h <;> first | omega | exact absurd h (by decide) | decide
theorem lgc_lt0 {x y : Int64} : lg_cmp x y < 0 ↔ x.toInt < y.toInt := by
  rcases lgc_cases x y with ⟨a, b⟩ | ⟨a, b⟩ | ⟨a, b⟩ <;> rw [b] <;> constructor <;> intro h <;> first | omega | exact absurd h (by decide) | decide
theorem lgc_le0 {x y : Int64} : lg_cmp x y ≤ 0 ↔ x.toInt ≤ y.toInt := by
  rcases lgc_cases x y with ⟨a, b⟩ | ⟨a, b⟩ | ⟨a, b⟩ <;> rw [b] <;> constructor <;> intro h <;> first | omega | exact absurd h (by decide) | decide
theorem lgc_eq0 {x y : Int64} : lg_cmp x y = 0 ↔ x.toInt = y.toInt := by
  rcases lgc_cases x y with ⟨a, b⟩ | ⟨a, b⟩ | ⟨a, b⟩ <;> rw [b] <;> constructor <;> intro h <;> first | omega | exact absurd h (by decide) | decide
theorem LI {k p : Int32} (hk : iv 0 10 k) (hp : iv 0 1023 p) : ((((1024 : Int32) * k + p).toNatClampNeg : Nat) : Int) = 1024 * k.toInt + p.toInt := by
  have h1 := iv_mulE (iv_lit (n := 1024) 1024 (by decide)) hk (by decide) (by decide) (by decide)
  have h2 := iv_mul (e := 0) (f := 10240) (iv_lit (n := 1024) 1024 (by decide)) hk (by decide) (by decide) (by decide) (by decide) (by decide)
  have h3 := iv_addE h2 hp (by decide) (by decide)
  have h4 := iv_add (e := 0) (f := 11263) h2 hp (by decide) (by decide) (by decide) (by decide)
  have h5 := iv_nat h4 (by decide)
  have h6 : (1024 : Int32).toInt = 1024 := by decide
  rw [h5, h3, h1, h6]
theorem LI_inj {k p k' p' : Int32} (hk : iv 0 10 k) (hp : iv 0 1023 p) (hk' : iv 0 10 k') (hp' : iv 0 1023 p') (h : ((1024 : Int32) * k + p).toNatClampNeg = ((1024 : Int32) * k' + p').toNatClampNeg) : k = k' ∧ p = p' := by
  have h1 := LI hk hp
  have h2 := LI hk' hp'
  rw [h] at h1
  have := hp.1; have := hp.2; have := hp'.1; have := hp'.2
  exact ⟨Int32.toInt_inj.mp (by omega), Int32.toInt_inj.mp (by omega)⟩
/-- putting by putting, station by station -/
def Ch (C : Int32 → Int32 → Int32 → Prop) (A : Int32) (k : Nat) (p : Int32) : Prop := ∀ S : Nat → Int32 → Prop, S 0 0 → (∀ (k : Nat) (p set : Int32), S k p → iv 0 1023 set → (set &&& ((A &&& (p ^^^ (-1))) ^^^ (-1))) = 0 → C set (nI (k + 1)) p → S (k + 1) (p ||| set)) → S k p
theorem Ch_z {C : Int32 → Int32 → Int32 → Prop} {A : Int32} : Ch C A 0 0 := fun _ h _ => h
theorem Ch_s {C : Int32 → Int32 → Int32 → Prop} {A : Int32} {k : Nat} {p set : Int32} (h : Ch C A k p) (hs : iv 0 1023 set) (hr : (set &&& ((A &&& (p ^^^ (-1))) ^^^ (-1))) = 0) (hc : C set (nI (k + 1)) p) : Ch C A (k + 1) (p ||| set) := fun S h0 h1 => h1 k p set (h S h0 h1) hs hr hc
def W1 (z : zS) (K : Int) : Prop := ∀ k p : Int32, iv 0 10 k → k.toInt < K → iv 0 1023 p → p.toInt ≤ (allF z).toInt → 0 < (Ww z k p).toInt → Ch (CB z) (allF z) k.toNatClampNeg p
def W2 (z : zS) (K : Int32) (P : Int) : Prop := ∀ p : Int32, iv 0 1023 p → p.toInt < P → p.toInt ≤ (allF z).toInt → ¬ (Ww z K p).toInt = 0 → Ch (CB z) (allF z) K.toNatClampNeg p
theorem Ww_up {z : zS} {k p K P : Int32} {v : Int64} (hk : iv 0 10 k) (hp : iv 0 1023 p) (hK : iv 0 10 K) (hP : iv 0 1023 P) (hne : ¬ (k = K ∧ p = P)) : Ww (upL z 19 (vp_updL (z.2.2 19) ((1024 : Int32) * K + P).toNatClampNeg v)) k p = Ww z k p := by
  show vp_updL (z.2.2 19) _ v _ = _
  unfold vp_updL
  rw [if_neg (fun e => hne (LI_inj hk hp hK hP e))]
  rfl
theorem Ww_at {z : zS} {K P : Int32} {v : Int64} : Ww (upL z 19 (vp_updL (z.2.2 19) ((1024 : Int32) * K + P).toNatClampNeg v)) K P = v := by
  show vp_updL (z.2.2 19) _ v _ = _
  unfold vp_updL
  rw [if_pos rfl]
theorem w1_up {z z' : zS} {K P : Int32} {v : Int64} (hz : z' = upL z 19 (vp_updL (z.2.2 19) ((1024 : Int32) * K + P).toNatClampNeg v)) (hK : iv 0 10 K) (hP : iv 0 1023 P) (h : W1 z K.toInt) : W1 z' K.toInt := by
  subst hz
  intro k p hk hlt hp hA h0
  rw [Ww_up hk hp hK hP (fun e => by rw [e.1] at hlt; omega)] at h0
  exact h k p hk hlt hp hA h0
theorem w2_set {z z' : zS} {K P : Int32} {T T' : Int} {v : Int64} (hz : z' = upL z 19 (vp_updL (z.2.2 19) ((1024 : Int32) * K + P).toNatClampNeg v)) (hK : iv 0 10 K) (hP : iv 0 1023 P) (h : W2 z K T) (hT : T' ≤ T ∨ (P.toInt = T ∧ T' ≤ T + 1)) (hc : ¬ v.toInt = 0 → Ch (CB z) (allF z) K.toNatClampNeg P) : W2 z' K T' := by
  subst hz
  intro p hp hlt hA h0
  by_cases e : p = P
  · rw [e, Ww_at] at h0
    rw [e]
    exact hc h0
  · rw [Ww_up hK hp hK hP (fun q => e q.2)] at h0
    have hne : ¬ p.toInt = P.toInt := fun q => e (Int32.toInt_inj.mp q)
    exact h p hp (by omega) hA h0
theorem w1_next {z : zS} {K : Int32} {T : Int} (h : W1 z K.toInt) (h2 : W2 z K T) (hT : (allF z).toInt < T) (hK' : Int) (e : hK' = K.toInt + 1) : W1 z hK' := by
  intro k p hk hlt hp hA h0
  rcases (show k.toInt < K.toInt ∨ k.toInt = K.toInt by omega) with q | q
  · exact h k p hk q hp hA h0
  · have e : k = K := Int32.toInt_inj.mp q
    rw [e] at h0 ⊢
    exact h2 p hp (by omega) hA (by omega)
theorem ch_step {z : zS} {K put set : Int32} (hK : iv 1 10 K) (h : Ch (CB z) (allF z) (K - 1).toNatClampNeg put) (hs : iv 0 1023 set) (hr : (set &&& ((allF z &&& (put ^^^ (-1))) ^^^ (-1))) = 0) (hc : CB z set K put) : Ch (CB z) (allF z) K.toNatClampNeg (put ||| set) := by
  have h1 := iv_nat hK (by decide)
  have h2 := iv_subE hK (iv_lit (n := 1) 1 (by decide)) (by decide) (by decide)
  have h3 := iv_nat (iv_sub (e := 0) (f := 9) hK (iv_lit (n := 1) 1 (by decide)) (by decide) (by decide) (by decide) (by decide)) (by decide)
  have h4 : (1 : Int32).toInt = 1 := by decide
  have e : K.toNatClampNeg = (K - 1).toNatClampNeg + 1 := by omega
  rw [e]
  refine Ch_s h hs hr ?_
  rw [← e, nI_bk (iv_w hK (by decide) (Int.le_refl 10)) rfl]
  exact hc
/-! the least sums -/
def CC : Int := 729000000
def OKs (z0 z : zS) (k put set : Int32) : Prop := iv 0 1023 set ∧ (set &&& ((allF z0 &&& (put ^^^ (-1))) ^^^ (-1))) = 0 ∧ CB z0 set (k + 1) put ∧ 0 ≤ (Lw z (k + 1) (put ||| set)).toInt
def EL (z0 z : zS) (m : Int32) (k put : Int32) (best : Int64) : Prop := (0 ≤ best.toInt → ∃ set, OKs z0 z k put set ∧ best = sqS z0 set + Lw z (k + 1) (put ||| set)) ∧ (-1 ≤ best.toInt ∧ best.toInt ≤ (m.toInt - k.toInt) * CC)
def EE (z0 z : zS) (m : Int32) (k put : Int32) : Prop := (k.toInt = m.toInt → (Lw z k put).toInt = if put.toInt = (allF z0).toInt then 0 else -1) ∧ (k.toInt < m.toInt → EL z0 z m k put (Lw z k put) ∧ ∀ set, OKs z0 z k put set → 0 ≤ (Lw z k put).toInt)
def EK (z0 z : zS) (m : Int32) (K : Int) : Prop := ∀ k put : Int32, iv 0 10 k → K < k.toInt → k.toInt ≤ m.toInt → iv 0 1023 put → put.toInt ≤ (allF z0).toInt → EE z0 z m k put
def EP (z0 z : zS) (m k : Int32) (P : Int) : Prop := ∀ put : Int32, iv 0 1023 put → P < put.toInt → put.toInt ≤ (allF z0).toInt → EE z0 z m k put
def ES (z0 z : zS) (m k put : Int32) (S : Int) (best : Int64) : Prop := (k.toInt = m.toInt → best.toInt = if put.toInt = (allF z0).toInt then 0 else -1) ∧ (k.toInt < m.toInt → EL z0 z m k put best ∧ ∀ set, set.toInt < S → OKs z0 z k put set → 0 ≤ best.toInt)
theorem Lw_up {z : zS} {k p K P : Int32} {v : Int64} (hk : iv 0 10 k) (hp : iv 0 1023 p) (hK : iv 0 10 K) (hP : iv 0 1023 P) (hne : ¬ (k = K ∧ p = P)) : Lw (upL z 20 (vp_updL (z.2.2 20) ((1024 : Int32) * K + P).toNatClampNeg v)) k p = Lw z k p := by
  show vp_updL (z.2.2 20) _ v _ = _
  unfold vp_updL
  rw [if_neg (fun e => hne (LI_inj hk hp hK hP e))]
  rfl
theorem Lw_at {z : zS} {K P : Int32} {v : Int64} : Lw (upL z 20 (vp_updL (z.2.2 20) ((1024 : Int32) * K + P).toNatClampNeg v)) K P = v := by
  show vp_updL (z.2.2 20) _ v _ = _
  unfold vp_updL
  rw [if_pos rfl]
theorem or_iv {x y : Int32} (hx : iv 0 1023 x) (hy : iv 0 1023 y) : iv 0 1023 (x ||| y) := iv_or 10 hx hy (by decide) (by decide) (by decide) (by decide)
theorem succ_iv {k m : Int32} (hk : iv 0 10 k) (hm : iv 0 10 m) (h : k.toInt < m.toInt) : iv 0 10 (k + 1) ∧ (k + 1).toInt = k.toInt + 1 := by
  have e := iv_addE hk (iv_lit (n := 1) 1 (by decide)) (by decide) (by decide)
  have h1 : (1 : Int32).toInt = 1 := by decide
  have := hk.1; have := hm.2
  exact ⟨⟨by omega, by omega⟩, by omega⟩
theorem oks_up {z0 z z' : zS} {K P k put set m : Int32} {v : Int64} (hz : z' = upL z 20 (vp_updL (z.2.2 20) ((1024 : Int32) * K + P).toNatClampNeg v)) (hK : iv 0 10 K) (hP : iv 0 1023 P) (hk : iv 0 10 k) (hm : iv 0 10 m) (hkm : k.toInt < m.toInt) (hKk : K.toInt ≤ k.toInt) (hput : iv 0 1023 put) (hset : iv 0 1023 set) : Lw z' (k + 1) (put ||| set) = Lw z (k + 1) (put ||| set) := by
  subst hz
  have h1 := succ_iv hk hm hkm
  refine Lw_up h1.1 (or_iv hput hset) hK hP (fun e => ?_)
  have h2 := congrArg Int32.toInt e.1
  omega
theorem oks_iff {z0 z z' : zS} {K P k put m : Int32} {v : Int64} (hz : z' = upL z 20 (vp_updL (z.2.2 20) ((1024 : Int32) * K + P).toNatClampNeg v)) (hK : iv 0 10 K) (hP : iv 0 1023 P) (hk : iv 0 10 k) (hm : iv 0 10 m) (hkm : k.toInt < m.toInt) (hKk : K.toInt ≤ k.toInt) (hput : iv 0 1023 put) (set : Int32) : OKs z0 z' k put set ↔ OKs z0 z k put set := by
  unfold OKs
  constructor
  · intro h
    exact ⟨h.1, h.2.1, h.2.2.1, by rw [← oks_up (z0 := z0) hz hK hP hk hm hkm hKk hput h.1]; exact h.2.2.2⟩
  · intro h
    exact ⟨h.1, h.2.1, h.2.2.1, by rw [oks_up (z0 := z0) hz hK hP hk hm hkm hKk hput h.1]; exact h.2.2.2⟩
theorem el_up {z0 z z' : zS} {K P k put m : Int32} {v b : Int64} (hz : z' = upL z 20 (vp_updL (z.2.2 20) ((1024 : Int32) * K + P).toNatClampNeg v)) (hK : iv 0 10 K) (hP : iv 0 1023 P) (hk : iv 0 10 k) (hm : iv 0 10 m) (hkm : k.toInt < m.toInt) (hKk : K.toInt ≤ k.toInt) (hput : iv 0 1023 put) (h : EL z0 z m k put b) : EL z0 z' m k put b := by
  refine ⟨fun q => ?_, h.2⟩
  obtain ⟨set, h1, h2⟩ := h.1 q
  exact ⟨set, (oks_iff hz hK hP hk hm hkm hKk hput set).mpr h1, by rw [oks_up (z0 := z0) hz hK hP hk hm hkm hKk hput h1.1]; exact h2⟩
theorem ee_up {z0 z z' : zS} {K P k put m : Int32} {v : Int64} (hz : z' = upL z 20 (vp_updL (z.2.2 20) ((1024 : Int32) * K + P).toNatClampNeg v)) (hK : iv 0 10 K) (hP : iv 0 1023 P) (hk : iv 0 10 k) (hm : iv 0 10 m) (hKk : K.toInt ≤ k.toInt) (hput : iv 0 1023 put) (hne : ¬ (k = K ∧ put = P)) (h : EE z0 z m k put) : EE z0 z' m k put := by
  have e : Lw z' k put = Lw z k put := by rw [hz]; exact Lw_up hk hput hK hP hne
  refine ⟨fun q => by rw [e]; exact h.1 q, fun q => ?_⟩
  rw [e]
  exact ⟨el_up hz hK hP hk hm q hKk hput (h.2 q).1, fun set hs => (h.2 q).2 set ((oks_iff hz hK hP hk hm q hKk hput set).mp hs)⟩
theorem sub_le {set A put : Int32} (hs : iv 0 1023 set) (hA : iv 0 1023 A) (h : (set &&& ((A &&& (put ^^^ (-1))) ^^^ (-1))) = 0) : set.toInt ≤ (A &&& (put ^^^ (-1))).toInt := by
  have hr := iv_and (f := 1023) hA (iv_all (put ^^^ (-1))) (by decide) (by decide)
  generalize (A &&& (put ^^^ (-1))) = r at h hr
  have e : set &&& r = set := by
    apply Int32.toBitVec_inj.mp
    have h2 := congrArg Int32.toBitVec h
    rw [Int32.toBitVec_and, Int32.toBitVec_xor] at h2
    rw [Int32.toBitVec_and]
    apply BitVec.eq_of_getLsbD_eq
    intro i hi
    have h3 := congrArg (fun b : BitVec 32 => b.getLsbD i) h2
    simp only [BitVec.getLsbD_and, BitVec.getLsbD_xor] at h3
    have h4 : (Int32.toBitVec (-1)).getLsbD i = true := (by decide +kernel : ∀ i, i < 32 → (Int32.toBitVec (-1)).getLsbD i = true) i hi
    rw [h4] at h3
    have h5 : (Int32.toBitVec 0).getLsbD i = false := by show (0#32).getLsbD i = false; simp
    rw [h5] at h3
    rw [BitVec.getLsbD_and]
    cases ha : set.toBitVec.getLsbD i <;> cases hb : r.toBitVec.getLsbD i <;> simp_all
  have h1 := iv_and2 (x := set) (y := r) (f := r.toInt) (c := 0) (d := r.toInt) (iv_all set) ⟨hr.1, Int.le_refl _⟩ (by decide) (Int.le_refl _)
  rw [e] at h1
  exact h1.2
theorem es_ee {z0 z z' : zS} {m k put : Int32} {S : Int} {best : Int64} (hz : z' = upL z 20 (vp_updL (z.2.2 20) ((1024 : Int32) * k + put).toNatClampNeg best)) (hk : iv 0 10 k) (hm : iv 0 10 m) (hput : iv 0 1023 put) (hA : iv 0 1023 (allF z0)) (h : ES z0 z m k put S best) (hS : k.toInt < m.toInt → (allF z0 &&& (put ^^^ (-1))).toInt < S) : EE z0 z' m k put := by
  have e : Lw z' k put = best := by rw [hz]; exact Lw_at
  refine ⟨fun q => by rw [e]; exact h.1 q, fun q => ?_⟩
  rw [e]
  refine ⟨el_up hz hk hput hk hm q (Int.le_refl _) hput (h.2 q).1, fun set hs => ?_⟩
  have hs' := (oks_iff hz hk hput hk hm q (Int.le_refl _) hput set).mp hs
  have := sub_le hs'.1 hA hs'.2.1
  have := hS q
  exact (h.2 q).2 set (by omega) hs'
theorem ep_up {z0 z z' : zS} {m k put : Int32} {S : Int} {best : Int64} {P' : Int} (hz : z' = upL z 20 (vp_updL (z.2.2 20) ((1024 : Int32) * k + put).toNatClampNeg best)) (hk : iv 0 10 k) (hm : iv 0 10 m) (hput : iv 0 1023 put) (hA : iv 0 1023 (allF z0)) (hp : EP z0 z m k put.toInt) (h : ES z0 z m k put S best) (hS : k.toInt < m.toInt → (allF z0 &&& (put ^^^ (-1))).toInt < S) (hP : P' = put.toInt - 1) : EP z0 z' m k P' := by
  intro p h1 h2 h3
  by_cases e : p = put
  · rw [e]
    exact es_ee hz hk hm hput hA h hS
  · have hne : ¬ p.toInt = put.toInt := fun q => e (Int32.toInt_inj.mp q)
    exact ee_up hz hk hput hk hm (Int.le_refl _) h1 (fun q => e q.2) (hp p h1 (by omega) h3)
theorem ek_up {z0 z z' : zS} {m k put : Int32} {best : Int64} (hz : z' = upL z 20 (vp_updL (z.2.2 20) ((1024 : Int32) * k + put).toNatClampNeg best)) (hk : iv 0 10 k) (hm : iv 0 10 m) (hput : iv 0 1023 put) (h : EK z0 z m k.toInt) : EK z0 z' m k.toInt := by
  intro j p h1 h2 h3 h4 h5
  exact ee_up hz hk hput h1 hm (by omega) h4 (fun q => by rw [q.1] at h2; omega) (h j p h1 h2 h3 h4 h5)
theorem ek_next {z0 z : zS} {m k : Int32} {P K' : Int} (h : EK z0 z m k.toInt) (hp : EP z0 z m k P) (hP : P < 0) (hK : K' = k.toInt - 1) : EK z0 z m K' := by
  intro j p h1 h2 h3 h4 h5
  rcases (show k.toInt < j.toInt ∨ j.toInt = k.toInt by omega) with q | q
  · exact h j p h1 q h3 h4 h5
  · have e : j = k := Int32.toInt_inj.mp q
    rw [e]
    exact hp p h4 (by have := h4.1; omega) h5
theorem sq_bd {z : zS} (hz : ∀ i, i < 1024 → iv 0 27000 (z.2.1 16 i)) {set : Int32} (hs : iv 0 1023 set) : 0 ≤ (sqS z set).toInt ∧ (sqS z set).toInt ≤ CC := by
  have e := iv_nat hs (by decide)
  have h := hz set.toNatClampNeg (by have := hs.2; omega)
  unfold sqS CC
  generalize z.2.1 16 set.toNatClampNeg = x at h
  have h1 : 0 ≤ x.toInt * x.toInt := Int.mul_nonneg h.1 h.1
  have h2 : x.toInt * x.toInt ≤ 27000 * 27000 := Int.mul_le_mul h.2 h.2 h.1 (by decide)
  rw [Int64.toInt_mul, Int32.toInt_toInt64, Int.bmod_def]
  omega
theorem add_bd {x y : Int64} {b : Int} (hx : 0 ≤ x.toInt ∧ x.toInt ≤ CC) (hy : 0 ≤ y.toInt) (hb : y.toInt ≤ b * CC) (h0 : 0 ≤ b) (h10 : b ≤ 10) : (x + y).toInt = x.toInt + y.toInt := by
  unfold CC at hx hb
  rw [Int64.toInt_add, Int.bmod_def]
  omega
/-- the loop of sets begins -/
theorem es_0 {z0 z : zS} {m k put : Int32} {best : Int64} {S : Int} (hkm : k.toInt ≤ m.toInt) (hS : S ≤ 0) (h : (best.toInt = 0 ∧ k.toInt = m.toInt ∧ put.toInt = (allF z0).toInt) ∨ (best.toInt = -1 ∧ ¬ (k.toInt = m.toInt ∧ put.toInt = (allF z0).toInt))) : ES z0 z m k put S best := by
  refine ⟨fun q => ?_, fun q => ⟨⟨fun q2 => ?_, ?_⟩, fun set h1 h2 => ?_⟩⟩
  · rcases h with h | h
    · rw [if_pos h.2.2]; exact h.1
    · rw [if_neg (fun e => h.2 ⟨q, e⟩)]; exact h.1
  · omega
  · unfold CC; omega
  · have := h2.1.1; omega
theorem es_skip {z0 z : zS} {m k put set : Int32} {best : Int64} {S' : Int} (h : ES z0 z m k put set.toInt best) (hS : S' = set.toInt + 1) (hno : ¬ OKs z0 z k put set) : ES z0 z m k put S' best := by
  refine ⟨h.1, fun q => ⟨(h.2 q).1, fun s h1 h2 => ?_⟩⟩
  rcases (show s.toInt < set.toInt ∨ s.toInt = set.toInt by omega) with q2 | q2
  · exact (h.2 q).2 s q2 h2
  · have e : s = set := Int32.toInt_inj.mp q2
    rw [e] at h2
    exact absurd h2 hno
theorem es_take {z0 z : zS} {m k put set : Int32} {best sum : Int64} {S' : Int} (h : ES z0 z m k put set.toInt best) (hkm : k.toInt < m.toInt) (hS : S' = set.toInt + 1) (hok : OKs z0 z k put set) (hsum : sum = sqS z0 set + Lw z (k + 1) (put ||| set)) (hbd : 0 ≤ sum.toInt ∧ sum.toInt ≤ (m.toInt - k.toInt) * CC) : ES z0 z m k put S' sum :=
  ⟨fun q => by omega, fun q => ⟨⟨fun _ => ⟨set, hok, hsum⟩, by omega⟩, fun s h1 h2 => hbd.1⟩⟩
theorem es_leave {z0 z : zS} {m k put set : Int32} {best : Int64} {S' : Int} (h : ES z0 z m k put set.toInt best) (hS : S' = set.toInt + 1) (h0 : 0 ≤ best.toInt) : ES z0 z m k put S' best :=
  ⟨h.1, fun q => ⟨(h.2 q).1, fun s h1 h2 => h0⟩⟩
theorem sum_bd {z0 z : zS} {m k put set : Int32} (hI : ∀ i, i < 1024 → iv 0 27000 (z0.2.1 16 i)) (hA : iv 0 1023 (allF z0)) (hEK : EK z0 z m k.toInt) (hk : iv 0 10 k) (hm : iv 0 10 m) (hkm : k.toInt < m.toInt) (hput : iv 0 1023 put) (hp : put.toInt ≤ (allF z0).toInt) (hle : (put ||| set).toInt ≤ (allF z0).toInt) (hok : OKs z0 z k put set) : 0 ≤ (sqS z0 set + Lw z (k + 1) (put ||| set)).toInt ∧ (sqS z0 set + Lw z (k + 1) (put ||| set)).toInt ≤ (m.toInt - k.toInt) * CC := by
  have hs := sq_bd hI hok.1
  have h1 := succ_iv hk hm hkm
  have hE := hEK (k + 1) (put ||| set) h1.1 (by omega) (by omega) (or_iv hput hok.1) hle
  have h0 := hok.2.2.2
  have hb : (Lw z (k + 1) (put ||| set)).toInt ≤ (m.toInt - (k + 1).toInt) * CC := by
    rcases (show (k + 1).toInt = m.toInt ∨ (k + 1).toInt < m.toInt by omega) with q | q
    · have h2 := hE.1 q
      split at h2
      · rw [h2]; unfold CC; omega
      · omega
    · exact (hE.2 q).1.2.2
  have := hk.1; have := hm.2
  rw [add_bd (b := m.toInt - (k + 1).toInt) hs h0 hb (by omega) (by omega)]
  unfold CC at *
  omega
theorem or_le {z0 : zS} {put set : Int32} (hA : ∃ n : Nat, n ≤ 10 ∧ (allF z0).toInt = 2 ^ n - 1) (hp : iv 0 1023 put) (hs : iv 0 1023 set) (h1 : put.toInt ≤ (allF z0).toInt) (h2 : set.toInt ≤ (allF z0).toInt) : (put ||| set).toInt ≤ (allF z0).toInt := by
  obtain ⟨n, hn, e⟩ := hA
  have hpw : ((2 : Nat) ^ n : Nat) ≤ 2 ^ 10 := Nat.pow_le_pow_right (by decide) hn
  have e2 : ((2 ^ n : Nat) : Int) = (2 : Int) ^ n := by simp
  have h := iv_or n (b := (allF z0).toInt) (d := (allF z0).toInt) (f := (allF z0).toInt) (x := put) (y := set) ⟨hp.1, h1⟩ ⟨hs.1, h2⟩ (by omega) (by omega) (by omega) (by omega)
  exact h.2
theorem all_pow {z : zS} (h : iv 0 10 (z.1 0)) : ∃ n : Nat, n ≤ 10 ∧ (allF z).toInt = 2 ^ n - 1 := by
  have h1 := h.1
  have h2 := h.2
  unfold allF
  rcases (show (z.1 0).toInt = (0 : Nat) ∨ (z.1 0).toInt = (1 : Nat) ∨ (z.1 0).toInt = (2 : Nat) ∨ (z.1 0).toInt = (3 : Nat) ∨ (z.1 0).toInt = (4 : Nat) ∨ (z.1 0).toInt = (5 : Nat) ∨ (z.1 0).toInt = (6 : Nat) ∨ (z.1 0).toInt = (7 : Nat) ∨ (z.1 0).toInt = (8 : Nat) ∨ (z.1 0).toInt = (9 : Nat) ∨ (z.1 0).toInt = (10 : Nat) by omega) with e | e | e | e | e | e | e | e | e | e | e <;> rw [iv_ofE (by decide) e]
  · exact ⟨0, by decide, by decide⟩
  · exact ⟨1, by decide, by decide⟩
  · exact ⟨2, by decide, by decide⟩
  · exact ⟨3, by decide, by decide⟩
  · exact ⟨4, by decide, by decide⟩
  · exact ⟨5, by decide, by decide⟩
  · exact ⟨6, by decide, by decide⟩
  · exact ⟨7, by decide, by decide⟩
  · exact ⟨8, by decide, by decide⟩
  · exact ⟨9, by decide, by decide⟩
  · exact ⟨10, by decide, by decide⟩
theorem all_iv {z : zS} (h : iv 0 10 (z.1 0)) : iv 0 1023 (allF z) := by
  obtain ⟨n, hn, e⟩ := all_pow h
  have hpw : ((2 : Nat) ^ n : Nat) ≤ 2 ^ 10 := Nat.pow_le_pow_right (by decide) hn
  have hp1 : 1 ≤ (2 : Nat) ^ n := Nat.one_le_two_pow
  have e2 : ((2 ^ n : Nat) : Int) = (2 : Int) ^ n := by simp
  exact ⟨by omega, by omega⟩
/-- a chain goes up to the least sums: the first of them isn't below 0 -/
theorem ch_least {z0 z : zS} {m : Int32} (hm : iv 0 10 m) (h0 : iv 0 10 (z0.1 0)) (hA : iv 0 1023 (allF z0)) (hE : EK z0 z m (-1)) : ∀ (k : Nat) (p : Int32), Ch (CB z0) (allF z0) k p → (k : Int) ≤ m.toInt → iv 0 1023 p ∧ p.toInt ≤ (allF z0).toInt ∧ (0 ≤ (Lw z (nI k) p).toInt → 0 ≤ (Lw z 0 0).toInt) := by
  intro k p h
  refine h (fun k p => (k : Int) ≤ m.toInt → iv 0 1023 p ∧ p.toInt ≤ (allF z0).toInt ∧ (0 ≤ (Lw z (nI k) p).toInt → 0 ≤ (Lw z 0 0).toInt)) ?_ ?_
  · intro _
    exact ⟨⟨by decide, by decide⟩, by have := hA.1; have e : (0 : Int32).toInt = 0 := (by decide); omega, fun q => q⟩
  · intro k p set ih hs hr hc hk
    obtain ⟨i1, i2, i3⟩ := ih (by omega)
    have hset : set.toInt ≤ (allF z0).toInt := by
      have := sub_le hs hA hr
      have := iv_andlt (x := allF z0) (y := p ^^^ (-1)) hA (by decide)
      omega
    refine ⟨or_iv i1 hs, or_le (all_pow h0) i1 hs i2 hset, fun q => i3 ?_⟩
    have hm2 := hm.2
    have ek : (nI k).toInt = (k : Nat) := iv_ofn (by omega) (nI k) rfl
    have ek1 : (nI (k + 1)).toInt = (k + 1 : Nat) := iv_ofn (by omega) (nI (k + 1)) rfl
    have hki : iv 0 10 (nI k) := ⟨by omega, by omega⟩
    have hlt : (nI k).toInt < m.toInt := by omega
    have h2 := succ_iv hki hm hlt
    have e2 : nI (k + 1) = nI k + 1 := Int32.toInt_inj.mp (by omega)
    have hEE := hE (nI k) p hki (by omega) (by omega) i1 i2
    exact (hEE.2 hlt).2 set ⟨hs, hr, by rw [← e2]; exact hc, by rw [← e2]; exact q⟩
theorem sub_dis {A put set : Int32} (h : (set &&& ((A &&& (put ^^^ (-1))) ^^^ (-1))) = 0) : (set &&& put) = 0 := by
  apply Int32.toBitVec_inj.mp
  have h2 := congrArg Int32.toBitVec h
  rw [Int32.toBitVec_and, Int32.toBitVec_xor, Int32.toBitVec_and, Int32.toBitVec_xor] at h2
  rw [Int32.toBitVec_and]
  apply BitVec.eq_of_getLsbD_eq
  intro i hi
  have h3 := congrArg (fun b : BitVec 32 => b.getLsbD i) h2
  simp only [BitVec.getLsbD_and, BitVec.getLsbD_xor] at h3
  have h4 : (Int32.toBitVec (-1)).getLsbD i = true := (by decide +kernel : ∀ i, i < 32 → (Int32.toBitVec (-1)).getLsbD i = true) i hi
  have h5 : (Int32.toBitVec 0).getLsbD i = false := by show (0#32).getLsbD i = false; simp
  rw [h4, h5] at h3
  rw [BitVec.getLsbD_and, h5]
  cases ha : set.toBitVec.getLsbD i <;> cases hb : put.toBitVec.getLsbD i <;> simp_all
/-- there is a next set -/
theorem nx_ex {z0 : zS} {m k put even : Int32} (hm : iv 0 10 m) (hA : iv 0 1023 (allF z0)) (hE : EK z0 z0 m (-1)) (hk : iv 1 10 k) (hkm : k.toInt ≤ m.toInt) (hput : iv 0 1023 put) (hp : put.toInt ≤ (allF z0).toInt) (h : 0 ≤ (Lw z0 (k - 1) put).toInt) : ∃ set, iv 0 1023 set ∧ set.toInt ≤ (allF z0).toInt ∧ NX z0 set k put even := by
  have e1 := iv_subE hk (iv_lit (n := 1) 1 (by decide)) (by decide) (by decide)
  have l1 : (1 : Int32).toInt = 1 := by decide
  have := hk.1; have := hk.2
  have hk1 : iv 0 10 (k - 1) := ⟨by omega, by omega⟩
  have hEE := hE (k - 1) put hk1 (by omega) (by omega) hput hp
  obtain ⟨set, ho, hs⟩ := (hEE.2 (by omega)).1.1 h
  have hm2 := hm.2
  have h2 := succ_iv hk1 hm (by omega)
  have e2 : k - 1 + 1 = k := Int32.toInt_inj.mp (by omega)
  unfold OKs at ho
  rw [e2] at ho hs
  have := sub_le ho.1 hA ho.2.1
  have := iv_andlt (x := allF z0) (y := put ^^^ (-1)) hA (by decide)
  exact ⟨set, ho.1, by omega, sub_dis ho.2.1, ho.2.2.1, lgc_ge.mpr ho.2.2.2, Or.inr (lgc_eq0.mpr (by rw [← hs]))⟩
theorem lgc_pos {x : Int64} (h : ¬ lg_cmp x 0 ≤ 0) : 0 < x.toInt := by
  rw [lgc_le0] at h
  have e : (0 : Int64).toInt = 0 := by decide
  omega
theorem lgc_nn {x : Int64} (h : ¬ lg_cmp x 0 < 0) : 0 ≤ x.toInt := by
  rw [lgc_lt0] at h
  have e : (0 : Int64).toInt = 0 := by decide
  omega
theorem lgc_ng {x : Int64} (h : lg_cmp x 0 < 0) : x.toInt < 0 := by
  rw [lgc_lt0] at h
  have e : (0 : Int64).toInt = 0 := by decide
  omega
theorem lgc_g0 {x : Int64} (h : 0 ≤ lg_cmp x 0) : 0 ≤ x.toInt := by
  rw [lgc_ge] at h
  have e : (0 : Int64).toInt = 0 := by decide
  omega
theorem Ag_1 {b c : Nat} {z z' : zS} (h : Ag 0 b c z z') : z'.1 = z.1 := funext fun k => h.1 k (Nat.zero_testBit k)
theorem Ag_2 {a c : Nat} {z z' : zS} (h : Ag a 0 c z z') : z'.2.1 = z.2.1 := funext fun k => h.2.1 k (Nat.zero_testBit k)
theorem allF_eq {z z' : zS} (h : z'.1 = z.1) : allF z' = allF z := by
  unfold allF
  rw [h]
theorem CB_eq {z z' : zS} (h0 : z'.1 0 = z.1 0) (h1 : z'.1 1 = z.1 1) (h5 : z'.2.1 5 = z.2.1 5) (h14 : z'.2.1 14 = z.2.1 14) (h17 : z'.2.1 17 = z.2.1 17) (h18 : z'.2.1 18 = z.2.1 18) : CB z' = CB z := by
  funext a b c
  unfold CB CBt LedOk HldOk
  rw [h0, h1, h5, h14, h17, h18]
theorem CB_eq2 {z z' : zS} (h : z'.1 = z.1) (h2 : z'.2.1 = z.2.1) : CB z' = CB z := CB_eq (by rw [h]) (by rw [h]) (by rw [h2]) (by rw [h2]) (by rw [h2]) (by rw [h2])
theorem sqS_eq {z z' : zS} (h : z'.2.1 16 = z.2.1 16) (s : Int32) : sqS z' s = sqS z s := by
  unfold sqS
  rw [h]
theorem sqS_z {z z' : zS} (h : z'.2.1 = z.2.1) (s : Int32) : sqS z' s = sqS z s := sqS_eq (by rw [h]) s
theorem EK_eq {z0 z0' z z' : zS} {m : Int32} {K : Int} (hc : CB z0' = CB z0) (ha : allF z0' = allF z0) (hs : z0'.2.1 16 = z0.2.1 16) (hl : z'.2.2 20 = z.2.2 20) (h : EK z0 z m K) : EK z0' z' m K := by
  have e : ∀ k p, Lw z' k p = Lw z k p := fun k p => by unfold Lw; rw [hl]
  have eo : ∀ k p s, OKs z0' z' k p s ↔ OKs z0 z k p s := fun k p s => by unfold OKs; rw [hc, ha, e]
  intro k put h1 h2 h3 h4 h5
  rw [ha] at h5
  have hE := h k put h1 h2 h3 h4 h5
  refine ⟨fun q => by rw [e, ha]; exact hE.1 q, fun q => ?_⟩
  rw [e]
  refine ⟨⟨fun q2 => ?_, (hE.2 q).1.2⟩, fun s hs2 => (hE.2 q).2 s ((eo k put s).mp hs2)⟩
  obtain ⟨s, a, b⟩ := (hE.2 q).1.1 q2
  exact ⟨s, (eo k put s).mpr a, by rw [sqS_eq hs, e]; exact b⟩
/-- what the loop of stations of best() keeps -/
def BL (z : zS) (m k put : Int32) : Prop := EK z z m (-1) ∧ iv 0 1023 (allF z) ∧ put.toInt ≤ (allF z).toInt ∧ 0 ≤ (Lw z (k - 1) put).toInt
theorem BL_eq {z z' : zS} {m k put : Int32} (h1 : z'.1 = z.1) (h5 : z'.2.1 5 = z.2.1 5) (h14 : z'.2.1 14 = z.2.1 14) (h16 : z'.2.1 16 = z.2.1 16) (h17 : z'.2.1 17 = z.2.1 17) (h18 : z'.2.1 18 = z.2.1 18) (hl : z'.2.2 20 = z.2.2 20) (h : BL z m k put) : BL z' m k put := by
  have hc : CB z' = CB z := CB_eq (by rw [h1]) (by rw [h1]) h5 h14 h17 h18
  have ha := allF_eq h1
  exact ⟨EK_eq hc ha h16 hl h.1, by rw [ha]; exact h.2.1, by rw [ha]; exact h.2.2.1, by unfold Lw; rw [hl]; exact h.2.2.2⟩
theorem bl_0 {z1 z2 : zS} {m : Int32} (hm : iv 0 10 m) (h0 : iv 0 10 (z1.1 0)) (hA : iv 0 1023 (allF z1)) (h1 : z2.1 = z1.1) (h2 : z2.2.1 = z1.2.1) (hc : Ch (CB z1) (allF z1) m.toNatClampNeg (allF z1)) (hE : EK z1 z2 m (-1)) : BL z2 m 1 0 := by
  have ha := allF_eq h1
  have hn := iv_nI hm
  have hl := ch_least hm h0 hA hE m.toNatClampNeg (allF z1) hc (by omega)
  have hm1 := hm.1
  have e := (hE m (allF z1) hm (by omega) (Int.le_refl _) hA (Int.le_refl _)).1 rfl
  rw [if_pos rfl] at e
  have h3 := hl.2.2 (by rw [← hn.1]; omega)
  refine ⟨EK_eq (CB_eq2 h1 h2) ha (by rw [h2]) rfl hE, by rw [ha]; exact hA, by rw [ha]; have := hA.1; have e0 : (0 : Int32).toInt = 0 := (by decide); omega, ?_⟩
  exact h3
theorem bl_next {z : zS} {m k put set even : Int32} (h : BL z m k put) (h0 : iv 0 10 (z.1 0)) (hp : iv 0 1023 put) (hs : iv 0 1023 set) (hsA : set.toInt ≤ (allF z).toInt) (hn : NX z set k put even) {k' : Int32} (hk : k' - 1 = k) : BL z m k' (put ||| set) := by
  refine ⟨h.1, h.2.1, or_le (all_pow h0) hp hs h.2.2.1 hsA, ?_⟩
  rw [hk]
  exact lgc_g0 hn.2.2.1
