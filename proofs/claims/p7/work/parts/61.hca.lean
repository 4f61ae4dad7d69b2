def TellP (c v c' : Int32) : Prop := (c = 20 → v = -2 ∧ c' = c) ∧ (¬ c = 20 → v = c + 1 ∧ c' = c + 1)
theorem TellP_eq {c v w d d' : Int32} (h : TellP c v d) (g : TellP c w d') : v = w ∧ d = d' := by
  by_cases q : c = 20
  · exact ⟨(h.1 q).1.trans (g.1 q).1.symm, (h.1 q).2.trans (g.1 q).2.symm⟩
  · exact ⟨(h.2 q).1.trans (g.2 q).1.symm, (h.2 q).2.trans (g.2 q).2.symm⟩
def RgP (a b : Int) (p c v c' : Int32) : Prop := (iv a b p → v = c ∧ c' = p) ∧ (¬ iv a b p → v = -2 ∧ c' = c)
theorem RgP_eq {a b : Int} {p c v w d d' : Int32} (h : RgP a b p c v d) (g : RgP a b p c w d') : v = w ∧ d = d' := by
  by_cases q : iv a b p
  · exact ⟨(h.1 q).1.trans (g.1 q).1.symm, (h.1 q).2.trans (g.1 q).2.symm⟩
  · exact ⟨(h.2 q).1.trans (g.2 q).1.symm, (h.2 q).2.trans (g.2 q).2.symm⟩
def TaskP (c v c' : Int32) : Prop := (c = 10 → v = -2 ∧ c' = c) ∧ (¬ c = 10 → v = c ∧ c' = c + 1)
theorem TaskP_eq {c v w d d' : Int32} (h : TaskP c v d) (g : TaskP c w d') : v = w ∧ d = d' := by
  by_cases q : c = 10
  · exact ⟨(h.1 q).1.trans (g.1 q).1.symm, (h.1 q).2.trans (g.1 q).2.symm⟩
  · exact ⟨(h.2 q).1.trans (g.2 q).1.symm, (h.2 q).2.trans (g.2 q).2.symm⟩
theorem iv_10 {x : Int32} (h : iv 0 10 x) (g : 10 ≤ x.toInt) : x = 10 := iv_one (n := 10) ⟨g, h.2⟩ (by decide)
theorem iv_20 {x : Int32} (h : iv 0 20 x) (g : 20 ≤ x.toInt) : x = 20 := iv_one (n := 20) ⟨g, h.2⟩ (by decide)
def ShP (s t n v : Int32) : Prop := ((iv 0 3 s ∧ iv 0 2 t ∧ n.toInt ≤ 40) → ((n.toInt < 0 → v = -13) ∧ (0 ≤ n.toInt → v = n))) ∧ (¬ (iv 0 3 s ∧ iv 0 2 t ∧ n.toInt ≤ 40) → v = -2)
theorem ShP_eq {s t n v w : Int32} (h : ShP s t n v) (g : ShP s t n w) : v = w := by
  by_cases q : iv 0 3 s ∧ iv 0 2 t ∧ n.toInt ≤ 40
  · rcases (show n.toInt < 0 ∨ 0 ≤ n.toInt by omega) with r | r
    · rw [(h.1 q).1 r, (g.1 q).1 r]
    · rw [(h.1 q).2 r, (g.1 q).2 r]
  · rw [h.2 q, g.2 q]
def SzP (f : Nat → Int32) (s t n : Int32) (g : Nat → Int32) : Prop := ((iv 0 3 s ∧ iv 0 2 t ∧ iv 0 40 n) → g = upd f s.toNatClampNeg n) ∧ (¬ (iv 0 3 s ∧ iv 0 2 t ∧ iv 0 40 n) → g = f)
theorem SzP_eq {f f' g g' : Nat → Int32} {s t n : Int32} (h : ∀ i : Nat, i < 4 → f i = f' i) (a : SzP f s t n g) (b : SzP f' s t n g') : ∀ i : Nat, i < 4 → g i = g' i := by
  by_cases q : iv 0 3 s ∧ iv 0 2 t ∧ iv 0 40 n
  · rw [a.1 q, b.1 q]
    exact upd_r h _ _
  · rw [a.2 q, b.2 q]
    exact h
def LoP (f : Nat → Int32) (s v : Int32) (g : Nat → Int32) : Prop := (iv 0 3 s → (((f s.toNatClampNeg).toInt < 0 → v = 0) ∧ (0 ≤ (f s.toNatClampNeg).toInt → v = 1)) ∧ g = upd f s.toNatClampNeg (-1)) ∧ (¬ iv 0 3 s → v = -2 ∧ g = f)
theorem LoP_eq {f f' g g' : Nat → Int32} {s v w : Int32} (h : ∀ i : Nat, i < 4 → f i = f' i) (a : LoP f s v g) (b : LoP f' s w g') : v = w ∧ ∀ i : Nat, i < 4 → g i = g' i := by
  by_cases q : iv 0 3 s
  · have e := h s.toNatClampNeg (by have := iv_nat q (by decide); have := q.2; omega)
    refine ⟨?_, by rw [(a.1 q).2, (b.1 q).2]; exact upd_r h _ _⟩
    rcases (show (f s.toNatClampNeg).toInt < 0 ∨ 0 ≤ (f s.toNatClampNeg).toInt by omega) with r | r
    · rw [(a.1 q).1.1 r, (b.1 q).1.1 (e ▸ r)]
    · rw [(a.1 q).1.2 r, (b.1 q).1.2 (e ▸ r)]
  · exact ⟨by rw [(a.2 q).1, (b.2 q).1], by rw [(a.2 q).2, (b.2 q).2]; exact h⟩
def PtP (n : Int32) (f : Nat → Int32) (t k v : Int32) (g : Nat → Int32) : Prop := ((0 ≤ t.toInt ∧ t.toInt < n.toInt ∧ iv 0 10 k) → v = f t.toNatClampNeg ∧ g = upd f t.toNatClampNeg k) ∧ (¬ (0 ≤ t.toInt ∧ t.toInt < n.toInt ∧ iv 0 10 k) → v = -2 ∧ g = f)
theorem PtP_eq {n : Int32} {f f' g g' : Nat → Int32} {t k v w : Int32} (hn : iv 0 10 n) (h : ∀ i : Nat, i < 10 → f i = f' i) (a : PtP n f t k v g) (b : PtP n f' t k w g') : v = w ∧ ∀ i : Nat, i < 10 → g i = g' i := by
  by_cases q : 0 ≤ t.toInt ∧ t.toInt < n.toInt ∧ iv 0 10 k
  · have e := h t.toNatClampNeg (by have := hn.2; have := iv_nat (a := 0) (b := 9) (x := t) ⟨q.1, by omega⟩ (by decide); omega)
    exact ⟨by rw [(a.1 q).1, (b.1 q).1, e], by rw [(a.1 q).2, (b.1 q).2]; exact upd_r h _ _⟩
  · exact ⟨by rw [(a.2 q).1, (b.2 q).1], by rw [(a.2 q).2, (b.2 q).2]; exact h⟩
def TkR (c : Int32) (f g : Nat → Int32) : Prop := (c = 10 → g = f) ∧ (¬ c = 10 → g = upd f c.toNatClampNeg 0)
theorem TkR_eq {c : Int32} {f f' g g' : Nat → Int32} (h : ∀ i : Nat, i < 10 → f i = f' i) (a : TkR c f g) (b : TkR c f' g') : ∀ i : Nat, i < 10 → g i = g' i := by
  by_cases q : c = 10
  · rw [a.1 q, b.1 q]
    exact h
  · rw [a.2 q, b.2 q]
    exact upd_r h _ _
def BkR (c : Int32) (f k g : Nat → Int32) : Prop := (c = 0 → g = f) ∧ (¬ c = 0 → ∀ i : Nat, i < 10 → g i = k i)
theorem BkR_eq {c : Int32} {f f' k k' g g' : Nat → Int32} (h : ∀ i : Nat, i < 10 → f i = f' i) (hk : ¬ c = 0 → ∀ i : Nat, i < 10 → k i = k' i) (a : BkR c f k g) (b : BkR c f' k' g') : ∀ i : Nat, i < 10 → g i = g' i := by
  by_cases q : c = 0
  · rw [a.1 q, b.1 q]
    exact h
  · intro i hi
    rw [a.2 q i hi, b.2 q i hi]
    exact hk q i hi
def SoP (f : Nat → Int32) (s t n : Int32) (g : Nat → Int32) : Prop := ((iv 0 3 s ∧ iv 0 2 t ∧ iv 0 40 n) → g = upd f s.toNatClampNeg t) ∧ (¬ (iv 0 3 s ∧ iv 0 2 t ∧ iv 0 40 n) → g = f)
theorem SoP_eq {f f' g g' : Nat → Int32} {s t n : Int32} (h : ∀ i : Nat, i < 4 → f i = f' i) (a : SoP f s t n g) (b : SoP f' s t n g') : ∀ i : Nat, i < 4 → g i = g' i := by
  by_cases q : iv 0 3 s ∧ iv 0 2 t ∧ iv 0 40 n
  · rw [a.1 q, b.1 q]
    exact upd_r h _ _
  · rw [a.2 q, b.2 q]
    exact h
theorem ix_key (A B : Int) (U S I : Nat) (C σ ι : Int) (K : Nat) (hK : (K : Int) = C) (h1 : (U : Int) = A) (h2 : A = B + ι) (h3 : B = C * σ) (h4 : (S : Int) = σ) (h5 : (I : Int) = ι) : U = K * S + I := by
  subst hK h4 h5 h3 h2
  exact Int.ofNat_inj.mp (by rw [h1]; simp)
theorem ix40 {s i : Int32} (hs : iv 0 3 s) (hi : iv 0 39 i) : ((40 : Int32) * s + i).toNatClampNeg = 40 * s.toNatClampNeg + i.toNatClampNeg := by
  have m1 : iv 0 120 ((40 : Int32) * s) := iv_mul (iv_lit (n := 40) 40 (by decide)) hs (by decide) (by decide) (by decide) (by decide) (by decide)
  have m2 := iv_mulE (iv_lit (n := 40) 40 (by decide)) hs (by decide) (by decide) (by decide)
  have a1 : iv 0 159 ((40 : Int32) * s + i) := iv_add m1 hi (by decide) (by decide) (by decide) (by decide)
  have a2 := iv_addE m1 hi (by decide) (by decide)
  exact ix_key _ _ _ _ _ _ _ _ 40 (by decide) (iv_nat a1 (by decide)) a2 m2 (iv_nat hs (by decide)) (iv_nat hi (by decide))
def narF (s v : Int32) : Int32 := if s = 0 then v.toInt8.toInt32 else if s = 1 then v.toInt16.toInt32 else v
theorem nar_0 {s v : Int32} (h : s = 0) : v.toInt8.toInt32 = narF s v := by unfold narF; rw [if_pos h]
theorem nar_1 {s v : Int32} (h : ¬ s = 0) (h1 : s = 1) : v.toInt16.toInt32 = narF s v := by unfold narF; rw [if_neg h, if_pos h1]
theorem nar_2 {s v : Int32} (h : ¬ s = 0) (h1 : ¬ s = 1) : v = narF s v := by unfold narF; rw [if_neg h, if_neg h1]
def SameG (g g' : Nat → Nat → Int32) : Prop := ∀ a b : Nat, a < 4 → b < 40 → g' a b = g a b
def SetG (g : Nat → Nat → Int32) (s i : Nat) (v : Int32) (g' : Nat → Nat → Int32) : Prop := ∀ a b : Nat, a < 4 → b < 40 → g' a b = if a = s ∧ b = i then v else g a b
def RelG (sz : Nat → Int32) (g h : Nat → Nat → Int32) : Prop := ∀ a b : Nat, a < 4 → (b : Int) < (sz a).toInt → g a b = h a b
def WrP (sz so : Nat → Int32) (g : Nat → Nat → Int32) (s i v w : Int32) (g' : Nat → Nat → Int32) : Prop := (¬ iv 0 3 s → w = -2 ∧ SameG g g') ∧ (iv 0 3 s → ((sz s.toNatClampNeg).toInt < 0 → w = -10 ∧ SameG g g') ∧ (0 ≤ (sz s.toNatClampNeg).toInt → (¬ (0 ≤ i.toInt ∧ i.toInt < (sz s.toNatClampNeg).toInt) → w = -11 ∧ SameG g g') ∧ ((0 ≤ i.toInt ∧ i.toInt < (sz s.toNatClampNeg).toInt) → w = g s.toNatClampNeg i.toNatClampNeg ∧ SetG g s.toNatClampNeg i.toNatClampNeg (narF (so s.toNatClampNeg) v) g')))
theorem cl_4 {s : Int32} (q : iv 0 3 s) : s.toNatClampNeg < 4 := by
  have h1 := iv_nat q (by decide)
  have h2 := q.2
  omega
theorem RelG_same {sz : Nat → Int32} {g h g' h' : Nat → Nat → Int32} (hb : ∀ i : Nat, i < 4 → iv (-1) 40 (sz i)) (hr : RelG sz g h) (x : SameG g g') (y : SameG h h') : RelG sz g' h' := fun a b ha hb' => by
  have h1 := (hb a ha).2
  rw [x a b ha (by omega), y a b ha (by omega)]
  exact hr a b ha hb'
theorem WrP_eq {sz sz' so so' : Nat → Int32} {g h g' h' : Nat → Nat → Int32} {s i v w w' : Int32} (hz : ∀ i : Nat, i < 4 → sz i = sz' i) (ho : ∀ i : Nat, i < 4 → so i = so' i) (hb : ∀ i : Nat, i < 4 → iv (-1) 40 (sz i)) (hr : RelG sz g h) (a : WrP sz so g s i v w g') (b : WrP sz' so' h s i v w' h') : w = w' ∧ RelG sz g' h' := by
  by_cases q : iv 0 3 s
  · have l4 := cl_4 q
    have A := a.2 q
    have B := b.2 q
    rw [← hz _ l4, ← ho _ l4] at B
    have h40 := (hb _ l4).2
    rcases (show (sz s.toNatClampNeg).toInt < 0 ∨ 0 ≤ (sz s.toNatClampNeg).toInt by omega) with r | r
    · exact ⟨(A.1 r).1.trans (B.1 r).1.symm, RelG_same hb hr (A.1 r).2 (B.1 r).2⟩
    · by_cases t : 0 ≤ i.toInt ∧ i.toInt < (sz s.toNatClampNeg).toInt
      · have A' := (A.2 r).2 t
        have B' := (B.2 r).2 t
        have hi := iv_nat (a := 0) (b := 39) (x := i) ⟨t.1, by have := t.2; omega⟩ (by decide)
        have t2 := t.2
        refine ⟨A'.1.trans ((hr _ _ l4 (by omega)).trans B'.1.symm), fun a b ha hb' => ?_⟩
        have h1 := (hb a ha).2
        rw [A'.2 a b ha (by omega), B'.2 a b ha (by omega), hr a b ha hb']
      · exact ⟨((A.2 r).1 t).1.trans ((B.2 r).1 t).1.symm, RelG_same hb hr ((A.2 r).1 t).2 ((B.2 r).1 t).2⟩
  · exact ⟨(a.1 q).1.trans (b.1 q).1.symm, RelG_same hb hr (a.1 q).2 (b.1 q).2⟩
def ShG (s t n : Int32) (g g' : Nat → Nat → Int32) : Prop := ((iv 0 3 s ∧ iv 0 2 t ∧ iv 0 40 n) → ∀ a b : Nat, a < 4 → b < 40 → (a ≠ s.toNatClampNeg → g' a b = g a b) ∧ (a = s.toNatClampNeg → (b : Int) < n.toInt → g' a b = 0)) ∧ (¬ (iv 0 3 s ∧ iv 0 2 t ∧ iv 0 40 n) → SameG g g')
theorem ShG_eq {sz sz1 : Nat → Int32} {g h g' h' : Nat → Nat → Int32} {s t n : Int32} (hr : RelG sz g h) (hb : ∀ i : Nat, i < 4 → iv (-1) 40 (sz i)) (k : SzP sz s t n sz1) (x : ShG s t n g g') (y : ShG s t n h h') : RelG sz1 g' h' := by
  by_cases q : iv 0 3 s ∧ iv 0 2 t ∧ iv 0 40 n
  · rw [k.1 q]
    intro a b ha hb'
    have h2 := q.2.2.2
    by_cases e : a = s.toNatClampNeg
    · rw [e, pk_us] at hb'
      rw [(x.1 q a b ha (by omega)).2 e hb', (y.1 q a b ha (by omega)).2 e hb']
    · rw [pk_un e] at hb'
      have h1 := (hb a ha).2
      rw [(x.1 q a b ha (by omega)).1 e, (y.1 q a b ha (by omega)).1 e]
      exact hr a b ha hb'
  · rw [k.2 q]
    exact RelG_same hb hr (x.2 q) (y.2 q)
theorem RelG_lose {sz sz1 : Nat → Int32} {g h g' h' : Nat → Nat → Int32} {s v : Int32} (hb : ∀ i : Nat, i < 4 → iv (-1) 40 (sz i)) (hr : RelG sz g h) (k : LoP sz s v sz1) (x : SameG g g') (y : SameG h h') : RelG sz1 g' h' := by
  have hr2 := RelG_same hb hr x y
  by_cases q : iv 0 3 s
  · rw [(k.1 q).2]
    intro a b ha hb'
    by_cases e : a = s.toNatClampNeg
    · rw [e, pk_us, show ((-1) : Int32).toInt = -1 by decide] at hb'
      omega
    · rw [pk_un e] at hb'
      exact hr2 a b ha hb'
  · rw [(k.2 q).2]
    exact hr2
theorem ag_same {b : Nat} {z z' : zS} (h : ∀ k, b.testBit k = false → z'.2.1 k = z.2.1 k) (h1 : b.testBit 61 = false) (h2 : b.testBit 62 = false) (h3 : b.testBit 63 = false) (h4 : b.testBit 64 = false) : SameG (fun s i => z.2.1 (61 + s) i) (fun s i => z'.2.1 (61 + s) i) := fun a b ha _ => by
  show z'.2.1 (61 + a) b = z.2.1 (61 + a) b
  rcases (show a = 0 ∨ a = 1 ∨ a = 2 ∨ a = 3 by omega) with e | e | e | e <;> subst e
  · exact congrFun (h 61 h1) b
  · exact congrFun (h 62 h2) b
  · exact congrFun (h 63 h3) b
  · exact congrFun (h 64 h4) b
theorem m_same {z z' : zS} (h : z'.2.1 11 = z.2.1 11) : SameG (fun s i => z.2.1 11 (40 * s + i)) (fun s i => z'.2.1 11 (40 * s + i)) := fun a b _ _ => congrFun h (40 * a + b)
theorem wr_c {z : zS} {k i s : Nat} {v : Int32} (hk : k = 61 + s) : SetG (fun a b => z.2.1 (61 + a) b) s i v (fun a b => (upA z k (upd (z.2.1 k) i v)).2.1 (61 + a) b) := fun a b _ _ => by
  show (upA z k (upd (z.2.1 k) i v)).2.1 (61 + a) b = if a = s ∧ b = i then v else z.2.1 (61 + a) b
  by_cases e : a = s
  · rw [e, ← hk, upA_e]
    by_cases e2 : b = i
    · rw [e2, pk_us, if_pos ⟨rfl, rfl⟩]
    · rw [pk_un e2, if_neg (fun q => e2 q.2)]
  · rw [upA_n (by omega), if_neg (fun q => e q.1)]
theorem wr_m {z : zS} {I i s : Nat} {v : Int32} (hI : I = 40 * s + i) (hi : i < 40) : SetG (fun s i => z.2.1 11 (40 * s + i)) s i v (fun s i => (upA z 11 (upd (z.2.1 11) I v)).2.1 11 (40 * s + i)) := fun a b _ hb => by
  show (upA z 11 (upd (z.2.1 11) I v)).2.1 11 (40 * a + b) = if a = s ∧ b = i then v else z.2.1 11 (40 * a + b)
  rw [upA_e]
  by_cases e : a = s ∧ b = i
  · rw [if_pos e, show 40 * a + b = I by omega, pk_us]
  · rw [if_neg e, pk_un (show 40 * a + b ≠ I by omega)]
def ShL (f0 f : Nat → Int32) (s x : Int32) : Prop := (∀ b : Nat, (b : Int) < x.toInt → f (40 * s.toNatClampNeg + b) = 0) ∧ (∀ c : Nat, (c < 40 * s.toNatClampNeg ∨ 40 * s.toNatClampNeg + 40 ≤ c) → f c = f0 c)
theorem sh_st {f0 f : Nat → Int32} {s x y : Int32} {I : Nat} (hs : iv 0 3 s) (hx : iv 0 39 x) (hI : I = ((40 : Int32) * s + x).toNatClampNeg) (he : y.toInt = x.toInt + 1) (h : ShL f0 f s x) : ShL f0 (upd f I 0) s y := by
  rw [ix40 hs hx] at hI
  have nx := iv_nat hx (by decide)
  have hx2 := hx.2
  refine ⟨fun b hb => ?_, fun c hc => ?_⟩
  · by_cases e : 40 * s.toNatClampNeg + b = I
    · rw [e, pk_us]
    · rw [pk_un e]
      exact h.1 b (by omega)
  · rw [pk_un (show c ≠ I by omega)]
    exact h.2 c hc
def clF (v : Int32) : Int32 := if v.toInt < 1 then 1 else if 100 < v.toInt then 100 else v
theorem cl_lo {t : Int32} (h : t.toInt < 1) : (1 : Int32) = clF t := by unfold clF; rw [if_pos h]
theorem cl_hi {t : Int32} (h : 100 < t.toInt) : (100 : Int32) = clF t := by unfold clF; rw [if_neg (show ¬ t.toInt < 1 by omega), if_pos h]
theorem cl_mid {t : Int32} (h1 : 1 ≤ t.toInt) (h2 : t.toInt ≤ 100) : t = clF t := by unfold clF; rw [if_neg (show ¬ t.toInt < 1 by omega), if_neg (show ¬ 100 < t.toInt by omega)]
theorem cx_cl (v : Int32) : (if (1 : Int32) < (if v < 100 then v else 100) then (if v < 100 then v else 100) else 1) = clF v := by
  have e1 : (1 : Int32).toInt = 1 := by decide
  have e100 : (100 : Int32).toInt = 100 := by decide
  by_cases h : v < 100
  · have h' := iv_Lt h
    rw [if_pos h]
    by_cases h1 : 1 < v
    · have h1' := iv_Lt h1
      rw [if_pos h1]
      exact cl_mid (by omega) (by omega)
    · have h1' := iv_nLt h1
      rw [if_neg h1]
      by_cases h2 : v.toInt < 1
      · exact cl_lo h2
      · have e : v = 1 := Int32.toInt_inj.mp (by omega)
        rw [e]
        decide
  · have h' := iv_nLt h
    rw [if_neg h, if_pos (show (1 : Int32) < 100 by decide)]
    by_cases h2 : 100 < v.toInt
    · exact cl_hi h2
    · have e : v = 100 := Int32.toInt_inj.mp (by omega)
      rw [e]
      decide
def cntF (f : Nat → Int32) (i : Nat) : Nat → Int32
  | 0 => 0
  | n + 1 => cntF f i n + (if (f (i + n)).toInt < 1 ∨ 100 < (f (i + n)).toInt then 1 else 0)
theorem cnt_eq {f g : Nat → Int32} {i : Nat} : ∀ n : Nat, (∀ b : Nat, b < n → f (i + b) = g (i + b)) → cntF f i n = cntF g i n
  | 0, _ => rfl
  | n + 1, h => by
    show cntF f i n + _ = cntF g i n + _
    rw [cnt_eq n (fun b hb => h b (by omega)), h n (by omega)]
theorem cnt_0 {f : Nat → Int32} {i : Nat} : (0 : Int32) = cntF f i (0 : Int32).toNatClampNeg := by
  rw [show (0 : Int32).toNatClampNeg = 0 by decide]
  rfl
theorem cn_out {f : Nat → Int32} {I : Nat} {x y t c : Int32} (h : c = cntF f I x.toNatClampNeg) (hy : y.toNatClampNeg = x.toNatClampNeg + 1) (ht : t = f (I + x.toNatClampNeg)) (ho : t.toInt < 1 ∨ 100 < t.toInt) : c + 1 = cntF f I y.toNatClampNeg := by
  rw [hy]
  show _ = cntF f I x.toNatClampNeg + _
  rw [← ht, ← h, if_pos ho]
theorem cn_in {f : Nat → Int32} {I : Nat} {x y t c : Int32} (h : c = cntF f I x.toNatClampNeg) (hy : y.toNatClampNeg = x.toNatClampNeg + 1) (ht : t = f (I + x.toNatClampNeg)) (ho : ¬ (t.toInt < 1 ∨ 100 < t.toInt)) : c + 0 = cntF f I y.toNatClampNeg := by
  rw [hy]
  show _ = cntF f I x.toNatClampNeg + _
  rw [← ht, ← h, if_neg ho]
theorem cnt_s {f : Nat → Int32} {I : Nat} {x y t v c : Int32} (h : c = cntF f I x.toNatClampNeg) (hy : y.toNatClampNeg = x.toNatClampNeg + 1) (ht : t = f (I + x.toNatClampNeg)) (hv : v = clF t) : (v = t → c = cntF f I y.toNatClampNeg) ∧ (¬ v = t → c + 1 = cntF f I y.toNatClampNeg) := by
  have e1 : (1 : Int32).toInt = 1 := by decide
  have e100 : (100 : Int32).toInt = 100 := by decide
  refine ⟨fun e => ?_, fun e => cn_out h hy ht (Classical.byContradiction (fun q => e (hv.trans (cl_mid (by omega) (by omega)).symm)))⟩
  rw [← cn_in h hy ht (fun o => ?_)]
  · first | exact (Int32.add_zero c).symm | simp
  · have e2 := iv_Eq (e.symm.trans hv)
    rcases o with o | o
    · rw [← cl_lo o] at e2
      omega
    · rw [← cl_hi o] at e2
      omega
def TmL (f0 g : Nat → Int32) (I x : Nat) (f : Nat → Int32) : Prop := ∀ b : Nat, f b = if b < x then clF (g (I + b)) else f0 b
theorem tm_0 {f0 g : Nat → Int32} {I : Nat} : TmL f0 g I (0 : Int32).toNatClampNeg f0 := fun b => by
  rw [show (0 : Int32).toNatClampNeg = 0 by decide, if_neg (Nat.not_lt_zero b)]
theorem tm_st {z0 z z' : zS} {k M P I : Nat} {x y V T : Int32} (h : TmL (z0.2.1 M) (z0.2.1 P) I x.toNatClampNeg (z.2.1 M)) (hk : k = M) (hz : z' = upA z k (upd (z.2.1 k) x.toNatClampNeg V)) (hV : V = clF T) (hT : T = z0.2.1 P (I + x.toNatClampNeg)) (hy : y.toNatClampNeg = x.toNatClampNeg + 1) : TmL (z0.2.1 M) (z0.2.1 P) I y.toNatClampNeg (z'.2.1 M) := fun b => by
  subst hk
  rw [hz, upA_e, hy]
  by_cases e : b = x.toNatClampNeg
  · rw [e, pk_us, if_pos (Nat.lt_succ_self _), hV, hT]
  · rw [pk_un e, h b]
    by_cases l : b < x.toNatClampNeg
    · rw [if_pos l, if_pos (show b < x.toNatClampNeg + 1 by omega)]
    · rw [if_neg l, if_neg (show ¬ b < x.toNatClampNeg + 1 by omega)]
theorem ot_st {z0 z z' : zS} {k M : Nat} {f : Nat → Int32} (h : ∀ k : Nat, k ≠ M → z.2.1 k = z0.2.1 k) (hk : k = M) (hz : z' = upA z k f) : ∀ k : Nat, k ≠ M → z'.2.1 k = z0.2.1 k := fun j hj => by
  subst hk
  rw [hz, upA_n hj]
  exact h j hj
def TmM (f0 g : Nat → Int32) (M I x : Nat) (f : Nat → Int32) : Prop := ∀ a b : Nat, a < 3 → b < 10 → f (3 * b + a) = if a = M ∧ b < x then clF (g (I + b)) else f0 (3 * b + a)
theorem tmm_0 {f0 g : Nat → Int32} {M I : Nat} : TmM f0 g M I (0 : Int32).toNatClampNeg f0 := fun a b _ _ => by
  rw [show (0 : Int32).toNatClampNeg = 0 by decide, if_neg (fun q => Nat.not_lt_zero b q.2)]
theorem tmm_st {f0 g f : Nat → Int32} {M I J : Nat} {x y V T : Int32} (h : TmM f0 g M I x.toNatClampNeg f) (hJ : J = 3 * x.toNatClampNeg + M) (hM : M < 3) (hV : V = clF T) (hT : T = g (I + x.toNatClampNeg)) (hy : y.toNatClampNeg = x.toNatClampNeg + 1) : TmM f0 g M I y.toNatClampNeg (upd f J V) := fun a b ha hb => by
  rw [hy]
  by_cases e : 3 * b + a = J
  · have e1 : a = M := by omega
    have e2 : b = x.toNatClampNeg := by omega
    rw [e, pk_us, if_pos ⟨e1, by omega⟩, hV, hT, e2]
  · rw [pk_un e, h a b ha hb]
    by_cases l : a = M ∧ b < x.toNatClampNeg
    · rw [if_pos l, if_pos ⟨l.1, by omega⟩]
    · rw [if_neg l, if_neg (fun q => l ⟨q.1, by have := q.1; have := q.2; omega⟩)]
def SameT (g g' : Nat → Nat → Int32) : Prop := ∀ a b : Nat, a < 3 → b < 10 → g' a b = g a b
def TakT (tm g : Nat → Nat → Int32) (M S I n : Nat) (tm' : Nat → Nat → Int32) : Prop := ∀ a b : Nat, a < 3 → b < 10 → tm' a b = if a = M ∧ b < n then clF (g S (I + b)) else tm a b
theorem tk_T {z0 z : zS} {M K S I n : Nat} (h1 : TmL (z0.2.1 (4 + M)) (z0.2.1 K) I n (z.2.1 (4 + M))) (h2 : ∀ k : Nat, k ≠ 4 + M → z.2.1 k = z0.2.1 k) (hk : K = 61 + S) : TakT (fun a b => z0.2.1 (4 + a) b) (fun s i => z0.2.1 (61 + s) i) M S I n (fun a b => z.2.1 (4 + a) b) := fun a b _ _ => by
  show z.2.1 (4 + a) b = if a = M ∧ b < n then clF (z0.2.1 (61 + S) (I + b)) else z0.2.1 (4 + a) b
  subst hk
  by_cases e : a = M
  · rw [e, h1 b]
    by_cases l : b < n
    · rw [if_pos l, if_pos ⟨rfl, l⟩]
    · rw [if_neg l, if_neg (fun q => l q.2)]
  · rw [h2 (4 + a) (by omega), if_neg (fun q => e q.1)]
def TakeP (c : Int32) (sz so : Nat → Int32) (g tm : Nat → Nat → Int32) (m s t i v : Int32) (tm' : Nat → Nat → Int32) : Prop := (¬ (iv 0 2 m ∧ iv 0 3 s ∧ iv 0 2 t) → v = -2 ∧ SameT tm tm') ∧ ((iv 0 2 m ∧ iv 0 3 s ∧ iv 0 2 t) → ((sz s.toNatClampNeg).toInt < 0 → v = -10 ∧ SameT tm tm') ∧ (0 ≤ (sz s.toNatClampNeg).toInt → (¬ so s.toNatClampNeg = t → v = -12 ∧ SameT tm tm') ∧ (so s.toNatClampNeg = t → ((0 < c.toInt ∧ (i.toInt < 0 ∨ (sz s.toNatClampNeg).toInt - c.toInt < i.toInt)) → v = -11 ∧ SameT tm tm') ∧ (¬ (0 < c.toInt ∧ (i.toInt < 0 ∨ (sz s.toNatClampNeg).toInt - c.toInt < i.toInt)) → v = cntF (g s.toNatClampNeg) i.toNatClampNeg c.toNatClampNeg ∧ TakT tm g m.toNatClampNeg s.toNatClampNeg i.toNatClampNeg c.toNatClampNeg tm'))))
section TP
variable {c : Int32} {sz so : Nat → Int32} {g tm tm' : Nat → Nat → Int32} {m s t i v : Int32}
theorem TakeP_bad (h : ¬ (iv 0 2 m ∧ iv 0 3 s ∧ iv 0 2 t)) (hv : v = -2) (hT : SameT tm tm') : TakeP c sz so g tm m s t i v tm' := ⟨fun _ => ⟨hv, hT⟩, fun q => absurd q h⟩
theorem TakeP_10 (h : iv 0 2 m ∧ iv 0 3 s ∧ iv 0 2 t) (h1 : (sz s.toNatClampNeg).toInt < 0) (hv : v = -10) (hT : SameT tm tm') : TakeP c sz so g tm m s t i v tm' := ⟨fun q => absurd h q, fun _ => ⟨fun _ => ⟨hv, hT⟩, fun q => absurd q (by omega)⟩⟩
theorem TakeP_12 (h : iv 0 2 m ∧ iv 0 3 s ∧ iv 0 2 t) (h1 : 0 ≤ (sz s.toNatClampNeg).toInt) (h2 : ¬ so s.toNatClampNeg = t) (hv : v = -12) (hT : SameT tm tm') : TakeP c sz so g tm m s t i v tm' := ⟨fun q => absurd h q, fun _ => ⟨fun q => absurd q (by omega), fun _ => ⟨fun _ => ⟨hv, hT⟩, fun q => absurd q h2⟩⟩⟩
theorem TakeP_11 (h : iv 0 2 m ∧ iv 0 3 s ∧ iv 0 2 t) (h1 : 0 ≤ (sz s.toNatClampNeg).toInt) (h2 : so s.toNatClampNeg = t) (h3 : 0 < c.toInt ∧ (i.toInt < 0 ∨ (sz s.toNatClampNeg).toInt - c.toInt < i.toInt)) (hv : v = -11) (hT : SameT tm tm') : TakeP c sz so g tm m s t i v tm' := ⟨fun q => absurd h q, fun _ => ⟨fun q => absurd q (by omega), fun _ => ⟨fun q => absurd h2 q, fun _ => ⟨fun _ => ⟨hv, hT⟩, fun q => absurd h3 q⟩⟩⟩⟩
theorem TakeP_end (h : iv 0 2 m ∧ iv 0 3 s ∧ iv 0 2 t) (h1 : 0 ≤ (sz s.toNatClampNeg).toInt) (h2 : so s.toNatClampNeg = t) (h3 : ¬ (0 < c.toInt ∧ (i.toInt < 0 ∨ (sz s.toNatClampNeg).toInt - c.toInt < i.toInt))) (hv : v = cntF (g s.toNatClampNeg) i.toNatClampNeg c.toNatClampNeg) (hT : TakT tm g m.toNatClampNeg s.toNatClampNeg i.toNatClampNeg c.toNatClampNeg tm') : TakeP c sz so g tm m s t i v tm' := ⟨fun q => absurd h q, fun _ => ⟨fun q => absurd q (by omega), fun _ => ⟨fun q => absurd h2 q, fun _ => ⟨fun q => absurd q h3, fun _ => ⟨hv, hT⟩⟩⟩⟩⟩
end TP
theorem same_TT {tm tm' um um' : Nat → Nat → Int32} (x : SameT tm tm') (y : SameT um um') : SameT tm um → SameT tm' um' := fun h a b ha hb => by rw [x a b ha hb, y a b ha hb]; exact h a b ha hb
theorem TakeP_eq {c : Int32} {sz sz2 so so2 : Nat → Int32} {g h tm tm' um um' : Nat → Nat → Int32} {m s t i v w : Int32} (hc : iv 0 10 c) (hz : ∀ i : Nat, i < 4 → sz i = sz2 i) (ho : ∀ i : Nat, i < 4 → so i = so2 i) (hb : ∀ i : Nat, i < 4 → iv (-1) 40 (sz i)) (hr : RelG sz g h) (x : TakeP c sz so g tm m s t i v tm') (y : TakeP c sz2 so2 h um m s t i w um') : v = w ∧ (SameT tm um → SameT tm' um') := by
  by_cases q : iv 0 2 m ∧ iv 0 3 s ∧ iv 0 2 t
  · have l4 := cl_4 q.2.1
    have A := x.2 q
    have B := y.2 q
    rw [← hz _ l4, ← ho _ l4] at B
    rcases (show (sz s.toNatClampNeg).toInt < 0 ∨ 0 ≤ (sz s.toNatClampNeg).toInt by omega) with r | r
    · exact ⟨(A.1 r).1.trans (B.1 r).1.symm, same_TT (A.1 r).2 (B.1 r).2⟩
    · have A := A.2 r
      have B := B.2 r
      by_cases u : so s.toNatClampNeg = t
      · have A := A.2 u
        have B := B.2 u
        by_cases d : 0 < c.toInt ∧ (i.toInt < 0 ∨ (sz s.toNatClampNeg).toInt - c.toInt < i.toInt)
        · exact ⟨(A.1 d).1.trans (B.1 d).1.symm, same_TT (A.1 d).2 (B.1 d).2⟩
        · have A := A.2 d
          have B := B.2 d
          have nc := iv_nat hc (by decide)
          have key : ∀ b : Nat, b < c.toNatClampNeg → g s.toNatClampNeg (i.toNatClampNeg + b) = h s.toNatClampNeg (i.toNatClampNeg + b) := fun b hb' => by
            have h40 := (hb _ l4).2
            have ni := iv_nat (a := 0) (b := 40) (x := i) ⟨by omega, by omega⟩ (by decide)
            exact hr _ _ l4 (by omega)
          refine ⟨A.1.trans ((cnt_eq _ key).trans B.1.symm), fun hT a b ha hb' => ?_⟩
          rw [A.2 a b ha hb', B.2 a b ha hb']
          by_cases l : a = m.toNatClampNeg ∧ b < c.toNatClampNeg
          · rw [if_pos l, if_pos l, key b l.2]
          · rw [if_neg l, if_neg l]
            exact hT a b ha hb'
      · exact ⟨(A.1 u).1.trans (B.1 u).1.symm, same_TT (A.1 u).2 (B.1 u).2⟩
  · exact ⟨(x.1 q).1.trans (y.1 q).1.symm, same_TT (x.1 q).2 (y.1 q).2⟩
theorem ag_T {b : Nat} {z z' : zS} (k : Nat) (h : ∀ k, b.testBit k = false → z'.2.1 k = z.2.1 k) (h1 : b.testBit k = false) (h2 : b.testBit (k + 1) = false) (h3 : b.testBit (k + 2) = false) : SameT (fun a b => z.2.1 (k + a) b) (fun a b => z'.2.1 (k + a) b) := fun a b ha _ => by
  show z'.2.1 (k + a) b = z.2.1 (k + a) b
  rcases (show a = 0 ∨ a = 1 ∨ a = 2 by omega) with e | e | e <;> subst e
  · exact congrFun (h k h1) b
  · exact congrFun (h (k + 1) h2) b
  · exact congrFun (h (k + 2) h3) b
theorem m_T {z z' : zS} (h : z'.2.1 1 = z.2.1 1) : SameT (fun a b => z.2.1 1 (3 * b + a)) (fun a b => z'.2.1 1 (3 * b + a)) := fun a b _ _ => congrFun h (3 * b + a)
theorem iv_addWE {a b : Int} {x y : Int32} (h1 : a ≤ x.toInt + y.toInt) (h2 : x.toInt + y.toInt ≤ b) (h3 : -2147483648 ≤ a) (h4 : b ≤ 2147483647) : (x + y).toInt = x.toInt + y.toInt := by
  rw [Int32.toInt_add, iv_bm h1 h2 h3 h4]
theorem same_tr {f g h : Nat → Nat → Int32} (x : SameT f g) (y : SameT g h) : SameT f h := fun a b ha hb => (y a b ha hb).trans (x a b ha hb)
theorem same_sy {f g : Nat → Nat → Int32} (x : SameT f g) : SameT g f := fun a b ha hb => (x a b ha hb).symm
def SetT (tm : Nat → Nat → Int32) (M T : Nat) (x : Int32) (tm' : Nat → Nat → Int32) : Prop := ∀ a b : Nat, a < 3 → b < 10 → tm' a b = if a = M ∧ b = T then x else tm a b
def TimeP (c : Int32) (tm : Nat → Nat → Int32) (t m x v : Int32) (tm' : Nat → Nat → Int32) : Prop := ((0 ≤ t.toInt ∧ t.toInt < c.toInt ∧ iv 0 2 m ∧ iv 1 100 x) → v = tm m.toNatClampNeg t.toNatClampNeg ∧ SetT tm m.toNatClampNeg t.toNatClampNeg x tm') ∧ (¬ (0 ≤ t.toInt ∧ t.toInt < c.toInt ∧ iv 0 2 m ∧ iv 1 100 x) → v = -2 ∧ SameT tm tm')
theorem TimeP_eq {c : Int32} {tm um tm' um' : Nat → Nat → Int32} {t m x v w : Int32} (hc : iv 0 10 c) (h : SameT tm um) (p : TimeP c tm t m x v tm') (q : TimeP c um t m x w um') : v = w ∧ SameT tm' um' := by
  by_cases k : 0 ≤ t.toInt ∧ t.toInt < c.toInt ∧ iv 0 2 m ∧ iv 1 100 x
  · have P := p.1 k
    have Q := q.1 k
    have c2 := hc.2
    have n1 := iv_nat (a := 0) (b := 9) (x := t) ⟨k.1, by have := k.2.1; omega⟩ (by decide)
    have k2 := k.2.1
    have n2 := iv_nat k.2.2.1 (by decide)
    have m2 := k.2.2.1.2
    refine ⟨P.1.trans ((h _ _ (by omega) (by omega)).symm.trans Q.1.symm), fun a b ha hb => ?_⟩
    rw [P.2 a b ha hb, Q.2 a b ha hb, h a b ha hb]
  · exact ⟨(p.2 k).1.trans (q.2 k).1.symm, same_TT (p.2 k).2 (q.2 k).2 h⟩
theorem set_c {z : zS} {k M T : Nat} {v : Int32} (hk : k = 4 + M) : SetT (fun a b => z.2.1 (4 + a) b) M T v (fun a b => (upA z k (upd (z.2.1 k) T v)).2.1 (4 + a) b) := fun a b _ _ => by
  show (upA z k (upd (z.2.1 k) T v)).2.1 (4 + a) b = if a = M ∧ b = T then v else z.2.1 (4 + a) b
  by_cases e : a = M
  · rw [e, ← hk, upA_e]
    by_cases e2 : b = T
    · rw [e2, pk_us, if_pos ⟨rfl, rfl⟩]
    · rw [pk_un e2, if_neg (fun q => e2 q.2)]
  · rw [upA_n (by omega), if_neg (fun q => e q.1)]
theorem set_m {z : zS} {I M T : Nat} {v : Int32} (hI : I = 3 * T + M) (hM : M < 3) : SetT (fun a b => z.2.1 1 (3 * b + a)) M T v (fun a b => (upA z 1 (upd (z.2.1 1) I v)).2.1 1 (3 * b + a)) := fun a b ha _ => by
  show (upA z 1 (upd (z.2.1 1) I v)).2.1 1 (3 * b + a) = if a = M ∧ b = T then v else z.2.1 1 (3 * b + a)
  rw [upA_e]
  by_cases e : a = M ∧ b = T
  · rw [if_pos e, show 3 * b + a = I by omega, pk_us]
  · rw [if_neg e, pk_un (show 3 * b + a ≠ I by omega)]
theorem ix3 {t m : Int32} (ht : iv 0 9 t) (hm : iv 0 2 m) : ((3 : Int32) * t + m).toNatClampNeg = 3 * t.toNatClampNeg + m.toNatClampNeg := by
  have m1 : iv 0 27 ((3 : Int32) * t) := iv_mul (iv_lit (n := 3) 3 (by decide)) ht (by decide) (by decide) (by decide) (by decide) (by decide)
  have m2 := iv_mulE (iv_lit (n := 3) 3 (by decide)) ht (by decide) (by decide) (by decide)
  have a1 : iv 0 29 ((3 : Int32) * t + m) := iv_add m1 hm (by decide) (by decide) (by decide) (by decide)
  have a2 := iv_addE m1 hm (by decide) (by decide)
  exact ix_key _ _ _ _ _ _ _ _ 3 (by decide) (iv_nat a1 (by decide)) a2 m2 (iv_nat ht (by decide)) (iv_nat hm (by decide))
def TAd (z0 z : zS) (T x : Nat) : Prop := ∀ a b : Nat, a < 3 → z.2.1 (4 + a) b = if a < x ∧ b = T then 1 else z0.2.1 (4 + a) b
theorem TAd_0 {z : zS} {T : Nat} : TAd z z T (0 : Int32).toNatClampNeg := fun a b _ => by
  rw [show (0 : Int32).toNatClampNeg = 0 by decide, if_neg (fun q => Nat.not_lt_zero a q.1)]
theorem TAd_st {z0 z z' : zS} {k T : Nat} {x y t : Int32} (h : TAd z0 z T x.toNatClampNeg) (hk : k = 4 + x.toNatClampNeg) (hz : z' = upA z k (upd (z.2.1 k) t.toNatClampNeg 1)) (ht : t.toNatClampNeg = T) (hy : y.toNatClampNeg = x.toNatClampNeg + 1) : TAd z0 z' T y.toNatClampNeg := fun a b ha => by
  rw [hz, hy, ht]
  by_cases e : a = x.toNatClampNeg
  · rw [e, ← hk, upA_e]
    by_cases e2 : b = T
    · rw [e2, pk_us, if_pos ⟨Nat.lt_succ_self _, rfl⟩]
    · rw [pk_un e2, hk, h x.toNatClampNeg b (e ▸ ha), if_neg (fun q => e2 q.2), if_neg (fun q => e2 q.2)]
  · rw [upA_n (by omega), h a b ha]
    by_cases l : a < x.toNatClampNeg ∧ b = T
    · rw [if_pos l, if_pos ⟨by have := l.1; omega, l.2⟩]
    · rw [if_neg l, if_neg (fun q => l ⟨by have := q.1; omega, q.2⟩)]
theorem TAd_fin {z0 z z' : zS} {T x : Nat} (h : TAd z0 z T x) (hx : x = 3) (e : ∀ a : Nat, a < 3 → z'.2.1 (4 + a) = z.2.1 (4 + a)) : TAd z0 z' T 3 := fun a b ha => by
  subst hx
  rw [e a ha]
  exact h a b ha
def TkT (c : Int32) (tm tm' : Nat → Nat → Int32) : Prop := (c = 10 → SameT tm tm') ∧ (¬ c = 10 → ∀ a b : Nat, a < 3 → b < 10 → tm' a b = if b = c.toNatClampNeg then 1 else tm a b)
theorem TkT_eq {c : Int32} {tm um tm' um' : Nat → Nat → Int32} (h : SameT tm um) (p : TkT c tm tm') (q : TkT c um um') : SameT tm' um' := by
  by_cases k : c = 10
  · exact same_TT (p.1 k) (q.1 k) h
  · intro a b ha hb
    rw [p.2 k a b ha hb, q.2 k a b ha hb, h a b ha hb]
theorem TkT_c {z0 z z' : zS} {c : Int32} (h : TAd z0 z c.toNatClampNeg 3) (hc : ¬ c = 10) (e : ∀ a : Nat, a < 3 → z'.2.1 (4 + a) = z.2.1 (4 + a)) : TkT c (fun a b => z0.2.1 (4 + a) b) (fun a b => z'.2.1 (4 + a) b) := ⟨fun q => absurd q hc, fun _ a b ha _ => by
  show z'.2.1 (4 + a) b = if b = c.toNatClampNeg then 1 else z0.2.1 (4 + a) b
  rw [e a ha, h a b ha]
  by_cases l : b = c.toNatClampNeg
  · rw [if_pos ⟨ha, l⟩, if_pos l]
  · rw [if_neg (fun q => l q.2), if_neg l]⟩
def TRd (f0 f : Nat → Int32) (T x : Nat) : Prop := ∀ a b : Nat, a < 3 → b < 10 → f (3 * b + a) = if a < x ∧ b = T then 1 else f0 (3 * b + a)
theorem TRd_0 {f : Nat → Int32} {T : Nat} : TRd f f T (0 : Int32).toNatClampNeg := fun a b _ _ => by
  rw [show (0 : Int32).toNatClampNeg = 0 by decide, if_neg (fun q => Nat.not_lt_zero a q.1)]
theorem TRd_st {f0 f : Nat → Int32} {T I : Nat} {x y t : Int32} (h : TRd f0 f T x.toNatClampNeg) (hI : I = 3 * t.toNatClampNeg + x.toNatClampNeg) (hx : x.toNatClampNeg < 3) (ht : t.toNatClampNeg = T) (hy : y.toNatClampNeg = x.toNatClampNeg + 1) : TRd f0 (upd f I 1) T y.toNatClampNeg := fun a b ha hb => by
  rw [hy]
  by_cases e : 3 * b + a = I
  · rw [e, pk_us, if_pos ⟨by omega, by omega⟩]
  · rw [pk_un e, h a b ha hb]
    by_cases l : a < x.toNatClampNeg ∧ b = T
    · rw [if_pos l, if_pos ⟨by have := l.1; omega, l.2⟩]
    · rw [if_neg l, if_neg (fun q => l ⟨by have := q.1; have := q.2; omega, q.2⟩)]
theorem TkT_m {z0 z : zS} {c : Int32} {x : Nat} (h : TRd (z0.2.1 1) (z.2.1 1) c.toNatClampNeg x) (hx : x = 3) (hc : ¬ c = 10) : TkT c (fun a b => z0.2.1 1 (3 * b + a)) (fun a b => z.2.1 1 (3 * b + a)) := ⟨fun q => absurd q hc, fun _ a b ha hb => by
  show z.2.1 1 (3 * b + a) = if b = c.toNatClampNeg then 1 else z0.2.1 1 (3 * b + a)
  rw [h a b ha hb]
  by_cases l : b = c.toNatClampNeg
  · rw [if_pos ⟨by omega, l⟩, if_pos l]
  · rw [if_neg (fun q => l q.2), if_neg l]⟩
def BcT (D S : Nat) (z0 z : zS) (x : Nat) : Prop := ∀ a b : Nat, a < 3 → b < 10 → z.2.1 (D + a) b = if a < x then z0.2.1 (S + a) b else z0.2.1 (D + a) b
theorem BcT_0 {D S : Nat} {z0 z : zS} (h : SameT (fun a b => z0.2.1 (D + a) b) (fun a b => z.2.1 (D + a) b)) : BcT D S z0 z (0 : Int32).toNatClampNeg := fun a b ha hb => by
  rw [show (0 : Int32).toNatClampNeg = 0 by decide, if_neg (Nat.not_lt_zero a)]
  exact h a b ha hb
theorem BcT_st {D S : Nat} {z0 z z' : zS} {kd ks : Nat} {x y : Int32} (h : BcT D S z0 z x.toNatClampNeg) (hs : SameT (fun a b => z0.2.1 (S + a) b) (fun a b => z'.2.1 (S + a) b)) (hDS : D + 3 ≤ S ∨ S + 3 ≤ D) (hkd : kd = D + x.toNatClampNeg) (hks : ks = S + x.toNatClampNeg) (hx : x.toNatClampNeg < 3) (hz : z' = upA z kd (va_cpy (z.2.1 ks) (z.2.1 kd) (0 : Int32).toNatClampNeg (0 : Int32).toNatClampNeg (10 : Int32).toNatClampNeg)) (hy : y.toNatClampNeg = x.toNatClampNeg + 1) : BcT D S z0 z' y.toNatClampNeg := fun a b ha hb => by
  rw [hy]
  by_cases e : a = x.toNatClampNeg
  · have h1 : z'.2.1 (D + a) b = z.2.1 ks b := by
      rw [hz, show D + a = kd by omega, upA_e]
      exact cpy10 hb
    have h2 : z'.2.1 ks = z.2.1 ks := by
      rw [hz]
      exact upA_n (by omega)
    have h3 := hs a b ha hb
    have h4 : z'.2.1 (S + a) b = z0.2.1 (S + a) b := h3
    rw [h1, ← h2, hks, ← e, h4, if_pos (Nat.lt_succ_self a)]
  · have h1 : z'.2.1 (D + a) b = z.2.1 (D + a) b := by
      rw [hz, upA_n (by omega)]
    rw [h1, h a b ha hb]
    by_cases l : a < x.toNatClampNeg
    · rw [if_pos l, if_pos (show a < x.toNatClampNeg + 1 by omega)]
    · rw [if_neg l, if_neg (show ¬ a < x.toNatClampNeg + 1 by omega)]
theorem BcT_fin {D S : Nat} {z0 z z' : zS} {x : Nat} (h : BcT D S z0 z x) (hx : x = 3) (e : SameT (fun a b => z.2.1 (D + a) b) (fun a b => z'.2.1 (D + a) b)) : SameT (fun a b => z0.2.1 (S + a) b) (fun a b => z'.2.1 (D + a) b) := fun a b ha hb => by
  have h1 := e a b ha hb
  have h2 : z'.2.1 (D + a) b = z.2.1 (D + a) b := h1
  show z'.2.1 (D + a) b = z0.2.1 (S + a) b
  rw [h2, h a b ha hb, if_pos (by omega)]
def BkT (c : Int32) (f k g : Nat → Nat → Int32) : Prop := (c = 0 → SameT f g) ∧ (¬ c = 0 → SameT k g)
theorem BkT_eq {c : Int32} {f f' k k' g g' : Nat → Nat → Int32} (h : SameT f f') (hk : ¬ c = 0 → SameT k k') (a : BkT c f k g) (b : BkT c f' k' g') : SameT g g' := by
  by_cases q : c = 0
  · exact same_TT (a.1 q) (b.1 q) h
  · exact same_TT (a.2 q) (b.2 q) (hk q)
theorem kp_T {f g : Nat → Int32} (h : ∀ i, i < 30 → f (3 + i) = g i) : SameT (fun a b => g (3 * b + a)) (fun a b => f (3 + (3 * b + a))) := fun a b ha hb => h (3 * b + a) (by omega)
def Bb (x : Int32) (j : Nat) : Bool := x.toBitVec.getLsbD j
theorem iv_nJ {b : Int} {x : Int32} (h : iv 0 b x) : x = nI x.toNatClampNeg ∧ (x.toNatClampNeg : Int) = x.toInt := by
  have e := iv_nat h (by decide)
  have h2 := Int32.toInt_lt x
  exact ⟨iv_ofE (by omega) e.symm, e⟩
theorem one_bit : ∀ n, n < 10 → ∀ j, j < 32 → ((1 : Int32) <<< (nI n &&& 31)).toBitVec.getLsbD j = decide (j = n) := by decide +kernel
theorem m1_bit : ∀ j, j < 32 → ((-1) : Int32).toBitVec.getLsbD j = true := by decide +kernel
theorem Bb_one {b : Int32} (hb : iv 0 9 b) {j : Nat} (hj : j < 32) : Bb ((1 : Int32) <<< (b &&& 31)) j = decide (j = b.toNatClampNeg) := by
  obtain ⟨e1, e2⟩ := iv_nJ hb
  have hn : b.toNatClampNeg < 10 := by have := hb.2; omega
  generalize b.toNatClampNeg = n at *
  subst e1
  exact one_bit n hn j hj
theorem Bb_or (x y : Int32) (j : Nat) : Bb (x ||| y) j = (Bb x j || Bb y j) := by
  unfold Bb
  rw [Int32.toBitVec_or, BitVec.getLsbD_or]
theorem Bb_and (x y : Int32) (j : Nat) : Bb (x &&& y) j = (Bb x j && Bb y j) := by
  unfold Bb
  rw [Int32.toBitVec_and, BitVec.getLsbD_and]
theorem Bb_not (x : Int32) {j : Nat} (hj : j < 32) : Bb (x ^^^ (-1)) j = !(Bb x j) := by
  unfold Bb
  rw [Int32.toBitVec_xor, BitVec.getLsbD_xor, m1_bit j hj]
  cases x.toBitVec.getLsbD j <;> rfl
theorem Bb_0 (j : Nat) : Bb 0 j = false := by
  unfold Bb
  show (0#32).getLsbD j = false
  simp
theorem and_one {x b : Int32} (hb : iv 0 9 b) : (x &&& ((1 : Int32) <<< (b &&& 31)) = 0) ↔ Bb x b.toNatClampNeg = false := by
  have e2 := iv_nat hb (by decide)
  have hn : b.toNatClampNeg < 10 := by have := hb.2; omega
  constructor
  · intro h
    have h1 := congrArg (fun y => Bb y b.toNatClampNeg) h
    simp only [Bb_and, Bb_one hb (show b.toNatClampNeg < 32 by omega), Bb_0] at h1
    simpa using h1
  · intro h
    apply Int32.toBitVec_inj.mp
    apply BitVec.eq_of_getLsbD_eq
    intro i hi
    have h1 := Bb_and x ((1 : Int32) <<< (b &&& 31)) i
    rw [Bb_one hb hi] at h1
    have h2 : (0 : Int32).toBitVec.getLsbD i = false := Bb_0 i
    rw [h2]
    show Bb (x &&& ((1 : Int32) <<< (b &&& 31))) i = false
    rw [h1]
    by_cases e : i = b.toNatClampNeg
    · rw [e, h]
      rfl
    · rw [decide_eq_false e]
      cases Bb x i <;> rfl
def pairF (t p : Int32) (j : Nat) : Int32 := if Bb t j = true then 1 else if Bb p j = true then 2 else 0
theorem pf_1 {t p b : Int32} (hb : iv 0 9 b) (h : ¬ (t &&& ((1 : Int32) <<< (b &&& 31))) = 0) : (1 : Int32) = pairF t p b.toNatClampNeg := by
  rw [and_one hb] at h
  unfold pairF
  rw [if_pos (by simpa using h)]
theorem pf_2 {t p b : Int32} (hb : iv 0 9 b) (h : (t &&& ((1 : Int32) <<< (b &&& 31))) = 0) (h2 : ¬ (p &&& ((1 : Int32) <<< (b &&& 31))) = 0) : (2 : Int32) = pairF t p b.toNatClampNeg := by
  rw [and_one hb] at h h2
  unfold pairF
  rw [if_neg (by rw [h]; decide), if_pos (by simpa using h2)]
theorem pf_0 {t p b : Int32} (hb : iv 0 9 b) (h : (t &&& ((1 : Int32) <<< (b &&& 31))) = 0) (h2 : (p &&& ((1 : Int32) <<< (b &&& 31))) = 0) : (0 : Int32) = pairF t p b.toNatClampNeg := by
  rw [and_one hb] at h h2
  unfold pairF
  rw [if_neg (by rw [h]; decide), if_neg (by rw [h2]; decide)]
def MkQ (f : Nat → Int32) (a b : Int32) (q : Bool) (g : Nat → Int32) : Prop := ∀ x j : Nat, j < 10 → Bb (g x) j = if (x = a.toNatClampNeg ∧ j = b.toNatClampNeg) ∨ (x = b.toNatClampNeg ∧ j = a.toNatClampNeg) then q else Bb (f x) j
theorem mq_eq {f g : Nat → Int32} {a b : Int32} {q q' : Bool} (m : MkQ f a b q g) (h : q = q') : MkQ f a b q' g := h ▸ m
theorem mk_half {f g : Nat → Int32} {A : Nat} {b : Int32} {v : Int32} (hb : iv 0 9 b) (q : Bool) (hq : ∀ j, j < 10 → Bb v j = if j = b.toNatClampNeg then q else Bb (f A) j) (hg : g = upd f A v) : ∀ x j : Nat, j < 10 → Bb (g x) j = if x = A ∧ j = b.toNatClampNeg then q else Bb (f x) j := fun x j hj => by
  rw [hg]
  by_cases e : x = A
  · rw [e, pk_us, hq j hj]
    by_cases l : j = b.toNatClampNeg
    · rw [if_pos l, if_pos ⟨rfl, l⟩]
    · rw [if_neg l, if_neg (fun q => l q.2)]
  · rw [pk_un e, if_neg (fun q => e q.1)]
theorem on_bit {x b : Int32} (hb : iv 0 9 b) : ∀ j, j < 10 → Bb (x ||| ((1 : Int32) <<< (b &&& 31))) j = if j = b.toNatClampNeg then true else Bb x j := fun j hj => by
  rw [Bb_or, Bb_one hb (show j < 32 by omega)]
  by_cases l : j = b.toNatClampNeg
  · rw [if_pos l, decide_eq_true l]
    cases Bb x j <;> rfl
  · rw [if_neg l, decide_eq_false l]
    cases Bb x j <;> rfl
theorem off_bit {x b : Int32} (hb : iv 0 9 b) : ∀ j, j < 10 → Bb (x &&& (((1 : Int32) <<< (b &&& 31)) ^^^ (-1))) j = if j = b.toNatClampNeg then false else Bb x j := fun j hj => by
  rw [Bb_and, Bb_not _ (show j < 32 by omega), Bb_one hb (show j < 32 by omega)]
  by_cases l : j = b.toNatClampNeg
  · rw [if_pos l, decide_eq_true l]
    cases Bb x j <;> rfl
  · rw [if_neg l, decide_eq_false l]
    cases Bb x j <;> rfl
theorem mk_two {f f1 g : Nat → Int32} {a b v w : Int32} (ha : iv 0 9 a) (hb : iv 0 9 b) (q : Bool) (h1 : f1 = upd f a.toNatClampNeg v) (h2 : g = upd f1 b.toNatClampNeg w) (hv : ∀ j, j < 10 → Bb v j = if j = b.toNatClampNeg then q else Bb (f a.toNatClampNeg) j) (hw : ∀ j, j < 10 → Bb w j = if j = a.toNatClampNeg then q else Bb (f1 b.toNatClampNeg) j) : MkQ f a b q g := fun x j hj => by
  rw [mk_half ha q hw h2 x j hj, mk_half hb q hv h1 x j hj]
  by_cases l1 : x = b.toNatClampNeg ∧ j = a.toNatClampNeg
  · rw [if_pos l1, if_pos (Or.inr l1)]
  · rw [if_neg l1]
    by_cases l2 : x = a.toNatClampNeg ∧ j = b.toNatClampNeg
    · rw [if_pos l2, if_pos (Or.inl l2)]
    · rw [if_neg l2, if_neg (fun q => q.elim l2 l1)]
def SameP (g g' : Nat → Nat → Int32) : Prop := ∀ a b : Nat, a < 10 → b < 10 → g' a b = g a b
def SetP (g : Nat → Nat → Int32) (A B : Nat) (h : Int32) (g' : Nat → Nat → Int32) : Prop := ∀ x y : Nat, x < 10 → y < 10 → g' x y = if (x = A ∧ y = B) ∨ (x = B ∧ y = A) then h else g x y
def ZeroP (c : Int32) (g : Nat → Nat → Int32) : Prop := ∀ x y : Nat, x < 10 → y < 10 → (c.toInt ≤ (x : Int) ∨ c.toInt ≤ (y : Int)) → g x y = 0
def PairP (c : Int32) (g : Nat → Nat → Int32) (a b h v : Int32) (g' : Nat → Nat → Int32) : Prop := (((0 ≤ a.toInt ∧ a.toInt < c.toInt) ∧ (0 ≤ b.toInt ∧ b.toInt < c.toInt) ∧ ¬ a = b ∧ iv 0 2 h) → v = g a.toNatClampNeg b.toNatClampNeg ∧ SetP g a.toNatClampNeg b.toNatClampNeg h g') ∧ (¬ ((0 ≤ a.toInt ∧ a.toInt < c.toInt) ∧ (0 ≤ b.toInt ∧ b.toInt < c.toInt) ∧ ¬ a = b ∧ iv 0 2 h) → v = -2 ∧ SameP g g')
theorem same_PP {g h g' h' : Nat → Nat → Int32} (x : SameP g g') (y : SameP h h') (r : SameP g h) : SameP g' h' := fun a b ha hb => by rw [x a b ha hb, y a b ha hb]; exact r a b ha hb
theorem PairP_eq {c : Int32} {g h g' h' : Nat → Nat → Int32} {a b k v w : Int32} (hc : iv 0 10 c) (r : SameP g h) (z : ZeroP c g) (p : PairP c g a b k v g') (q : PairP c h a b k w h') : v = w ∧ SameP g' h' ∧ ZeroP c g' := by
  by_cases d : (0 ≤ a.toInt ∧ a.toInt < c.toInt) ∧ (0 ≤ b.toInt ∧ b.toInt < c.toInt) ∧ ¬ a = b ∧ iv 0 2 k
  · have P := p.1 d
    have Q := q.1 d
    have c2 := hc.2
    have d1 := d.1
    have d2 := d.2.1
    have n1 := iv_nat (a := 0) (b := 9) (x := a) ⟨d1.1, by omega⟩ (by decide)
    have n2 := iv_nat (a := 0) (b := 9) (x := b) ⟨d2.1, by omega⟩ (by decide)
    refine ⟨P.1.trans ((r _ _ (by omega) (by omega)).symm.trans Q.1.symm), fun x y hx hy => ?_, fun x y hx hy hz => ?_⟩
    · rw [P.2 x y hx hy, Q.2 x y hx hy, r x y hx hy]
    · rw [P.2 x y hx hy, if_neg (by omega)]
      exact z x y hx hy hz
  · exact ⟨(p.2 d).1.trans (q.2 d).1.symm, same_PP (p.2 d).2 (q.2 d).2 r, fun x y hx hy hz => ((p.2 d).2 x y hx hy).trans (z x y hx hy hz)⟩
theorem pu_set {z0 z : zS} {a b h : Int32} (h10 : MkQ (z0.2.1 10) a b (decide (h = 1)) (z.2.1 10)) (h11 : MkQ (z0.2.1 11) a b (decide (h = 2)) (z.2.1 11)) (hh : iv 0 2 h) : SetP (fun x y => pairF (z0.2.1 10 x) (z0.2.1 11 x) y) a.toNatClampNeg b.toNatClampNeg h (fun x y => pairF (z.2.1 10 x) (z.2.1 11 x) y) := fun x y _ hy => by
  show pairF (z.2.1 10 x) (z.2.1 11 x) y = if (x = a.toNatClampNeg ∧ y = b.toNatClampNeg) ∨ (x = b.toNatClampNeg ∧ y = a.toNatClampNeg) then h else pairF (z0.2.1 10 x) (z0.2.1 11 x) y
  unfold pairF
  rw [h10 x y hy, h11 x y hy]
  by_cases l : (x = a.toNatClampNeg ∧ y = b.toNatClampNeg) ∨ (x = b.toNatClampNeg ∧ y = a.toNatClampNeg)
  · rw [if_pos l, if_pos l, if_pos l]
    have e0 : (0 : Int32).toInt = 0 := by decide
    have e1 : (1 : Int32).toInt = 1 := by decide
    have e2 : (2 : Int32).toInt = 2 := by decide
    have q1 := hh.1
    have q2 := hh.2
    by_cases k1 : h = 1
    · rw [if_pos (decide_eq_true k1), k1]
    · rw [if_neg (by rw [decide_eq_false k1]; decide)]
      by_cases k2 : h = 2
      · rw [if_pos (decide_eq_true k2), k2]
      · rw [if_neg (by rw [decide_eq_false k2]; decide)]
        have k1' := iv_nEq k1
        have k2' := iv_nEq k2
        exact Int32.toInt_inj.mp (by omega)
  · rw [if_neg l, if_neg l, if_neg l]
theorem ix10 {a b : Int32} (ha : iv 0 9 a) (hb : iv 0 9 b) : ((10 : Int32) * a + b).toNatClampNeg = 10 * a.toNatClampNeg + b.toNatClampNeg := by
  have m1 : iv 0 90 ((10 : Int32) * a) := iv_mul (iv_lit (n := 10) 10 (by decide)) ha (by decide) (by decide) (by decide) (by decide) (by decide)
  have m2 := iv_mulE (iv_lit (n := 10) 10 (by decide)) ha (by decide) (by decide) (by decide)
  have a1 : iv 0 99 ((10 : Int32) * a + b) := iv_add m1 hb (by decide) (by decide) (by decide) (by decide)
  have a2 := iv_addE m1 hb (by decide) (by decide)
  exact ix_key _ _ _ _ _ _ _ _ 10 (by decide) (iv_nat a1 (by decide)) a2 m2 (iv_nat ha (by decide)) (iv_nat hb (by decide))
theorem pm_set {f f1 g : Nat → Int32} {A B I J : Nat} {h : Int32} (hA : A < 10) (hB : B < 10) (hI : I = 10 * A + B) (hJ : J = 10 * B + A) (h1 : f1 = upd f I h) (h2 : g = upd f1 J h) : SetP (fun x y => f (10 * x + y)) A B h (fun x y => g (10 * x + y)) := fun x y hx hy => by
  show g (10 * x + y) = if (x = A ∧ y = B) ∨ (x = B ∧ y = A) then h else f (10 * x + y)
  rw [h2, h1]
  by_cases e : 10 * x + y = J
  · rw [e, pk_us, if_pos (Or.inr ⟨by omega, by omega⟩)]
  · rw [pk_un e]
    by_cases e2 : 10 * x + y = I
    · rw [e2, pk_us, if_pos (Or.inl ⟨by omega, by omega⟩)]
    · rw [pk_un e2, if_neg (by omega)]
def PRd (f0 f : Nat → Int32) (T k : Nat) : Prop := ∀ x y : Nat, x < 10 → y < 10 → f (10 * x + y) = if (x = T ∧ y < k) ∨ (y = T ∧ x < k) then 0 else f0 (10 * x + y)
theorem PRd_0 {f : Nat → Int32} {T : Nat} : PRd f f T (0 : Int32).toNatClampNeg := fun x y _ _ => by
  rw [show (0 : Int32).toNatClampNeg = 0 by decide, if_neg (by omega)]
theorem PRd_st {f0 f f1 g : Nat → Int32} {T I J : Nat} {x y t : Int32} (h : PRd f0 f T x.toNatClampNeg) (hT : t.toNatClampNeg = T) (hT9 : T < 10) (hx : x.toNatClampNeg < 10) (hI : I = 10 * t.toNatClampNeg + x.toNatClampNeg) (hJ : J = 10 * x.toNatClampNeg + t.toNatClampNeg) (h1 : f1 = upd f I 0) (h2 : g = upd f1 J 0) (hy : y.toNatClampNeg = x.toNatClampNeg + 1) : PRd f0 g T y.toNatClampNeg := fun a b ha hb => by
  rw [hy, h2, h1]
  by_cases e : 10 * a + b = J
  · rw [e, pk_us, if_pos (Or.inr ⟨by omega, by omega⟩)]
  · rw [pk_un e]
    by_cases e2 : 10 * a + b = I
    · rw [e2, pk_us, if_pos (Or.inl ⟨by omega, by omega⟩)]
    · rw [pk_un e2, h a b ha hb]
      by_cases l : (a = T ∧ b < x.toNatClampNeg) ∨ (b = T ∧ a < x.toNatClampNeg)
      · rw [if_pos l, if_pos (by omega)]
      · rw [if_neg l, if_neg (by omega)]
def TkM (c : Int32) (g g' : Nat → Nat → Int32) : Prop := (c = 10 → SameP g g') ∧ (¬ c = 10 → ∀ x y : Nat, x < 10 → y < 10 → g' x y = if x = c.toNatClampNeg ∨ y = c.toNatClampNeg then 0 else g x y)
theorem TkM_m {z0 z : zS} {c : Int32} {k : Nat} (h : PRd (z0.2.1 4) (z.2.1 4) c.toNatClampNeg k) (hk : k = 10) (hc : ¬ c = 10) : TkM c (fun x y => z0.2.1 4 (10 * x + y)) (fun x y => z.2.1 4 (10 * x + y)) := ⟨fun q => absurd q hc, fun _ x y hx hy => by
  show z.2.1 4 (10 * x + y) = if x = c.toNatClampNeg ∨ y = c.toNatClampNeg then 0 else z0.2.1 4 (10 * x + y)
  rw [h x y hx hy]
  by_cases l : x = c.toNatClampNeg ∨ y = c.toNatClampNeg
  · rw [if_pos l, if_pos (by omega)]
  · rw [if_neg l, if_neg (by omega)]⟩
theorem pair_00 (y : Nat) : pairF 0 0 y = 0 := by
  unfold pairF
  rw [Bb_0]
  rfl
theorem task_P {c c' v : Int32} {f10 f11 g10 g11 : Nat → Int32} {h h' : Nat → Nat → Int32} (hc : iv 0 10 c) (t10 : TkR c f10 g10) (t11 : TkR c f11 g11) (tm : TkM c h h') (tp : TaskP c v c') (r : SameP (fun x y => pairF (f10 x) (f11 x) y) h) (z : ZeroP c (fun x y => pairF (f10 x) (f11 x) y)) : SameP (fun x y => pairF (g10 x) (g11 x) y) h' ∧ ZeroP c' (fun x y => pairF (g10 x) (g11 x) y) := by
  by_cases q : c = 10
  · rw [t10.1 q, t11.1 q, (tp.1 q).2]
    exact ⟨fun a b ha hb => (tm.1 q a b ha hb).trans (r a b ha hb), z⟩
  · have n := iv_nat hc (by decide)
    have e1 : (1 : Int32).toInt = 1 := by decide
    have c1 := iv_addE hc (iv_lit (n := 1) 1 (by decide)) (by decide) (by decide)
    rw [t10.2 q, t11.2 q, (tp.2 q).2]
    have key : ∀ x y : Nat, x < 10 → y < 10 → pairF (upd f10 c.toNatClampNeg 0 x) (upd f11 c.toNatClampNeg 0 x) y = if x = c.toNatClampNeg ∨ y = c.toNatClampNeg then 0 else pairF (f10 x) (f11 x) y := fun x y hx hy => by
      by_cases e : x = c.toNatClampNeg
      · rw [if_pos (Or.inl e), e, pk_us, pk_us]
        exact pair_00 y
      · rw [pk_un e, pk_un e]
        by_cases e2 : y = c.toNatClampNeg
        · rw [if_pos (Or.inr e2)]
          exact z x y hx hy (Or.inr (by omega))
        · rw [if_neg (fun l => l.elim e e2)]
    refine ⟨fun x y hx hy => ?_, fun x y hx hy hz => ?_⟩
    · show h' x y = pairF (upd f10 c.toNatClampNeg 0 x) (upd f11 c.toNatClampNeg 0 x) y
      rw [tm.2 q x y hx hy, key x y hx hy, r x y hx hy]
    · show pairF (upd f10 c.toNatClampNeg 0 x) (upd f11 c.toNatClampNeg 0 x) y = 0
      rw [key x y hx hy]
      by_cases l : x = c.toNatClampNeg ∨ y = c.toNatClampNeg
      · rw [if_pos l]
      · rw [if_neg l]
        exact z x y hx hy (by omega)
theorem kp_P {f g : Nat → Int32} (h : ∀ i, i < 100 → f (46 + i) = g i) : SameP (fun x y => g (10 * x + y)) (fun x y => f (46 + (10 * x + y))) := fun a b ha hb => h (10 * a + b) (by omega)
theorem sp_sy {f g : Nat → Nat → Int32} (x : SameP f g) : SameP g f := fun a b ha hb => (x a b ha hb).symm
theorem sp_m {z z' : zS} (h : z'.2.1 4 = z.2.1 4) : SameP (fun x y => z.2.1 4 (10 * x + y)) (fun x y => z'.2.1 4 (10 * x + y)) := fun a b _ _ => congrFun h (10 * a + b)
theorem sp_c {f10 f11 g10 g11 : Nat → Int32} (h10 : ∀ i : Nat, i < 10 → g10 i = f10 i) (h11 : ∀ i : Nat, i < 10 → g11 i = f11 i) : SameP (fun x y => pairF (f10 x) (f11 x) y) (fun x y => pairF (g10 x) (g11 x) y) := fun a b ha _ => by
  show pairF (g10 a) (g11 a) b = pairF (f10 a) (f11 a) b
  rw [h10 a ha, h11 a ha]
theorem zp_c {c c' : Int32} {g g' : Nat → Nat → Int32} (z : ZeroP c g) (s : SameP g g') (h : c' = c) : ZeroP c' g' := fun x y hx hy hz => (s x y hx hy).trans (z x y hx hy (h ▸ hz))
def BkM (c : Int32) (f k g : Nat → Nat → Int32) : Prop := (c = 0 → SameP f g) ∧ (¬ c = 0 → SameP k g)
theorem back_P {c n n' k : Int32} {f10 f11 k10 k11 g10 g11 : Nat → Int32} {h hk h' : Nat → Nat → Int32} (b10 : BkR c f10 k10 g10) (b11 : BkR c f11 k11 g11) (bm : BkM c h hk h') (e0 : c = 0 → n' = n) (e1 : ¬ c = 0 → n' = k) (r : SameP (fun x y => pairF (f10 x) (f11 x) y) h) (z : ZeroP n (fun x y => pairF (f10 x) (f11 x) y)) (rk : ¬ c = 0 → SameP (fun x y => pairF (k10 x) (k11 x) y) hk ∧ ZeroP k (fun x y => pairF (k10 x) (k11 x) y)) : SameP (fun x y => pairF (g10 x) (g11 x) y) h' ∧ ZeroP n' (fun x y => pairF (g10 x) (g11 x) y) := by
  by_cases q : c = 0
  · rw [b10.1 q, b11.1 q]
    exact ⟨fun a b ha hb => (bm.1 q a b ha hb).trans (r a b ha hb), (e0 q) ▸ z⟩
  · have s := sp_c (b10.2 q) (b11.2 q)
    exact ⟨same_PP s (bm.2 q) (rk q).1, zp_c (rk q).2 s (e1 q)⟩
def one32 (b : Int32) : Int32 := (1 : Int32) <<< (b &&& 31)
theorem bit_ne {x b : Int32} (hb : iv 0 9 b) (h : ¬ (x &&& ((1 : Int32) <<< (b &&& 31))) = 0) : bitN x b.toNatClampNeg := Classical.byContradiction (fun n => h ((and_one hb).mpr (by
  have n' : ¬ Bb x b.toNatClampNeg = true := n
  simpa using n')))
theorem bit_eq {x b : Int32} (hb : iv 0 9 b) (h : (x &&& ((1 : Int32) <<< (b &&& 31))) = 0) : ¬ bitN x b.toNatClampNeg := fun n => by
  have n' : Bb x b.toNatClampNeg = true := n
  rw [(and_one hb).mp h] at n'
  exact absurd n' (by decide)
theorem or_same {x b : Int32} (hb : iv 0 9 b) (h : bitN x b.toNatClampNeg) : x ||| ((1 : Int32) <<< (b &&& 31)) = x := by
  apply Int32.toBitVec_inj.mp
  apply BitVec.eq_of_getLsbD_eq
  intro i hi
  show Bb (x ||| ((1 : Int32) <<< (b &&& 31))) i = Bb x i
  rw [Bb_or, Bb_one hb hi]
  by_cases e : i = b.toNatClampNeg
  · have h' : Bb x b.toNatClampNeg = true := h
    rw [e, h']
    rfl
  · rw [decide_eq_false e]
    cases Bb x i <;> rfl
theorem and_same {x b : Int32} (hb : iv 0 9 b) (h : ¬ bitN x b.toNatClampNeg) : x &&& (((1 : Int32) <<< (b &&& 31)) ^^^ (-1)) = x := by
  apply Int32.toBitVec_inj.mp
  apply BitVec.eq_of_getLsbD_eq
  intro i hi
  show Bb (x &&& (((1 : Int32) <<< (b &&& 31)) ^^^ (-1))) i = Bb x i
  rw [Bb_and, Bb_not _ hi, Bb_one hb hi]
  by_cases e : i = b.toNatClampNeg
  · have h' : ¬ Bb x b.toNatClampNeg = true := h
    have h2 : Bb x b.toNatClampNeg = false := by simpa using h'
    rw [e, h2]
    rfl
  · rw [decide_eq_false e]
    cases Bb x i <;> rfl
theorem upd_same {f : Nat → Int32} {k : Nat} {v : Int32} (h : v = f k) : upd f k v = f := funext (fun i => by
  by_cases e : i = k
  · rw [e, pk_us, h]
  · rw [pk_un e])
theorem Rch_tr {f : Nat → Int32} {n t m x : Nat} (h : Rch f n t m) (hm : m < n) (g : Rch f n m x) : Rch f n t x := fun S h1 h2 => g S (fun y hy => h2 m y (h S h1 h2) hm hy) h2
def Wr (f : Nat → Int32) (n m : Nat) (L : Nat → Int32) : Prop := (∀ t, t < n → ∀ x, x < 32 → bitN (L t) x → Rch f n t x) ∧ (∀ t, t < n → ∀ x, bitN (f t) x → bitN (L t) x) ∧ (∀ t k x, t < n → k < m → k < n → bitN (L t) k → bitN (L k) x → bitN (L t) x)
def Sw (L0 L : Nat → Int32) (n m T : Nat) : Prop := ∀ t, t < n → ∀ x, (bitN (L t) x ↔ bitN (L0 t) x ∨ (t < T ∧ bitN (L0 t) m ∧ bitN (L0 m) x))
def LdI (f : Nat → Int32) (n : Nat) (L : Nat → Int32) : Prop := ∀ t, t < n → ∀ x, x < 32 → (bitN (L t) x ↔ Rch f n t x)
theorem Wr_0 {f L : Nat → Int32} {n : Nat} (h : ∀ t : Nat, t < n → L t = f t) : Wr f n (0 : Int32).toNatClampNeg L := by
  rw [show (0 : Int32).toNatClampNeg = 0 by decide]
  refine ⟨fun t ht x _ hb => ?_, fun t ht x hb => ?_, fun t k x _ hk => absurd hk (Nat.not_lt_zero k)⟩
  · rw [h t ht] at hb
    exact Rch_one hb
  · rw [h t ht]
    exact hb
theorem Sw_0 {L : Nat → Int32} {n m : Nat} : Sw L L n m (0 : Int32).toNatClampNeg := by
  rw [show (0 : Int32).toNatClampNeg = 0 by decide]
  exact fun t _ x => ⟨fun h => Or.inl h, fun h => h.elim id (fun q => absurd q.1 (Nat.not_lt_zero t))⟩
theorem Sw_no {L0 L : Nat → Int32} {n m : Nat} {x y : Int32} (h : Sw L0 L n m x.toNatClampNeg) (hT : x.toNatClampNeg < n) (hb : ¬ bitN (L x.toNatClampNeg) m) (hy : y.toNatClampNeg = x.toNatClampNeg + 1) : Sw L0 L n m y.toNatClampNeg := fun t ht z => by
  rw [hy, h t ht z]
  constructor
  · rintro (q | q)
    · exact Or.inl q
    · exact Or.inr ⟨by have := q.1; omega, q.2⟩
  · rintro (q | q)
    · exact Or.inl q
    · by_cases e : t = x.toNatClampNeg
      · exact absurd ((h _ hT m).mpr (Or.inl (e ▸ q.2.1))) hb
      · exact Or.inr ⟨by have := q.1; omega, q.2⟩
theorem Sw_yes {L0 L : Nat → Int32} {n m : Nat} {x y : Int32} (h : Sw L0 L n m x.toNatClampNeg) (hT : x.toNatClampNeg < n) (hm : m < n) (hb : bitN (L x.toNatClampNeg) m) (hy : y.toNatClampNeg = x.toNatClampNeg + 1) : Sw L0 (upd L x.toNatClampNeg (L x.toNatClampNeg ||| L m)) n m y.toNatClampNeg := fun t ht z => by
  rw [hy]
  by_cases e : t = x.toNatClampNeg
  · rw [e, pk_us, bitN_or, h _ hT z, h _ hm z]
    have hb' := (h _ hT m).mp hb
    constructor
    · rintro ((q | q) | (q | q))
      · exact Or.inl q
      · exact absurd q.1 (Nat.lt_irrefl _)
      · rcases hb' with r | r
        · exact Or.inr ⟨Nat.lt_succ_self _, r, q⟩
        · exact absurd r.1 (Nat.lt_irrefl _)
      · rcases hb' with r | r
        · exact Or.inr ⟨Nat.lt_succ_self _, r, q.2.2⟩
        · exact absurd r.1 (Nat.lt_irrefl _)
    · rintro (q | q)
      · exact Or.inl (Or.inl q)
      · exact Or.inr (Or.inl q.2.2)
  · rw [pk_un e, h t ht z]
    constructor
    · rintro (q | q)
      · exact Or.inl q
      · exact Or.inr ⟨by have := q.1; omega, q.2⟩
    · rintro (q | q)
      · exact Or.inl q
      · exact Or.inr ⟨by have := q.1; omega, q.2⟩
theorem Wr_next {f L0 L : Nat → Int32} {n m : Nat} (hn : n ≤ 32) (h : Wr f n m L0) (s : Sw L0 L n m n) (hm : m < n) : Wr f n (m + 1) L := by
  obtain ⟨h1, h2, h3⟩ := h
  refine ⟨fun t ht x hx hb => ?_, fun t ht x hb => (s t ht x).mpr (Or.inl (h2 t ht x hb)), fun t k x ht hk hkn hb hc => ?_⟩
  · rcases (s t ht x).mp hb with q | q
    · exact h1 t ht x hx q
    · exact Rch_tr (h1 t ht m (by omega) q.2.1) hm (h1 m hm x hx q.2.2)
  · apply (s t ht x).mpr
    have B := (s t ht k).mp hb
    have C := (s k hkn x).mp hc
    by_cases e : k = m
    · rw [e] at B C
      have b : bitN (L0 t) m := B.elim id (fun q => q.2.1)
      have c : bitN (L0 m) x := C.elim id (fun q => q.2.2)
      exact Or.inr ⟨ht, b, c⟩
    · have hk' : k < m := by omega
      rcases B with b | b
      · rcases C with c | c
        · exact Or.inl (h3 t k x ht hk' hkn b c)
        · exact Or.inr ⟨ht, h3 t k m ht hk' hkn b c.2.1, c.2.2⟩
      · rcases C with c | c
        · exact Or.inr ⟨ht, b.2.1, h3 m k x hm hk' hkn b.2.2 c⟩
        · exact Or.inr ⟨ht, b.2.1, c.2.2⟩
theorem Wr_end {f L : Nat → Int32} {n : Nat} (h : Wr f n n L) : LdI f n L := fun t ht x hx => ⟨h.1 t ht x hx, fun r => r (fun y => bitN (L t) y) (fun y hy => h.2.1 t ht y hy) (fun k y hk hkn hb => h.2.2 t k y ht hkn hkn hk (h.2.1 k hkn y hb))⟩
theorem Rch_cg {f g : Nat → Int32} {n a x : Nat} (ha : a < n) (h : ∀ i : Nat, i < n → g i = f i) (r : Rch f n a x) : Rch g n a x := fun S h1 h2 => r S (fun y hy => h1 y (by rw [h a ha]; exact hy)) (fun k y hk hkn hb => h2 k y hk hkn (by rw [h k hkn]; exact hb))
theorem LdI_cg {f g L M : Nat → Int32} {n : Nat} (hn : n ≤ 10) (h : ∀ i : Nat, i < 10 → g i = f i) (k : ∀ i : Nat, i < 10 → M i = L i) (l : LdI f n L) : LdI g n M := fun t ht x hx => by
  rw [k t (by omega), l t ht x hx]
  exact ⟨Rch_cg ht (fun i hi => h i (by omega)), Rch_cg ht (fun i hi => (h i (by omega)).symm)⟩
theorem LdI_task {c c' v : Int32} {f g L M : Nat → Int32} (hc : iv 0 10 c) (t7 : TkR c f g) (t8 : TkR c L M) (tp : TaskP c v c') (l : LdI f c.toNatClampNeg L) : LdI g c'.toNatClampNeg M := by
  by_cases q : c = 10
  · rw [t7.1 q, t8.1 q, (tp.1 q).2]
    exact l
  · have e1 : (1 : Int32).toInt = 1 := by decide
    have n1 := iv_nat hc (by decide)
    have c1 := iv_addE hc (iv_lit (n := 1) 1 (by decide)) (by decide) (by decide)
    have n2 := iv_nat (iv_add (e := 1) (f := 11) hc (iv_lit (n := 1) 1 (by decide)) (by decide) (by decide) (by decide) (by decide)) (by decide)
    have e2 : (c + 1).toNatClampNeg = c.toNatClampNeg + 1 := by omega
    rw [t7.2 q, t8.2 q, (tp.2 q).2, e2]
    generalize c.toNatClampNeg = n at *
    intro t ht x hx
    by_cases e : t = n
    · rw [e, pk_us]
      refine ⟨fun b => absurd b (bitN_0 x), fun r => (r (fun _ => False) (fun y hy => ?_) (fun _ _ h _ _ => h)).elim⟩
      rw [pk_us] at hy
      exact bitN_0 y hy
    · rw [pk_un e, l t (by omega) x hx]
      constructor
      · exact fun r S h1 h2 => r S (fun y hy => h1 y (by rw [pk_un e]; exact hy)) (fun k y hk hkn hb => h2 k y hk (by omega) (by rw [pk_un (by omega)]; exact hb))
      · exact fun r S h1 h2 => r S (fun y hy => h1 y (by rw [pk_un e] at hy; exact hy)) (fun k y hk hkn hb => by
          by_cases ek : k = n
          · rw [ek, pk_us] at hb
            exact absurd hb (bitN_0 y)
          · rw [pk_un ek] at hb
            exact h2 k y hk (by omega) hb)
def LkP (f : Nat → Int32) (a b v : Int32) (g : Nat → Int32) : Prop := (bitN (f b.toNatClampNeg) a.toNatClampNeg → v = 0 ∧ g = f) ∧ (¬ bitN (f b.toNatClampNeg) a.toNatClampNeg → v = 1 ∧ g = upd f b.toNatClampNeg (f b.toNatClampNeg ||| ((1 : Int32) <<< (a &&& 31))))
def UlP (f : Nat → Int32) (a b v : Int32) (g : Nat → Int32) : Prop := (bitN (f b.toNatClampNeg) a.toNatClampNeg → v = 1 ∧ g = upd f b.toNatClampNeg (f b.toNatClampNeg &&& (((1 : Int32) <<< (a &&& 31)) ^^^ (-1)))) ∧ (¬ bitN (f b.toNatClampNeg) a.toNatClampNeg → v = 0 ∧ g = f)
def AhP (c : Int32) (f : Nat → Int32) (D : Prop) (a b v : Int32) (g : Nat → Int32) : Prop := (¬ ((0 ≤ a.toInt ∧ a.toInt < c.toInt) ∧ (0 ≤ b.toInt ∧ b.toInt < c.toInt)) → v = -2 ∧ g = f) ∧ (((0 ≤ a.toInt ∧ a.toInt < c.toInt) ∧ (0 ≤ b.toInt ∧ b.toInt < c.toInt)) → ((a = b ∨ D) → v = -3 ∧ g = f) ∧ (¬ (a = b ∨ D) → LkP f a b v g))
def FrP (c : Int32) (f : Nat → Int32) (a b v : Int32) (g : Nat → Int32) : Prop := (¬ ((0 ≤ a.toInt ∧ a.toInt < c.toInt) ∧ (0 ≤ b.toInt ∧ b.toInt < c.toInt)) → v = -2 ∧ g = f) ∧ (((0 ≤ a.toInt ∧ a.toInt < c.toInt) ∧ (0 ≤ b.toInt ∧ b.toInt < c.toInt)) → UlP f a b v g)
theorem LkP_eq {f f' g g' : Nat → Int32} {a b v w : Int32} (hb : b.toNatClampNeg < 10) (h : ∀ i : Nat, i < 10 → f i = f' i) (p : LkP f a b v g) (q : LkP f' a b w g') : v = w ∧ ∀ i : Nat, i < 10 → g i = g' i := by
  have e := h _ hb
  by_cases d : bitN (f b.toNatClampNeg) a.toNatClampNeg
  · have d' := d
    rw [e] at d'
    rw [(p.1 d).1, (q.1 d').1, (p.1 d).2, (q.1 d').2]
    exact ⟨rfl, h⟩
  · have d' := d
    rw [e] at d'
    rw [(p.2 d).1, (q.2 d').1, (p.2 d).2, (q.2 d').2, e]
    exact ⟨rfl, upd_r h _ _⟩
theorem UlP_eq {f f' g g' : Nat → Int32} {a b v w : Int32} (hb : b.toNatClampNeg < 10) (h : ∀ i : Nat, i < 10 → f i = f' i) (p : UlP f a b v g) (q : UlP f' a b w g') : v = w ∧ ∀ i : Nat, i < 10 → g i = g' i := by
  have e := h _ hb
  by_cases d : bitN (f b.toNatClampNeg) a.toNatClampNeg
  · have d' := d
    rw [e] at d'
    rw [(p.1 d).1, (q.1 d').1, (p.1 d).2, (q.1 d').2, e]
    exact ⟨rfl, upd_r h _ _⟩
  · have d' := d
    rw [e] at d'
    rw [(p.2 d).1, (q.2 d').1, (p.2 d).2, (q.2 d').2]
    exact ⟨rfl, h⟩
theorem b10 {b c : Int32} (hc : iv 0 10 c) (h : 0 ≤ b.toInt ∧ b.toInt < c.toInt) : b.toNatClampNeg < 10 := by
  have h1 := hc.2
  have h2 := h.2
  have n := iv_nat (a := 0) (b := 9) (x := b) ⟨h.1, by omega⟩ (by decide)
  omega
theorem bn {b c : Int32} (hc : iv 0 10 c) (h : 0 ≤ b.toInt ∧ b.toInt < c.toInt) : b.toNatClampNeg < c.toNatClampNeg := by
  have h1 := hc.2
  have h2 := h.2
  have n := iv_nat (a := 0) (b := 9) (x := b) ⟨h.1, by omega⟩ (by decide)
  have n2 := iv_nat hc (by decide)
  omega
theorem AhP_eq {c : Int32} {f f' g g' L : Nat → Int32} {a b v w : Int32} (hc : iv 0 10 c) (h : ∀ i : Nat, i < 10 → f i = f' i) (l : LdI f c.toNatClampNeg L) (p : AhP c f (bitN (L a.toNatClampNeg) b.toNatClampNeg) a b v g) (q : AhP c f' (Rch f' c.toNatClampNeg a.toNatClampNeg b.toNatClampNeg) a b w g') : v = w ∧ ∀ i : Nat, i < 10 → g i = g' i := by
  by_cases d : (0 ≤ a.toInt ∧ a.toInt < c.toInt) ∧ (0 ≤ b.toInt ∧ b.toInt < c.toInt)
  · have P := p.2 d
    have Q := q.2 d
    have n10 : c.toNatClampNeg ≤ 10 := by have := iv_nat hc (by decide); have := hc.2; omega
    have hb := b10 hc d.2
    have hD : (a = b ∨ bitN (L a.toNatClampNeg) b.toNatClampNeg) ↔ (a = b ∨ Rch f' c.toNatClampNeg a.toNatClampNeg b.toNatClampNeg) := by
      rw [l _ (bn hc d.1) _ (by omega)]
      constructor
      · rintro (r | r)
        · exact Or.inl r
        · exact Or.inr (Rch_cg (bn hc d.1) (fun i hi => (h i (by omega)).symm) r)
      · rintro (r | r)
        · exact Or.inl r
        · exact Or.inr (Rch_cg (bn hc d.1) (fun i hi => h i (by omega)) r)
    by_cases k : a = b ∨ bitN (L a.toNatClampNeg) b.toNatClampNeg
    · rw [(P.1 k).1, (Q.1 (hD.mp k)).1, (P.1 k).2, (Q.1 (hD.mp k)).2]
      exact ⟨rfl, h⟩
    · exact LkP_eq hb h (P.2 k) (Q.2 (fun o => k (hD.mpr o)))
  · rw [(p.1 d).1, (q.1 d).1, (p.1 d).2, (q.1 d).2]
    exact ⟨rfl, h⟩
theorem FrP_eq {c : Int32} {f f' g g' : Nat → Int32} {a b v w : Int32} (hc : iv 0 10 c) (h : ∀ i : Nat, i < 10 → f i = f' i) (p : FrP c f a b v g) (q : FrP c f' a b w g') : v = w ∧ ∀ i : Nat, i < 10 → g i = g' i := by
  by_cases d : (0 ≤ a.toInt ∧ a.toInt < c.toInt) ∧ (0 ≤ b.toInt ∧ b.toInt < c.toInt)
  · exact UlP_eq (b10 hc d.2) h (p.2 d) (q.2 d)
  · rw [(p.1 d).1, (q.1 d).1, (p.1 d).2, (q.1 d).2]
    exact ⟨rfl, h⟩
def ClS (f : Nat → Int32) (n a : Nat) (p s : Int32) : Prop := (∀ y, bitN (f a) y → bitN s y) ∧ (∀ k, k < n → bitN p k → ∀ y, bitN (f k) y → bitN s y)
theorem cs_0 {f : Nat → Int32} {n a : Nat} : ClS f n a 0 (f a) := ⟨fun _ q => q, fun k _ q => absurd q (bitN_0 k)⟩
theorem cs_1 {f : Nat → Int32} {n a : Nat} {p s : Int32} (h : ClS f n a p s) : ClS f (0 : Int32).toNatClampNeg a s s := ⟨h.1, fun k hk => by
  rw [show (0 : Int32).toNatClampNeg = 0 by decide] at hk
  exact absurd hk (Nat.not_lt_zero k)⟩
theorem cs_or {f : Nat → Int32} {n a : Nat} {p s v : Int32} (h : ClS f n a p s) : ClS f n a p (s ||| v) := ⟨fun y q => (bitN_or s v y).mpr (Or.inl (h.1 y q)), fun k hk q y r => (bitN_or s v y).mpr (Or.inl (h.2 k hk q y r))⟩
theorem cs_no {f : Nat → Int32} {a : Nat} {p s w x y : Int32} (h : ClS f x.toNatClampNeg a p s) (hs : subB p s) (hx : iv 0 9 x) (hw : w = inB s x) (h0 : w = 0) (hy : y.toNatClampNeg = x.toNatClampNeg + 1) : ClS f y.toNatClampNeg a p (s ||| 0) := by
  have h' := cs_or (v := 0) h
  refine ⟨h'.1, fun k hk q z r => ?_⟩
  by_cases e : k = x.toNatClampNeg
  · rw [e] at q
    exact absurd (subB_bit hs _ q) (in_no hx hw h0)
  · exact h'.2 k (by omega) q z r
theorem cs_yes {f : Nat → Int32} {a : Nat} {p s x y : Int32} (h : ClS f x.toNatClampNeg a p s) (hy : y.toNatClampNeg = x.toNatClampNeg + 1) : ClS f y.toNatClampNeg a p (s ||| f x.toNatClampNeg) := by
  have h' := cs_or (v := f x.toNatClampNeg) h
  refine ⟨h'.1, fun k hk q z r => ?_⟩
  by_cases e : k = x.toNatClampNeg
  · rw [e] at r
    exact (bitN_or s _ z).mpr (Or.inr r)
  · exact h'.2 k (by omega) q z r
theorem cs_end {f : Nat → Int32} {n a : Nat} {p s : Int32} (h : ClS f n a p s) (e : s = p) : ∀ x : Nat, Rch f n a x → bitN s x := fun x r => r (bitN s) h.1 (fun k y hk hkn hb => h.2 k hkn (e ▸ hk) y hb)
def NxP (f g : Nat → Int32) (N : Nat) (x y : Int32) : Prop := iv 0 9 y ∧ y.toNatClampNeg < N ∧ bitN (f y.toNatClampNeg) x.toNatClampNeg ∧ (g y.toNatClampNeg).toInt = (g x.toNatClampNeg).toInt - 1 ∧ ∀ k : Nat, k < y.toNatClampNeg → ¬ (bitN (f k) x.toNatClampNeg ∧ (g k).toInt = (g x.toNatClampNeg).toInt - 1)
theorem NxP_u {f f' g : Nat → Int32} {N : Nat} {x y y' : Int32} (hN : N ≤ 10) (h : ∀ i : Nat, i < 10 → f i = f' i) (p : NxP f g N x y) (q : NxP f' g N x y') : y = y' := by
  obtain ⟨p1, p2, p3, p4, p5⟩ := p
  obtain ⟨q1, q2, q3, q4, q5⟩ := q
  have n1 := iv_nat p1 (by decide)
  have n2 := iv_nat q1 (by decide)
  rw [← h _ (by omega)] at q3
  have a1 : ¬ y'.toNatClampNeg < y.toNatClampNeg := fun l => p5 _ l ⟨q3, q4⟩
  have a2 : ¬ y.toNatClampNeg < y'.toNatClampNeg := fun l => q5 _ l ⟨by rw [← h _ (by omega)]; exact p3, p4⟩
  exact Int32.toInt_inj.mp (by omega)
def RgS (f g : Nat → Int32) (N : Nat) (B s : Int32) (r : Nat → Int32) : Prop := ∀ i : Nat, 1 ≤ i → (i : Int) < s.toInt → (i = 1 → r i = B) ∧ (1 < i → NxP f g N (r (i - 1)) (r i))
def RgQ (f g : Nat → Int32) (N : Nat) (A B s : Int32) (r : Nat → Int32) : Prop := r 0 = A ∧ s.toInt = (g B.toNatClampNeg).toInt + 1 ∧ RgS f g N B s r
theorem RgQ_u {f f' g r r' : Nat → Int32} {N : Nat} {A B s s' : Int32} (hN : N ≤ 10) (h : ∀ i : Nat, i < 10 → f i = f' i) (p : RgQ f g N A B s r) (q : RgQ f' g N A B s' r') : s = s' ∧ ∀ i : Nat, (i : Int) < s.toInt → r i = r' i := by
  have e : s = s' := Int32.toInt_inj.mp (p.2.1.trans q.2.1.symm)
  refine ⟨e, fun i => ?_⟩
  induction i with
  | zero => intro _; rw [p.1, q.1]
  | succ i ih =>
    intro hi
    have P := p.2.2 (i + 1) (by omega) hi
    have Q := q.2.2 (i + 1) (by omega) (by rw [← e]; exact hi)
    by_cases k : i + 1 = 1
    · rw [P.1 k, Q.1 k]
    · have P2 := P.2 (by omega)
      have Q2 := Q.2 (by omega)
      have e2 : i + 1 - 1 = i := by omega
      rw [e2] at P2 Q2
      rw [← ih (by omega)] at Q2
      exact NxP_u hN h P2 Q2
def RgI (f g : Nat → Int32) (N : Nat) (A B s : Int32) (r : Nat → Int32) (x : Int32) : Prop := r 0 = A ∧ s.toInt + (g x.toNatClampNeg).toInt = (g B.toNatClampNeg).toInt + 1 ∧ 1 ≤ s.toInt ∧ RgS f g N B s r ∧ (s.toInt = 1 → x = B) ∧ (1 < s.toInt → NxP f g N (r (s.toNatClampNeg - 1)) x)
theorem RgI_0 {f g r : Nat → Int32} {N : Nat} {A B s : Int32} (h : r 0 = A) (s1 : s.toInt = 1) : RgI f g N A B s r B := ⟨h, by omega, by omega, fun i h1 h2 => absurd h2 (by omega), fun _ => rfl, fun q => absurd q (by omega)⟩
theorem RgI_st {f g r r' : Nat → Int32} {N : Nat} {A B s s' x y : Int32} (h : RgI f g N A B s r x) (hs : iv 1 10 s) (hr : r' = upd r s.toNatClampNeg x) (hs' : s'.toInt = s.toInt + 1) (hy : NxP f g N x y) : RgI f g N A B s' r' y := by
  obtain ⟨h0, h1, h2, h3, h4, h5⟩ := h
  have n := iv_nat hs (by decide)
  have l := hs.1
  have l2 := hs.2
  have n9 := iv_nat (a := 2) (b := 11) (x := s') ⟨by omega, by omega⟩ (by decide)
  have n' : s'.toNatClampNeg = s.toNatClampNeg + 1 := by omega
  have hu : ∀ i, i ≠ s.toNatClampNeg → r' i = r i := fun i hi => by rw [hr, pk_un hi]
  have hx : r' s.toNatClampNeg = x := by rw [hr, pk_us]
  have hd := hy.2.2.2.1
  refine ⟨by rw [hu 0 (by omega)]; exact h0, by omega, by omega, fun i i1 i2 => ?_, fun q => absurd q (by omega), fun _ => ?_⟩
  · by_cases e : i = s.toNatClampNeg
    · subst e
      rw [hx]
      refine ⟨fun q => h4 (by omega), fun q => ?_⟩
      rw [hu (s.toNatClampNeg - 1) (by omega)]
      exact h5 (by omega)
    · rw [hu i e]
      refine ⟨(h3 i i1 (by omega)).1, fun q => ?_⟩
      rw [hu (i - 1) (by omega)]
      exact (h3 i i1 (by omega)).2 q
  · rw [n', show s.toNatClampNeg + 1 - 1 = s.toNatClampNeg by omega, hx]
    exact hy
theorem RgI_end {f g r : Nat → Int32} {N : Nat} {A B s x : Int32} (h : RgI f g N A B s r x) (hx : (g x.toNatClampNeg).toInt = 0) : RgQ f g N A B s r := ⟨h.1, by have := h.2.1; omega, h.2.2.2.1⟩
theorem FRb_cg {f f' g : Nat → Int32} {N a : Nat} {n : Int} (hN : N ≤ 10) (h : ∀ i : Nat, i < 10 → f i = f' i) (p : FRn f g N a n) : FRn f' g N a n := by
  obtain ⟨⟨p1, p2, p3⟩, p4⟩ := p
  refine ⟨⟨p1, p2, fun t ht q => ?_⟩, fun k t hk ht q1 q2 q3 => p4 k t hk ht q1 q2 (by rw [h k (by omega)]; exact q3)⟩
  obtain ⟨⟨k, k1, k2, k3⟩, km⟩ := p3 t ht q
  exact ⟨⟨k, k1, by rw [← h k (by omega)]; exact k2, k3⟩, fun j hj q1 q2 => km j hj q1 (by rw [h j (by omega)]; exact q2)⟩
def LyI (f : Nat → Int32) (N a : Nat) (L : Nat → Int32) (seen : Int32) (d : Nat) : Prop := ∀ g : Nat → Int32, FRn f g N a N → (∀ e : Nat, e ≤ d → ∀ t, t < N → (bitN (L e) t ↔ (g t).toInt = (e : Int))) ∧ (∀ t, t < N → (bitN seen t ↔ (0 ≤ (g t).toInt ∧ (g t).toInt ≤ (d : Int))))
def NxI (f : Nat → Int32) (Ld next : Int32) (T : Nat) : Prop := ∀ t, (bitN next t ↔ ∃ k, k < T ∧ bitN Ld k ∧ bitN (f k) t)
theorem bitN_one {b : Int32} (hb : iv 0 9 b) {j : Nat} (hj : j < 32) : bitN ((1 : Int32) <<< (b &&& 31)) j ↔ j = b.toNatClampNeg := by
  show Bb ((1 : Int32) <<< (b &&& 31)) j = true ↔ _
  rw [Bb_one hb hj]
  simp
theorem bitN_an (x y : Int32) {j : Nat} (hj : j < 32) : bitN (x &&& (y ^^^ (-1))) j ↔ bitN x j ∧ ¬ bitN y j := by
  show Bb (x &&& (y ^^^ (-1))) j = true ↔ Bb x j = true ∧ ¬ Bb y j = true
  rw [Bb_and, Bb_not _ hj]
  cases Bb x j <;> cases Bb y j <;> simp
theorem LyI_0 {f L L' : Nat → Int32} {N : Nat} {A : Int32} (hN : N ≤ 10) (hA : iv 0 9 A) (hL : L' = upd L (0 : Int32).toNatClampNeg ((1 : Int32) <<< (A &&& 31))) : LyI f N A.toNatClampNeg L' ((1 : Int32) <<< (A &&& 31)) (0 : Int32).toNatClampNeg := fun g hg => by
  rw [hL, show (0 : Int32).toNatClampNeg = 0 by decide]
  have key : ∀ t, t < N → (bitN ((1 : Int32) <<< (A &&& 31)) t ↔ (g t).toInt = 0) := fun t ht => by
    rw [bitN_one hA (show t < 32 by omega), hg.1.2.1 t ht]
  refine ⟨fun e he t ht => ?_, fun t ht => ?_⟩
  · have e0 : e = 0 := by omega
    rw [e0, pk_us, key t ht]
    rfl
  · rw [key t ht]
    constructor
    · intro q; omega
    · intro q; omega
theorem NxI_0 {f : Nat → Int32} {Ld : Int32} : NxI f Ld 0 (0 : Int32).toNatClampNeg := fun t => by
  rw [show (0 : Int32).toNatClampNeg = 0 by decide]
  exact ⟨fun q => absurd q (bitN_0 t), fun ⟨k, hk, _⟩ => absurd hk (Nat.not_lt_zero k)⟩
theorem NxI_n {f : Nat → Int32} {Ld x : Int32} {T T' : Nat} (h : NxI f Ld x T) (hT : T' = T + 1) (hb : ¬ bitN Ld T) : NxI f Ld x T' := fun t => by
  rw [h t]
  constructor
  · rintro ⟨k, k1, k2, k3⟩
    exact ⟨k, by omega, k2, k3⟩
  · rintro ⟨k, k1, k2, k3⟩
    by_cases e : k = T
    · rw [e] at k2
      exact absurd k2 hb
    · exact ⟨k, by omega, k2, k3⟩
theorem NxI_y {f : Nat → Int32} {Ld x : Int32} {T T' : Nat} (h : NxI f Ld x T) (hT : T' = T + 1) (hb : bitN Ld T) : NxI f Ld (x ||| f T) T' := fun t => by
  rw [bitN_or, h t]
  constructor
  · rintro (⟨k, k1, k2, k3⟩ | q)
    · exact ⟨k, by omega, k2, k3⟩
    · exact ⟨T, by omega, hb, q⟩
  · rintro ⟨k, k1, k2, k3⟩
    by_cases e : k = T
    · rw [e] at k3
      exact Or.inr k3
    · exact Or.inl ⟨k, by omega, k2, k3⟩
theorem LyI_s {f L L' : Nat → Int32} {N a d D : Nat} {seen next : Int32} (hN : N ≤ 10) (h : LyI f N a L seen d) (hn : NxI f (L d) next N) (hD : D = d + 1) (hL : L' = upd L D (next &&& (seen ^^^ (-1)))) : LyI f N a L' (seen ||| next) D := fun g hg => by
  obtain ⟨h1, h2⟩ := h g hg
  have key : ∀ t, t < N → ((∃ k, k < N ∧ bitN (L d) k ∧ bitN (f k) t) → 0 ≤ (g t).toInt ∧ (g t).toInt ≤ (d : Int) + 1) := fun t ht ⟨k, k1, k2, k3⟩ => by
    have gk := (h1 d (Nat.le_refl d) k k1).mp k2
    have g0 := hg.2 k t k1 ht (by omega) (fr_top hg k1) k3
    rcases (show (g t).toInt = 0 ∨ 1 ≤ (g t).toInt by omega) with r | r
    · omega
    · have := (hg.1.2.2 t ht r).2 k k1 (by omega) k3
      omega
  have back : ∀ t, t < N → (g t).toInt = (d : Int) + 1 → ∃ k, k < N ∧ bitN (L d) k ∧ bitN (f k) t := fun t ht q => by
    obtain ⟨k, k1, k2, k3⟩ := (hg.1.2.2 t ht (by omega)).1
    exact ⟨k, k1, (h1 d (Nat.le_refl d) k k1).mpr (by omega), k2⟩
  refine ⟨fun e he t ht => ?_, fun t ht => ?_⟩
  · rw [hL]
    by_cases q : e = D
    · rw [q, pk_us, bitN_an _ _ (show t < 32 by omega), hn t, h2 t ht, hD]
      constructor
      · rintro ⟨q1, q2⟩
        have := key t ht q1
        omega
      · intro q1
        exact ⟨back t ht (by omega), by omega⟩
    · rw [pk_un q]
      exact h1 e (by omega) t ht
  · rw [bitN_or, h2 t ht, hn t, hD]
    constructor
    · rintro (q | q)
      · omega
      · have := key t ht q
        omega
    · intro q
      rcases (show (g t).toInt ≤ (d : Int) ∨ (g t).toInt = (d : Int) + 1 by omega) with r | r
      · exact Or.inl ⟨q.1, r⟩
      · exact Or.inr (back t ht r)
def NoB (L : Nat → Int32) (b d : Nat) : Prop := ∀ e : Nat, e < d → ¬ bitN (L e) b
theorem NoB_0 {L : Nat → Int32} {b : Nat} : NoB L b (0 : Int32).toNatClampNeg := fun e he => by
  rw [show (0 : Int32).toNatClampNeg = 0 by decide] at he
  exact absurd he (Nat.not_lt_zero e)
theorem NoB_s {L L' : Nat → Int32} {b d D : Nat} {v : Int32} (h : NoB L b d) (hb : ¬ bitN (L d) b) (hD : D = d + 1) (hL : L' = upd L D v) : NoB L' b D := fun e he => by
  rw [hL, pk_un (show e ≠ D by omega)]
  by_cases q : e = d
  · rw [q]
    exact hb
  · exact h e (by omega)
def LyP (f : Nat → Int32) (N a b : Nat) (L : Nat → Int32) (v : Int32) : Prop := ∀ g : Nat → Int32, FRn f g N a N → b < N → 0 ≤ (g b).toInt → v.toInt = (g b).toInt ∧ ∀ e : Nat, (e : Int) ≤ v.toInt → ∀ t, t < N → (bitN (L e) t ↔ (g t).toInt = (e : Int))
theorem LyP_of {f L : Nat → Int32} {N a b : Nat} {v seen : Int32} (hN : N ≤ 10) (hv : iv 0 10 v) (h : LyI f N a L seen v.toNatClampNeg) (nb : NoB L b v.toNatClampNeg) (hc : 10 ≤ v.toInt ∨ bitN (L v.toNatClampNeg) b) : LyP f N a b L v := fun g hg hb h0 => by
  obtain ⟨h1, -⟩ := h g hg
  have n := iv_nat hv (by decide)
  have top := fr_top hg hb
  have e : v.toInt = (g b).toInt := by
    rcases hc with hc | hc
    · exfalso
      have hv2 := hv.2
      obtain ⟨m, hm⟩ : ∃ m : Nat, (g b).toInt = (m : Int) := ⟨(g b).toInt.toNat, by omega⟩
      exact nb m (by omega) ((h1 m (by omega) b hb).mpr hm)
    · have := (h1 _ (Nat.le_refl _) b hb).mp hc
      omega
  exact ⟨e, fun k hk t ht => h1 k (by omega) t ht⟩
def LsP (f : Nat → Int32) (N : Nat) (x ly v : Int32) : Prop := ∀ t : Nat, t < N → (bitN ly t ∧ bitN (f t) x.toNatClampNeg) → (iv 0 9 v ∧ v.toNatClampNeg < N ∧ (bitN ly v.toNatClampNeg ∧ bitN (f v.toNatClampNeg) x.toNatClampNeg) ∧ ∀ k : Nat, k < v.toNatClampNeg → ¬ (bitN ly k ∧ bitN (f k) x.toNatClampNeg))
def LsI (f : Nat → Int32) (x ly : Int32) (T : Nat) : Prop := ∀ k : Nat, k < T → ¬ (bitN ly k ∧ bitN (f k) x.toNatClampNeg)
theorem LsI_0 {f : Nat → Int32} {x ly : Int32} : LsI f x ly (0 : Int32).toNatClampNeg := fun k hk => by
  rw [show (0 : Int32).toNatClampNeg = 0 by decide] at hk
  exact absurd hk (Nat.not_lt_zero k)
theorem LsI_s {f : Nat → Int32} {x ly : Int32} {T T' : Nat} (h : LsI f x ly T) (hT : T' = T + 1) (hn : ¬ (bitN ly T ∧ bitN (f T) x.toNatClampNeg)) : LsI f x ly T' := fun k hk => by
  by_cases e : k = T
  · rw [e]
    exact hn
  · exact h k (by omega)
def TrI (f : Nat → Int32) (N : Nat) (A B s : Int32) (r L : Nat → Int32) (x d : Int32) : Prop := ∀ g : Nat → Int32, FRn f g N A.toNatClampNeg N → B.toNatClampNeg < N → 0 ≤ (g B.toNatClampNeg).toInt → RgI f g N A B s r x ∧ d.toInt = (g x.toNatClampNeg).toInt - 1 ∧ x.toNatClampNeg < N ∧ ∀ e : Nat, (e : Int) ≤ (g B.toNatClampNeg).toInt → ∀ t, t < N → (bitN (L e) t ↔ (g t).toInt = (e : Int))
theorem TrI_0 {f r L : Nat → Int32} {N : Nat} {A B s w d : Int32} (hr : r 0 = A) (s1 : s.toInt = 1) (h : LyP f N A.toNatClampNeg B.toNatClampNeg L w) (hd : d.toInt = w.toInt - 1) : TrI f N A B s r L B d := fun g hg hb h0 => by
  obtain ⟨e, hl⟩ := h g hg hb h0
  exact ⟨RgI_0 hr s1, by omega, hb, fun k hk => hl k (by omega)⟩
theorem TrI_s {f r r' L : Nat → Int32} {N : Nat} {A B s s' x d d' ly v : Int32} (h : TrI f N A B s r L x d) (hs : iv 0 9 s) (hr : r' = upd r s.toNatClampNeg x) (hs' : s'.toInt = s.toInt + 1) (hd : iv 0 9 d) (hly : ly = L d.toNatClampNeg) (hv : LsP f N x ly v) (hd' : d'.toInt = d.toInt - 1) : TrI f N A B s' r' L v d' := fun g hg hb h0 => by
  obtain ⟨h1, h2, h3, h4⟩ := h g hg hb h0
  have n := iv_nat hd (by decide)
  have d0 := hd.1
  obtain ⟨k, k1, k2, k3⟩ := (hg.1.2.2 _ h3 (by omega)).1
  have r1 := h1.2.1
  have r2 := h1.2.2.1
  have L1 := h4 d.toNatClampNeg (by omega)
  rw [← hly] at L1
  obtain ⟨v1, v2, v3, v4⟩ := hv k k1 ⟨(L1 k k1).mpr (by omega), k2⟩
  have gv := (L1 _ v2).mp v3.1
  have nx : NxP f g N x v := ⟨v1, v2, v3.2, by omega, fun j hj q => v4 j hj ⟨(L1 j (by omega)).mpr (by omega), q.1⟩⟩
  exact ⟨RgI_st h1 ⟨r2, by have := hs.2; omega⟩ hr hs' nx, by omega, v2, h4⟩
def RgA (f : Nat → Int32) (N : Nat) (A B s : Int32) (r : Nat → Int32) : Prop := ∀ g : Nat → Int32, FRn f g N A.toNatClampNeg N → A.toNatClampNeg < N → B.toNatClampNeg < N → 0 ≤ (g B.toNatClampNeg).toInt → RgQ f g N A B s r
theorem RgA_eq {f r : Nat → Int32} {N : Nat} {A B s : Int32} (e : A = B) (hr : r 0 = A) (s1 : s.toInt = 1) : RgA f N A B s r := fun g hg ha _ _ => by
  subst e
  have := (hg.1.2.1 _ ha).mpr rfl
  exact ⟨hr, by omega, fun i h1 h2 => absurd h2 (by omega)⟩
theorem RgA_lo {f r L : Nat → Int32} {N : Nat} {A B s x d : Int32} (h : TrI f N A B s r L x d) (hd : d.toInt = -1) : RgA f N A B s r := fun g hg _ hb h0 => by
  obtain ⟨h1, h2, -, -⟩ := h g hg hb h0
  exact RgI_end h1 (by omega)
theorem RgA_hi {f r L : Nat → Int32} {N : Nat} {A B s x d : Int32} (hN : N ≤ 10) (h : TrI f N A B s r L x d) (hd : 0 ≤ d.toInt) (hs : 10 ≤ s.toInt) : RgA f N A B s r := fun g hg _ hb h0 => by
  obtain ⟨h1, h2, -, -⟩ := h g hg hb h0
  have := h1.2.1
  have := fr_top hg hb
  exfalso
  omega
def AhR (c : Int32) (D : Prop) (f : Nat → Int32) (a b s0 : Int32) (r0 : Nat → Int32) (s : Int32) (r : Nat → Int32) : Prop := ((((0 ≤ a.toInt ∧ a.toInt < c.toInt) ∧ (0 ≤ b.toInt ∧ b.toInt < c.toInt)) ∧ (a = b ∨ D)) → RgA f c.toNatClampNeg a b s r) ∧ (¬ (((0 ≤ a.toInt ∧ a.toInt < c.toInt) ∧ (0 ≤ b.toInt ∧ b.toInt < c.toInt)) ∧ (a = b ∨ D)) → s = s0 ∧ r = r0)
def AhM (c : Int32) (D : Prop) (f : Nat → Int32) (a b s0 : Int32) (r0 : Nat → Int32) (s : Int32) (r : Nat → Int32) : Prop := ((((0 ≤ a.toInt ∧ a.toInt < c.toInt) ∧ (0 ≤ b.toInt ∧ b.toInt < c.toInt)) ∧ (a = b ∨ D)) → ∃ g : Nat → Int32, FRn f g c.toNatClampNeg a.toNatClampNeg c.toNatClampNeg ∧ 0 ≤ (g b.toNatClampNeg).toInt ∧ RgQ f g c.toNatClampNeg a b s r) ∧ (¬ (((0 ≤ a.toInt ∧ a.toInt < c.toInt) ∧ (0 ≤ b.toInt ∧ b.toInt < c.toInt)) ∧ (a = b ∨ D)) → s = s0 ∧ r = r0)
theorem AhR_eq {c : Int32} {f f' L r0 r0' r r' : Nat → Int32} {a b s0 s0' s s' : Int32} (hc : iv 0 10 c) (h : ∀ i : Nat, i < 10 → f i = f' i) (l : LdI f c.toNatClampNeg L) (p : AhR c (bitN (L a.toNatClampNeg) b.toNatClampNeg) f a b s0 r0 s r) (q : AhM c (Rch f' c.toNatClampNeg a.toNatClampNeg b.toNatClampNeg) f' a b s0' r0' s' r') (e0 : s0 = s0') (er : ∀ i : Nat, (i : Int) < s0.toInt → r0 i = r0' i) : s = s' ∧ ∀ i : Nat, (i : Int) < s.toInt → r i = r' i := by
  have n10 : c.toNatClampNeg ≤ 10 := by have := iv_nat hc (by decide); have := hc.2; omega
  by_cases d : (0 ≤ a.toInt ∧ a.toInt < c.toInt) ∧ (0 ≤ b.toInt ∧ b.toInt < c.toInt)
  · have hb := b10 hc d.2
    have hD : (a = b ∨ bitN (L a.toNatClampNeg) b.toNatClampNeg) ↔ (a = b ∨ Rch f' c.toNatClampNeg a.toNatClampNeg b.toNatClampNeg) := by
      rw [l _ (bn hc d.1) _ (by omega)]
      constructor
      · rintro (r | r)
        · exact Or.inl r
        · exact Or.inr (Rch_cg (bn hc d.1) (fun i hi => (h i (by omega)).symm) r)
      · rintro (r | r)
        · exact Or.inl r
        · exact Or.inr (Rch_cg (bn hc d.1) (fun i hi => h i (by omega)) r)
    by_cases k : a = b ∨ bitN (L a.toNatClampNeg) b.toNatClampNeg
    · obtain ⟨g, g1, g2, g3⟩ := q.1 ⟨d, hD.mp k⟩
      exact RgQ_u n10 h (p.1 ⟨d, k⟩ g (FRb_cg n10 (fun i hi => (h i hi).symm) g1) (bn hc d.1) (bn hc d.2) g2) g3
    · have P := p.2 (fun o => k o.2)
      have Q := q.2 (fun o => k (hD.mpr o.2))
      rw [P.1, P.2, Q.1, Q.2]
      exact ⟨e0, er⟩
  · have P := p.2 (fun o => d o.1)
    have Q := q.2 (fun o => d o.1)
    rw [P.1, P.2, Q.1, Q.2]
    exact ⟨e0, er⟩
def RiP (s : Int32) (r : Nat → Int32) (k v : Int32) : Prop := ((0 ≤ k.toInt ∧ k.toInt < s.toInt) → v = r k.toNatClampNeg) ∧ (¬ (0 ≤ k.toInt ∧ k.toInt < s.toInt) → v = -4)
theorem RiP_eq {s s' : Int32} {r r' : Nat → Int32} {k v w : Int32} (hs : iv 0 10 s) (e : s = s') (er : ∀ i : Nat, (i : Int) < s.toInt → r i = r' i) (p : RiP s r k v) (q : RiP s' r' k w) : v = w := by
  subst e
  by_cases d : 0 ≤ k.toInt ∧ k.toInt < s.toInt
  · have s2 := hs.2
    have d2 := d.2
    have n := iv_nat (a := 0) (b := 9) (x := k) ⟨d.1, by omega⟩ (by decide)
    rw [p.1 d, q.1 d, er _ (by omega)]
  · rw [p.2 d, q.2 d]
theorem enC_g4 (cy : Nat → ClassId) (q : Nat → Nat) (z : zS) (k : Nat) (hk : 4 ≤ k ∧ k < 7) : enC cy q z k = .inl (cy 0, 10, .inl (z.2.1 k)) := by
  rcases (show k = 4 ∨ k = 5 ∨ k = 6 by omega) with rfl | rfl | rfl <;> rfl
theorem enC_sa4 (cy : Nat → ClassId) (q : Nat → Nat) (z : zS) (k : Nat) (f : Nat → Int32) (hk : 4 ≤ k ∧ k < 7) : enC cy q (upA z k f) k = .inl (cy 0, 10, .inl f) := by
  rw [enC_g4 cy q _ k hk]
  exact congrArg (fun g => (.inl (cy 0, 10, .inl g) : va_E)) (va_up_self _ _ _)
theorem enC_g18 (cy : Nat → ClassId) (q : Nat → Nat) (z : zS) (k : Nat) (hk : 18 ≤ k ∧ k < 21) : enC cy q z k = .inl (cy 0, 10, .inl (z.2.1 k)) := by
  rcases (show k = 18 ∨ k = 19 ∨ k = 20 by omega) with rfl | rfl | rfl <;> rfl
theorem enC_sa18 (cy : Nat → ClassId) (q : Nat → Nat) (z : zS) (k : Nat) (f : Nat → Int32) (hk : 18 ≤ k ∧ k < 21) : enC cy q (upA z k f) k = .inl (cy 0, 10, .inl f) := by
  rw [enC_g18 cy q _ k hk]
  exact congrArg (fun g => (.inl (cy 0, 10, .inl g) : va_E)) (va_up_self _ _ _)
theorem enC_g41 (cy : Nat → ClassId) (q : Nat → Nat) (z : zS) (k : Nat) (hk : 41 ≤ k ∧ k < 52) : enC cy q z k = .inl (cy 1, 1024, .inr (.inl (z.2.2 k))) := by
  rcases (show k = 41 ∨ k = 42 ∨ k = 43 ∨ k = 44 ∨ k = 45 ∨ k = 46 ∨ k = 47 ∨ k = 48 ∨ k = 49 ∨ k = 50 ∨ k = 51 by omega) with rfl | rfl | rfl | rfl | rfl | rfl | rfl | rfl | rfl | rfl | rfl <;> rfl
theorem enC_sl41 (cy : Nat → ClassId) (q : Nat → Nat) (z : zS) (k : Nat) (f : Nat → Int64) (hk : 41 ≤ k ∧ k < 52) : enC cy q (upL z k f) k = .inl (cy 1, 1024, .inr (.inl f)) := by
  rw [enC_g41 cy q _ k hk]
  exact congrArg (fun g => (.inl (cy 1, 1024, .inr (.inl g)) : va_E)) (va_up_self _ _ _)
theorem enC_g53 (cy : Nat → ClassId) (q : Nat → Nat) (z : zS) (k : Nat) (hk : 53 ≤ k ∧ k < 55) : enC cy q z k = .inl (cy 1, 1024, .inr (.inl (z.2.2 k))) := by
  rcases (show k = 53 ∨ k = 54 by omega) with rfl | rfl <;> rfl
theorem enC_sl53 (cy : Nat → ClassId) (q : Nat → Nat) (z : zS) (k : Nat) (f : Nat → Int64) (hk : 53 ≤ k ∧ k < 55) : enC cy q (upL z k f) k = .inl (cy 1, 1024, .inr (.inl f)) := by
  rw [enC_g53 cy q _ k hk]
  exact congrArg (fun g => (.inl (cy 1, 1024, .inr (.inl g)) : va_E)) (va_up_self _ _ _)
theorem enC_g61 (cy : Nat → ClassId) (q : Nat → Nat) (z : zS) (k : Nat) (hk : 61 ≤ k ∧ k < 65) : enC cy q z k = .inl (cy 0, 40, .inl (z.2.1 k)) := by
  rcases (show k = 61 ∨ k = 62 ∨ k = 63 ∨ k = 64 by omega) with rfl | rfl | rfl | rfl <;> rfl
theorem enC_sa61 (cy : Nat → ClassId) (q : Nat → Nat) (z : zS) (k : Nat) (f : Nat → Int32) (hk : 61 ≤ k ∧ k < 65) : enC cy q (upA z k f) k = .inl (cy 0, 40, .inl f) := by
  rw [enC_g61 cy q _ k hk]
  exact congrArg (fun g => (.inl (cy 0, 40, .inl g) : va_E)) (va_up_self _ _ _)
def IvC (z : zS) : Prop := iv 0 10 (z.1 0) ∧ iv 0 10 (z.1 3) ∧ iv 0 10 (z.1 7) ∧ iv 0 1023 (z.1 8) ∧ iv 0 20 (z.1 9) ∧ (∀ i : Nat, i < 10 → iv 0 10 (z.2.1 14 i)) ∧ (∀ i : Nat, i < 10 → iv 0 10 (z.2.1 28 i)) ∧ (∀ i : Nat, i < 10 → iv 0 10 (z.2.1 56 i)) ∧ (∀ i : Nat, i < 4 → iv (-1) 40 (z.2.1 59 i))
theorem IvC_s0 {z : zS} (h : IvC z) : iv 0 10 (z.1 0) := h.1
theorem IvC_s3 {z : zS} (h : IvC z) : iv 0 10 (z.1 3) := h.2.1
theorem IvC_s7 {z : zS} (h : IvC z) : iv 0 10 (z.1 7) := h.2.2.1
theorem IvC_s8 {z : zS} (h : IvC z) : iv 0 1023 (z.1 8) := h.2.2.2.1
theorem IvC_s9 {z : zS} (h : IvC z) : iv 0 20 (z.1 9) := h.2.2.2.2.1
theorem IvC_a14 {z : zS} (h : IvC z) : (∀ i : Nat, i < 10 → iv 0 10 (z.2.1 14 i)) := h.2.2.2.2.2.1
theorem IvC_a28 {z : zS} (h : IvC z) : (∀ i : Nat, i < 10 → iv 0 10 (z.2.1 28 i)) := h.2.2.2.2.2.2.1
theorem IvC_a56 {z : zS} (h : IvC z) : (∀ i : Nat, i < 10 → iv 0 10 (z.2.1 56 i)) := h.2.2.2.2.2.2.2.1
theorem IvC_a59 {z : zS} (h : IvC z) : (∀ i : Nat, i < 4 → iv (-1) 40 (z.2.1 59 i)) := h.2.2.2.2.2.2.2.2
theorem IvC_S0 {z : zS} {v : Int32} (h : IvC z) (hv : iv 0 10 v) : IvC (upS z 0 v) := ⟨hv, h.2.1, h.2.2.1, h.2.2.2.1, h.2.2.2.2.1, h.2.2.2.2.2.1, h.2.2.2.2.2.2.1, h.2.2.2.2.2.2.2.1, h.2.2.2.2.2.2.2.2⟩
theorem IvC_S1 {z : zS} {v : Int32} (h : IvC z) : IvC (upS z 1 v) := ⟨h.1, h.2.1, h.2.2.1, h.2.2.2.1, h.2.2.2.2.1, h.2.2.2.2.2.1, h.2.2.2.2.2.2.1, h.2.2.2.2.2.2.2.1, h.2.2.2.2.2.2.2.2⟩
theorem IvC_S2 {z : zS} {v : Int32} (h : IvC z) : IvC (upS z 2 v) := ⟨h.1, h.2.1, h.2.2.1, h.2.2.2.1, h.2.2.2.2.1, h.2.2.2.2.2.1, h.2.2.2.2.2.2.1, h.2.2.2.2.2.2.2.1, h.2.2.2.2.2.2.2.2⟩
theorem IvC_S3 {z : zS} {v : Int32} (h : IvC z) (hv : iv 0 10 v) : IvC (upS z 3 v) := ⟨h.1, hv, h.2.2.1, h.2.2.2.1, h.2.2.2.2.1, h.2.2.2.2.2.1, h.2.2.2.2.2.2.1, h.2.2.2.2.2.2.2.1, h.2.2.2.2.2.2.2.2⟩
theorem IvC_S4 {z : zS} {v : Int32} (h : IvC z) : IvC (upS z 4 v) := ⟨h.1, h.2.1, h.2.2.1, h.2.2.2.1, h.2.2.2.2.1, h.2.2.2.2.2.1, h.2.2.2.2.2.2.1, h.2.2.2.2.2.2.2.1, h.2.2.2.2.2.2.2.2⟩
theorem IvC_S5 {z : zS} {v : Int32} (h : IvC z) : IvC (upS z 5 v) := ⟨h.1, h.2.1, h.2.2.1, h.2.2.2.1, h.2.2.2.2.1, h.2.2.2.2.2.1, h.2.2.2.2.2.2.1, h.2.2.2.2.2.2.2.1, h.2.2.2.2.2.2.2.2⟩
theorem IvC_S6 {z : zS} {v : Int32} (h : IvC z) : IvC (upS z 6 v) := ⟨h.1, h.2.1, h.2.2.1, h.2.2.2.1, h.2.2.2.2.1, h.2.2.2.2.2.1, h.2.2.2.2.2.2.1, h.2.2.2.2.2.2.2.1, h.2.2.2.2.2.2.2.2⟩
theorem IvC_S7 {z : zS} {v : Int32} (h : IvC z) (hv : iv 0 10 v) : IvC (upS z 7 v) := ⟨h.1, h.2.1, hv, h.2.2.2.1, h.2.2.2.2.1, h.2.2.2.2.2.1, h.2.2.2.2.2.2.1, h.2.2.2.2.2.2.2.1, h.2.2.2.2.2.2.2.2⟩
theorem IvC_S8 {z : zS} {v : Int32} (h : IvC z) (hv : iv 0 1023 v) : IvC (upS z 8 v) := ⟨h.1, h.2.1, h.2.2.1, hv, h.2.2.2.2.1, h.2.2.2.2.2.1, h.2.2.2.2.2.2.1, h.2.2.2.2.2.2.2.1, h.2.2.2.2.2.2.2.2⟩
theorem IvC_S9 {z : zS} {v : Int32} (h : IvC z) (hv : iv 0 20 v) : IvC (upS z 9 v) := ⟨h.1, h.2.1, h.2.2.1, h.2.2.2.1, hv, h.2.2.2.2.2.1, h.2.2.2.2.2.2.1, h.2.2.2.2.2.2.2.1, h.2.2.2.2.2.2.2.2⟩
theorem IvC_S10 {z : zS} {v : Int32} (h : IvC z) : IvC (upS z 10 v) := ⟨h.1, h.2.1, h.2.2.1, h.2.2.2.1, h.2.2.2.2.1, h.2.2.2.2.2.1, h.2.2.2.2.2.2.1, h.2.2.2.2.2.2.2.1, h.2.2.2.2.2.2.2.2⟩
theorem IvC_A {z : zS} {k : Nat} {f : Nat → Int32} (h : IvC z) (hk : k ≠ 14 ∧ k ≠ 28 ∧ k ≠ 56 ∧ k ≠ 59) : IvC (upA z k f) := ⟨h.1, h.2.1, h.2.2.1, h.2.2.2.1, h.2.2.2.2.1, fun i hi => (by show iv _ _ (va_up z.2.1 k f 14 i); rw [va_up_ne z.2.1 f (fun e => hk.1 e.symm)]; exact h.2.2.2.2.2.1 i hi), fun i hi => (by show iv _ _ (va_up z.2.1 k f 28 i); rw [va_up_ne z.2.1 f (fun e => hk.2.1 e.symm)]; exact h.2.2.2.2.2.2.1 i hi), fun i hi => (by show iv _ _ (va_up z.2.1 k f 56 i); rw [va_up_ne z.2.1 f (fun e => hk.2.2.1 e.symm)]; exact h.2.2.2.2.2.2.2.1 i hi), fun i hi => (by show iv _ _ (va_up z.2.1 k f 59 i); rw [va_up_ne z.2.1 f (fun e => hk.2.2.2 e.symm)]; exact h.2.2.2.2.2.2.2.2 i hi)⟩
theorem IvC_R14 {z : zS} (h : IvC z) {f : Nat → Int32} (hf : ∀ i : Nat, i < 10 → iv 0 10 (f i)) : IvC (upA z 14 f) := ⟨h.1, h.2.1, h.2.2.1, h.2.2.2.1, h.2.2.2.2.1, hf, h.2.2.2.2.2.2.1, h.2.2.2.2.2.2.2.1, h.2.2.2.2.2.2.2.2⟩
theorem IvC_A14 {z : zS} (h : IvC z) (j : Nat) {v : Int32} (hv : iv 0 10 v) : IvC (upA z 14 (upd (z.2.1 14) j v)) := IvC_R14 h (rw_up (IvC_a14 h) j hv)
theorem IvC_R28 {z : zS} (h : IvC z) {f : Nat → Int32} (hf : ∀ i : Nat, i < 10 → iv 0 10 (f i)) : IvC (upA z 28 f) := ⟨h.1, h.2.1, h.2.2.1, h.2.2.2.1, h.2.2.2.2.1, h.2.2.2.2.2.1, hf, h.2.2.2.2.2.2.2.1, h.2.2.2.2.2.2.2.2⟩
theorem IvC_A28 {z : zS} (h : IvC z) (j : Nat) {v : Int32} (hv : iv 0 10 v) : IvC (upA z 28 (upd (z.2.1 28) j v)) := IvC_R28 h (rw_up (IvC_a28 h) j hv)
theorem IvC_R56 {z : zS} (h : IvC z) {f : Nat → Int32} (hf : ∀ i : Nat, i < 10 → iv 0 10 (f i)) : IvC (upA z 56 f) := ⟨h.1, h.2.1, h.2.2.1, h.2.2.2.1, h.2.2.2.2.1, h.2.2.2.2.2.1, h.2.2.2.2.2.2.1, hf, h.2.2.2.2.2.2.2.2⟩
theorem IvC_A56 {z : zS} (h : IvC z) (j : Nat) {v : Int32} (hv : iv 0 10 v) : IvC (upA z 56 (upd (z.2.1 56) j v)) := IvC_R56 h (rw_up (IvC_a56 h) j hv)
theorem IvC_R59 {z : zS} (h : IvC z) {f : Nat → Int32} (hf : ∀ i : Nat, i < 4 → iv (-1) 40 (f i)) : IvC (upA z 59 f) := ⟨h.1, h.2.1, h.2.2.1, h.2.2.2.1, h.2.2.2.2.1, h.2.2.2.2.2.1, h.2.2.2.2.2.2.1, h.2.2.2.2.2.2.2.1, hf⟩
theorem IvC_A59 {z : zS} (h : IvC z) (j : Nat) {v : Int32} (hv : iv (-1) 40 v) : IvC (upA z 59 (upd (z.2.1 59) j v)) := IvC_R59 h (rw_up (IvC_a59 h) j hv)
theorem IvC_L {z : zS} {k : Nat} {f : Nat → Int64} (h : IvC z) : IvC (upL z k f) := h
set_option maxHeartbeats 4000000 in
set_option maxRecDepth 100000 in
theorem g_X5_isMake (l : Launch) (D : va_G) (cy : Nat → ClassId) (q : Nat → Nat) (hq : bJ 66 q) (z0 : zS) (hI : IvC z0) (p0 : Int32) : bCi l yX5_isMake wsX5_isMake ({ frames := 0, cells := 0, slots := 0, locals := 0 }) D cy 66 (enC cy) q z0 [.int p0] (fun v z => jJ IvC 0 0 0 z0 z ∧ iv 0 1 v ∧ (v = 0 ∨ iv 0 2 p0) ∧ (v = 0 ↔ ¬ iv 0 2 p0)) := by
  refine hM_z cX5_isMake (by decide) rfl (own := RX5) rfl hq (Nat.le_of_ble_eq_true rfl) ?_
  intro p e s m args below meth c Q ls H locs hx hb hml hown hts hK hZ hH hl hret
  have hl : lv_has ls 1 [(0, .int p0)] := hl
  have hJ : jJ IvC 0 0 0 z0 z0 := jJ_rf _ _ _ hI
  have e00 : (0 : Int32).toInt = 0 := (by decide); have e01 : (1 : Int32).toInt = 1 := (by decide); have e02 : (2 : Int32).toInt = 2 := (by decide); have e03 : (3 : Int32).toInt = 3 := (by decide); have e010 : (10 : Int32).toInt = 10 := (by decide)
  have e4 : (4 : Int32).toInt = 4 := (by decide)
  refine lv_iload_n hx hb dX5_isMake_0 rfl (lv_at hl 0 rfl) ?_
  refine lv_if_lt (tgt := 13) hx hb dX5_isMake_1 (by decide) (fun c7 => ?_) (fun c7 => ?_)
  · skip
    have r7 := (iv_Lt c7)
    have k8a : iv (-2147483648) (-1) p0 := iv_ltl (iv_Lt c7) (iv_all p0) (iv_lit (n := 0) 0 (by decide)) (by decide)
    refine lv_iconst (v := 0) hx hb dX5_isMake_13 (by decide) ?_
    exact hret _ z0 H locs _ _ (iv_w (iv_lit (n := 0) 0 (by decide)) (by decide) (by decide)) ⟨hJ, (iv_w (iv_lit (n := 0) 0 (by decide)) (by decide) (by decide)), Or.inl rfl, ⟨fun _ q => (by have := q.1; have := q.2; omega), fun _ => rfl⟩⟩ hH dX5_isMake_14
  · skip
    have r7 := (iv_nLt c7)
    have k9b : iv 0 2147483647 p0 := iv_ler (iv_nLt c7) (iv_lit (n := 0) 0 (by decide)) (iv_all p0)
    refine lv_iload_n hx hb dX5_isMake_4 rfl (lv_at hl 0 rfl) ?_
    refine lv_iconst (v := 3) hx hb dX5_isMake_5 (by decide) ?_
    refine lv_icmp_ge (tgt := 13) hx hb dX5_isMake_6 (by decide) (fun c10 => ?_) (fun c10 => ?_)
    · skip
      have r10 := (iv_Le c10)
      have k11b : iv 3 2147483647 p0 := iv_ler (iv_Le c10) (iv_lit (n := 3) 3 (by decide)) k9b
      refine lv_iconst (v := 0) hx hb dX5_isMake_13 (by decide) ?_
      exact hret _ z0 H locs _ _ (iv_w (iv_lit (n := 0) 0 (by decide)) (by decide) (by decide)) ⟨hJ, (iv_w (iv_lit (n := 0) 0 (by decide)) (by decide) (by decide)), Or.inl rfl, ⟨fun _ q => (by have := q.1; have := q.2; omega), fun _ => rfl⟩⟩ hH dX5_isMake_14
    · skip
      have r10 := (iv_nLe c10)
      have k12a : iv 0 2 p0 := iv_ltl (iv_nLe c10) k9b (iv_lit (n := 3) 3 (by decide)) (by decide)
      refine lv_iconst (v := 1) hx hb dX5_isMake_9 (by decide) ?_
      refine lv_goto (tgt := 14) hx hb dX5_isMake_10 (by decide) ?_
      exact hret _ z0 H locs _ _ (iv_w (iv_lit (n := 1) 1 (by decide)) (by decide) (by decide)) ⟨hJ, (iv_w (iv_lit (n := 1) 1 (by decide)) (by decide) (by decide)), Or.inr (iv_w k12a (by decide) (by decide)), ⟨fun q => absurd q (by decide), fun q => absurd (show iv 0 2 p0 from ⟨by omega, by omega⟩) q⟩⟩ hH dX5_isMake_14
set_option maxHeartbeats 4000000 in
set_option maxRecDepth 100000 in
theorem g_X5_isStation (l : Launch) (D : va_G) (cy : Nat → ClassId) (q : Nat → Nat) (hq : bJ 66 q) (z0 : zS) (hI : IvC z0) (p0 : Int32) : bCi l yX5_isStation wsX5_isStation ({ frames := 0, cells := 0, slots := 0, locals := 0 }) D cy 66 (enC cy) q z0 [.int p0] (fun v z => jJ IvC 0 0 0 z0 z ∧ iv 0 1 v ∧ (v = 0 ∨ iv 1 10 p0)) := by
  refine hM_z cX5_isStation (by decide) rfl (own := RX5) rfl hq (Nat.le_of_ble_eq_true rfl) ?_
  intro p e s m args below meth c Q ls H locs hx hb hml hown hts hK hZ hH hl hret
  have hl : lv_has ls 1 [(0, .int p0)] := hl
  have hJ : jJ IvC 0 0 0 z0 z0 := jJ_rf _ _ _ hI
  have HJ15 : ∀ (H : Heap) (locs : List Loc) (ls : Array Slot), bH D 66 (enC cy) q z0 s.heap H locs → lv_has ls 1 [] → W p l e ({ frames := 0, cells := 0, slots := 0, locals := 0 }) s m args below meth c H locs 0 0 Q (F0 m 15 ls []) := by
    intro H locs ls hH hl
    refine lv_iconst (v := 0) hx hb dX5_isStation_15 (by decide) ?_
    exact hret _ z0 H locs _ _ (iv_w (iv_lit (n := 0) 0 (by decide)) (by decide) (by decide)) ⟨hJ, (iv_w (iv_lit (n := 0) 0 (by decide)) (by decide) (by decide)), Or.inl rfl⟩ hH dX5_isStation_16
  refine lv_iload_n hx hb dX5_isStation_0 rfl (lv_at hl 0 rfl) ?_
  refine lv_iconst (v := 1) hx hb dX5_isStation_1 (by decide) ?_
  refine lv_icmp_lt (tgt := 15) hx hb dX5_isStation_2 (by decide) (fun c7 => ?_) (fun c7 => ?_)
  · skip
    have k8a : iv (-2147483648) 0 p0 := iv_ltl (iv_Lt c7) (iv_all p0) (iv_lit (n := 1) 1 (by decide)) (by decide)
    exact HJ15   H locs ls   hH (lv_sub hl [] rfl)
  · skip
    have k9b : iv 1 2147483647 p0 := iv_ler (iv_nLt c7) (iv_lit (n := 1) 1 (by decide)) (iv_all p0)
    refine lv_iload_n hx hb dX5_isStation_5 rfl (lv_at hl 0 rfl) ?_
    refine lv_bipush (v := 10) hx hb dX5_isStation_6 (by decide) ?_
    refine lv_icmp_gt (tgt := 15) hx hb dX5_isStation_8 (by decide) (fun c10 => ?_) (fun c10 => ?_)
    · skip
      have k11b : iv 11 2147483647 p0 := iv_ltr (iv_Lt c10) (iv_lit (n := 10) 10 (by decide)) k9b (by decide)
      exact HJ15   H locs ls   hH (lv_sub hl [] rfl)
    · skip
      have k12a : iv 1 10 p0 := iv_lel (iv_nLt c10) k9b (iv_lit (n := 10) 10 (by decide))
      refine lv_iconst (v := 1) hx hb dX5_isStation_11 (by decide) ?_
      refine lv_goto (tgt := 16) hx hb dX5_isStation_12 (by decide) ?_
      exact hret _ z0 H locs _ _ (iv_w (iv_lit (n := 1) 1 (by decide)) (by decide) (by decide)) ⟨hJ, (iv_w (iv_lit (n := 1) 1 (by decide)) (by decide) (by decide)), Or.inr (iv_w k12a (by decide) (by decide))⟩ hH dX5_isStation_16
set_option maxHeartbeats 4000000 in
set_option maxRecDepth 100000 in
theorem g_X5_isStationOrNone (l : Launch) (D : va_G) (cy : Nat → ClassId) (q : Nat → Nat) (hq : bJ 66 q) (z0 : zS) (hI : IvC z0) (p0 : Int32) : bCi l yX5_isStationOrNone wsX5_isStationOrNone ({ frames := 0, cells := 0, slots := 0, locals := 0 }) D cy 66 (enC cy) q z0 [.int p0] (fun v z => jJ IvC 0 0 0 z0 z ∧ iv 0 1 v ∧ (v = 0 ∨ iv 0 10 p0) ∧ (v = 0 ↔ ¬ iv 0 10 p0)) := by
  refine hM_z cX5_isStationOrNone (by decide) rfl (own := RX5) rfl hq (Nat.le_of_ble_eq_true rfl) ?_
  intro p e s m args below meth c Q ls H locs hx hb hml hown hts hK hZ hH hl hret
  have hl : lv_has ls 1 [(0, .int p0)] := hl
  have hJ : jJ IvC 0 0 0 z0 z0 := jJ_rf _ _ _ hI
  have e00 : (0 : Int32).toInt = 0 := (by decide); have e01 : (1 : Int32).toInt = 1 := (by decide); have e02 : (2 : Int32).toInt = 2 := (by decide); have e03 : (3 : Int32).toInt = 3 := (by decide); have e010 : (10 : Int32).toInt = 10 := (by decide)
  have e4 : (4 : Int32).toInt = 4 := (by decide)
  refine lv_iload_n hx hb dX5_isStationOrNone_0 rfl (lv_at hl 0 rfl) ?_
  refine lv_if_lt (tgt := 14) hx hb dX5_isStationOrNone_1 (by decide) (fun c7 => ?_) (fun c7 => ?_)
  · skip
    have r7 := (iv_Lt c7)
    have k8a : iv (-2147483648) (-1) p0 := iv_ltl (iv_Lt c7) (iv_all p0) (iv_lit (n := 0) 0 (by decide)) (by decide)
    refine lv_iconst (v := 0) hx hb dX5_isStationOrNone_14 (by decide) ?_
    exact hret _ z0 H locs _ _ (iv_w (iv_lit (n := 0) 0 (by decide)) (by decide) (by decide)) ⟨hJ, (iv_w (iv_lit (n := 0) 0 (by decide)) (by decide) (by decide)), Or.inl rfl, ⟨fun _ q => (by have := q.1; have := q.2; omega), fun _ => rfl⟩⟩ hH dX5_isStationOrNone_15
  · skip
    have r7 := (iv_nLt c7)
    have k9b : iv 0 2147483647 p0 := iv_ler (iv_nLt c7) (iv_lit (n := 0) 0 (by decide)) (iv_all p0)
    refine lv_iload_n hx hb dX5_isStationOrNone_4 rfl (lv_at hl 0 rfl) ?_
    refine lv_bipush (v := 10) hx hb dX5_isStationOrNone_5 (by decide) ?_
    refine lv_icmp_gt (tgt := 14) hx hb dX5_isStationOrNone_7 (by decide) (fun c10 => ?_) (fun c10 => ?_)
    · skip
      have r10 := (iv_Lt c10)
      have k11b : iv 11 2147483647 p0 := iv_ltr (iv_Lt c10) (iv_lit (n := 10) 10 (by decide)) k9b (by decide)
      refine lv_iconst (v := 0) hx hb dX5_isStationOrNone_14 (by decide) ?_
      exact hret _ z0 H locs _ _ (iv_w (iv_lit (n := 0) 0 (by decide)) (by decide) (by decide)) ⟨hJ, (iv_w (iv_lit (n := 0) 0 (by decide)) (by decide) (by decide)), Or.inl rfl, ⟨fun _ q => (by have := q.1; have := q.2; omega), fun _ => rfl⟩⟩ hH dX5_isStationOrNone_15
    · skip
      have r10 := (iv_nLt c10)
      have k12a : iv 0 10 p0 := iv_lel (iv_nLt c10) k9b (iv_lit (n := 10) 10 (by decide))
      refine lv_iconst (v := 1) hx hb dX5_isStationOrNone_10 (by decide) ?_
      refine lv_goto (tgt := 15) hx hb dX5_isStationOrNone_11 (by decide) ?_
      exact hret _ z0 H locs _ _ (iv_w (iv_lit (n := 1) 1 (by decide)) (by decide) (by decide)) ⟨hJ, (iv_w (iv_lit (n := 1) 1 (by decide)) (by decide) (by decide)), Or.inr (iv_w k12a (by decide) (by decide)), ⟨fun q => absurd q (by decide), fun q => absurd (show iv 0 10 p0 from ⟨by omega, by omega⟩) q⟩⟩ hH dX5_isStationOrNone_15
set_option maxHeartbeats 4000000 in
set_option maxRecDepth 100000 in
theorem g_X5_isSheet (l : Launch) (D : va_G) (cy : Nat → ClassId) (q : Nat → Nat) (hq : bJ 66 q) (z0 : zS) (hI : IvC z0) (p0 : Int32) : bCi l yX5_isSheet wsX5_isSheet ({ frames := 0, cells := 0, slots := 0, locals := 0 }) D cy 66 (enC cy) q z0 [.int p0] (fun v z => jJ IvC 0 0 0 z0 z ∧ iv 0 1 v ∧ (v = 0 ∨ iv 0 3 p0) ∧ (v = 0 ↔ ¬ iv 0 3 p0)) := by
  refine hM_z cX5_isSheet (by decide) rfl (own := RX5) rfl hq (Nat.le_of_ble_eq_true rfl) ?_
  intro p e s m args below meth c Q ls H locs hx hb hml hown hts hK hZ hH hl hret
  have hl : lv_has ls 1 [(0, .int p0)] := hl
  have hJ : jJ IvC 0 0 0 z0 z0 := jJ_rf _ _ _ hI
  have e00 : (0 : Int32).toInt = 0 := (by decide); have e01 : (1 : Int32).toInt = 1 := (by decide); have e02 : (2 : Int32).toInt = 2 := (by decide); have e03 : (3 : Int32).toInt = 3 := (by decide); have e010 : (10 : Int32).toInt = 10 := (by decide)
  have e4 : (4 : Int32).toInt = 4 := (by decide)
  refine lv_iload_n hx hb dX5_isSheet_0 rfl (lv_at hl 0 rfl) ?_
  refine lv_if_lt (tgt := 13) hx hb dX5_isSheet_1 (by decide) (fun c7 => ?_) (fun c7 => ?_)
  · skip
    have r7 := (iv_Lt c7)
    have k8a : iv (-2147483648) (-1) p0 := iv_ltl (iv_Lt c7) (iv_all p0) (iv_lit (n := 0) 0 (by decide)) (by decide)
    refine lv_iconst (v := 0) hx hb dX5_isSheet_13 (by decide) ?_
    exact hret _ z0 H locs _ _ (iv_w (iv_lit (n := 0) 0 (by decide)) (by decide) (by decide)) ⟨hJ, (iv_w (iv_lit (n := 0) 0 (by decide)) (by decide) (by decide)), Or.inl rfl, ⟨fun _ q => (by have := q.1; have := q.2; omega), fun _ => rfl⟩⟩ hH dX5_isSheet_14
  · skip
    have r7 := (iv_nLt c7)
    have k9b : iv 0 2147483647 p0 := iv_ler (iv_nLt c7) (iv_lit (n := 0) 0 (by decide)) (iv_all p0)
    refine lv_iload_n hx hb dX5_isSheet_4 rfl (lv_at hl 0 rfl) ?_
    refine lv_iconst (v := 4) hx hb dX5_isSheet_5 (by decide) ?_
    refine lv_icmp_ge (tgt := 13) hx hb dX5_isSheet_6 (by decide) (fun c10 => ?_) (fun c10 => ?_)
    · skip
      have r10 := (iv_Le c10)
      have k11b : iv 4 2147483647 p0 := iv_ler (iv_Le c10) (iv_lit (n := 4) 4 (by decide)) k9b
      refine lv_iconst (v := 0) hx hb dX5_isSheet_13 (by decide) ?_
      exact hret _ z0 H locs _ _ (iv_w (iv_lit (n := 0) 0 (by decide)) (by decide) (by decide)) ⟨hJ, (iv_w (iv_lit (n := 0) 0 (by decide)) (by decide) (by decide)), Or.inl rfl, ⟨fun _ q => (by have := q.1; have := q.2; omega), fun _ => rfl⟩⟩ hH dX5_isSheet_14
    · skip
      have r10 := (iv_nLe c10)
      have k12a : iv 0 3 p0 := iv_ltl (iv_nLe c10) k9b (iv_lit (n := 4) 4 (by decide)) (by decide)
      refine lv_iconst (v := 1) hx hb dX5_isSheet_9 (by decide) ?_
      refine lv_goto (tgt := 14) hx hb dX5_isSheet_10 (by decide) ?_
      exact hret _ z0 H locs _ _ (iv_w (iv_lit (n := 1) 1 (by decide)) (by decide) (by decide)) ⟨hJ, (iv_w (iv_lit (n := 1) 1 (by decide)) (by decide) (by decide)), Or.inr (iv_w k12a (by decide) (by decide)), ⟨fun q => absurd q (by decide), fun q => absurd (show iv 0 3 p0 from ⟨by omega, by omega⟩) q⟩⟩ hH dX5_isSheet_14
set_option maxHeartbeats 4000000 in
set_option maxRecDepth 100000 in
theorem g_X5_isSort (l : Launch) (D : va_G) (cy : Nat → ClassId) (q : Nat → Nat) (hq : bJ 66 q) (z0 : zS) (hI : IvC z0) (p0 : Int32) : bCi l yX5_isSort wsX5_isSort ({ frames := 0, cells := 0, slots := 0, locals := 0 }) D cy 66 (enC cy) q z0 [.int p0] (fun v z => jJ IvC 0 0 0 z0 z ∧ iv 0 1 v ∧ (v = 0 ∨ iv 0 2 p0) ∧ (v = 0 ↔ ¬ iv 0 2 p0)) := by
  refine hM_z cX5_isSort (by decide) rfl (own := RX5) rfl hq (Nat.le_of_ble_eq_true rfl) ?_
  intro p e s m args below meth c Q ls H locs hx hb hml hown hts hK hZ hH hl hret
  have hl : lv_has ls 1 [(0, .int p0)] := hl
  have hJ : jJ IvC 0 0 0 z0 z0 := jJ_rf _ _ _ hI
  have e00 : (0 : Int32).toInt = 0 := (by decide); have e01 : (1 : Int32).toInt = 1 := (by decide); have e02 : (2 : Int32).toInt = 2 := (by decide); have e03 : (3 : Int32).toInt = 3 := (by decide); have e010 : (10 : Int32).toInt = 10 := (by decide)
  have e4 : (4 : Int32).toInt = 4 := (by decide)
  refine lv_iload_n hx hb dX5_isSort_0 rfl (lv_at hl 0 rfl) ?_
  refine lv_if_lt (tgt := 13) hx hb dX5_isSort_1 (by decide) (fun c7 => ?_) (fun c7 => ?_)
  · skip
    have r7 := (iv_Lt c7)
    have k8a : iv (-2147483648) (-1) p0 := iv_ltl (iv_Lt c7) (iv_all p0) (iv_lit (n := 0) 0 (by decide)) (by decide)
    refine lv_iconst (v := 0) hx hb dX5_isSort_13 (by decide) ?_
    exact hret _ z0 H locs _ _ (iv_w (iv_lit (n := 0) 0 (by decide)) (by decide) (by decide)) ⟨hJ, (iv_w (iv_lit (n := 0) 0 (by decide)) (by decide) (by decide)), Or.inl rfl, ⟨fun _ q => (by have := q.1; have := q.2; omega), fun _ => rfl⟩⟩ hH dX5_isSort_14
  · skip
    have r7 := (iv_nLt c7)
    have k9b : iv 0 2147483647 p0 := iv_ler (iv_nLt c7) (iv_lit (n := 0) 0 (by decide)) (iv_all p0)
    refine lv_iload_n hx hb dX5_isSort_4 rfl (lv_at hl 0 rfl) ?_
    refine lv_iconst (v := 3) hx hb dX5_isSort_5 (by decide) ?_
    refine lv_icmp_ge (tgt := 13) hx hb dX5_isSort_6 (by decide) (fun c10 => ?_) (fun c10 => ?_)
    · skip
      have r10 := (iv_Le c10)
      have k11b : iv 3 2147483647 p0 := iv_ler (iv_Le c10) (iv_lit (n := 3) 3 (by decide)) k9b
      refine lv_iconst (v := 0) hx hb dX5_isSort_13 (by decide) ?_
      exact hret _ z0 H locs _ _ (iv_w (iv_lit (n := 0) 0 (by decide)) (by decide) (by decide)) ⟨hJ, (iv_w (iv_lit (n := 0) 0 (by decide)) (by decide) (by decide)), Or.inl rfl, ⟨fun _ q => (by have := q.1; have := q.2; omega), fun _ => rfl⟩⟩ hH dX5_isSort_14
    · skip
      have r10 := (iv_nLe c10)
      have k12a : iv 0 2 p0 := iv_ltl (iv_nLe c10) k9b (iv_lit (n := 3) 3 (by decide)) (by decide)
      refine lv_iconst (v := 1) hx hb dX5_isSort_9 (by decide) ?_
      refine lv_goto (tgt := 14) hx hb dX5_isSort_10 (by decide) ?_
      exact hret _ z0 H locs _ _ (iv_w (iv_lit (n := 1) 1 (by decide)) (by decide) (by decide)) ⟨hJ, (iv_w (iv_lit (n := 1) 1 (by decide)) (by decide) (by decide)), Or.inr (iv_w k12a (by decide) (by decide)), ⟨fun q => absurd q (by decide), fun q => absurd (show iv 0 2 p0 from ⟨by omega, by omega⟩) q⟩⟩ hH dX5_isSort_14
set_option maxHeartbeats 4000000 in
set_option maxRecDepth 100000 in
theorem g_X5_takenUp (l : Launch) (D : va_G) (cy : Nat → ClassId) (q : Nat → Nat) (hq : bJ 66 q) (z0 : zS) (hI : IvC z0) (p0 : Int32) (p1 : Int32) : bCi l yX5_takenUp wsX5_takenUp ({ frames := 0, cells := 0, slots := 0, locals := 0 }) D cy 66 (enC cy) q z0 [.int p0, .int p1] (fun v z => jJ IvC 0 0 0 z0 z ∧ iv (-2147483648) 2147483647 v) := by
  refine hM_i cX5_takenUp (by decide) rfl (own := RX5) rfl hq (Nat.le_of_ble_eq_true rfl) ?_
  intro p e s m args below meth c Q ls H locs hx hb hml hown hts hK hZ hH hl hret
  have hl : lv_has ls 2 [(0, .int p0), (1, .int p1)] := hl
  have hJ : jJ IvC 0 0 0 z0 z0 := jJ_rf _ _ _ hI
  refine lv_iload_n hx hb dX5_takenUp_0 rfl (lv_at hl 1 rfl) ?_
  refine lv_iconst (v := 1) hx hb dX5_takenUp_1 (by decide) ?_
  refine lv_icmp_ge (tgt := 9) hx hb dX5_takenUp_2 (by decide) (fun c7 => ?_) (fun c7 => ?_)
  · skip
    have k8b : iv 1 2147483647 p1 := iv_ler (iv_Le c7) (iv_lit (n := 1) 1 (by decide)) (iv_all p1)
    refine lv_iload_n hx hb dX5_takenUp_9 rfl (lv_at hl 0 rfl) ?_
    refine lv_iload_n hx hb dX5_takenUp_10 rfl (lv_at hl 1 rfl) ?_
    refine lv_iadd hx hb dX5_takenUp_11 ?_
    refine lv_topi (fun w9 _ => ?_)
    refine lv_iconst (v := 1) hx hb dX5_takenUp_12 (by decide) ?_
    refine lv_isub hx hb dX5_takenUp_13 ?_
    refine lv_topi (fun w10 _ => ?_)
    refine lv_iload_n hx hb dX5_takenUp_14 rfl (lv_at hl 1 rfl) ?_
    refine lv_idiv hx hb dX5_takenUp_15 (iv_nz k8b (by decide)) ?_
    refine lv_topi (fun w11 _ => ?_)
    exact hret _ z0 H locs _ _ ⟨hJ, (iv_all w11)⟩ hH dX5_takenUp_16
  · skip
    have k12a : iv (-2147483648) 0 p1 := iv_ltl (iv_nLe c7) (iv_all p1) (iv_lit (n := 1) 1 (by decide)) (by decide)
    refine lv_iconst (v := 0) hx hb dX5_takenUp_5 (by decide) ?_
    refine lv_goto (tgt := 16) hx hb dX5_takenUp_6 (by decide) ?_
    exact hret _ z0 H locs _ _ ⟨hJ, (iv_w (iv_lit (n := 0) 0 (by decide)) (by decide) (by decide))⟩ hH dX5_takenUp_16
set_option maxHeartbeats 4000000 in
set_option maxRecDepth 100000 in
theorem g_X0_has_1 (l : Launch) (D : va_G) (cy : Nat → ClassId) (q : Nat → Nat) (hq : bJ 66 q) (z0 : zS) (hI : IvC z0) (p0 : Int32) : bCi l yX0_has wsX0_has ({ frames := 0, cells := 0, slots := 0, locals := 0 }) D cy 66 (enC cy) q z0 [.ref (q 1), .int p0] (fun v z => jJ IvC 0 0 0 z0 z ∧ iv 0 1 v ∧ (v = 0 ∨ iv 0 9 p0) ∧ (v = 0 ↔ ¬ (0 ≤ p0.toInt ∧ p0.toInt < (z0.1 0).toInt))) := by
  refine hM_z cX0_has (by decide) rfl (own := RX0) rfl hq (Nat.le_of_ble_eq_true rfl) ?_
  intro p e s m args below meth c Q ls H locs hx hb hml hown hts hK hZ hH hl hret
  have hl : lv_has ls 2 [(0, .ref (q 1)), (1, .int p0)] := hl
  have hJ : jJ IvC 0 0 0 z0 z0 := jJ_rf _ _ _ hI
  have e00 : (0 : Int32).toInt = 0 := (by decide); have e01 : (1 : Int32).toInt = 1 := (by decide); have e02 : (2 : Int32).toInt = 2 := (by decide); have e03 : (3 : Int32).toInt = 3 := (by decide); have e010 : (10 : Int32).toInt = 10 := (by decide)
  refine lv_iload_n hx hb dX0_has_0 rfl (lv_at hl 1 rfl) ?_
  refine lv_if_lt (tgt := 16) hx hb dX0_has_1 (by decide) (fun c8 => ?_) (fun c8 => ?_)
  · skip
    have r8 := (iv_Lt c8)
    have k9a : iv (-2147483648) (-1) p0 := iv_ltl (iv_Lt c8) (iv_all p0) (iv_lit (n := 0) 0 (by decide)) (by decide)
    refine lv_iconst (v := 0) hx hb dX0_has_16 (by decide) ?_
    exact hret _ z0 H locs _ _ (iv_w (iv_lit (n := 0) 0 (by decide)) (by decide) (by decide)) ⟨hJ, (iv_w (iv_lit (n := 0) 0 (by decide)) (by decide) (by decide)), Or.inl rfl, ⟨fun _ q => (by have := q.1; have := q.2; omega), fun _ => rfl⟩⟩ hH dX0_has_17
  · skip
    have r8 := (iv_nLt c8)
    have k10b : iv 0 2147483647 p0 := iv_ler (iv_nLt c8) (iv_lit (n := 0) 0 (by decide)) (iv_all p0)
    refine lv_iload_n hx hb dX0_has_4 rfl (lv_at hl 1 rfl) ?_
    refine lv_aload_n hx hb dX0_has_5 rfl (lv_at hl 0 rfl) ?_
    refine b_get (ci := 0) (C := RX0) (T := TX0) (Nf := 11) (v := .int (z0.1 0)) hx hb hts in_X0_has_X0 hown hK hH 1 (by decide) rfl rfl 0 (by decide) (hts (.fieldLink RX0 9 "StationLine$Bench" "size" "I") (List.mem_of_getElem? (i := 1) rfl)) rfl dX0_has_6 ?_
    have i11 := IvC_s0 hJ.1
    have := i11.1; have := i11.2
    refine lv_icmp_ge (tgt := 16) hx hb dX0_has_9 (by decide) (fun c12 => ?_) (fun c12 => ?_)
    · skip
      have r12 := (iv_Le c12)
      refine lv_iconst (v := 0) hx hb dX0_has_16 (by decide) ?_
      exact hret _ z0 H locs _ _ (iv_w (iv_lit (n := 0) 0 (by decide)) (by decide) (by decide)) ⟨hJ, (iv_w (iv_lit (n := 0) 0 (by decide)) (by decide) (by decide)), Or.inl rfl, ⟨fun _ q => (by have := q.1; have := q.2; omega), fun _ => rfl⟩⟩ hH dX0_has_17
    · skip
      have r12 := (iv_nLe c12)
      have k14a : iv 0 9 p0 := iv_ltl (iv_nLe c12) k10b i11 (by decide)
      have k14b : iv 1 10 (z0.1 0) := iv_ltr (iv_nLe c12) k10b i11 (by decide)
      refine lv_iconst (v := 1) hx hb dX0_has_12 (by decide) ?_
      refine lv_goto (tgt := 17) hx hb dX0_has_13 (by decide) ?_
      exact hret _ z0 H locs _ _ (iv_w (iv_lit (n := 1) 1 (by decide)) (by decide) (by decide)) ⟨hJ, (iv_w (iv_lit (n := 1) 1 (by decide)) (by decide) (by decide)), Or.inr (iv_w k14a (by decide) (by decide)), ⟨fun q => absurd q (by decide), fun q => absurd (show 0 ≤ p0.toInt ∧ p0.toInt < (z0.1 0).toInt from ⟨by omega, by omega⟩) q⟩⟩ hH dX0_has_17
set_option maxHeartbeats 4000000 in
set_option maxRecDepth 100000 in
theorem g_X0_all_1 (l : Launch) (D : va_G) (cy : Nat → ClassId) (q : Nat → Nat) (hq : bJ 66 q) (z0 : zS) (hI : IvC z0)  : bCi l yX0_all wsX0_all ({ frames := 0, cells := 0, slots := 0, locals := 0 }) D cy 66 (enC cy) q z0 [.ref (q 1)] (fun v z => jJ IvC 0 0 0 z0 z ∧ iv 0 1023 v) := by
  refine hM_i cX0_all (by decide) rfl (own := RX0) rfl hq (Nat.le_of_ble_eq_true rfl) ?_
  intro p e s m args below meth c Q ls H locs hx hb hml hown hts hK hZ hH hl hret
  have hl : lv_has ls 1 [(0, .ref (q 1))] := hl
  have hJ : jJ IvC 0 0 0 z0 z0 := jJ_rf _ _ _ hI
  refine lv_iconst (v := 1) hx hb dX0_all_0 (by decide) ?_
  refine lv_aload_n hx hb dX0_all_1 rfl (lv_at hl 0 rfl) ?_
  refine b_get (ci := 0) (C := RX0) (T := TX0) (Nf := 11) (v := .int (z0.1 0)) hx hb hts in_X0_all_X0 hown hK hH 1 (by decide) rfl rfl 0 (by decide) (hts (.fieldLink RX0 9 "StationLine$Bench" "size" "I") (List.mem_of_getElem? (i := 1) rfl)) rfl dX0_all_2 ?_
  have i4 := IvC_s0 hJ.1
  refine lv_ishl hx hb dX0_all_5 ?_
  refine h_i (a := 1) (b := 1024) (iv_bitA i4 (by decide) (by decide)) (fun w5 i5 => ?_)
  refine lv_iconst (v := 1) hx hb dX0_all_6 (by decide) ?_
  refine lv_isub hx hb dX0_all_7 ?_
  refine h_iE (a := 0) (b := 1023) (t := w5.toInt - 1) (iv_sub i5 (iv_lit (n := 1) 1 (by decide)) (by decide) (by decide) (by decide) (by decide)) ((iv_subE i5 (iv_lit (n := 1) 1 (by decide)) (by decide) (by decide)).trans rfl) (fun w6 i6 e6 => ?_)
  exact hret _ z0 H locs _ _ ⟨hJ, i6⟩ hH dX0_all_8
set_option maxHeartbeats 4000000 in
set_option maxRecDepth 100000 in
theorem g_X0_add_1 (l : Launch) (D : va_G) (cy : Nat → ClassId) (q : Nat → Nat) (hq : bJ 66 q) (z0 : zS) (hI : IvC z0) (hs0 : iv 0 9 (z0.1 0)) : bCi l yX0_add wsX0_add ({ frames := 0, cells := 0, slots := 0, locals := 0 }) D cy 66 (enC cy) q z0 [.ref (q 1)] (fun v z => jJ IvC 1 8176 0 z0 z ∧ iv 0 9 v ∧ (v = z0.1 0 ∧ z.1 0 = z0.1 0 + 1) ∧ (z.2.1 7 = upd (z0.2.1 7) (z0.1 0).toNatClampNeg 0 ∧ z.2.1 8 = upd (z0.2.1 8) (z0.1 0).toNatClampNeg 0 ∧ z.2.1 9 = upd (z0.2.1 9) (z0.1 0).toNatClampNeg 0 ∧ z.2.1 10 = upd (z0.2.1 10) (z0.1 0).toNatClampNeg 0 ∧ z.2.1 11 = upd (z0.2.1 11) (z0.1 0).toNatClampNeg 0 ∧ z.2.1 12 = upd (z0.2.1 12) (z0.1 0).toNatClampNeg 0) ∧ (TAd z0 z (z0.1 0).toNatClampNeg 3)) := by
  refine hM_i cX0_add (by decide) rfl (own := RX0) rfl hq (Nat.le_of_ble_eq_true rfl) ?_
  intro p e s m args below meth c Q ls H locs hx hb hml hown hts hK hZ hH hl hret
  have hl : lv_has ls 3 [(0, .ref (q 1))] := hl
  have hJ : jJ IvC 1 8176 0 z0 z0 := jJ_rf _ _ _ hI
  have HL7 : ∀ (n : Nat) (x1_7 : Int32) (x2_7 : Int32) (z_7 : zS) (H : Heap) (locs : List Loc) (ls : Array Slot), iv 0 9 x1_7 → iv 0 3 x2_7 → iv 0 9 (z_7.1 0) → (z_7.1 0 = z0.1 0 ∧ x1_7 = z0.1 0 ∧ z_7.2.1 7 = z0.2.1 7 ∧ z_7.2.1 8 = z0.2.1 8 ∧ z_7.2.1 9 = z0.2.1 9 ∧ z_7.2.1 10 = z0.2.1 10 ∧ z_7.2.1 11 = z0.2.1 11 ∧ z_7.2.1 12 = z0.2.1 12 ∧ TAd z0 z_7 (z0.1 0).toNatClampNeg (x2_7 : Int32).toNatClampNeg) → jJ IvC 1 8176 0 z0 z_7 → bH D 66 (enC cy) q z_7 s.heap H locs → lv_has ls 3 [(0, .ref (q 1)), (1, .int x1_7), (2, .int x2_7)] → (3 - x2_7.toInt).toNat = n → W p l e ({ frames := 0, cells := 0, slots := 0, locals := 0 }) s m args below meth c H locs 0 0 Q (F0 m 7 ls []) := by
    intro n7
    induction n7 using Nat.strongRecOn with
    | ind n7 ih7 =>
      intro x1_7 x2_7 z_7 H locs ls h1_7 h2_7 gh0_7 ex_7 hJ hH hl hn7
      refine lv_iload_n hx hb dX0_add_7 rfl (lv_at hl 2 rfl) ?_
      refine lv_iconst (v := 3) hx hb dX0_add_8 (by decide) ?_
      refine lv_icmp_ge (tgt := 27) hx hb dX0_add_9 (by decide) (fun c40 => ?_) (fun c40 => ?_)
      · skip
        have k41b : iv 3 3 x2_7 := iv_ler (iv_Le c40) (iv_lit (n := 3) 3 (by decide)) h2_7
        refine lv_aload_n hx hb dX0_add_27 rfl (lv_at hl 0 rfl) ?_
        refine b_get (ci := 0) (C := RX0) (T := TX0) (Nf := 11) (v := .ref (q 7)) hx hb hts in_X0_add_X0 hown hK hH 1 (by decide) rfl rfl 5 (by decide) (hts (.fieldLink RX0 30 "StationLine$Bench" "before" "[I") (List.mem_of_getElem? (i := 3) rfl)) rfl dX0_add_28 ?_
        refine lv_iload_n hx hb dX0_add_31 rfl (lv_at hl 1 rfl) ?_
        refine lv_iconst (v := 0) hx hb dX0_add_32 (by decide) ?_
        refine b_iast hx hb hK hH 7 (by decide) rfl (iv_in h1_7 (by decide) (by decide)) (upA z_7 7 (upd (z_7.2.1 7) (x1_7 : Int32).toNatClampNeg 0)) rfl (enC_A _ _ _ _ _) dX0_add_33 (fun H locs hH => ?_)
        obtain ⟨z42, hz42⟩ : ∃ w : zS, w = upA z_7 7 (upd (z_7.2.1 7) (x1_7 : Int32).toNatClampNeg 0) := ⟨_, rfl⟩
        rw [← hz42] at hH
        have hJ : jJ IvC 1 8176 0 z0 z42 := by rw [hz42]; exact jJ_A hJ (by decide) (IvC_A hJ.1 (by decide))
        have g43 : iv 0 9 (z42.1 0) := by rw [hz42]; exact gh0_7
        refine lv_aload_n hx hb dX0_add_34 rfl (lv_at hl 0 rfl) ?_
        refine b_get (ci := 0) (C := RX0) (T := TX0) (Nf := 11) (v := .ref (q 8)) hx hb hts in_X0_add_X0 hown hK hH 1 (by decide) rfl rfl 6 (by decide) (hts (.fieldLink RX0 33 "StationLine$Bench" "leading" "[I") (List.mem_of_getElem? (i := 4) rfl)) rfl dX0_add_35 ?_
        refine lv_iload_n hx hb dX0_add_38 rfl (lv_at hl 1 rfl) ?_
        refine lv_iconst (v := 0) hx hb dX0_add_39 (by decide) ?_
        refine b_iast hx hb hK hH 8 (by decide) rfl (iv_in h1_7 (by decide) (by decide)) (upA z42 8 (upd (z42.2.1 8) (x1_7 : Int32).toNatClampNeg 0)) rfl (enC_A _ _ _ _ _) dX0_add_40 (fun H locs hH => ?_)
        obtain ⟨z44, hz44⟩ : ∃ w : zS, w = upA z42 8 (upd (z42.2.1 8) (x1_7 : Int32).toNatClampNeg 0) := ⟨_, rfl⟩
        rw [← hz44] at hH
        have hJ : jJ IvC 1 8176 0 z0 z44 := by rw [hz44]; exact jJ_A hJ (by decide) (IvC_A hJ.1 (by decide))
        have g45 : iv 0 9 (z44.1 0) := by rw [hz44]; exact g43
        refine lv_aload_n hx hb dX0_add_41 rfl (lv_at hl 0 rfl) ?_
        refine b_get (ci := 0) (C := RX0) (T := TX0) (Nf := 11) (v := .ref (q 9)) hx hb hts in_X0_add_X0 hown hK hH 1 (by decide) rfl rfl 7 (by decide) (hts (.fieldLink RX0 36 "StationLine$Bench" "following" "[I") (List.mem_of_getElem? (i := 5) rfl)) rfl dX0_add_42 ?_
        refine lv_iload_n hx hb dX0_add_45 rfl (lv_at hl 1 rfl) ?_
        refine lv_iconst (v := 0) hx hb dX0_add_46 (by decide) ?_
        refine b_iast hx hb hK hH 9 (by decide) rfl (iv_in h1_7 (by decide) (by decide)) (upA z44 9 (upd (z44.2.1 9) (x1_7 : Int32).toNatClampNeg 0)) rfl (enC_A _ _ _ _ _) dX0_add_47 (fun H locs hH => ?_)
        obtain ⟨z46, hz46⟩ : ∃ w : zS, w = upA z44 9 (upd (z44.2.1 9) (x1_7 : Int32).toNatClampNeg 0) := ⟨_, rfl⟩
        rw [← hz46] at hH
        have hJ : jJ IvC 1 8176 0 z0 z46 := by rw [hz46]; exact jJ_A hJ (by decide) (IvC_A hJ.1 (by decide))
        have g47 : iv 0 9 (z46.1 0) := by rw [hz46]; exact g45
        refine lv_aload_n hx hb dX0_add_48 rfl (lv_at hl 0 rfl) ?_
        refine b_get (ci := 0) (C := RX0) (T := TX0) (Nf := 11) (v := .ref (q 10)) hx hb hts in_X0_add_X0 hown hK hH 1 (by decide) rfl rfl 8 (by decide) (hts (.fieldLink RX0 39 "StationLine$Bench" "together" "[I") (List.mem_of_getElem? (i := 6) rfl)) rfl dX0_add_49 ?_
        refine lv_iload_n hx hb dX0_add_52 rfl (lv_at hl 1 rfl) ?_
        refine lv_iconst (v := 0) hx hb dX0_add_53 (by decide) ?_
        refine b_iast hx hb hK hH 10 (by decide) rfl (iv_in h1_7 (by decide) (by decide)) (upA z46 10 (upd (z46.2.1 10) (x1_7 : Int32).toNatClampNeg 0)) rfl (enC_A _ _ _ _ _) dX0_add_54 (fun H locs hH => ?_)
        obtain ⟨z48, hz48⟩ : ∃ w : zS, w = upA z46 10 (upd (z46.2.1 10) (x1_7 : Int32).toNatClampNeg 0) := ⟨_, rfl⟩
        rw [← hz48] at hH
        have hJ : jJ IvC 1 8176 0 z0 z48 := by rw [hz48]; exact jJ_A hJ (by decide) (IvC_A hJ.1 (by decide))
        have g49 : iv 0 9 (z48.1 0) := by rw [hz48]; exact g47
        refine lv_aload_n hx hb dX0_add_55 rfl (lv_at hl 0 rfl) ?_
        refine b_get (ci := 0) (C := RX0) (T := TX0) (Nf := 11) (v := .ref (q 11)) hx hb hts in_X0_add_X0 hown hK hH 1 (by decide) rfl rfl 9 (by decide) (hts (.fieldLink RX0 42 "StationLine$Bench" "apart" "[I") (List.mem_of_getElem? (i := 7) rfl)) rfl dX0_add_56 ?_
        refine lv_iload_n hx hb dX0_add_59 rfl (lv_at hl 1 rfl) ?_
        refine lv_iconst (v := 0) hx hb dX0_add_60 (by decide) ?_
        refine b_iast hx hb hK hH 11 (by decide) rfl (iv_in h1_7 (by decide) (by decide)) (upA z48 11 (upd (z48.2.1 11) (x1_7 : Int32).toNatClampNeg 0)) rfl (enC_A _ _ _ _ _) dX0_add_61 (fun H locs hH => ?_)
        obtain ⟨z50, hz50⟩ : ∃ w : zS, w = upA z48 11 (upd (z48.2.1 11) (x1_7 : Int32).toNatClampNeg 0) := ⟨_, rfl⟩
        rw [← hz50] at hH
        have hJ : jJ IvC 1 8176 0 z0 z50 := by rw [hz50]; exact jJ_A hJ (by decide) (IvC_A hJ.1 (by decide))
        have g51 : iv 0 9 (z50.1 0) := by rw [hz50]; exact g49
        refine lv_aload_n hx hb dX0_add_62 rfl (lv_at hl 0 rfl) ?_
        refine b_get (ci := 0) (C := RX0) (T := TX0) (Nf := 11) (v := .ref (q 12)) hx hb hts in_X0_add_X0 hown hK hH 1 (by decide) rfl rfl 10 (by decide) (hts (.fieldLink RX0 45 "StationLine$Bench" "held" "[I") (List.mem_of_getElem? (i := 8) rfl)) rfl dX0_add_63 ?_
        refine lv_iload_n hx hb dX0_add_66 rfl (lv_at hl 1 rfl) ?_
        refine lv_iconst (v := 0) hx hb dX0_add_67 (by decide) ?_
        refine b_iast hx hb hK hH 12 (by decide) rfl (iv_in h1_7 (by decide) (by decide)) (upA z50 12 (upd (z50.2.1 12) (x1_7 : Int32).toNatClampNeg 0)) rfl (enC_A _ _ _ _ _) dX0_add_68 (fun H locs hH => ?_)
        obtain ⟨z52, hz52⟩ : ∃ w : zS, w = upA z50 12 (upd (z50.2.1 12) (x1_7 : Int32).toNatClampNeg 0) := ⟨_, rfl⟩
        rw [← hz52] at hH
        have hJ : jJ IvC 1 8176 0 z0 z52 := by rw [hz52]; exact jJ_A hJ (by decide) (IvC_A hJ.1 (by decide))
        have g53 : iv 0 9 (z52.1 0) := by rw [hz52]; exact g51
        refine lv_aload_n hx hb dX0_add_69 rfl (lv_at hl 0 rfl) ?_
        refine lv_dup hx hb dX0_add_70 rfl ?_
        refine b_get (ci := 0) (C := RX0) (T := TX0) (Nf := 11) (v := .int (z52.1 0)) hx hb hts in_X0_add_X0 hown hK hH 1 (by decide) rfl rfl 0 (by decide) (hts (.fieldLink RX0 9 "StationLine$Bench" "size" "I") (List.mem_of_getElem? (i := 1) rfl)) rfl dX0_add_71 ?_
        refine lv_iconst (v := 1) hx hb dX0_add_74 (by decide) ?_
        refine lv_iadd hx hb dX0_add_75 ?_
        have i54 : iv 1 10 ((z52.1 0) + 1) := (iv_add g53 (iv_lit (n := 1) 1 (by decide)) (by decide) (by decide) (by decide) (by decide))
        have e54 : ((z52.1 0) + 1).toInt = (z52.1 0).toInt + 1 := ((iv_addE g53 (iv_lit (n := 1) 1 (by decide)) (by decide) (by decide)).trans rfl)
        refine b_put (ci := 0) (C := RX0) (T := TX0) (Nf := 11) (v := .int ((z52.1 0) + 1)) (ty := .int) hx hb hts in_X0_add_X0 tyX0 tyX0_ok nmX0 hown hK hH 1 (by decide) rfl rfl 0 (by decide) (hts (.fieldLink RX0 9 "StationLine$Bench" "size" "I") (List.mem_of_getElem? (i := 1) rfl)) rfl (by decide +kernel) rfl rfl (Nat.le_of_ble_eq_true rfl) (upS z52 0 ((z52.1 0) + 1)) rfl (enC_S0 _ _ _ _) dX0_add_76 (fun H locs hH => ?_)
        obtain ⟨z55, hz55⟩ : ∃ w : zS, w = upS z52 0 ((z52.1 0) + 1) := ⟨_, rfl⟩
        rw [← hz55] at hH
        have hJ : jJ IvC 1 8176 0 z0 z55 := by rw [hz55]; exact jJ_S hJ (by decide) (IvC_S0 hJ.1 (iv_w i54 (by decide) (by decide)))
        have g56 : iv 1 10 (z55.1 0) := by rw [hz55]; exact i54
        refine lv_iload_n hx hb dX0_add_79 rfl (lv_at hl 1 rfl) ?_
        exact hret _ z55 H locs _ _ ⟨hJ, h1_7, ⟨ex_7.2.1, by rw [hz55]; exact congrArg (· + 1) ((((show z52.1 0 = z50.1 0 by rw [hz52]; first | rfl | exact upA_n (by omega))).trans (((show z50.1 0 = z48.1 0 by rw [hz50]; first | rfl | exact upA_n (by omega))).trans (((show z48.1 0 = z46.1 0 by rw [hz48]; first | rfl | exact upA_n (by omega))).trans (((show z46.1 0 = z44.1 0 by rw [hz46]; first | rfl | exact upA_n (by omega))).trans (((show z44.1 0 = z42.1 0 by rw [hz44]; first | rfl | exact upA_n (by omega))).trans ((show z42.1 0 = z_7.1 0 by rw [hz42]; first | rfl | exact upA_n (by omega)))))))).trans ex_7.1)⟩, ⟨((((show z55.2.1 7 = z52.2.1 7 by rw [hz55]; first | rfl | exact upA_n (by omega))).trans (((show z52.2.1 7 = z50.2.1 7 by rw [hz52]; first | rfl | exact upA_n (by omega))).trans (((show z50.2.1 7 = z48.2.1 7 by rw [hz50]; first | rfl | exact upA_n (by omega))).trans (((show z48.2.1 7 = z46.2.1 7 by rw [hz48]; first | rfl | exact upA_n (by omega))).trans (((show z46.2.1 7 = z44.2.1 7 by rw [hz46]; first | rfl | exact upA_n (by omega))).trans ((show z44.2.1 7 = z42.2.1 7 by rw [hz44]; first | rfl | exact upA_n (by omega))))))))).trans ((show z42.2.1 7 = upd (z_7.2.1 7) (x1_7 : Int32).toNatClampNeg 0 by rw [hz42]; exact upA_e).trans (upd_c ((rfl).trans ex_7.2.2.1) ex_7.2.1)), ((((show z55.2.1 8 = z52.2.1 8 by rw [hz55]; first | rfl | exact upA_n (by omega))).trans (((show z52.2.1 8 = z50.2.1 8 by rw [hz52]; first | rfl | exact upA_n (by omega))).trans (((show z50.2.1 8 = z48.2.1 8 by rw [hz50]; first | rfl | exact upA_n (by omega))).trans (((show z48.2.1 8 = z46.2.1 8 by rw [hz48]; first | rfl | exact upA_n (by omega))).trans ((show z46.2.1 8 = z44.2.1 8 by rw [hz46]; first | rfl | exact upA_n (by omega)))))))).trans ((show z44.2.1 8 = upd (z42.2.1 8) (x1_7 : Int32).toNatClampNeg 0 by rw [hz44]; exact upA_e).trans (upd_c ((((show z42.2.1 8 = z_7.2.1 8 by rw [hz42]; first | rfl | exact upA_n (by omega)))).trans ex_7.2.2.2.1) ex_7.2.1)), ((((show z55.2.1 9 = z52.2.1 9 by rw [hz55]; first | rfl | exact upA_n (by omega))).trans (((show z52.2.1 9 = z50.2.1 9 by rw [hz52]; first | rfl | exact upA_n (by omega))).trans (((show z50.2.1 9 = z48.2.1 9 by rw [hz50]; first | rfl | exact upA_n (by omega))).trans ((show z48.2.1 9 = z46.2.1 9 by rw [hz48]; first | rfl | exact upA_n (by omega))))))).trans ((show z46.2.1 9 = upd (z44.2.1 9) (x1_7 : Int32).toNatClampNeg 0 by rw [hz46]; exact upA_e).trans (upd_c (((((show z44.2.1 9 = z42.2.1 9 by rw [hz44]; first | rfl | exact upA_n (by omega))).trans ((show z42.2.1 9 = z_7.2.1 9 by rw [hz42]; first | rfl | exact upA_n (by omega))))).trans ex_7.2.2.2.2.1) ex_7.2.1)), ((((show z55.2.1 10 = z52.2.1 10 by rw [hz55]; first | rfl | exact upA_n (by omega))).trans (((show z52.2.1 10 = z50.2.1 10 by rw [hz52]; first | rfl | exact upA_n (by omega))).trans ((show z50.2.1 10 = z48.2.1 10 by rw [hz50]; first | rfl | exact upA_n (by omega)))))).trans ((show z48.2.1 10 = upd (z46.2.1 10) (x1_7 : Int32).toNatClampNeg 0 by rw [hz48]; exact upA_e).trans (upd_c (((((show z46.2.1 10 = z44.2.1 10 by rw [hz46]; first | rfl | exact upA_n (by omega))).trans (((show z44.2.1 10 = z42.2.1 10 by rw [hz44]; first | rfl | exact upA_n (by omega))).trans ((show z42.2.1 10 = z_7.2.1 10 by rw [hz42]; first | rfl | exact upA_n (by omega)))))).trans ex_7.2.2.2.2.2.1) ex_7.2.1)), ((((show z55.2.1 11 = z52.2.1 11 by rw [hz55]; first | rfl | exact upA_n (by omega))).trans ((show z52.2.1 11 = z50.2.1 11 by rw [hz52]; first | rfl | exact upA_n (by omega))))).trans ((show z50.2.1 11 = upd (z48.2.1 11) (x1_7 : Int32).toNatClampNeg 0 by rw [hz50]; exact upA_e).trans (upd_c (((((show z48.2.1 11 = z46.2.1 11 by rw [hz48]; first | rfl | exact upA_n (by omega))).trans (((show z46.2.1 11 = z44.2.1 11 by rw [hz46]; first | rfl | exact upA_n (by omega))).trans (((show z44.2.1 11 = z42.2.1 11 by rw [hz44]; first | rfl | exact upA_n (by omega))).trans ((show z42.2.1 11 = z_7.2.1 11 by rw [hz42]; first | rfl | exact upA_n (by omega))))))).trans ex_7.2.2.2.2.2.2.1) ex_7.2.1)), (((show z55.2.1 12 = z52.2.1 12 by rw [hz55]; first | rfl | exact upA_n (by omega)))).trans ((show z52.2.1 12 = upd (z50.2.1 12) (x1_7 : Int32).toNatClampNeg 0 by rw [hz52]; exact upA_e).trans (upd_c (((((show z50.2.1 12 = z48.2.1 12 by rw [hz50]; first | rfl | exact upA_n (by omega))).trans (((show z48.2.1 12 = z46.2.1 12 by rw [hz48]; first | rfl | exact upA_n (by omega))).trans (((show z46.2.1 12 = z44.2.1 12 by rw [hz46]; first | rfl | exact upA_n (by omega))).trans (((show z44.2.1 12 = z42.2.1 12 by rw [hz44]; first | rfl | exact upA_n (by omega))).trans ((show z42.2.1 12 = z_7.2.1 12 by rw [hz42]; first | rfl | exact upA_n (by omega)))))))).trans ex_7.2.2.2.2.2.2.2.1) ex_7.2.1))⟩, (TAd_fin ex_7.2.2.2.2.2.2.2.2 (by have h9 := k41b; have := h9.1; have := h9.2; have := iv_nat h9 (by decide); omega) (fun a ha => (((show z55.2.1 (4 + a) = z52.2.1 (4 + a) by rw [hz55]; first | rfl | exact upA_n (by omega))).trans (((show z52.2.1 (4 + a) = z50.2.1 (4 + a) by rw [hz52]; first | rfl | exact upA_n (by omega))).trans (((show z50.2.1 (4 + a) = z48.2.1 (4 + a) by rw [hz50]; first | rfl | exact upA_n (by omega))).trans (((show z48.2.1 (4 + a) = z46.2.1 (4 + a) by rw [hz48]; first | rfl | exact upA_n (by omega))).trans (((show z46.2.1 (4 + a) = z44.2.1 (4 + a) by rw [hz46]; first | rfl | exact upA_n (by omega))).trans (((show z44.2.1 (4 + a) = z42.2.1 (4 + a) by rw [hz44]; first | rfl | exact upA_n (by omega))).trans ((show z42.2.1 (4 + a) = z_7.2.1 (4 + a) by rw [hz42]; first | rfl | exact upA_n (by omega)))))))))))⟩ hH dX0_add_80
      · skip
        have k57a : iv 0 2 x2_7 := iv_ltl (iv_nLe c40) h2_7 (iv_lit (n := 3) 3 (by decide)) (by decide)
        refine lv_aload_n hx hb dX0_add_12 rfl (lv_at hl 0 rfl) ?_
        refine b_get (ci := 0) (C := RX0) (T := TX0) (Nf := 11) (v := .ref (q 3)) hx hb hts in_X0_add_X0 hown hK hH 1 (by decide) rfl rfl 4 (by decide) (hts (.fieldLink RX0 27 "StationLine$Bench" "times" "[[I") (List.mem_of_getElem? (i := 2) rfl)) rfl dX0_add_13 ?_
        refine lv_iload_n hx hb dX0_add_16 rfl (lv_at hl 2 rfl) ?_
        refine h_aaldE (n := 3) hx hb hK hH 3 3 4 (by decide) rfl rfl (iv_in k57a (by decide) (by decide)) dX0_add_17 (fun k58 hk58 ek58 => ?_)
        refine lv_iload_n hx hb dX0_add_18 rfl (lv_at hl 1 rfl) ?_
        refine lv_iconst (v := 1) hx hb dX0_add_19 (by decide) ?_
        refine b_iast hx hb hK hH k58 (Nat.lt_of_lt_of_le hk58.2 (by decide)) (enC_g4 cy q _ k58 hk58) (iv_in h1_7 (by decide) (by decide)) (upA z_7 k58 (upd (z_7.2.1 k58) (x1_7 : Int32).toNatClampNeg 1)) (enC_sa4 cy q _ k58 _ hk58) (enC_A _ _ _ _ _) dX0_add_20 (fun H locs hH => ?_)
        obtain ⟨z59, hz59⟩ : ∃ w : zS, w = upA z_7 k58 (upd (z_7.2.1 k58) (x1_7 : Int32).toNatClampNeg 1) := ⟨_, rfl⟩
        rw [← hz59] at hH
        have hJ : jJ IvC 1 8176 0 z0 z59 := by rw [hz59]; exact jJ_A hJ (tb_grp (g0 := 4) (n := 3) (by decide) hk58) (IvC_A hJ.1 (by omega))
        have g60 : iv 0 9 (z59.1 0) := by rw [hz59]; exact gh0_7
        have j61 : iv 1 3 (x2_7 + 1) := iv_add k57a (iv_lit (n := 1) 1 (by decide)) (by decide) (by decide) (by decide) (by decide)
        have e61 : (x2_7 + 1).toInt = x2_7.toInt + 1 := (iv_addE k57a (iv_lit (n := 1) 1 (by decide)) (by decide) (by decide)).trans rfl
        refine lv_iinc (v := (x2_7 + 1)) (lv' := [(2, .int (x2_7 + 1)), (0, .ref (q 1)), (1, .int x1_7)]) hx hb dX0_add_21 hl (k := 2) rfl rfl (by decide) rfl (fun ls hl => ?_)
        refine lv_goto (tgt := 7) hx hb dX0_add_24 (by decide) ?_
        exact ih7 _ (ms_up e61 j61.2 hn7) x1_7 (x2_7 + 1) z59 H locs ls h1_7 (iv_w j61 (by decide) (by decide)) g60 ⟨((show z59.1 0 = z_7.1 0 by rw [hz59]; first | rfl | exact upA_n (by omega))).trans ex_7.1, ex_7.2.1, (((show z59.2.1 7 = z_7.2.1 7 by rw [hz59]; first | rfl | exact upA_n (by omega)))).trans ex_7.2.2.1, (((show z59.2.1 8 = z_7.2.1 8 by rw [hz59]; first | rfl | exact upA_n (by omega)))).trans ex_7.2.2.2.1, (((show z59.2.1 9 = z_7.2.1 9 by rw [hz59]; first | rfl | exact upA_n (by omega)))).trans ex_7.2.2.2.2.1, (((show z59.2.1 10 = z_7.2.1 10 by rw [hz59]; first | rfl | exact upA_n (by omega)))).trans ex_7.2.2.2.2.2.1, (((show z59.2.1 11 = z_7.2.1 11 by rw [hz59]; first | rfl | exact upA_n (by omega)))).trans ex_7.2.2.2.2.2.2.1, (((show z59.2.1 12 = z_7.2.1 12 by rw [hz59]; first | rfl | exact upA_n (by omega)))).trans ex_7.2.2.2.2.2.2.2.1, (TAd_st ex_7.2.2.2.2.2.2.2.2 ek58 hz59 (congrArg Int32.toNatClampNeg ex_7.2.1) (by have := iv_nat k57a (by decide); have := iv_nat j61 (by decide); omega))⟩ hJ hH (lv_sub hl [1, 2, 0] rfl) rfl
  refine lv_aload_n hx hb dX0_add_0 rfl (lv_at hl 0 rfl) ?_
  refine b_get (ci := 0) (C := RX0) (T := TX0) (Nf := 11) (v := .int (z0.1 0)) hx hb hts in_X0_add_X0 hown hK hH 1 (by decide) rfl rfl 0 (by decide) (hts (.fieldLink RX0 9 "StationLine$Bench" "size" "I") (List.mem_of_getElem? (i := 1) rfl)) rfl dX0_add_1 ?_
  refine lv_istore_n (lv' := [(1, .int (z0.1 0)), (0, .ref (q 1))]) hx hb dX0_add_4 rfl hl (by decide) rfl (fun ls hl => ?_)
  refine lv_iconst (v := 0) hx hb dX0_add_5 (by decide) ?_
  refine lv_istore_n (lv' := [(2, .int 0), (1, .int (z0.1 0)), (0, .ref (q 1))]) hx hb dX0_add_6 rfl hl (by decide) rfl (fun ls hl => ?_)
  exact HL7 _ (z0.1 0) 0 z0 H locs ls hs0 (iv_w (iv_lit (n := 0) 0 (by decide)) (by decide) (by decide)) hs0 ⟨rfl, rfl, rfl, rfl, rfl, rfl, rfl, rfl, TAd_0⟩ hJ hH (lv_sub hl [2, 1, 0] rfl) rfl
set_option maxHeartbeats 4000000 in
set_option maxRecDepth 100000 in
theorem g_X0_holdersOf_1 (l : Launch) (D : va_G) (cy : Nat → ClassId) (q : Nat → Nat) (hq : bJ 66 q) (z0 : zS) (hI : IvC z0) (p1 : Int32) (hp1 : iv 0 9 p1) : bCi l yX0_holdersOf wsX0_holdersOf ({ frames := 0, cells := 0, slots := 0, locals := 0 }) D cy 66 (enC cy) q z0 [.ref (q 1), .ref (q 8), .int p1] (fun v z => jJ IvC 0 0 0 z0 z ∧ iv 0 1023 v) := by
  refine hM_i cX0_holdersOf (by decide) rfl (own := RX0) rfl hq (Nat.le_of_ble_eq_true rfl) ?_
  intro p e s m args below meth c Q ls H locs hx hb hml hown hts hK hZ hH hl hret
  have hl : lv_has ls 5 [(0, .ref (q 1)), (1, .ref (q 8)), (2, .int p1)] := hl
  have hJ : jJ IvC 0 0 0 z0 z0 := jJ_rf _ _ _ hI
  have HL5 : ∀ (n : Nat) (x3_5 : Int32) (x4_5 : Int32) (H : Heap) (locs : List Loc) (ls : Array Slot), iv 0 1023 x3_5 → iv 0 10 x4_5 → bH D 66 (enC cy) q z0 s.heap H locs → lv_has ls 5 [(0, .ref (q 1)), (1, .ref (q 8)), (2, .int p1), (3, .int x3_5), (4, .int x4_5)] → (10 - x4_5.toInt).toNat = n → W p l e ({ frames := 0, cells := 0, slots := 0, locals := 0 }) s m args below meth c H locs 0 0 Q (F0 m 5 ls []) := by
    intro n5
    induction n5 using Nat.strongRecOn with
    | ind n5 ih5 =>
      intro x3_5 x4_5 H locs ls h3_5 h4_5 hH hl hn5
      have HJ32 : ∀ (x3_32 : Int32) (H : Heap) (locs : List Loc) (ls : Array Slot), iv 0 1023 x3_32 → iv 0 9 x4_5 → iv 1 10 (z0.1 0) → bH D 66 (enC cy) q z0 s.heap H locs → lv_has ls 5 [(0, .ref (q 1)), (1, .ref (q 8)), (2, .int p1), (3, .int x3_32), (4, .int x4_5)] → W p l e ({ frames := 0, cells := 0, slots := 0, locals := 0 }) s m args below meth c H locs 0 0 Q (F0 m 32 ls []) := by
        intro x3_32 H locs ls h3_32 h4_32 gh0_32 hH hl
        have j85 : iv 1 10 (x4_5 + 1) := iv_add h4_32 (iv_lit (n := 1) 1 (by decide)) (by decide) (by decide) (by decide) (by decide)
        have e85 : (x4_5 + 1).toInt = x4_5.toInt + 1 := (iv_addE h4_32 (iv_lit (n := 1) 1 (by decide)) (by decide) (by decide)).trans rfl
        refine lv_iinc (v := (x4_5 + 1)) (lv' := [(4, .int (x4_5 + 1)), (0, .ref (q 1)), (1, .ref (q 8)), (2, .int p1), (3, .int x3_32)]) hx hb dX0_holdersOf_32 hl (k := 4) rfl rfl (by decide) rfl (fun ls hl => ?_)
        refine lv_goto (tgt := 5) hx hb dX0_holdersOf_35 (by decide) ?_
        exact ih5 _ (ms_up e85 j85.2 hn5) x3_32 (x4_5 + 1)  H locs ls h3_32 (iv_w j85 (by decide) (by decide))  hH (lv_sub hl [1, 2, 3, 4, 0] rfl) rfl
      refine lv_iload hx hb dX0_holdersOf_5 (lv_at hl 4 rfl) ?_
      refine lv_aload_n hx hb dX0_holdersOf_7 rfl (lv_at hl 0 rfl) ?_
      refine b_get (ci := 0) (C := RX0) (T := TX0) (Nf := 11) (v := .int (z0.1 0)) hx hb hts in_X0_holdersOf_X0 hown hK hH 1 (by decide) rfl rfl 0 (by decide) (hts (.fieldLink RX0 9 "StationLine$Bench" "size" "I") (List.mem_of_getElem? (i := 1) rfl)) rfl dX0_holdersOf_8 ?_
      have i86 := IvC_s0 hJ.1
      refine lv_icmp_ge (tgt := 38) hx hb dX0_holdersOf_11 (by decide) (fun c87 => ?_) (fun c87 => ?_)
      · skip
        refine lv_iload_n hx hb dX0_holdersOf_38 rfl (lv_at hl 3 rfl) ?_
        exact hret _ z0 H locs _ _ ⟨hJ, h3_5⟩ hH dX0_holdersOf_39
      · skip
        have k89a : iv 0 9 x4_5 := iv_ltl (iv_nLe c87) h4_5 i86 (by decide)
        have k89b : iv 1 10 (z0.1 0) := iv_ltr (iv_nLe c87) h4_5 i86 (by decide)
        refine lv_aload_n hx hb dX0_holdersOf_14 rfl (lv_at hl 1 rfl) ?_
        refine lv_iload hx hb dX0_holdersOf_15 (lv_at hl 4 rfl) ?_
        refine b_iald (v := z0.2.1 8 (x4_5 : Int32).toNatClampNeg) hx hb hK hH 8 (by decide) rfl (iv_in k89a (by decide) (by decide)) rfl dX0_holdersOf_17 ?_
        refine lv_iconst (v := 1) hx hb dX0_holdersOf_18 (by decide) ?_
        refine lv_iload_n hx hb dX0_holdersOf_19 rfl (lv_at hl 2 rfl) ?_
        refine lv_ishl hx hb dX0_holdersOf_20 ?_
        refine h_i (a := 1) (b := 512) (iv_bit hp1 (by decide) (by decide)) (fun w90 i90 => ?_)
        refine lv_iand hx hb dX0_holdersOf_21 ?_
        refine h_i (a := 0) (b := 512) (iv_and2 (iv_all (z0.2.1 8 (x4_5 : Int32).toNatClampNeg)) i90 (by decide) (by decide)) (fun w91 i91 => ?_)
        refine lv_if_eq (tgt := 32) hx hb dX0_holdersOf_22 (by decide) (fun c92 => ?_) (fun c92 => ?_)
        · skip
          have k93a : iv 0 0 w91 := iv_eql (iv_Eq c92) i91 (iv_lit (n := 0) 0 (by decide)) (by decide) (by decide)
          exact HJ32 x3_5  H locs ls h3_5 k89a k89b  hH (lv_sub hl [0, 1, 2, 3, 4] rfl)
        · skip
          have k94a : iv 1 512 w91 := iv_neLo (iv_nEq c92) i91 (by decide) (by decide)
          refine lv_iload_n hx hb dX0_holdersOf_25 rfl (lv_at hl 3 rfl) ?_
          refine lv_iconst (v := 1) hx hb dX0_holdersOf_26 (by decide) ?_
          refine lv_iload hx hb dX0_holdersOf_27 (lv_at hl 4 rfl) ?_
          refine lv_ishl hx hb dX0_holdersOf_29 ?_
          refine h_i (a := 1) (b := 512) (iv_bit k89a (by decide) (by decide)) (fun w95 i95 => ?_)
          refine lv_ior hx hb dX0_holdersOf_30 ?_
          refine h_i (a := 0) (b := 1023) (iv_or 10 (b := 1023) (d := 512) (iv_w h3_5 (by decide) (by decide)) (iv_w i95 (by decide) (by decide)) (by decide) (by decide) (by decide) (by decide)) (fun w96 i96 => ?_)
          refine lv_istore_n (lv' := [(3, .int w96), (0, .ref (q 1)), (1, .ref (q 8)), (2, .int p1), (4, .int x4_5)]) hx hb dX0_holdersOf_31 rfl hl (by decide) rfl (fun ls hl => ?_)
          exact HJ32 w96  H locs ls i96 k89a k89b  hH (lv_sub hl [1, 2, 3, 0, 4] rfl)
  refine lv_iconst (v := 0) hx hb dX0_holdersOf_0 (by decide) ?_
  refine lv_istore_n (lv' := [(3, .int 0), (0, .ref (q 1)), (1, .ref (q 8)), (2, .int p1)]) hx hb dX0_holdersOf_1 rfl hl (by decide) rfl (fun ls hl => ?_)
  refine lv_iconst (v := 0) hx hb dX0_holdersOf_2 (by decide) ?_
  refine lv_istore (lv' := [(4, .int 0), (3, .int 0), (0, .ref (q 1)), (1, .ref (q 8)), (2, .int p1)]) hx hb dX0_holdersOf_3 hl (by decide) rfl (fun ls hl => ?_)
  exact HL5 _ 0 0  H locs ls (iv_w (iv_lit (n := 0) 0 (by decide)) (by decide) (by decide)) (iv_w (iv_lit (n := 0) 0 (by decide)) (by decide) (by decide))  hH (lv_sub hl [2, 3, 4, 1, 0] rfl) rfl
set_option maxHeartbeats 4000000 in
set_option maxRecDepth 100000 in
theorem g_X0_closeOver_1 (l : Launch) (D : va_G) (cy : Nat → ClassId) (q : Nat → Nat) (hq : bJ 66 q) (z0 : zS) (hI : IvC z0)  : bCv l yX0_closeOver wsX0_closeOver ({ frames := 1, cells := 0, slots := 0, locals := 40 }) D cy 66 (enC cy) q z0 [.ref (q 1)] (fun z => jJ IvC 0 768 0 z0 z ∧ (LdI (z0.2.1 7) (z0.1 0).toNatClampNeg (z.2.1 8))) := by
  refine hM_v cX0_closeOver (by decide) rfl (own := RX0) rfl hq (Nat.le_of_ble_eq_true rfl) ?_
  intro p e s m args below meth c Q ls H locs hx hb hml hown hts hK hZ hH hl hret
  have hl : lv_has ls 3 [(0, .ref (q 1))] := hl
  have hJ : jJ IvC 0 768 0 z0 z0 := jJ_rf _ _ _ hI
  have e00 : (0 : Int32).toInt = 0 := (by decide); have e01 : (1 : Int32).toInt = 1 := (by decide); have e02 : (2 : Int32).toInt = 2 := (by decide); have e03 : (3 : Int32).toInt = 3 := (by decide); have e010 : (10 : Int32).toInt = 10 := (by decide)
  have HL19 : ∀ (n : Nat) (x1_19 : Int32) (z_19 : zS) (H : Heap) (locs : List Loc) (ls : Array Slot), iv 0 10 x1_19 → (Wr (z0.2.1 7) (z0.1 0).toNatClampNeg (x1_19 : Int32).toNatClampNeg (z_19.2.1 8) ∧ (x1_19 : Int32).toInt ≤ (z0.1 0).toInt) → jJ IvC 0 768 0 z0 z_19 → bH D 66 (enC cy) q z_19 s.heap H locs → lv_has ls 3 [(0, .ref (q 1)), (1, .int x1_19)] → (10 - x1_19.toInt).toNat = n → W p l e ({ frames := 1, cells := 0, slots := 0, locals := 40 }) s m args below meth c H locs 0 0 Q (F0 m 19 ls []) := by
    intro n19
    induction n19 using Nat.strongRecOn with
    | ind n19 ih19 =>
      intro x1_19 z_19 H locs ls h1_19 ex_19 hJ hH hl hn19
      have := h1_19.1; have := h1_19.2
      have HL29 : ∀ (n : Nat) (x2_29 : Int32) (z_29 : zS) (H : Heap) (locs : List Loc) (ls : Array Slot), iv 0 9 x1_19 → iv 0 10 x2_29 → iv 1 10 (z_29.1 0) → (Sw (z_19.2.1 8) (z_29.2.1 8) (z0.1 0).toNatClampNeg (x1_19 : Int32).toNatClampNeg (x2_29 : Int32).toNatClampNeg ∧ (x2_29 : Int32).toInt ≤ (z0.1 0).toInt ∧ (x1_19 : Int32).toInt < (z0.1 0).toInt) → jJ IvC 0 768 0 z0 z_29 → bH D 66 (enC cy) q z_29 s.heap H locs → lv_has ls 3 [(0, .ref (q 1)), (1, .int x1_19), (2, .int x2_29)] → (10 - x2_29.toInt).toNat = n → W p l e ({ frames := 1, cells := 0, slots := 0, locals := 40 }) s m args below meth c H locs 0 0 Q (F0 m 29 ls []) := by
        intro n29
        induction n29 using Nat.strongRecOn with
        | ind n29 ih29 =>
          intro x2_29 z_29 H locs ls h1_29 h2_29 gh0_29 ex_29 hJ hH hl hn29
          have := h1_29.1; have := h1_29.2; have := h2_29.1; have := h2_29.2; have := gh0_29.1; have := gh0_29.2
          have hq0 := iv_Eq (hJ.2.1 0 (by decide))
          refine lv_iload_n hx hb dX0_closeOver_29 rfl (lv_at hl 2 rfl) ?_
          refine lv_aload_n hx hb dX0_closeOver_30 rfl (lv_at hl 0 rfl) ?_
          refine b_get (ci := 0) (C := RX0) (T := TX0) (Nf := 11) (v := .int (z_29.1 0)) hx hb hts in_X0_closeOver_X0 hown hK hH 1 (by decide) rfl rfl 0 (by decide) (hts (.fieldLink RX0 9 "StationLine$Bench" "size" "I") (List.mem_of_getElem? (i := 3) rfl)) rfl dX0_closeOver_31 ?_
          have := gh0_29.1; have := gh0_29.2
          refine lv_icmp_ge (tgt := 71) hx hb dX0_closeOver_34 (by decide) (fun c277 => ?_) (fun c277 => ?_)
          · skip
            have r277 := (iv_Le c277)
            have k278b : iv 1 10 x2_29 := iv_ler (iv_Le c277) gh0_29 h2_29
            have j279 : iv 1 10 (x1_19 + 1) := iv_add h1_29 (iv_lit (n := 1) 1 (by decide)) (by decide) (by decide) (by decide) (by decide)
            have e279 : (x1_19 + 1).toInt = x1_19.toInt + 1 := (iv_addE h1_29 (iv_lit (n := 1) 1 (by decide)) (by decide) (by decide)).trans rfl
            refine lv_iinc (v := (x1_19 + 1)) (lv' := [(1, .int (x1_19 + 1)), (0, .ref (q 1)), (2, .int x2_29)]) hx hb dX0_closeOver_71 hl (k := 1) rfl rfl (by decide) rfl (fun ls hl => ?_)
            refine lv_goto (tgt := 19) hx hb dX0_closeOver_74 (by decide) ?_
            exact ih19 _ (ms_up e279 j279.2 hn19) (x1_19 + 1) z_29 H locs ls (iv_w j279 (by decide) (by decide)) ⟨(by rw [show (x1_19 + 1 : Int32).toNatClampNeg = (x1_19 : Int32).toNatClampNeg + 1 from (by have := iv_nat h1_29 (by decide); have := iv_nat j279 (by decide); omega)]; exact Wr_next (by have := iv_nat (IvC_s0 hI) (by decide); have := (IvC_s0 hI).2; omega) ex_19.1 ((show (x2_29 : Int32).toNatClampNeg = (z0.1 0).toNatClampNeg from (by have := ex_29.2.1; have := iv_Eq (hJ.2.1 0 (by decide)); have := iv_nat (IvC_s0 hI) (by decide); have := iv_nat h2_29 (by decide); omega)) ▸ ex_29.1) (by have := ex_29.2.2; have := iv_Eq (hJ.2.1 0 (by decide)); have := iv_nat (IvC_s0 hI) (by decide); have := iv_nat h1_29 (by decide); omega)), by have := ex_29.2.2; omega⟩ hJ hH (lv_sub hl [1, 0] rfl) rfl
          · skip
            have r277 := (iv_nLe c277)
            have k280a : iv 0 9 x2_29 := iv_ltl (iv_nLe c277) h2_29 gh0_29 (by decide)
            refine lv_aload_n hx hb dX0_closeOver_37 rfl (lv_at hl 0 rfl) ?_
            refine b_get (ci := 0) (C := RX0) (T := TX0) (Nf := 11) (v := .ref (q 8)) hx hb hts in_X0_closeOver_X0 hown hK hH 1 (by decide) rfl rfl 6 (by decide) (hts (.fieldLink RX0 33 "StationLine$Bench" "leading" "[I") (List.mem_of_getElem? (i := 2) rfl)) rfl dX0_closeOver_38 ?_
            refine lv_iload_n hx hb dX0_closeOver_41 rfl (lv_at hl 2 rfl) ?_
            refine b_iald (v := z_29.2.1 8 (x2_29 : Int32).toNatClampNeg) hx hb hK hH 8 (by decide) rfl (iv_in k280a (by decide) (by decide)) rfl dX0_closeOver_42 ?_
            refine lv_iconst (v := 1) hx hb dX0_closeOver_43 (by decide) ?_
            refine lv_iload_n hx hb dX0_closeOver_44 rfl (lv_at hl 1 rfl) ?_
            refine lv_ishl hx hb dX0_closeOver_45 ?_
            have i281 : iv 1 512 ((1 : Int32) <<< (x1_19 &&& 31)) := (iv_bit h1_29 (by decide) (by decide))
            refine lv_iand hx hb dX0_closeOver_46 ?_
            have i282 : iv 0 512 ((z_29.2.1 8 (x2_29 : Int32).toNatClampNeg) &&& ((1 : Int32) <<< (x1_19 &&& 31))) := (iv_and2 (iv_all (z_29.2.1 8 (x2_29 : Int32).toNatClampNeg)) i281 (by decide) (by decide))
            refine lv_if_eq (tgt := 65) hx hb dX0_closeOver_47 (by decide) (fun c283 => ?_) (fun c283 => ?_)
            · skip
              have r283 := (iv_Eq c283)
              have k284a : iv 0 0 ((z_29.2.1 8 (x2_29 : Int32).toNatClampNeg) &&& ((1 : Int32) <<< (x1_19 &&& 31))) := iv_eql (iv_Eq c283) i282 (iv_lit (n := 0) 0 (by decide)) (by decide) (by decide)
              have j285 : iv 1 10 (x2_29 + 1) := iv_add k280a (iv_lit (n := 1) 1 (by decide)) (by decide) (by decide) (by decide) (by decide)
              have e285 : (x2_29 + 1).toInt = x2_29.toInt + 1 := (iv_addE k280a (iv_lit (n := 1) 1 (by decide)) (by decide) (by decide)).trans rfl
              refine lv_iinc (v := (x2_29 + 1)) (lv' := [(2, .int (x2_29 + 1)), (0, .ref (q 1)), (1, .int x1_19)]) hx hb dX0_closeOver_65 hl (k := 2) rfl rfl (by decide) rfl (fun ls hl => ?_)
              refine lv_goto (tgt := 29) hx hb dX0_closeOver_68 (by decide) ?_
              exact ih29 _ (ms_up e285 j285.2 hn29) (x2_29 + 1) z_29 H locs ls h1_29 (iv_w j285 (by decide) (by decide)) gh0_29 ⟨Sw_no ex_29.1 (by have := iv_Eq (hJ.2.1 0 (by decide)); have := iv_nat (IvC_s0 hI) (by decide); have := iv_nat k280a (by decide); omega) (bit_eq (iv_w h1_29 (by decide) (by decide)) c283) (by have := iv_nat k280a (by decide); have := iv_nat j285 (by decide); omega), by have := iv_Eq (hJ.2.1 0 (by decide)); omega, ex_29.2.2⟩ hJ hH (lv_sub hl [1, 2, 0] rfl) rfl
            · skip
              have r283 := (iv_nEq c283)
              have k286a : iv 1 512 ((z_29.2.1 8 (x2_29 : Int32).toNatClampNeg) &&& ((1 : Int32) <<< (x1_19 &&& 31))) := iv_neLo (iv_nEq c283) i282 (by decide) (by decide)
              refine lv_aload_n hx hb dX0_closeOver_50 rfl (lv_at hl 0 rfl) ?_
              refine b_get (ci := 0) (C := RX0) (T := TX0) (Nf := 11) (v := .ref (q 8)) hx hb hts in_X0_closeOver_X0 hown hK hH 1 (by decide) rfl rfl 6 (by decide) (hts (.fieldLink RX0 33 "StationLine$Bench" "leading" "[I") (List.mem_of_getElem? (i := 2) rfl)) rfl dX0_closeOver_51 ?_
              refine lv_iload_n hx hb dX0_closeOver_54 rfl (lv_at hl 2 rfl) ?_
              refine lv_dup2_11 hx hb dX0_closeOver_55 rfl rfl ?_
              refine b_iald (v := z_29.2.1 8 (x2_29 : Int32).toNatClampNeg) hx hb hK hH 8 (by decide) rfl (iv_in k280a (by decide) (by decide)) rfl dX0_closeOver_56 ?_
              refine lv_aload_n hx hb dX0_closeOver_57 rfl (lv_at hl 0 rfl) ?_
              refine b_get (ci := 0) (C := RX0) (T := TX0) (Nf := 11) (v := .ref (q 8)) hx hb hts in_X0_closeOver_X0 hown hK hH 1 (by decide) rfl rfl 6 (by decide) (hts (.fieldLink RX0 33 "StationLine$Bench" "leading" "[I") (List.mem_of_getElem? (i := 2) rfl)) rfl dX0_closeOver_58 ?_
              refine lv_iload_n hx hb dX0_closeOver_61 rfl (lv_at hl 1 rfl) ?_
              refine b_iald (v := z_29.2.1 8 (x1_19 : Int32).toNatClampNeg) hx hb hK hH 8 (by decide) rfl (iv_in h1_29 (by decide) (by decide)) rfl dX0_closeOver_62 ?_
              refine lv_ior hx hb dX0_closeOver_63 ?_
              refine b_iast hx hb hK hH 8 (by decide) rfl (iv_in k280a (by decide) (by decide)) (upA z_29 8 (upd (z_29.2.1 8) (x2_29 : Int32).toNatClampNeg ((z_29.2.1 8 (x2_29 : Int32).toNatClampNeg) ||| (z_29.2.1 8 (x1_19 : Int32).toNatClampNeg)))) rfl (enC_A _ _ _ _ _) dX0_closeOver_64 (fun H locs hH => ?_)
              obtain ⟨z288, hz288⟩ : ∃ w : zS, w = upA z_29 8 (upd (z_29.2.1 8) (x2_29 : Int32).toNatClampNeg ((z_29.2.1 8 (x2_29 : Int32).toNatClampNeg) ||| (z_29.2.1 8 (x1_19 : Int32).toNatClampNeg))) := ⟨_, rfl⟩
              rw [← hz288] at hH
              have hJ : jJ IvC 0 768 0 z0 z288 := by rw [hz288]; exact jJ_A hJ (by decide) (IvC_A hJ.1 (by decide))
              have g289 : iv 1 10 (z288.1 0) := by rw [hz288]; exact gh0_29
              have j290 : iv 1 10 (x2_29 + 1) := iv_add k280a (iv_lit (n := 1) 1 (by decide)) (by decide) (by decide) (by decide) (by decide)
              have e290 : (x2_29 + 1).toInt = x2_29.toInt + 1 := (iv_addE k280a (iv_lit (n := 1) 1 (by decide)) (by decide) (by decide)).trans rfl
              refine lv_iinc (v := (x2_29 + 1)) (lv' := [(2, .int (x2_29 + 1)), (0, .ref (q 1)), (1, .int x1_19)]) hx hb dX0_closeOver_65 hl (k := 2) rfl rfl (by decide) rfl (fun ls hl => ?_)
              refine lv_goto (tgt := 29) hx hb dX0_closeOver_68 (by decide) ?_
              exact ih29 _ (ms_up e290 j290.2 hn29) (x2_29 + 1) z288 H locs ls h1_29 (iv_w j290 (by decide) (by decide)) g289 ⟨(by rw [hz288, upA_e]; exact Sw_yes ex_29.1 (by have := iv_Eq (hJ.2.1 0 (by decide)); have := iv_nat (IvC_s0 hI) (by decide); have := iv_nat k280a (by decide); omega) (by have := ex_29.2.2; have := iv_Eq (hJ.2.1 0 (by decide)); have := iv_nat (IvC_s0 hI) (by decide); have := iv_nat h1_29 (by decide); omega) (bit_ne (iv_w h1_29 (by decide) (by decide)) c283) (by have := iv_nat k280a (by decide); have := iv_nat j290 (by decide); omega)), by have := iv_Eq (hJ.2.1 0 (by decide)); omega, ex_29.2.2⟩ hJ hH (lv_sub hl [1, 2, 0] rfl) rfl
      have HL79 : ∀ (n : Nat) (x1_79 : Int32) (z_79 : zS) (H : Heap) (locs : List Loc) (ls : Array Slot), iv 0 10 x1_79 → (LdI (z0.2.1 7) (z0.1 0).toNatClampNeg (z_79.2.1 8)) → jJ IvC 0 768 0 z0 z_79 → bH D 66 (enC cy) q z_79 s.heap H locs → lv_has ls 3 [(0, .ref (q 1)), (1, .int x1_79)] → (10 - x1_79.toInt).toNat = n → W p l e ({ frames := 1, cells := 0, slots := 0, locals := 40 }) s m args below meth c H locs 0 0 Q (F0 m 79 ls []) := by
        intro n79
        induction n79 using Nat.strongRecOn with
        | ind n79 ih79 =>
          intro x1_79 z_79 H locs ls h1_79 ex_79 hJ hH hl hn79
          have := h1_79.1; have := h1_79.2
          have hq0 := iv_Eq (hJ.2.1 0 (by decide))
          refine lv_iload_n hx hb dX0_closeOver_79 rfl (lv_at hl 1 rfl) ?_
          refine lv_aload_n hx hb dX0_closeOver_80 rfl (lv_at hl 0 rfl) ?_
          refine b_get (ci := 0) (C := RX0) (T := TX0) (Nf := 11) (v := .int (z_79.1 0)) hx hb hts in_X0_closeOver_X0 hown hK hH 1 (by decide) rfl rfl 0 (by decide) (hts (.fieldLink RX0 9 "StationLine$Bench" "size" "I") (List.mem_of_getElem? (i := 3) rfl)) rfl dX0_closeOver_81 ?_
          have i291 := IvC_s0 hJ.1
          have := i291.1; have := i291.2
          refine lv_icmp_ge (tgt := 108) hx hb dX0_closeOver_84 (by decide) (fun c292 => ?_) (fun c292 => ?_)
          · skip
            have r292 := (iv_Le c292)
            exact hret z_79 H locs _ _ ⟨hJ, ex_79⟩ hH dX0_closeOver_108
          · skip
            have r292 := (iv_nLe c292)
            have k294a : iv 0 9 x1_79 := iv_ltl (iv_nLe c292) h1_79 i291 (by decide)
            have k294b : iv 1 10 (z_79.1 0) := iv_ltr (iv_nLe c292) h1_79 i291 (by decide)
            refine lv_aload_n hx hb dX0_closeOver_87 rfl (lv_at hl 0 rfl) ?_
            refine b_get (ci := 0) (C := RX0) (T := TX0) (Nf := 11) (v := .ref (q 9)) hx hb hts in_X0_closeOver_X0 hown hK hH 1 (by decide) rfl rfl 7 (by decide) (hts (.fieldLink RX0 36 "StationLine$Bench" "following" "[I") (List.mem_of_getElem? (i := 8) rfl)) rfl dX0_closeOver_88 ?_
            refine lv_iload_n hx hb dX0_closeOver_91 rfl (lv_at hl 1 rfl) ?_
            refine lv_aload_n hx hb dX0_closeOver_92 rfl (lv_at hl 0 rfl) ?_
            refine lv_aload_n hx hb dX0_closeOver_93 rfl (lv_at hl 0 rfl) ?_
            refine b_get (ci := 0) (C := RX0) (T := TX0) (Nf := 11) (v := .ref (q 8)) hx hb hts in_X0_closeOver_X0 hown hK hH 1 (by decide) rfl rfl 6 (by decide) (hts (.fieldLink RX0 33 "StationLine$Bench" "leading" "[I") (List.mem_of_getElem? (i := 2) rfl)) rfl dX0_closeOver_94 ?_
            refine lv_iload_n hx hb dX0_closeOver_97 rfl (lv_at hl 1 rfl) ?_
            refine b_calli (As := [.ref (q 8), .int x1_79]) (rest := [.int x1_79, .ref (q 9)]) ⟨hx, hb, hml, hown, hts⟩ 1 0 (g_X0_holdersOf_1 l D cy q hH.2.1 z_79 hJ.1 x1_79 k294a) (cwV 2 hts gX0_closeOver_X0_holdersOf rfl rfl rfl (by decide +kernel) ⟨Nat.le_of_ble_eq_true rfl, Nat.le_of_ble_eq_true rfl⟩) hK hZ hH (by decide) rfl rfl rfl hl.1 rfl (Nat.le_of_ble_eq_true rfl) ⟨Nat.zero_le _, Nat.zero_le _⟩ dX0_closeOver_98 (fun w295 z295 H locs hp hH => ?_)
            rw [Ag_0 hp.1.2] at hH
            have i295 := hp.2
            have := i295.1; have := i295.2
            refine b_iast hx hb hK hH 9 (by decide) rfl (iv_in k294a (by decide) (by decide)) (upA z_79 9 (upd (z_79.2.1 9) (x1_79 : Int32).toNatClampNeg w295)) rfl (enC_A _ _ _ _ _) dX0_closeOver_101 (fun H locs hH => ?_)
            obtain ⟨z296, hz296⟩ : ∃ w : zS, w = upA z_79 9 (upd (z_79.2.1 9) (x1_79 : Int32).toNatClampNeg w295) := ⟨_, rfl⟩
            rw [← hz296] at hH
            have hJ : jJ IvC 0 768 0 z0 z296 := by rw [hz296]; exact jJ_A hJ (by decide) (IvC_A hJ.1 (by decide))
            have g297 : iv 1 10 (z296.1 0) := by rw [hz296]; exact k294b
            have j298 : iv 1 10 (x1_79 + 1) := iv_add k294a (iv_lit (n := 1) 1 (by decide)) (by decide) (by decide) (by decide) (by decide)
            have e298 : (x1_79 + 1).toInt = x1_79.toInt + 1 := (iv_addE k294a (iv_lit (n := 1) 1 (by decide)) (by decide) (by decide)).trans rfl
            refine lv_iinc (v := (x1_79 + 1)) (lv' := [(1, .int (x1_79 + 1)), (0, .ref (q 1))]) hx hb dX0_closeOver_102 hl (k := 1) rfl rfl (by decide) rfl (fun ls hl => ?_)
            refine lv_goto (tgt := 79) hx hb dX0_closeOver_105 (by decide) ?_
            exact ih79 _ (ms_up e298 j298.2 hn79) (x1_79 + 1) z296 H locs ls (iv_w j298 (by decide) (by decide)) (by rw [((show z296.2.1 8 = z_79.2.1 8 by rw [hz296]; first | rfl | exact upA_n (by omega)))]; exact ex_79) hJ hH (lv_sub hl [1, 0] rfl) rfl
      have hq0 := iv_Eq (hJ.2.1 0 (by decide))
      refine lv_iload_n hx hb dX0_closeOver_19 rfl (lv_at hl 1 rfl) ?_
      refine lv_aload_n hx hb dX0_closeOver_20 rfl (lv_at hl 0 rfl) ?_
      refine b_get (ci := 0) (C := RX0) (T := TX0) (Nf := 11) (v := .int (z_19.1 0)) hx hb hts in_X0_closeOver_X0 hown hK hH 1 (by decide) rfl rfl 0 (by decide) (hts (.fieldLink RX0 9 "StationLine$Bench" "size" "I") (List.mem_of_getElem? (i := 3) rfl)) rfl dX0_closeOver_21 ?_
      have i299 := IvC_s0 hJ.1
      have := i299.1; have := i299.2
      refine lv_icmp_ge (tgt := 77) hx hb dX0_closeOver_24 (by decide) (fun c300 => ?_) (fun c300 => ?_)
      · skip
        have r300 := (iv_Le c300)
        refine lv_iconst (v := 0) hx hb dX0_closeOver_77 (by decide) ?_
        refine lv_istore_n (lv' := [(1, .int 0), (0, .ref (q 1))]) hx hb dX0_closeOver_78 rfl hl (by decide) rfl (fun ls hl => ?_)
        exact HL79 _ 0 z_19 H locs ls (iv_w (iv_lit (n := 0) 0 (by decide)) (by decide) (by decide)) (Wr_end ((show (x1_19 : Int32).toNatClampNeg = (z0.1 0).toNatClampNeg from (by have := ex_19.2; have := iv_Eq (hJ.2.1 0 (by decide)); have := iv_nat (IvC_s0 hI) (by decide); have := iv_nat h1_19 (by decide); omega)) ▸ ex_19.1)) hJ hH (lv_sub hl [1, 0] rfl) rfl
      · skip
        have r300 := (iv_nLe c300)
        have k302a : iv 0 9 x1_19 := iv_ltl (iv_nLe c300) h1_19 i299 (by decide)
        have k302b : iv 1 10 (z_19.1 0) := iv_ltr (iv_nLe c300) h1_19 i299 (by decide)
        refine lv_iconst (v := 0) hx hb dX0_closeOver_27 (by decide) ?_
        refine lv_istore_n (lv' := [(2, .int 0), (0, .ref (q 1)), (1, .int x1_19)]) hx hb dX0_closeOver_28 rfl hl (by decide) rfl (fun ls hl => ?_)
        exact HL29 _ 0 z_19 H locs ls k302a (iv_w (iv_lit (n := 0) 0 (by decide)) (by decide) (by decide)) k302b ⟨Sw_0, by have := (IvC_s0 hI).1; omega, by have := iv_Eq (hJ.2.1 0 (by decide)); omega⟩ hJ hH (lv_sub hl [1, 2, 0] rfl) rfl
  refine lv_aload_n hx hb dX0_closeOver_0 rfl (lv_at hl 0 rfl) ?_
  refine b_get (ci := 0) (C := RX0) (T := TX0) (Nf := 11) (v := .ref (q 7)) hx hb hts in_X0_closeOver_X0 hown hK hH 1 (by decide) rfl rfl 5 (by decide) (hts (.fieldLink RX0 30 "StationLine$Bench" "before" "[I") (List.mem_of_getElem? (i := 1) rfl)) rfl dX0_closeOver_1 ?_
  refine lv_iconst (v := 0) hx hb dX0_closeOver_4 (by decide) ?_
  refine lv_aload_n hx hb dX0_closeOver_5 rfl (lv_at hl 0 rfl) ?_
  refine b_get (ci := 0) (C := RX0) (T := TX0) (Nf := 11) (v := .ref (q 8)) hx hb hts in_X0_closeOver_X0 hown hK hH 1 (by decide) rfl rfl 6 (by decide) (hts (.fieldLink RX0 33 "StationLine$Bench" "leading" "[I") (List.mem_of_getElem? (i := 2) rfl)) rfl dX0_closeOver_6 ?_
  refine lv_iconst (v := 0) hx hb dX0_closeOver_9 (by decide) ?_
  refine lv_aload_n hx hb dX0_closeOver_10 rfl (lv_at hl 0 rfl) ?_
  refine b_get (ci := 0) (C := RX0) (T := TX0) (Nf := 11) (v := .int (z0.1 0)) hx hb hts in_X0_closeOver_X0 hown hK hH 1 (by decide) rfl rfl 0 (by decide) (hts (.fieldLink RX0 9 "StationLine$Bench" "size" "I") (List.mem_of_getElem? (i := 3) rfl)) rfl dX0_closeOver_11 ?_
  have i303 := IvC_s0 hJ.1
  have := i303.1; have := i303.2
  refine b_copyi hx hb (by rw [hml]; exact hl.1.symm) hown (hts (.methodLink RX0 51 arraycopyName) (List.mem_of_getElem? (i := 4) rfl)) (hts (.native arraycopyName) (List.mem_of_getElem? (i := 5) rfl)) (hts (.static arraycopyName) (List.mem_of_getElem? (i := 6) rfl)) (hts (.initialized "java/lang/System") (List.mem_of_getElem? (i := 7) rfl)) hK hH 7 8 (by decide) (by decide) rfl rfl (by decide) (by decide) (iv_ge0 i303 (by decide)) (Nat.le_trans (Nat.le_of_eq (Nat.zero_add _)) (iv_cl i303 (n := 10) (by decide))) (Nat.le_trans (Nat.le_of_eq (Nat.zero_add _)) (iv_cl i303 (n := 10) (by decide))) (Nat.le_of_ble_eq_true rfl) (Nat.le_of_ble_eq_true rfl) (upA z0 8 (va_cpy (z0.2.1 7) (z0.2.1 8) (0 : Int32).toNatClampNeg (0 : Int32).toNatClampNeg (z0.1 0 : Int32).toNatClampNeg)) rfl (enC_A _ _ _ _ _) dX0_closeOver_14 (fun H locs hH => ?_)
  obtain ⟨z304, hz304⟩ : ∃ w : zS, w = upA z0 8 (va_cpy (z0.2.1 7) (z0.2.1 8) (0 : Int32).toNatClampNeg (0 : Int32).toNatClampNeg (z0.1 0 : Int32).toNatClampNeg) := ⟨_, rfl⟩
  rw [← hz304] at hH
  have hJ : jJ IvC 0 768 0 z0 z304 := by rw [hz304]; exact jJ_A hJ (by decide) (IvC_A hJ.1 (by decide))
  refine lv_iconst (v := 0) hx hb dX0_closeOver_17 (by decide) ?_
  refine lv_istore_n (lv' := [(1, .int 0), (0, .ref (q 1))]) hx hb dX0_closeOver_18 rfl hl (by decide) rfl (fun ls hl => ?_)
  exact HL19 _ 0 z304 H locs ls (iv_w (iv_lit (n := 0) 0 (by decide)) (by decide) (by decide)) ⟨Wr_0 (fun t ht => (by rw [hz304, upA_e]; exact cpyN _ rfl ht)), by have := (IvC_s0 hI).1; omega⟩ hJ hH (lv_sub hl [1, 0] rfl) rfl
set_option maxHeartbeats 4000000 in
set_option maxRecDepth 100000 in
theorem g_X0_link_1 (l : Launch) (D : va_G) (cy : Nat → ClassId) (q : Nat → Nat) (hq : bJ 66 q) (z0 : zS) (hI : IvC z0) (p0 : Int32) (hp0 : iv 0 9 p0) (p1 : Int32) (hp1 : iv 0 9 p1) : bCi l yX0_link wsX0_link ({ frames := 2, cells := 0, slots := 0, locals := 62 }) D cy 66 (enC cy) q z0 [.ref (q 1), .int p0, .int p1] (fun v z => jJ IvC 0 896 0 z0 z ∧ iv 0 1 v ∧ (LkP (z0.2.1 7) p0 p1 v (z.2.1 7)) ∧ (LdI (z0.2.1 7) (z0.1 0).toNatClampNeg (z0.2.1 8) → LdI (z.2.1 7) (z0.1 0).toNatClampNeg (z.2.1 8))) := by
  refine hM_z cX0_link (by decide) rfl (own := RX0) rfl hq (Nat.le_of_ble_eq_true rfl) ?_
  intro p e s m args below meth c Q ls H locs hx hb hml hown hts hK hZ hH hl hret
  have hl : lv_has ls 3 [(0, .ref (q 1)), (1, .int p0), (2, .int p1)] := hl
  have hJ : jJ IvC 0 896 0 z0 z0 := jJ_rf _ _ _ hI
  refine lv_aload_n hx hb dX0_link_0 rfl (lv_at hl 0 rfl) ?_
  refine b_get (ci := 0) (C := RX0) (T := TX0) (Nf := 11) (v := .ref (q 7)) hx hb hts in_X0_link_X0 hown hK hH 1 (by decide) rfl rfl 5 (by decide) (hts (.fieldLink RX0 30 "StationLine$Bench" "before" "[I") (List.mem_of_getElem? (i := 1) rfl)) rfl dX0_link_1 ?_
  refine lv_iload_n hx hb dX0_link_4 rfl (lv_at hl 2 rfl) ?_
  refine b_iald (v := z0.2.1 7 (p1 : Int32).toNatClampNeg) hx hb hK hH 7 (by decide) rfl (iv_in hp1 (by decide) (by decide)) rfl dX0_link_5 ?_
  refine lv_iconst (v := 1) hx hb dX0_link_6 (by decide) ?_
  refine lv_iload_n hx hb dX0_link_7 rfl (lv_at hl 1 rfl) ?_
  refine lv_ishl hx hb dX0_link_8 ?_
  have i10 : iv 1 512 ((1 : Int32) <<< (p0 &&& 31)) := (iv_bit hp0 (by decide) (by decide))
  refine lv_iand hx hb dX0_link_9 ?_
  have i11 : iv 0 512 ((z0.2.1 7 (p1 : Int32).toNatClampNeg) &&& ((1 : Int32) <<< (p0 &&& 31))) := (iv_and2 (iv_all (z0.2.1 7 (p1 : Int32).toNatClampNeg)) i10 (by decide) (by decide))
  refine lv_if_eq (tgt := 15) hx hb dX0_link_10 (by decide) (fun c12 => ?_) (fun c12 => ?_)
  · skip
    have k13a : iv 0 0 ((z0.2.1 7 (p1 : Int32).toNatClampNeg) &&& ((1 : Int32) <<< (p0 &&& 31))) := iv_eql (iv_Eq c12) i11 (iv_lit (n := 0) 0 (by decide)) (by decide) (by decide)
    refine lv_aload_n hx hb dX0_link_15 rfl (lv_at hl 0 rfl) ?_
    refine b_get (ci := 0) (C := RX0) (T := TX0) (Nf := 11) (v := .ref (q 7)) hx hb hts in_X0_link_X0 hown hK hH 1 (by decide) rfl rfl 5 (by decide) (hts (.fieldLink RX0 30 "StationLine$Bench" "before" "[I") (List.mem_of_getElem? (i := 1) rfl)) rfl dX0_link_16 ?_
    refine lv_iload_n hx hb dX0_link_19 rfl (lv_at hl 2 rfl) ?_
    refine lv_dup2_11 hx hb dX0_link_20 rfl rfl ?_
    refine b_iald (v := z0.2.1 7 (p1 : Int32).toNatClampNeg) hx hb hK hH 7 (by decide) rfl (iv_in hp1 (by decide) (by decide)) rfl dX0_link_21 ?_
    refine lv_iconst (v := 1) hx hb dX0_link_22 (by decide) ?_
    refine lv_iload_n hx hb dX0_link_23 rfl (lv_at hl 1 rfl) ?_
    refine lv_ishl hx hb dX0_link_24 ?_
    have i14 : iv 1 512 ((1 : Int32) <<< (p0 &&& 31)) := (iv_bit hp0 (by decide) (by decide))
    refine lv_ior hx hb dX0_link_25 ?_
    refine b_iast hx hb hK hH 7 (by decide) rfl (iv_in hp1 (by decide) (by decide)) (upA z0 7 (upd (z0.2.1 7) (p1 : Int32).toNatClampNeg ((z0.2.1 7 (p1 : Int32).toNatClampNeg) ||| ((1 : Int32) <<< (p0 &&& 31))))) rfl (enC_A _ _ _ _ _) dX0_link_26 (fun H locs hH => ?_)
    obtain ⟨z16, hz16⟩ : ∃ w : zS, w = upA z0 7 (upd (z0.2.1 7) (p1 : Int32).toNatClampNeg ((z0.2.1 7 (p1 : Int32).toNatClampNeg) ||| ((1 : Int32) <<< (p0 &&& 31)))) := ⟨_, rfl⟩
    rw [← hz16] at hH
    have hJ : jJ IvC 0 896 0 z0 z16 := by rw [hz16]; exact jJ_A hJ (by decide) (IvC_A hJ.1 (by decide))
    refine lv_aload_n hx hb dX0_link_27 rfl (lv_at hl 0 rfl) ?_
    refine b_callv (As := []) (rest := []) ⟨hx, hb, hml, hown, hts⟩ 1 0 (g_X0_closeOver_1 l D cy q hH.2.1 z16 hJ.1 ) (cwV 0 hts gX0_link_X0_closeOver rfl rfl rfl (by decide +kernel) ⟨Nat.le_of_ble_eq_true rfl, Nat.le_of_ble_eq_true rfl⟩) hK hZ hH (by decide) rfl rfl rfl hl.1 rfl (Nat.le_of_ble_eq_true rfl) ⟨Nat.zero_le _, Nat.zero_le _⟩ dX0_link_28 (fun z17 H locs hp hH => ?_)
    have hJ := jJ_tr hJ hp.1 (by decide) (by decide) (by decide)
    have f17_0 := hp.2
    have hA17 := hp.1.2
    refine lv_iconst (v := 1) hx hb dX0_link_31 (by decide) ?_
    exact hret _ z17 H locs _ _ (iv_w (iv_lit (n := 1) 1 (by decide)) (by decide) (by decide)) ⟨hJ, (iv_w (iv_lit (n := 1) 1 (by decide)) (by decide) (by decide)), ⟨fun q => absurd q (bit_eq hp0 c12), fun _ => ⟨rfl, (((hA17.2.1 7 (by decide)))).trans (show z16.2.1 7 = _ by rw [hz16]; exact upA_e)⟩⟩, fun _ => (by have h9 := f17_0; rw [show z16.1 0 = z0.1 0 by rw [hz16]; rfl] at h9; rw [((hA17.2.1 7 (by decide)))]; exact h9)⟩ hH dX0_link_32
  · skip
    have k18a : iv 1 512 ((z0.2.1 7 (p1 : Int32).toNatClampNeg) &&& ((1 : Int32) <<< (p0 &&& 31))) := iv_neLo (iv_nEq c12) i11 (by decide) (by decide)
    refine lv_iconst (v := 0) hx hb dX0_link_13 (by decide) ?_
    exact hret _ z0 H locs _ _ (iv_w (iv_lit (n := 0) 0 (by decide)) (by decide) (by decide)) ⟨hJ, (iv_w (iv_lit (n := 0) 0 (by decide)) (by decide) (by decide)), ⟨fun _ => ⟨rfl, rfl⟩, fun q => absurd (bit_ne hp0 c12) q⟩, fun h => h⟩ hH dX0_link_14
