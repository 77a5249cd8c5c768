/-! one step: what is kept alike -/
def Core (u : XS) (v : MS) : Prop := xM u = mA v 1 ∧ xR u = mA v 2 ∧ (xF u 1 = mF v 1 ∧ xF u 2 = mF v 3 ∧ xF u 3 = mF v 4 ∧ xF u 11 = mF v 5 ∧ xF u 12 = mF v 6 ∧ xF u 13 = mF v 7) ∧ (∀ i, 0 ≤ (xM u i).toInt ∧ (xM u i).toInt < 256) ∧ (0 ≤ (xF u 1).toInt ∧ (xF u 1).toInt ≤ 3) ∧ (0 ≤ (xF u 2).toInt ∧ (xF u 2).toInt ≤ 3) ∧ -1 ≤ (xF u 3).toInt
theorem Rel.core {u : XS} {v : MS} (h : Rel u v) : Core u v := by
  obtain ⟨r1, r2, ⟨e1, e2, e3, e4, e5, e6, e7⟩, r4, r5, r6, r7, r8⟩ := h
  exact ⟨r1, r2, ⟨e2, e3, e4, e5, e6, e7⟩, r4, r6, r7, r8⟩
theorem Core.rel {u : XS} {v : MS} (h : Core u v) (hn : xF u 0 = mF v 2) (h0 : 0 ≤ (xF u 0).toInt ∧ (xF u 0).toInt < 16777216) : Rel u v := by
  obtain ⟨r1, r2, ⟨e2, e3, e4, e5, e6, e7⟩, r4, r6, r7, r8⟩ := h
  exact ⟨r1, r2, ⟨hn, e2, e3, e4, e5, e6, e7⟩, r4, h0, r6, r7, r8⟩
theorem Core.reg {u : XS} {v : MS} (h : Core u v) (i : Nat) (y : Int32) : Core (xsR u i y) (msA v 2 i y) := by
  obtain ⟨h1, h2, h3, h4, h5⟩ := h
  refine ⟨h1, ?_, h3, h4, h5⟩
  show upd (xR u) i y = upd (mA v 2) i y
  rw [h2]
theorem Core.mem {u : XS} {v : MS} (h : Core u v) {g : Nat → Int32} (hg : ∀ i, 0 ≤ (g i).toInt ∧ (g i).toInt < 256) : Core (xsMM u g) (msMM v g) := by
  obtain ⟨h1, h2, h3, h4, h5⟩ := h
  exact ⟨rfl, h2, h3, hg, h5⟩
theorem Core.cc {u : XS} {v : MS} (h : Core u v) (x : Int32) (hx : 0 ≤ x.toInt ∧ x.toInt ≤ 3) : Core (xsF u 1 x) (msF v 1 x) := by
  obtain ⟨h1, h2, ⟨e2, e3, e4, e5, e6, e7⟩, h4, h5, h6, h7⟩ := h
  exact ⟨h1, h2, ⟨rfl, e3, e4, e5, e6, e7⟩, h4, hx, h6, h7⟩
theorem Core.xn {u : XS} {v : MS} (h : Core u v) (x : Int32) : Core (xsF u 0 x) v := h
theorem Core.mn {u : XS} {v : MS} (h : Core u v) (x : Int32) : Core u (msF v 2 x) := h
theorem Core.fl {u : XS} {v : MS} (h : Core u v) (x : Int32) : Core u (msF v 13 x) := h
theorem Core.err {u : XS} {v : MS} (h : Core u v) (x : Int32) : Core u (msF v 0 x) := h
theorem Core.halt {u : XS} {v : MS} (h : Core u v) (x : Int32) (hx : -1 ≤ x.toInt) : Core (xsF u 3 x) (msF v 4 x) := by
  obtain ⟨h1, h2, ⟨e2, e3, e4, e5, e6, e7⟩, h4, h5, h6, h7⟩ := h
  exact ⟨h1, h2, ⟨e2, e3, rfl, e5, e6, e7⟩, h4, h5, h6, hx⟩
theorem Core.arr {u : XS} {v : MS} (h : Core u v) {p : Nat} (hp : 3 ≤ p) (i : Nat) (y : Int32) : Core u (msA v p i y) := by
  obtain ⟨h1, h2, h3, h4, h5⟩ := h
  refine ⟨?_, ?_, h3, h4, h5⟩
  · rw [mA_A, if_neg (by omega)]; exact h1
  · rw [mA_A, if_neg (by omega)]; exact h2
/-- an instruction's octets are found: class and reference hold the same parts of it -/
def Dd (u : XS) (v : MS) (c s i j a1 a2 at0 : Nat) : Prop := Core u v ∧ (c < 256 ∧ s < 256 ∧ i < 16 ∧ j < 16 ∧ a1 < 16777216 ∧ a2 < 16777216) ∧ (nI s &&& 15 = nI j ∧ nI s >>> ((4 : Int32) &&& 31) = nI i ∧ s = 16 * i + j) ∧ (xF u 4 = nI c ∧ mF v 8 = nI c) ∧ (xF u 5 = nI s ∧ mF v 10 = nI s) ∧ (xF u 6 = nI i ∧ xF u 7 = nI j) ∧ (64 ≤ c → xF u 9 = nI a2 ∧ mF v 12 = nI a2) ∧ (128 ≤ c → xF u 8 = nI a1 ∧ mF v 11 = nI a1) ∧ (128 ≤ c → c < 192 → a1 = a2) ∧ (mF v 13 = 0 ∧ mF v 0 = 0 ∧ mF v 2 = nI at0) ∧ ∃ z, mF v 9 = nI z ∧ at0 + z ≤ 1024 ∧ xF u 10 = nI (at0 + z) ∧ xF u 0 = nI (at0 + z)
def okf (f : Int32) : Prop := f = 0 ∨ f = 8 ∨ f = 10
def nok (f : Int32) : Prop := f = 1 ∨ f = 5 ∨ f = 6 ∨ f = 7 ∨ f = 9 ∨ f = 11
def Done (p : Int32 × XS) (v1 : MS) (r : Option MS) : Prop := ∃ v2, r = some v2 ∧ mF v2 13 = p.1 ∧ Core p.2 v2 ∧ mF v2 0 = mF v1 0 ∧ xF p.2 0 = mF v2 2 ∧ 0 ≤ (xF p.2 0).toInt ∧ (xF p.2 0).toInt < 16777216
def Out (p : Int32 × XS) (v : MS) : Prop := ∃ v1, f_MMo_looks v = some v1 ∧ mF v1 0 = mF v 0 ∧ ((mF v1 13 = 0 ∧ okf p.1 ∧ Done p v1 (f_MMo_acts v1)) ∨ (mF v1 13 = p.1 ∧ nok p.1 ∧ Core p.2 v1 ∧ mF v1 2 = mF v 2))
theorem wrong_f (v : MS) (c : Int32) : f_MMo_wrong v false c = some v := by simp [f_MMo_wrong, bI]
theorem wrong_t (v : MS) (c : Int32) (h : mF v 13 = 0) : f_MMo_wrong v true c = some (msF v 13 c) := by simp [f_MMo_wrong, nm, bI, h]
theorem wrong_n (v : MS) (z : Bool) (c : Int32) (h : ¬ mF v 13 = 0) : f_MMo_wrong v z c = some v := by cases z <;> simp [f_MMo_wrong, bI, h]
theorem hi_eq {v : MS} {s i : Nat} (h : mF v 10 = nI s) (hi : nI s >>> ((4 : Int32) &&& 31) = nI i) : f_MMo_high v = some (nI i) := by
  unfold f_MMo_high
  rw [h, hi]
theorem lo_eq {v : MS} {s j : Nat} (h : mF v 10 = nI s) (hj : nI s &&& 15 = nI j) : f_MMo_low v = some (nI j) := by
  unfold f_MMo_low
  rw [h, hj]
/-- an instruction that stores its answer and tells no place: class and reference, both with the place behind it -/
def Sim (p : Int32 × XS) (r : Option MS) (u : XS) (v : MS) : Prop := okf p.1 ∧ ∃ v2, r = some v2 ∧ mF v2 13 = p.1 ∧ Core p.2 v2 ∧ mF v2 0 = mF v 0 ∧ mF v2 2 = mF v 2 ∧ xF p.2 0 = xF u 0
theorem Sim.done {p : Int32 × XS} {r : Option MS} {u : XS} {v v1 : MS} (h : Sim p r u v) (h0 : mF v 0 = mF v1 0) {n : Nat} (hn : xF u 0 = nI n) (hm : mF v 2 = nI n) (hl : n < 16777216) : Done p v1 r := by
  obtain ⟨-, v2, e1, e2, e3, e4, e5, e6⟩ := h
  refine ⟨v2, e1, e2, e3, e4.trans h0, by rw [e6, e5, hn, hm], ?_⟩
  rw [e6, hn, nI_toInt (by omega)]
  omega
theorem Sim.mk {p : Int32 × XS} {u : XS} {v v2 : MS} (ho : okf p.1) (h1 : mF v2 13 = p.1) (h2 : Core p.2 v2) (h3 : mF v2 0 = mF v 0) (h4 : mF v2 2 = mF v 2) (h5 : xF p.2 0 = xF u 0) : Sim p (some v2) u v := ⟨ho, v2, rfl, h1, h2, h3, h4, h5⟩
/-- looks finds nothing wrong and changes nothing -/
theorem Out.ok {p : Int32 × XS} {v : MS} (hl : f_MMo_looks v = some v) (h13 : mF v 13 = 0) (ho : okf p.1) (hd : Done p v (f_MMo_acts v)) : Out p v := ⟨v, hl, rfl, Or.inl ⟨h13, ho, hd⟩⟩
/-- looks finds a fault -/
theorem Out.no {p : Int32 × XS} {v : MS} {f : Int32} (hl : f_MMo_looks v = some (msF v 13 f)) (hp : p.1 = f) (ho : nok f) (hc : Core p.2 v) : Out p v := ⟨msF v 13 f, hl, rfl, Or.inr ⟨hp.symm, by rw [hp]; exact ho, hc, rfl⟩⟩
theorem xsF_2 (u : XS) (i : Nat) (a b : Int32) : xsF (xsF u i a) i b = xsF u i b := by
  refine Prod.ext rfl (Prod.ext rfl (Prod.ext rfl (funext fun j => ?_)))
  show upd (upd u.2.2.2 i a) i b j = upd u.2.2.2 i b j
  rw [updE, updE, updE]
  split <;> rfl
theorem cond_sign (u : XS) (y : Int64) : f_XSt_conditionBySign u y = xsF u 1 (if y = 0 then 0 else if 0 ≤ y then 2 else 1) := by
  simp only [f_XSt_conditionBySign, nm]
  split
  · rfl
  · split <;> rfl
theorem cond_bits (u : XS) (x : Int32) : f_XSt_conditionByBits u x = xsF u 1 (if x = 0 then 0 else 1) := by
  simp only [f_XSt_conditionByBits, nm]
  split <;> rfl
theorem m_sign (v : MS) (x : Int32) : f_MMo_signOf v x = some (if x = 0 then 0 else if 0 ≤ x then 2 else 1) := by
  simp only [f_MMo_signOf]
  split
  · rfl
  · split <;> rfl
theorem sign_64 (x : Int32) : (if x.toInt64 = 0 then (0 : Int32) else if 0 ≤ x.toInt64 then 2 else 1) = if x = 0 then 0 else if 0 ≤ x then 2 else 1 := by
  have h1 : (x.toInt64 = 0) = (x = 0) := by
    apply propext
    constructor
    · intro h
      exact Int32.toInt_inj.mp (by have := congrArg Int64.toInt h; rw [Int32.toInt_toInt64] at this; exact this)
    · intro h; rw [h]; rfl
  have h2 : ((0 : Int64) ≤ x.toInt64) = ((0 : Int32) ≤ x) := by
    apply propext
    rw [Int64.le_iff_toInt_le, Int32.le_iff_toInt_le, Int32.toInt_toInt64]
    exact Iff.rfl
  simp only [h1, h2]
theorem sgn_3 (a b : Prop) [Decidable a] [Decidable b] : 0 ≤ (if a then (0 : Int32) else if b then 2 else 1).toInt ∧ (if a then (0 : Int32) else if b then 2 else 1).toInt ≤ 3 := by
  split
  · decide
  · split <;> decide
theorem bit_3 (a : Prop) [Decidable a] : 0 ≤ (if a then (0 : Int32) else 1).toInt ∧ (if a then (0 : Int32) else 1).toInt ≤ 3 := by
  split <;> decide
/-! the same words, unfolded by a step of their own -/
theorem nmE {α β : Type} (e : α) (k : α → β) : nm e k = k e := congrFun (congrFun (show @nm α β = fun e k => k e from rfl) e) k
theorem jnE {α β : Type} (t : α → β) (k : α) : jn t k = t k := congrFun (congrFun (show @jn α β = fun t k => t k from rfl) t) k
theorem prE {α β γ : Type} (a : α) (b : β) (k : α → β → γ) : pr (a, b) k = k a b := congrFun (congrFun (show @pr α β γ = fun e k => k e.1 e.2 from rfl) (a, b)) k
theorem prI {α β : Type} (e : α × β) : pr e (fun a b => (a, b)) = e := by cases e; exact prE _ _ _
theorem bd1S {α β : Type} (x : α) (k : α → Option β) : bd1 (some x) k = k x := congrFun (show bd1 (some x) = fun k : α → Option β => k x from rfl) k
theorem bd2S {α σ β : Type} (x : α) (y : σ) (k : α → σ → Option β) : bd2 (some (x, y)) k = k x y := congrFun (show bd2 (some (x, y)) = fun k : α → σ → Option β => k x y from rfl) k
