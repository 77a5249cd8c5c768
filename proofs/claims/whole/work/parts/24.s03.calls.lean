/-! the calls that don't run -/
theorem Rel.err {u : XS} {v : MS} (h : Rel u v) (c : Int32) : Rel u (msF v 0 c) := h
theorem demand_t (u : XS) : f_XDM_demand u true = Sum.inr u := by simp [f_XDM_demand, bI]
theorem demand_f (u : XS) : f_XDM_demand u false = Sum.inl ("java/lang/IllegalArgumentException", u) := by simp [f_XDM_demand, bI]
theorem demM_t {u : XS} {a n : Int32} (h : f_XMe_holds u a n = true) : f_XDM_demandMemory u a n = Sum.inr u := by simp [f_XDM_demandMemory, nm, h, bI]
theorem demM_f {u : XS} {a n : Int32} (h : f_XMe_holds u a n = false) : f_XDM_demandMemory u a n = Sum.inl ("java/lang/IndexOutOfBoundsException", u) := by simp [f_XDM_demandMemory, nm, h, bI]
theorem Rel.mem {u : XS} {v : MS} (h : Rel u v) {g : Nat → Int32} (hg : ∀ i, 0 ≤ (g i).toInt ∧ (g i).toInt < 256) : Rel (xsMM u g) (msMM v g) := by
  obtain ⟨h1, h2, h3, h4, h5⟩ := h
  exact ⟨rfl, h2, h3, hg, h5⟩
theorem Rel.oct {u : XS} {v : MS} (h : Rel u v) : ∀ i, 0 ≤ (xM u i).toInt ∧ (xM u i).toInt < 256 := h.2.2.2.1
theorem oct_oc (w : Int) (k : Nat) : 0 ≤ (ocI w k).toInt ∧ (ocI w k).toInt < 256 := by
  obtain ⟨b, hb, e⟩ := ocI_lt w k
  rw [e, nI_toInt (by omega)]
  omega
theorem oct_st {g : Nat → Int32} (h : ∀ i, 0 ≤ (g i).toInt ∧ (g i).toInt < 256) (A N : Nat) (w : Int) : ∀ i, 0 ≤ (stM g A N w i).toInt ∧ (stM g A N w i).toInt < 256 := by
  intro i
  unfold stM
  split
  · exact oct_oc _ _
  · exact h i
theorem P_octet {u : XS} {v : MS} (h : Rel u v) (f : Nat → Int64) (x1 : Int32) : ∃ b v1, f_MMo_octet v x1 = some (b, v1) ∧ mF v1 0 = (h_octet (u, f) x1).1 ∧ ((h_octet (u, f) x1).1 = 0 → (h_octet (u, f) x1).2.2 0 = Int32.toInt64 b) ∧ Rel (h_octet (u, f) x1).2.1 v1 := by
  have h0 : mF (msF v 0 0) 0 = 0 := rfl
  have hR := h.err 0
  generalize hw : msF v 0 0 = w at h0 hR
  simp only [f_MMo_octet, nm, jn, hw, bd1, bd2, lies_holds w u x1 (n := 1) (N := 1) rfl (by decide), h_octet, f_XDM_octet, bI0]
  cases hb : f_XMe_holds u x1 1 with
  | false =>
    rw [demM_f hb, if_pos rfl, fails_t w 1 h0 (by decide)]
    exact ⟨0, _, rfl, rfl, fun e => absurd e (by simp [bx, hi, xc]), hR⟩
  | true =>
    rw [demM_t hb, if_neg (by decide), fails_f w 1 h0]
    obtain ⟨A, rfl, hA⟩ := (holds_iff u x1 (n := 1) (N := 1) rfl (by decide)).mp hb
    refine ⟨_, _, ckIN rfl (by omega) (by decide), h0, fun _ => ?_, hR⟩
    show vp_updL f 0 (f_XMe_get u (nI A)).toInt64 0 = _
    rw [pk_uLs, getN u rfl (by omega), nI_clamp (by omega), hR.1]
theorem nib_iff (u : XS) (x : Int32) : f_XDM_isNibble u x = true ↔ ∃ r, r < 16 ∧ x = nI r := by
  simp only [f_XDM_isNibble, nm]
  rw [within_iff]
  constructor
  · rintro ⟨h1, h2⟩
    exact ex_nI h1 (by have : (15 : Int32).toInt = 15 := rfl; omega)
  · rintro ⟨r, hr, rfl⟩
    have : (15 : Int32).toInt = 15 := rfl
    have : (0 : Int32).toInt = 0 := rfl
    rw [nI_toInt (by omega)]
    omega
theorem nib_and {x : Int32} {r : Nat} (hx : x = nI r) (hr : r < 16) : x &&& 15 = nI r := by
  rw [hx, pk_andN (by omega) 4 rfl, Nat.mod_eq_of_lt (by omega)]
theorem x_val (u : XS) {x : Int32} {r : Nat} (hx : x = nI r) (hr : r < 16) : f_XSt_value u x = xR u r := by
  unfold f_XSt_value
  rw [nib_and hx hr, nI_clamp (by omega)]
theorem x_putR (u : XS) {x : Int32} {r : Nat} (y : Int32) (hx : x = nI r) (hr : r < 16) : f_XSt_put u x y = xsR u r y := by
  simp only [f_XSt_put, nm]
  rw [nib_and hx hr, nI_clamp (by omega)]
theorem P_register {u : XS} {v : MS} (h : Rel u v) (f : Nat → Int64) (x1 : Int32) : ∃ b v1, f_MMo_register v x1 = some (b, v1) ∧ mF v1 0 = (h_register (u, f) x1).1 ∧ ((h_register (u, f) x1).1 = 0 → (h_register (u, f) x1).2.2 0 = Int32.toInt64 b) ∧ Rel (h_register (u, f) x1).2.1 v1 := by
  have h0 : mF (msF v 0 0) 0 = 0 := rfl
  have hR := h.err 0
  generalize hw : msF v 0 0 = w at h0 hR
  simp only [f_MMo_register, nm, jn, hw, bd1, bd2, in_within w u x1 0 15 (y1 := 0) (y2 := 15) rfl (by decide) (by decide), h_register, f_XDM_register, bI0]
  have hN : f_XDM_isNibble u x1 = f_XDM_isWithin u x1 0 15 := rfl
  rw [hN]
  cases hb : f_XDM_isWithin u x1 0 15 with
  | false =>
    rw [demand_f, if_pos rfl, fails_t w 1 h0 (by decide)]
    exact ⟨0, _, rfl, rfl, fun e => absurd e (by simp [bx, hi, xc]), hR⟩
  | true =>
    rw [demand_t, if_neg (by decide), fails_f w 1 h0]
    obtain ⟨r, hr, rfl⟩ := (nib_iff u x1).mp (by rw [hN]; exact hb)
    refine ⟨_, _, ckIN rfl hr (by decide), h0, fun _ => ?_, hR⟩
    show vp_updL f 0 (f_XSt_value u (nI r)).toInt64 0 = _
    rw [pk_uLs, x_val u rfl hr, nI_clamp (by omega), hR.2.1]
theorem Rel.reg {u : XS} {v : MS} (h : Rel u v) (i : Nat) (y : Int32) : Rel (xsR u i y) (msA v 2 i y) := by
  obtain ⟨h1, h2, h3, h4, h5⟩ := h
  refine ⟨h1, ?_, h3, h4, h5⟩
  show upd (xR u) i y = upd (mA v 2) i y
  rw [h2]
theorem P_set {u : XS} {v : MS} (h : Rel u v) (f : Nat → Int64) (x1 : Int32) (x2 : Int32) : ∃ b v1, f_MMo_set v x1 x2 = some (b, v1) ∧ mF v1 0 = (h_set (u, f) x1 x2).1 ∧ ((h_set (u, f) x1 x2).1 = 0 → (h_set (u, f) x1 x2).2.2 0 = Int32.toInt64 b) ∧ Rel (h_set (u, f) x1 x2).2.1 v1 := by
  have h0 : mF (msF v 0 0) 0 = 0 := rfl
  have hR := h.err 0
  generalize hw : msF v 0 0 = w at h0 hR
  simp only [f_MMo_set, nm, jn, hw, bd1, bd2, in_within w u x1 0 15 (y1 := 0) (y2 := 15) rfl (by decide) (by decide), h_set, f_XDM_set, bI0]
  have hN : f_XDM_isNibble u x1 = f_XDM_isWithin u x1 0 15 := rfl
  rw [hN]
  cases hb : f_XDM_isWithin u x1 0 15 with
  | false =>
    rw [demand_f, if_pos rfl, fails_t w 1 h0 (by decide)]
    exact ⟨0, _, rfl, rfl, fun e => absurd e (by simp [bx, hi, xc]), hR⟩
  | true =>
    rw [demand_t, if_neg (by decide), fails_f w 1 h0]
    obtain ⟨r, hr, rfl⟩ := (nib_iff u x1).mp (by rw [hN]; exact hb)
    refine ⟨_, _, (ckIN rfl hr (by decide)).trans (ckIN rfl hr (by decide)), h0, fun _ => ?_, ?_⟩
    · show vp_updL f 0 (f_XSt_value u (nI r)).toInt64 0 = _
      rw [pk_uLs, x_val u rfl hr, nI_clamp (by omega), hR.2.1]
    · show Rel (f_XSt_put u (nI r) x2) _
      rw [x_putR u x2 rfl hr, nI_clamp (by omega)]
      exact hR.reg r x2
theorem P_count {u : XS} {v : MS} (h : Rel u v) (f : Nat → Int64) (x1 : Int32) : ∃ b v1, f_MMo_count v x1 = some (b, v1) ∧ mF v1 0 = (h_count (u, f) x1).1 ∧ ((h_count (u, f) x1).1 = 0 → (h_count (u, f) x1).2.2 0 = Int32.toInt64 b) ∧ Rel (h_count (u, f) x1).2.1 v1 := by
  have h0 : mF (msF v 0 0) 0 = 0 := rfl
  have hR := h.err 0
  generalize hw : msF v 0 0 = w at h0 hR
  simp only [f_MMo_count, nm, jn, hw, bd1, bd2, in_within w u x1 0 6 (y1 := 0) (y2 := 6) rfl (by decide) (by decide), h_count, f_XDM_count, bI0]
  cases hb : f_XDM_isWithin u x1 0 6 with
  | false =>
    rw [demand_f, if_pos rfl, fails_t w 1 h0 (by decide)]
    exact ⟨0, _, rfl, rfl, fun e => absurd e (by simp [bx, hi, xc]), hR⟩
  | true =>
    rw [demand_t, if_neg (by decide), fails_f w 1 h0]
    obtain ⟨e1, e2, e3, e4, e5, e6, e7⟩ := hR.2.2.1
    have key : ∀ (p q : Int32), p = q → ∃ b v1, some (q, w) = some (b, v1) ∧ mF v1 0 = (hi ["java/lang/IllegalArgumentException"] f (Sum.inr (p, u))).1 ∧ ((hi ["java/lang/IllegalArgumentException"] f (Sum.inr (p, u))).1 = 0 → (hi ["java/lang/IllegalArgumentException"] f (Sum.inr (p, u))).2.2 0 = Int32.toInt64 b) ∧ Rel (hi ["java/lang/IllegalArgumentException"] f (Sum.inr (p, u))).2.1 v1 := by
      rintro p q rfl
      exact ⟨_, _, rfl, h0, fun _ => rfl, hR⟩
    simp only [bx, if_true]
    by_cases c0 : x1 = 0
    · simp only [c0, if_true]; exact key _ _ e1
    by_cases c1 : x1 = 1
    · simp only [c0, c1, if_true, if_false]; exact key _ _ e2
    by_cases c2 : x1 = 2
    · simp only [c0, c1, c2, if_true, if_false]; exact key _ _ e3
    by_cases c3 : x1 = 3
    · simp only [c0, c1, c2, c3, if_true, if_false]; exact key _ _ e4
    by_cases c4 : x1 = 4
    · simp only [c0, c1, c2, c3, c4, if_true, if_false]; exact key _ _ e5
    by_cases c5 : x1 = 5
    · simp only [c0, c1, c2, c3, c4, c5, if_true, if_false]; exact key _ _ e6
    · simp only [c0, c1, c2, c3, c4, c5, if_false]; exact key _ _ e7
theorem P_start {u : XS} {v : MS} (h : Rel u v) (f : Nat → Int64) (x1 : Int32) (x2 : Int32) : ∃ v1, f_MMo_start v x1 x2 = some v1 ∧ mF v1 0 = (h_start (u, f) x1 x2).1 ∧ Rel (h_start (u, f) x1 x2).2.1 v1 := by
  have h0 : mF (msF v 0 0) 0 = 0 := rfl
  have hR := h.err 0
  generalize hw : msF v 0 0 = w at h0 hR
  simp only [f_MMo_start, nm, jn, hw, bd1, bd2, in_within w u x1 0 16777215 (y1 := 0) (y2 := 16777215) rfl (by decide) (by decide), in_within w u x2 0 3 (y1 := 0) (y2 := 3) rfl (by decide) (by decide), h_start, f_XDM_start, bI0]
  cases hb : f_XDM_isWithin u x1 0 16777215 with
  | false =>
    rw [demand_f, if_pos rfl, if_pos rfl, fails_t w 1 h0 (by decide)]
    exact ⟨_, rfl, rfl, hR⟩
  | true =>
    simp only [reduceCtorEq, ↓reduceIte]
    cases hc : f_XDM_isWithin u x2 0 3 with
    | false =>
      simp only [reduceCtorEq, ↓reduceIte]
      rw [demand_f, fails_t w 1 h0 (by decide)]
      exact ⟨_, rfl, rfl, hR⟩
    | true =>
      simp only [reduceCtorEq, ↓reduceIte]
      rw [demand_t, fails_f w 1 h0]
      refine ⟨_, rfl, h0, ?_⟩
      obtain ⟨r1, r2, ⟨e1, e2, e3, e4, e5, e6, e7⟩, r4, r5⟩ := hR
      have k1 := (within_iff u x1 0 16777215).mp hb
      have k2 := (within_iff u x2 0 3).mp hc
      have l1 : (16777215 : Int32).toInt = 16777215 := rfl
      have l2 : (0 : Int32).toInt = 0 := rfl
      have l3 : (3 : Int32).toInt = 3 := rfl
      exact ⟨r1, r2, ⟨rfl, rfl, rfl, rfl, e5, e6, e7⟩, r4, ⟨show 0 ≤ x1.toInt by omega, show x1.toInt < 16777216 by omega⟩, ⟨show (0 : Int) ≤ (0 : Int32).toInt by decide, show (0 : Int32).toInt ≤ 3 by decide⟩, ⟨show 0 ≤ x2.toInt by omega, show x2.toInt ≤ 3 by omega⟩, show (-1 : Int) ≤ (-1 : Int32).toInt by decide⟩
theorem P_poke {u : XS} {v : MS} (h : Rel u v) (f : Nat → Int64) (x1 : Int32) (x2 : Int32) (x3 : Int64) : ∃ v1, f_MMo_poke v x1 x2 x3 = some v1 ∧ mF v1 0 = (h_poke (u, f) x1 x2 x3).1 ∧ Rel (h_poke (u, f) x1 x2 x3).2.1 v1 := by
  have h0 : mF (msF v 0 0) 0 = 0 := rfl
  have hR := h.err 0
  generalize hw : msF v 0 0 = w at h0 hR
  simp only [f_MMo_poke, nm, jn, hw, bd1, bd2, in_within w u x2 1 8 (y1 := 1) (y2 := 8) rfl (by decide) (by decide), h_poke, f_XDM_poke, bI0]
  cases hb : f_XDM_isWithin u x2 1 8 with
  | false =>
    rw [demand_f, if_pos rfl, fails_t w 1 h0 (by decide)]
    exact ⟨_, rfl, rfl, hR⟩
  | true =>
    rw [demand_t, if_neg (by decide), fails_f w 1 h0]
    have k1 := (within_iff u x2 1 8).mp hb
    have l1 : (1 : Int32).toInt = 1 := rfl
    have l2 : (8 : Int32).toInt = 8 := rfl
    obtain ⟨N, hN, rfl⟩ := ex_nI (x := x2) (N := 9) (by omega) (by omega)
    simp only [bx, if_true, lies_holds w u x1 (n := nI N) (N := N) rfl (by omega)]
    cases hc : f_XMe_holds u x1 (nI N) with
    | false =>
      rw [demM_f hc, if_pos rfl, fails_t w 2 h0 (by decide)]
      exact ⟨_, rfl, rfl, hR⟩
    | true =>
      rw [demM_t hc, if_neg (by decide), fails_f w 2 h0]
      obtain ⟨A, rfl, hA⟩ := (holds_iff u x1 (n := nI N) (N := N) rfl (by omega)).mp hc
      simp only [if_true, m_store w x3 (A := A) (N := N) rfl rfl hA (by omega)]
      refine ⟨_, rfl, h0, ?_⟩
      simp only [hv]
      rw [x_store u x3 (A := A) (N := N) rfl rfl hA, ← hR.1]
      exact hR.mem (oct_st hR.oct _ _ _)
