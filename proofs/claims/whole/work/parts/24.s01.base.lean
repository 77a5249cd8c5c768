/-! the two sides' pure functions: base rows -/
theorem xM_M (u : XS) (i : Nat) (v : Int32) : xM (xsM u i v) = upd (xM u) i v := rfl
theorem xR_M (u : XS) (i : Nat) (v : Int32) : xR (xsM u i v) = xR u := rfl
theorem xO_M (u : XS) (i : Nat) (v : Int32) : xO (xsM u i v) = xO u := rfl
theorem xF_M (u : XS) (i : Nat) (v : Int32) : xF (xsM u i v) = xF u := rfl
theorem xM_R (u : XS) (i : Nat) (v : Int32) : xM (xsR u i v) = xM u := rfl
theorem xR_R (u : XS) (i : Nat) (v : Int32) : xR (xsR u i v) = upd (xR u) i v := rfl
theorem xO_R (u : XS) (i : Nat) (v : Int32) : xO (xsR u i v) = xO u := rfl
theorem xF_R (u : XS) (i : Nat) (v : Int32) : xF (xsR u i v) = xF u := rfl
theorem xM_O (u : XS) (i : Nat) (v : Int32) : xM (xsO u i v) = xM u := rfl
theorem xR_O (u : XS) (i : Nat) (v : Int32) : xR (xsO u i v) = xR u := rfl
theorem xO_O (u : XS) (i : Nat) (v : Int32) : xO (xsO u i v) = upd (xO u) i v := rfl
theorem xF_O (u : XS) (i : Nat) (v : Int32) : xF (xsO u i v) = xF u := rfl
theorem xM_F (u : XS) (i : Nat) (v : Int32) : xM (xsF u i v) = xM u := rfl
theorem xR_F (u : XS) (i : Nat) (v : Int32) : xR (xsF u i v) = xR u := rfl
theorem xO_F (u : XS) (i : Nat) (v : Int32) : xO (xsF u i v) = xO u := rfl
theorem xF_F (u : XS) (i : Nat) (v : Int32) (j : Nat) : xF (xsF u i v) j = if j = i then v else xF u j := rfl
theorem mA_A (u : MS) (p i : Nat) (v : Int32) (q : Nat) : mA (msA u p i v) q = if q = p then upd (mA u p) i v else mA u q := rfl
theorem mF_A (u : MS) (p i : Nat) (v : Int32) : mF (msA u p i v) = mF u := rfl
theorem mA_F (u : MS) (i : Nat) (v : Int32) : mA (msF u i v) = mA u := rfl
theorem mF_F (u : MS) (i : Nat) (v : Int32) (j : Nat) : mF (msF u i v) j = if j = i then v else mF u j := rfl
theorem updE (f : Nat → Int32) (k : Nat) (x : Int32) (j : Nat) : upd f k x j = if j = k then x else f j := rfl
theorem bI0 (z : Bool) : (bI z = 0) = (z = false) := by cases z <;> simp [bI]
theorem bI1 (z : Bool) : (bI z = 1) = (z = true) := by cases z <;> simp [bI]
theorem bIe (y z : Bool) : (bI y = bI z) = (y = z) := by cases y <;> cases z <;> simp [bI]
/-! what the class throws -/
theorem E_demand {u : XS} {z : Bool} {E : String} {u1 : XS} (h : f_XDM_demand u z = Sum.inl (E, u1)) : E = "java/lang/IllegalArgumentException" := by
  unfold f_XDM_demand at h
  split at h
  · cases h; rfl
  · cases h
theorem E_demandMemory {u : XS} {a n : Int32} {E : String} {u1 : XS} (h : f_XDM_demandMemory u a n = Sum.inl (E, u1)) : E = "java/lang/IndexOutOfBoundsException" := by
  simp only [f_XDM_demandMemory, nm] at h
  split at h
  · cases h; rfl
  · cases h
theorem bx_inl {α β σ : Type} {o : Sum (String × σ) α} {k : α → Sum (String × σ) β} {q : String × σ} (h : bx o k = Sum.inl q) : o = Sum.inl q ∨ ∃ r, o = Sum.inr r ∧ k r = Sum.inl q := by
  cases o with
  | inl p => exact Or.inl (by cases h; rfl)
  | inr r => exact Or.inr ⟨r, rfl, h⟩
theorem E_poke (u : XS) (x1 : Int32) (x2 : Int32) (x3 : Int64) : ∀ E u1, f_XDM_poke u x1 x2 x3 = Sum.inl (E, u1) → E = "java/lang/IllegalArgumentException" ∨ E = "java/lang/IndexOutOfBoundsException" := by
  intro E u1 h
  simp only [f_XDM_poke, nm] at h
  rcases bx_inl h with h | ⟨r, -, h⟩
  · exact Or.inl (E_demand h)
  rcases bx_inl h with h | ⟨r, -, h⟩
  · exact Or.inr (E_demandMemory h)
  · cases h
theorem E_octet (u : XS) (x1 : Int32) : ∀ E u1, f_XDM_octet u x1 = Sum.inl (E, u1) → E = "java/lang/IndexOutOfBoundsException" := by
  intro E u1 h
  simp only [f_XDM_octet, nm] at h
  rcases bx_inl h with h | ⟨r, -, h⟩
  · exact E_demandMemory h
  · cases h
theorem E_set (u : XS) (x1 : Int32) (x2 : Int32) : ∀ E u1, f_XDM_set u x1 x2 = Sum.inl (E, u1) → E = "java/lang/IllegalArgumentException" := by
  intro E u1 h
  simp only [f_XDM_set, nm] at h
  rcases bx_inl h with h | ⟨r, -, h⟩
  · exact E_demand h
  · cases h
theorem E_register (u : XS) (x1 : Int32) : ∀ E u1, f_XDM_register u x1 = Sum.inl (E, u1) → E = "java/lang/IllegalArgumentException" := by
  intro E u1 h
  simp only [f_XDM_register, nm] at h
  rcases bx_inl h with h | ⟨r, -, h⟩
  · exact E_demand h
  · cases h
theorem E_start (u : XS) (x1 : Int32) (x2 : Int32) : ∀ E u1, f_XDM_start u x1 x2 = Sum.inl (E, u1) → E = "java/lang/IllegalArgumentException" := by
  intro E u1 h
  simp only [f_XDM_start, nm, jn] at h
  split at h
  · rcases bx_inl h with h | ⟨r, -, h⟩
    · exact E_demand h
    · cases h
  · split at h
    · rcases bx_inl h with h | ⟨r, -, h⟩
      · exact E_demand h
      · cases h
    · rcases bx_inl h with h | ⟨r, -, h⟩
      · exact E_demand h
      · cases h
theorem E_rr (u : XS) (x1 : Int32) (x2 : Int32) (x3 : Int32) (x4 : Int32) : ∀ E u1, f_XDM_rr u x1 x2 x3 x4 = Sum.inl (E, u1) → E = "java/lang/IllegalArgumentException" ∨ E = "java/lang/IndexOutOfBoundsException" := by
  intro E u1 h
  simp only [f_XDM_rr, nm, jn] at h
  have key : ∀ z, bx (f_XDM_demand u z) (fun u_4 => bx (f_XDM_demandMemory u_4 x1 2) (fun u_5 => (Sum.inr (x1 + 2, f_XMe_store (f_XMe_store u_5 x1 1 x2.toInt64) (x1 + 1) 1 (x3 * 16 + x4).toInt64) : Sum (String × XS) (Int32 × XS)))) = Sum.inl (E, u1) → E = "java/lang/IllegalArgumentException" ∨ E = "java/lang/IndexOutOfBoundsException" := by
    intro z h
    rcases bx_inl h with h | ⟨r, -, h⟩
    · exact Or.inl (E_demand h)
    rcases bx_inl h with h | ⟨r, -, h⟩
    · exact Or.inr (E_demandMemory h)
    · cases h
  repeat' split at h
  all_goals exact key _ h
theorem E_rx (u : XS) (x1 : Int32) (x2 : Int32) (x3 : Int32) (x4 : Int32) (x5 : Int32) (x6 : Int32) : ∀ E u1, f_XDM_rx u x1 x2 x3 x4 x5 x6 = Sum.inl (E, u1) → E = "java/lang/IllegalArgumentException" ∨ E = "java/lang/IndexOutOfBoundsException" := by
  intro E u1 h
  simp only [f_XDM_rx, nm, jn] at h
  have key : ∀ (z : Bool) (q : XS → Sum (String × XS) (Int32 × XS)), (∀ r E u1, q r ≠ Sum.inl (E, u1)) → bx (f_XDM_demand u z) (fun u_4 => bx (f_XDM_demandMemory u_4 x1 4) q) = Sum.inl (E, u1) → E = "java/lang/IllegalArgumentException" ∨ E = "java/lang/IndexOutOfBoundsException" := by
    intro z q hq h
    rcases bx_inl h with h | ⟨r, -, h⟩
    · exact Or.inl (E_demand h)
    rcases bx_inl h with h | ⟨r, -, h⟩
    · exact Or.inr (E_demandMemory h)
    · exact absurd h (hq _ _ _)
  repeat' split at h
  all_goals exact key _ _ (fun _ _ _ h => by cases h) h
theorem E_ss (u : XS) (x1 : Int32) (x2 : Int32) (x3 : Int32) (x4 : Int32) (x5 : Int32) (x6 : Int32) (x7 : Int32) : ∀ E u1, f_XDM_ss u x1 x2 x3 x4 x5 x6 x7 = Sum.inl (E, u1) → E = "java/lang/IllegalArgumentException" ∨ E = "java/lang/IndexOutOfBoundsException" := by
  intro E u1 h
  simp only [f_XDM_ss, nm, jn] at h
  have key : ∀ (z : Bool) (q : XS → Sum (String × XS) (Int32 × XS)), (∀ r E u1, q r ≠ Sum.inl (E, u1)) → bx (f_XDM_demand u z) (fun u_4 => bx (f_XDM_demandMemory u_4 x1 6) q) = Sum.inl (E, u1) → E = "java/lang/IllegalArgumentException" ∨ E = "java/lang/IndexOutOfBoundsException" := by
    intro z q hq h
    rcases bx_inl h with h | ⟨r, -, h⟩
    · exact Or.inl (E_demand h)
    rcases bx_inl h with h | ⟨r, -, h⟩
    · exact Or.inr (E_demandMemory h)
    · exact absurd h (hq _ _ _)
  repeat' split at h
  all_goals exact key _ _ (fun _ _ _ h => by cases h) h
theorem E_packed (u : XS) (x1 : Int32) (x2 : Int32) : ∀ E u1, f_XDM_packed u x1 x2 = Sum.inl (E, u1) → E = "java/lang/IllegalArgumentException" ∨ E = "java/lang/IndexOutOfBoundsException" := by
  intro E u1 h
  simp only [f_XDM_packed, nm] at h
  rcases bx_inl h with h | ⟨r, -, h⟩
  · exact Or.inl (E_demand h)
  rcases bx_inl h with h | ⟨r, -, h⟩
  · exact Or.inr (E_demandMemory h)
  rcases bx_inl h with h | ⟨r, -, h⟩
  · exact Or.inl (E_demand h)
  · cases h
theorem E_count (u : XS) (x1 : Int32) : ∀ E u1, f_XDM_count u x1 = Sum.inl (E, u1) → E = "java/lang/IllegalArgumentException" := by
  intro E u1 h
  simp only [f_XDM_count, nm] at h
  rcases bx_inl h with h | ⟨r, -, h⟩
  · exact E_demand h
  · repeat' split at h
    all_goals cases h
theorem E_tell {u : XS} {x : Int32} {E : String} {u1 : XS} (h : f_XDM_tell u x = Sum.inl (E, u1)) : E = "java/lang/IllegalArgumentException" ∨ E = "java/lang/IndexOutOfBoundsException" ∨ E = "java/lang/ArithmeticException" := by
  unfold f_XDM_tell at h
  repeat' split at h
  all_goals cases h
  all_goals simp
theorem E_runL (x1 : Int32) : ∀ (n : Nat) (x4 x5 : Int32) (u : XS) (E : String) (u1 : XS), (x1.toInt - x4.toInt).toNat < n → lpN n (g_XDM_run_36 x1) (fun _ _ _ => Sum.inl default) x4 x5 u = Sum.inl (E, u1) → E = "java/lang/IllegalStateException" ∨ E = "java/lang/IllegalArgumentException" ∨ E = "java/lang/IndexOutOfBoundsException" ∨ E = "java/lang/ArithmeticException" := by
  have key : ∀ (x : Int32) (u : XS) (q : XS → Sum (String × XS) (Int32 × XS)) (E : String) (u1 : XS), (∀ r E u1, q r ≠ Sum.inl (E, u1)) → bx (f_XDM_tell u x) q = Sum.inl (E, u1) → E = "java/lang/IllegalStateException" ∨ E = "java/lang/IllegalArgumentException" ∨ E = "java/lang/IndexOutOfBoundsException" ∨ E = "java/lang/ArithmeticException" := by
    intro x u q E u1 hq h
    rcases bx_inl h with h | ⟨r, -, h⟩
    · exact Or.inr (E_tell h)
    · exact absurd h (hq _ _ _)
  intro n
  induction n with
  | zero => intro x4 x5 u E u1 h; omega
  | succ n ih =>
    intro x4 x5 u E u1 hm h
    have h : g_XDM_run_36 x1 (lpN n (g_XDM_run_36 x1) (fun _ _ _ => Sum.inl default)) x4 x5 u = Sum.inl (E, u1) := h
    simp only [g_XDM_run_36, nm, pr] at h
    split at h
    · exact key _ _ _ _ _ (fun _ _ _ h => by cases h) h
    · rename_i hc
      split at h
      · split at h
        · exact ih _ _ _ _ _ (mu_up hc rfl hm) h
        · exact key _ _ _ _ _ (fun _ _ _ h => by cases h) h
      · exact key _ _ _ _ _ (fun _ _ _ h => by cases h) h
theorem E_run (u : XS) (x1 : Int32) : ∀ E u1, f_XDM_run u x1 = Sum.inl (E, u1) → E = "java/lang/IllegalStateException" ∨ E = "java/lang/IllegalArgumentException" ∨ E = "java/lang/IndexOutOfBoundsException" ∨ E = "java/lang/ArithmeticException" := by
  intro E u1 h
  simp only [f_XDM_run, nm] at h
  split at h
  · rcases bx_inl h with h | ⟨r, -, h⟩
    · exact Or.inr (Or.inl (E_demand h))
    · exact E_runL x1 _ _ _ _ _ _ (Nat.lt_succ_self _) h
  · cases h; exact Or.inl rfl
