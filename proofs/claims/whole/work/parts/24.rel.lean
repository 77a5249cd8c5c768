/-! what ties the class's state to the reference's -/
def Rel (u : XS) (v : MS) : Prop := xM u = mA v 1 ∧ xR u = mA v 2 ∧ (xF u 0 = mF v 2 ∧ xF u 1 = mF v 1 ∧ xF u 2 = mF v 3 ∧ xF u 3 = mF v 4 ∧ xF u 11 = mF v 5 ∧ xF u 12 = mF v 6 ∧ xF u 13 = mF v 7) ∧ (∀ i, 0 ≤ (xM u i).toInt ∧ (xM u i).toInt < 256) ∧ (0 ≤ (xF u 0).toInt ∧ (xF u 0).toInt < 16777216) ∧ (0 ≤ (xF u 1).toInt ∧ (xF u 1).toInt ≤ 3) ∧ (0 ≤ (xF u 2).toInt ∧ (xF u 2).toInt ≤ 3) ∧ -1 ≤ (xF u 3).toInt
theorem law_le {L t : Nat} (hL : L ≤ 4096) (ht : 8 * t ≤ L) (c : ¬ (Int32.ofNat L - 8 < nI (8 * t))) : 8 * t + 8 ≤ L := by
  rw [Int32.lt_iff_toInt_lt, nI_toInt (show 8 * t < 2 ^ 31 by omega)] at c
  have h1 : (Int32.ofNat L - 8).toInt = (L : Int) - 8 := pk_sub_toInt (a := L) (b := 8) (by omega) (by omega)
  rw [h1] at c
  omega
theorem law_in0 {L t : Nat} (hL : L ≤ 4096) (h : 8 * t < L) : vp_in (nI (8 * t)) L := vp_in_nI h (by omega)
theorem law_in {L t q : Nat} {y : Int32} (hL : L ≤ 4096) (hy : y = nI q) (h : 8 * t + q < L) : vp_in (nI (8 * t) + y) L := by
  rw [hy, nI_add]
  exact vp_in_nI h (by omega)
theorem law_st (t : Nat) : nI (8 * t) + 8 = nI (8 * (t + 1)) := by
  show nI (8 * t) + nI 8 = _
  rw [nI_add]
  rfl
theorem E_poke (u : XS) (x1 : Int32) (x2 : Int32) (x3 : Int64) : ∀ E u1, f_XDM_poke u x1 x2 x3 = Sum.inl (E, u1) → E = "java/lang/IllegalArgumentException" ∨ E = "java/lang/IndexOutOfBoundsException" := by
  sorry
theorem P_poke {u : XS} {v : MS} (h : Rel u v) (f : Nat → Int64) (x1 : Int32) (x2 : Int32) (x3 : Int64) : ∃ v1, f_MMo_poke v x1 x2 x3 = some v1 ∧ mF v1 0 = (h_poke (u, f) x1 x2 x3).1 ∧ Rel (h_poke (u, f) x1 x2 x3).2.1 v1 := by
  sorry
theorem E_octet (u : XS) (x1 : Int32) : ∀ E u1, f_XDM_octet u x1 = Sum.inl (E, u1) → E = "java/lang/IndexOutOfBoundsException" := by
  sorry
theorem P_octet {u : XS} {v : MS} (h : Rel u v) (f : Nat → Int64) (x1 : Int32) : ∃ b v1, f_MMo_octet v x1 = some (b, v1) ∧ mF v1 0 = (h_octet (u, f) x1).1 ∧ ((h_octet (u, f) x1).1 = 0 → (h_octet (u, f) x1).2.2 0 = Int32.toInt64 b) ∧ Rel (h_octet (u, f) x1).2.1 v1 := by
  sorry
theorem E_set (u : XS) (x1 : Int32) (x2 : Int32) : ∀ E u1, f_XDM_set u x1 x2 = Sum.inl (E, u1) → E = "java/lang/IllegalArgumentException" := by
  sorry
theorem P_set {u : XS} {v : MS} (h : Rel u v) (f : Nat → Int64) (x1 : Int32) (x2 : Int32) : ∃ b v1, f_MMo_set v x1 x2 = some (b, v1) ∧ mF v1 0 = (h_set (u, f) x1 x2).1 ∧ ((h_set (u, f) x1 x2).1 = 0 → (h_set (u, f) x1 x2).2.2 0 = Int32.toInt64 b) ∧ Rel (h_set (u, f) x1 x2).2.1 v1 := by
  sorry
theorem E_register (u : XS) (x1 : Int32) : ∀ E u1, f_XDM_register u x1 = Sum.inl (E, u1) → E = "java/lang/IllegalArgumentException" := by
  sorry
theorem P_register {u : XS} {v : MS} (h : Rel u v) (f : Nat → Int64) (x1 : Int32) : ∃ b v1, f_MMo_register v x1 = some (b, v1) ∧ mF v1 0 = (h_register (u, f) x1).1 ∧ ((h_register (u, f) x1).1 = 0 → (h_register (u, f) x1).2.2 0 = Int32.toInt64 b) ∧ Rel (h_register (u, f) x1).2.1 v1 := by
  sorry
theorem E_start (u : XS) (x1 : Int32) (x2 : Int32) : ∀ E u1, f_XDM_start u x1 x2 = Sum.inl (E, u1) → E = "java/lang/IllegalArgumentException" := by
  sorry
theorem P_start {u : XS} {v : MS} (h : Rel u v) (f : Nat → Int64) (x1 : Int32) (x2 : Int32) : ∃ v1, f_MMo_start v x1 x2 = some v1 ∧ mF v1 0 = (h_start (u, f) x1 x2).1 ∧ Rel (h_start (u, f) x1 x2).2.1 v1 := by
  sorry
theorem E_rr (u : XS) (x1 : Int32) (x2 : Int32) (x3 : Int32) (x4 : Int32) : ∀ E u1, f_XDM_rr u x1 x2 x3 x4 = Sum.inl (E, u1) → E = "java/lang/IllegalArgumentException" ∨ E = "java/lang/IndexOutOfBoundsException" := by
  sorry
theorem P_rr {u : XS} {v : MS} (h : Rel u v) (f : Nat → Int64) (x1 : Int32) (x2 : Int32) (x3 : Int32) (x4 : Int32) : ∃ b v1, f_MMo_rr v x1 x2 x3 x4 = some (b, v1) ∧ mF v1 0 = (h_rr (u, f) x1 x2 x3 x4).1 ∧ ((h_rr (u, f) x1 x2 x3 x4).1 = 0 → (h_rr (u, f) x1 x2 x3 x4).2.2 0 = Int32.toInt64 b) ∧ Rel (h_rr (u, f) x1 x2 x3 x4).2.1 v1 := by
  sorry
theorem E_rx (u : XS) (x1 : Int32) (x2 : Int32) (x3 : Int32) (x4 : Int32) (x5 : Int32) (x6 : Int32) : ∀ E u1, f_XDM_rx u x1 x2 x3 x4 x5 x6 = Sum.inl (E, u1) → E = "java/lang/IllegalArgumentException" ∨ E = "java/lang/IndexOutOfBoundsException" := by
  sorry
theorem P_rx {u : XS} {v : MS} (h : Rel u v) (f : Nat → Int64) (x1 : Int32) (x2 : Int32) (x3 : Int32) (x4 : Int32) (x5 : Int32) (x6 : Int32) : ∃ b v1, f_MMo_rx v x1 x2 x3 x4 x5 x6 = some (b, v1) ∧ mF v1 0 = (h_rx (u, f) x1 x2 x3 x4 x5 x6).1 ∧ ((h_rx (u, f) x1 x2 x3 x4 x5 x6).1 = 0 → (h_rx (u, f) x1 x2 x3 x4 x5 x6).2.2 0 = Int32.toInt64 b) ∧ Rel (h_rx (u, f) x1 x2 x3 x4 x5 x6).2.1 v1 := by
  sorry
theorem E_ss (u : XS) (x1 : Int32) (x2 : Int32) (x3 : Int32) (x4 : Int32) (x5 : Int32) (x6 : Int32) (x7 : Int32) : ∀ E u1, f_XDM_ss u x1 x2 x3 x4 x5 x6 x7 = Sum.inl (E, u1) → E = "java/lang/IllegalArgumentException" ∨ E = "java/lang/IndexOutOfBoundsException" := by
  sorry
theorem P_ss {u : XS} {v : MS} (h : Rel u v) (f : Nat → Int64) (x1 : Int32) (x2 : Int32) (x3 : Int32) (x4 : Int32) (x5 : Int32) (x6 : Int32) (x7 : Int32) : ∃ b v1, f_MMo_ss v x1 x2 x3 x4 x5 x6 x7 = some (b, v1) ∧ mF v1 0 = (h_ss (u, f) x1 x2 x3 x4 x5 x6 x7).1 ∧ ((h_ss (u, f) x1 x2 x3 x4 x5 x6 x7).1 = 0 → (h_ss (u, f) x1 x2 x3 x4 x5 x6 x7).2.2 0 = Int32.toInt64 b) ∧ Rel (h_ss (u, f) x1 x2 x3 x4 x5 x6 x7).2.1 v1 := by
  sorry
theorem E_run (u : XS) (x1 : Int32) : ∀ E u1, f_XDM_run u x1 = Sum.inl (E, u1) → E = "java/lang/IllegalStateException" ∨ E = "java/lang/IllegalArgumentException" ∨ E = "java/lang/IndexOutOfBoundsException" ∨ E = "java/lang/ArithmeticException" := by
  sorry
theorem P_run {u : XS} {v : MS} (h : Rel u v) (f : Nat → Int64) (x1 : Int32) : ∃ b v1, f_MMo_run v x1 = some (b, v1) ∧ mF v1 0 = (h_run (u, f) x1).1 ∧ ((h_run (u, f) x1).1 = 0 → (h_run (u, f) x1).2.2 0 = Int32.toInt64 b) ∧ Rel (h_run (u, f) x1).2.1 v1 := by
  sorry
theorem E_packed (u : XS) (x1 : Int32) (x2 : Int32) : ∀ E u1, f_XDM_packed u x1 x2 = Sum.inl (E, u1) → E = "java/lang/IllegalArgumentException" ∨ E = "java/lang/IndexOutOfBoundsException" := by
  sorry
theorem P_packed {u : XS} {v : MS} (h : Rel u v) (f : Nat → Int64) (x1 : Int32) (x2 : Int32) : ∃ b v1, f_MMo_packed v x1 x2 = some (b, v1) ∧ mF v1 0 = (h_packed (u, f) x1 x2).1 ∧ ((h_packed (u, f) x1 x2).1 = 0 → (h_packed (u, f) x1 x2).2.2 0 = b) ∧ Rel (h_packed (u, f) x1 x2).2.1 v1 := by
  sorry
theorem E_count (u : XS) (x1 : Int32) : ∀ E u1, f_XDM_count u x1 = Sum.inl (E, u1) → E = "java/lang/IllegalArgumentException" := by
  sorry
theorem P_count {u : XS} {v : MS} (h : Rel u v) (f : Nat → Int64) (x1 : Int32) : ∃ b v1, f_MMo_count v x1 = some (b, v1) ∧ mF v1 0 = (h_count (u, f) x1).1 ∧ ((h_count (u, f) x1).1 = 0 → (h_count (u, f) x1).2.2 0 = Int32.toInt64 b) ∧ Rel (h_count (u, f) x1).2.1 v1 := by
  sorry
