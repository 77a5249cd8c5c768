/-! what ties the class's state to the reference's -/
def Rel (u : XS) (v : MS) : Prop := xM u = mA v 1 ∧ xR u = mA v 2 ∧ (xF u 0 = mF v 2 ∧ xF u 1 = mF v 1 ∧ xF u 2 = mF v 3 ∧ xF u 3 = mF v 4 ∧ xF u 11 = mF v 5 ∧ xF u 12 = mF v 6 ∧ xF u 13 = mF v 7) ∧ (∀ i, 0 ≤ (xM u i).toInt ∧ (xM u i).toInt < 256) ∧ (0 ≤ (xF u 0).toInt ∧ (xF u 0).toInt < 16777216) ∧ (0 ≤ (xF u 1).toInt ∧ (xF u 1).toInt ≤ 3) ∧ (0 ≤ (xF u 2).toInt ∧ (xF u 2).toInt ≤ 3) ∧ -1 ≤ (xF u 3).toInt
theorem law_le {L t : Nat} (hL : L ≤ 4096) (ht : 8 * t ≤ L) (c : ¬ (Int32.ofNat L - 8 < nI (8 * t))) : 8 * t + 8 ≤ L := by
  rw [Int32.lt_iff_toInt_lt, nI_toInt (show 8 * t < 2 ^ 31 by omega)] at c
  have h1 : (Int32.ofNat L - 8).toInt = (L : Int) - 8 := pk_sub_toInt (a := L) (b := 8) (by omega) (by omega)
  rw [h1] at c
  omega
theorem law_in0 {L t : Nat} (hL : L ≤ 4096) (h : 8 * t < L) : vp_in (nI (8 * t)) L := vp_in_nI h (by omega)
theorem law_in {L t q : Nat} {y : Int32} (hL : L ≤ 4096) (hy : y = nI q) (h : 8 * t + q < L) : vp_in (nI (8 * t) + y) L := by
  rw [hy, nI_add]
  exact vp_in_nI h (by omega)
theorem law_st (t : Nat) : nI (8 * t) + 8 = nI (8 * (t + 1)) := by
  show nI (8 * t) + nI 8 = _
  rw [nI_add]
  rfl
