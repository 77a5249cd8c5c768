/-! the assembler's calls -/
theorem ocI_add (w : Int) (k m : Nat) : ocI (w / 256 ^ m) k = ocI w (k + m) := by
  unfold ocI
  rw [Int.ediv_ediv_of_nonneg (Int.pow_nonneg (by decide)), ← Int.pow_add, Nat.add_comm]
theorem st_split (g : Nat → Int32) (A N1 N2 : Nat) (w : Int) : stM g A (N1 + N2) w = stM (stM g A N1 (w / 256 ^ N2)) (A + N1) N2 w := by
  funext j
  unfold stM
  by_cases c1 : A ≤ j ∧ j < A + (N1 + N2)
  · rw [if_pos c1]
    by_cases c2 : A + N1 ≤ j ∧ j < A + N1 + N2
    · rw [if_pos c2]
      congr 1
      omega
    · rw [if_neg c2, if_pos (by omega), ocI_add]
      congr 1
      omega
  · rw [if_neg c1, if_neg (by omega), if_neg (by omega)]
theorem st_1 (g : Nat → Int32) (A : Nat) {w w' : Int} (h : w % 256 = w' % 256) : stM g A 1 w = stM g A 1 w' := by
  funext j
  unfold stM
  split
  · rename_i c
    have : A + 1 - 1 - j = 0 := by omega
    rw [this]
    unfold ocI
    simp [h]
  · rfl
theorem st_2 (g : Nat → Int32) (A : Nat) {w w' : Int} (h : w % 65536 = w' % 65536) : stM g A 2 w = stM g A 2 w' := by
  rw [st_split g A 1 1, st_split g A 1 1, st_1 g A (w := w / 256 ^ 1) (w' := w' / 256 ^ 1) (by omega), st_1 _ (A + 1) (w := w) (w' := w') (by omega)]
theorem place_eq (u : XS) (b d : Int32) : f_XDM_isPlace u b d = (f_XDM_isWithin u b 0 15 && f_XDM_isWithin u d 0 4095) := by
  simp only [f_XDM_isPlace, f_XDM_isNibble, nm, bI0]
  cases f_XDM_isWithin u b 0 15 <;> cases f_XDM_isWithin u d 0 4095 <;> simp
theorem in_nI {u : XS} {x lo hi : Int32} {H : Nat} (h : f_XDM_isWithin u x lo hi = true) (hl : 0 ≤ lo.toInt) (hh : hi.toInt = (H : Int)) : ∃ n, n ≤ H ∧ x = nI n := by
  have k := (within_iff u x lo hi).mp h
  obtain ⟨n, h1, h2⟩ := ex_nI (x := x) (N := H + 1) (by omega) (by omega)
  exact ⟨n, by omega, h2⟩
theorem xM_MM (u : XS) (g : Nat → Int32) : xM (xsMM u g) = g := rfl
theorem MM_MM (u : XS) (g k : Nat → Int32) : xsMM (xsMM u g) k = xsMM u k := rfl
theorem toI64 {n : Nat} (h : n < 2147483648) : (nI n).toInt64.toInt = (n : Int) := by rw [Int32.toInt_toInt64, nI_toInt h]
theorem P_rr {u : XS} {v : MS} (h : Rel u v) (f : Nat → Int64) (x1 : Int32) (x2 : Int32) (x3 : Int32) (x4 : Int32) : ∃ b v1, f_MMo_rr v x1 x2 x3 x4 = some (b, v1) ∧ mF v1 0 = (h_rr (u, f) x1 x2 x3 x4).1 ∧ ((h_rr (u, f) x1 x2 x3 x4).1 = 0 → (h_rr (u, f) x1 x2 x3 x4).2.2 0 = Int32.toInt64 b) ∧ Rel (h_rr (u, f) x1 x2 x3 x4).2.1 v1 := by
  have h0 : mF (msF v 0 0) 0 = 0 := rfl
  have hR := h.err 0
  generalize hw : msF v 0 0 = w at h0 hR
  simp only [f_MMo_rr, nm, jn, hw, bd1, bd2, in_within w u x2 0 63 (y1 := 0) (y2 := 63) rfl (by decide) (by decide), in_within w u x3 0 15 (y1 := 0) (y2 := 15) rfl (by decide) (by decide), in_within w u x4 0 15 (y1 := 0) (y2 := 15) rfl (by decide) (by decide), h_rr, f_XDM_rr, f_XDM_isNibble, bI0]
  cases hb1 : f_XDM_isWithin u x2 0 63 <;> cases hb2 : f_XDM_isWithin u x3 0 15 <;> cases hb3 : f_XDM_isWithin u x4 0 15
  case true.true.true =>
    simp only [reduceCtorEq, ↓reduceIte, demand_t, fails_f w _ h0, bx, lies_holds w u x1 (n := 2) (N := 2) rfl (by decide)]
    cases hc : f_XMe_holds u x1 2 with
    | false =>
      simp only [demM_f hc, ↓reduceIte, fails_t w 2 h0 (by decide), reduceCtorEq]
      exact ⟨0, _, rfl, rfl, fun e => absurd e (by simp [hi, xc]), hR⟩
    | true =>
      simp only [demM_t hc, ↓reduceIte, fails_f w 2 h0, reduceCtorEq]
      obtain ⟨A, rfl, hA⟩ := (holds_iff u x1 (n := 2) (N := 2) rfl (by omega)).mp hc
      obtain ⟨c, hc1, rfl⟩ := in_nI (H := 63) hb1 (by decide) rfl
      obtain ⟨r, hr1, rfl⟩ := in_nI (H := 15) hb2 (by decide) rfl
      obtain ⟨s, hs1, rfl⟩ := in_nI (H := 15) hb3 (by decide) rfl
      have eM : ((nI c <<< ((8 : Int32) &&& 31)) ||| (nI r <<< ((4 : Int32) &&& 31))) ||| nI s = nI ((c * 16 + r) * 16 + s) := by
        rw [pk_shlN _ 8 rfl (by omega), pk_shlN _ 4 rfl (by omega), nx_orp (k := 8) (by decide) (by omega), show c * 2 ^ 8 + r * 2 ^ 4 = (c * 16 + r) * 16 by omega, nx_orp (k := 4) (by decide) (by omega)]
      have eX : nI r * 16 + nI s = nI (r * 16 + s) := by
        rw [show (16 : Int32) = nI 16 from rfl, pk_mul, nI_add]
      rw [m_store w _ (n := 2) (A := A) (N := 2) rfl rfl hA (by omega), eM]
      refine ⟨_, _, rfl, h0, fun _ => ?_, ?_⟩
      · rfl
      · show Rel (f_XMe_store (f_XMe_store u (nI A) 1 (nI c).toInt64) (nI A + 1) 1 (nI r * 16 + nI s).toInt64) _
        rw [eX, x_store u _ (n := 1) (A := A) (N := 1) rfl rfl (by omega), x_store _ _ (n := 1) (A := A + 1) (N := 1) (nI_1 A) rfl (by omega), MM_MM, xM_MM, toI64 (by omega), toI64 (by omega), toI64 (by omega), ← hR.1, st_split (xM u) A 1 1, st_1 (xM u) A (w := (((c * 16 + r) * 16 + s : Nat) : Int) / 256 ^ 1) (w' := (c : Int)) (by omega), st_1 _ (A + 1) (w := (((c * 16 + r) * 16 + s : Nat) : Int)) (w' := ((r * 16 + s : Nat) : Int)) (by omega)]
        exact hR.mem (oct_st (oct_st hR.oct _ _ _) _ _ _)
  all_goals
    simp only [reduceCtorEq, ↓reduceIte, demand_f, fails_t w 1 h0 (show ¬ (1 : Int32) = 0 by decide), bx]
    exact ⟨0, _, rfl, rfl, fun e => absurd e (by simp [hi, xc]), hR⟩
theorem P_rx {u : XS} {v : MS} (h : Rel u v) (f : Nat → Int64) (x1 : Int32) (x2 : Int32) (x3 : Int32) (x4 : Int32) (x5 : Int32) (x6 : Int32) : ∃ b v1, f_MMo_rx v x1 x2 x3 x4 x5 x6 = some (b, v1) ∧ mF v1 0 = (h_rx (u, f) x1 x2 x3 x4 x5 x6).1 ∧ ((h_rx (u, f) x1 x2 x3 x4 x5 x6).1 = 0 → (h_rx (u, f) x1 x2 x3 x4 x5 x6).2.2 0 = Int32.toInt64 b) ∧ Rel (h_rx (u, f) x1 x2 x3 x4 x5 x6).2.1 v1 := by
  have h0 : mF (msF v 0 0) 0 = 0 := rfl
  have hR := h.err 0
  generalize hw : msF v 0 0 = w at h0 hR
  simp only [f_MMo_rx, nm, jn, hw, bd1, bd2, in_within w u x2 64 191 (y1 := 64) (y2 := 191) rfl (by decide) (by decide), in_within w u x3 0 15 (y1 := 0) (y2 := 15) rfl (by decide) (by decide), in_within w u x4 0 15 (y1 := 0) (y2 := 15) rfl (by decide) (by decide), in_within w u x5 0 15 (y1 := 0) (y2 := 15) rfl (by decide) (by decide), in_within w u x6 0 4095 (y1 := 0) (y2 := 4095) rfl (by decide) (by decide), h_rx, f_XDM_rx, f_XDM_isNibble, place_eq, bI0]
  cases hb1 : f_XDM_isWithin u x2 64 191 <;> cases hb2 : f_XDM_isWithin u x3 0 15 <;> cases hb3 : f_XDM_isWithin u x4 0 15 <;> cases hb4 : f_XDM_isWithin u x5 0 15 <;> cases hb5 : f_XDM_isWithin u x6 0 4095
  case true.true.true.true.true =>
    simp only [reduceCtorEq, ↓reduceIte, Bool.and_self, demand_t, fails_f w _ h0, bx, lies_holds w u x1 (n := 4) (N := 4) rfl (by decide)]
    cases hc : f_XMe_holds u x1 4 with
    | false =>
      simp only [demM_f hc, ↓reduceIte, fails_t w 2 h0 (by decide), reduceCtorEq]
      exact ⟨0, _, rfl, rfl, fun e => absurd e (by simp [hi, xc]), hR⟩
    | true =>
      simp only [demM_t hc, ↓reduceIte, fails_f w 2 h0, reduceCtorEq]
      obtain ⟨A, rfl, hA⟩ := (holds_iff u x1 (n := 4) (N := 4) rfl (by omega)).mp hc
      obtain ⟨c, hc1, rfl⟩ := in_nI (H := 191) hb1 (by decide) rfl
      obtain ⟨r, hr1, rfl⟩ := in_nI (H := 15) hb2 (by decide) rfl
      obtain ⟨s, hs1, rfl⟩ := in_nI (H := 15) hb3 (by decide) rfl
      obtain ⟨b, hb1, rfl⟩ := in_nI (H := 15) hb4 (by decide) rfl
      obtain ⟨d, hd1, rfl⟩ := in_nI (H := 4095) hb5 (by decide) rfl
      obtain ⟨W, hW⟩ : ∃ W : Nat, W = (((c * 16 + r) * 16 + s) * 16 + b) * 4096 + d := ⟨_, rfl⟩
      have eM : (((((nI c).toInt64 <<< (Int32.toInt64 (24 : Int32) &&& 63)) ||| (nI r <<< ((20 : Int32) &&& 31)).toInt64) ||| (nI s <<< ((16 : Int32) &&& 31)).toInt64) ||| (nI b <<< ((12 : Int32) &&& 31)).toInt64) ||| (nI d).toInt64 = lN W := by
        rw [hW]
        rw [pk_shlN _ 20 rfl (by omega), pk_shlN _ 16 rfl (by omega), pk_shlN _ 12 rfl (by omega), nI_l (by omega), nI_l (by omega), nI_l (by omega), nI_l (by omega), nI_l (by omega), show (24 : Int32) = nI 24 from rfl, wb_shl c (by omega), g_or (k := 24) (by decide) (by omega) (by omega), show c * 2 ^ 24 + r * 2 ^ 20 = (c * 16 + r) * 2 ^ 20 by omega, g_or (k := 20) (by decide) (by omega) (by omega), show (c * 16 + r) * 2 ^ 20 + s * 2 ^ 16 = ((c * 16 + r) * 16 + s) * 2 ^ 16 by omega, g_or (k := 16) (by decide) (by omega) (by omega), show ((c * 16 + r) * 16 + s) * 2 ^ 16 + b * 2 ^ 12 = (((c * 16 + r) * 16 + s) * 16 + b) * 2 ^ 12 by omega, g_or (k := 12) (by decide) (by omega) (by omega)]
      have eX : nI r * 16 + nI s = nI (r * 16 + s) := by
        rw [show (16 : Int32) = nI 16 from rfl, pk_mul, nI_add]
      have eY : nI b * 4096 + nI d = nI (b * 4096 + d) := by
        rw [show (4096 : Int32) = nI 4096 from rfl, pk_mul, nI_add]
      rw [m_store w _ (n := 4) (A := A) (N := 4) rfl rfl hA (by omega), eM]
      refine ⟨_, _, rfl, h0, fun _ => ?_, ?_⟩
      · rfl
      · show Rel (f_XMe_store (f_XMe_store (f_XMe_store u (nI A) 1 (nI c).toInt64) (nI A + 1) 1 (nI r * 16 + nI s).toInt64) (nI A + 2) 2 (nI b * 4096 + nI d).toInt64) _
        rw [eX, eY, x_store u _ (n := 1) (A := A) (N := 1) rfl rfl (by omega), x_store _ _ (n := 1) (A := A + 1) (N := 1) (nI_1 A) rfl (by omega), MM_MM, xM_MM, x_store _ _ (a := nI A + 2) (n := 2) (A := A + 2) (N := 2) (show nI A + 2 = nI (A + 2) from nI_add A 2) rfl (by omega), MM_MM, xM_MM, toI64 (by omega), toI64 (by omega), toI64 (by omega), pk_lT (by omega), ← hR.1, st_split (xM u) A 2 2, st_split (xM u) A 1 1]
        rw [st_1 (xM u) A (w := (W : Int) / 256 ^ 2 / 256 ^ 1) (w' := (c : Int)) (by omega), st_1 _ (A + 1) (w := (W : Int) / 256 ^ 2) (w' := ((r * 16 + s : Nat) : Int)) (by omega), st_2 _ (A + 2) (w := (W : Int)) (w' := ((b * 4096 + d : Nat) : Int)) (by omega)]
        exact hR.mem (oct_st (oct_st (oct_st hR.oct _ _ _) _ _ _) _ _ _)
  all_goals
    simp only [reduceCtorEq, ↓reduceIte, Bool.and_self, Bool.and_false, Bool.false_and, demand_f, fails_t w 1 h0 (show ¬ (1 : Int32) = 0 by decide), bx]
    exact ⟨0, _, rfl, rfl, fun e => absurd e (by simp [hi, xc]), hR⟩
theorem P_ss {u : XS} {v : MS} (h : Rel u v) (f : Nat → Int64) (x1 : Int32) (x2 : Int32) (x3 : Int32) (x4 : Int32) (x5 : Int32) (x6 : Int32) (x7 : Int32) : ∃ b v1, f_MMo_ss v x1 x2 x3 x4 x5 x6 x7 = some (b, v1) ∧ mF v1 0 = (h_ss (u, f) x1 x2 x3 x4 x5 x6 x7).1 ∧ ((h_ss (u, f) x1 x2 x3 x4 x5 x6 x7).1 = 0 → (h_ss (u, f) x1 x2 x3 x4 x5 x6 x7).2.2 0 = Int32.toInt64 b) ∧ Rel (h_ss (u, f) x1 x2 x3 x4 x5 x6 x7).2.1 v1 := by
  have h0 : mF (msF v 0 0) 0 = 0 := rfl
  have hR := h.err 0
  generalize hw : msF v 0 0 = w at h0 hR
  simp only [f_MMo_ss, nm, jn, hw, bd1, bd2, in_within w u x2 192 255 (y1 := 192) (y2 := 255) rfl (by decide) (by decide), in_within w u x3 0 255 (y1 := 0) (y2 := 255) rfl (by decide) (by decide), in_within w u x4 0 15 (y1 := 0) (y2 := 15) rfl (by decide) (by decide), in_within w u x5 0 4095 (y1 := 0) (y2 := 4095) rfl (by decide) (by decide), in_within w u x6 0 15 (y1 := 0) (y2 := 15) rfl (by decide) (by decide), in_within w u x7 0 4095 (y1 := 0) (y2 := 4095) rfl (by decide) (by decide), h_ss, f_XDM_ss, place_eq, bI0]
  cases hb1 : f_XDM_isWithin u x2 192 255 <;> cases hb2 : f_XDM_isWithin u x3 0 255 <;> cases hb3 : f_XDM_isWithin u x4 0 15 <;> cases hb4 : f_XDM_isWithin u x5 0 4095 <;> cases hb5 : f_XDM_isWithin u x6 0 15 <;> cases hb6 : f_XDM_isWithin u x7 0 4095
  case true.true.true.true.true.true =>
    simp only [reduceCtorEq, ↓reduceIte, Bool.and_self, demand_t, fails_f w _ h0, bx, lies_holds w u x1 (n := 6) (N := 6) rfl (by decide)]
    cases hc : f_XMe_holds u x1 6 with
    | false =>
      simp only [demM_f hc, ↓reduceIte, fails_t w 2 h0 (by decide), reduceCtorEq]
      exact ⟨0, _, rfl, rfl, fun e => absurd e (by simp [hi, xc]), hR⟩
    | true =>
      simp only [demM_t hc, ↓reduceIte, fails_f w 2 h0, reduceCtorEq]
      obtain ⟨A, rfl, hA⟩ := (holds_iff u x1 (n := 6) (N := 6) rfl (by omega)).mp hc
      obtain ⟨c, hc1, rfl⟩ := in_nI (H := 255) hb1 (by decide) rfl
      obtain ⟨q, hq1, rfl⟩ := in_nI (H := 255) hb2 (by decide) rfl
      obtain ⟨b, hb1, rfl⟩ := in_nI (H := 15) hb3 (by decide) rfl
      obtain ⟨d, hd1, rfl⟩ := in_nI (H := 4095) hb4 (by decide) rfl
      obtain ⟨k, hk1, rfl⟩ := in_nI (H := 15) hb5 (by decide) rfl
      obtain ⟨e, he1, rfl⟩ := in_nI (H := 4095) hb6 (by decide) rfl
      obtain ⟨W, hW⟩ : ∃ W : Nat, W = ((((c * 256 + q) * 16 + b) * 4096 + d) * 16 + k) * 4096 + e := ⟨_, rfl⟩
      have eM : ((((((nI c).toInt64 <<< (Int32.toInt64 (40 : Int32) &&& 63)) ||| ((nI q).toInt64 <<< (Int32.toInt64 (32 : Int32) &&& 63))) ||| ((nI b).toInt64 <<< (Int32.toInt64 (28 : Int32) &&& 63))) ||| ((nI d).toInt64 <<< (Int32.toInt64 (16 : Int32) &&& 63))) ||| (nI k <<< ((12 : Int32) &&& 31)).toInt64) ||| (nI e).toInt64 = lN W := by
        rw [hW]
        rw [pk_shlN _ 12 rfl (by omega), nI_l (by omega), nI_l (by omega), nI_l (by omega), nI_l (by omega), nI_l (by omega), nI_l (by omega), show (40 : Int32) = nI 40 from rfl, show (32 : Int32) = nI 32 from rfl, show (28 : Int32) = nI 28 from rfl, show (16 : Int32) = nI 16 from rfl, wb_shl c (by omega), wb_shl q (by omega), wb_shl b (by omega), wb_shl d (by omega), g_or (k := 40) (by decide) (by omega) (by omega), show c * 2 ^ 40 + q * 2 ^ 32 = (c * 256 + q) * 2 ^ 32 by omega, g_or (k := 32) (by decide) (by omega) (by omega), show (c * 256 + q) * 2 ^ 32 + b * 2 ^ 28 = ((c * 256 + q) * 16 + b) * 2 ^ 28 by omega, g_or (k := 28) (by decide) (by omega) (by omega), show ((c * 256 + q) * 16 + b) * 2 ^ 28 + d * 2 ^ 16 = (((c * 256 + q) * 16 + b) * 4096 + d) * 2 ^ 16 by omega, g_or (k := 16) (by decide) (by omega) (by omega), show (((c * 256 + q) * 16 + b) * 4096 + d) * 2 ^ 16 + k * 2 ^ 12 = ((((c * 256 + q) * 16 + b) * 4096 + d) * 16 + k) * 2 ^ 12 by omega, g_or (k := 12) (by decide) (by omega) (by omega)]
      have eY : nI b * 4096 + nI d = nI (b * 4096 + d) := by
        rw [show (4096 : Int32) = nI 4096 from rfl, pk_mul, nI_add]
      have eZ : nI k * 4096 + nI e = nI (k * 4096 + e) := by
        rw [show (4096 : Int32) = nI 4096 from rfl, pk_mul, nI_add]
      rw [m_store w _ (n := 6) (A := A) (N := 6) rfl rfl hA (by omega), eM]
      refine ⟨_, _, rfl, h0, fun _ => ?_, ?_⟩
      · rfl
      · show Rel (f_XMe_store (f_XMe_store (f_XMe_store (f_XMe_store u (nI A) 1 (nI c).toInt64) (nI A + 1) 1 (nI q).toInt64) (nI A + 2) 2 (nI b * 4096 + nI d).toInt64) (nI A + 4) 2 (nI k * 4096 + nI e).toInt64) _
        rw [eY, eZ, x_store u _ (n := 1) (A := A) (N := 1) rfl rfl (by omega), x_store _ _ (n := 1) (A := A + 1) (N := 1) (nI_1 A) rfl (by omega), MM_MM, xM_MM, x_store _ _ (a := nI A + 2) (n := 2) (A := A + 2) (N := 2) (show nI A + 2 = nI (A + 2) from nI_add A 2) rfl (by omega), MM_MM, xM_MM, x_store _ _ (a := nI A + 4) (n := 2) (A := A + 4) (N := 2) (show nI A + 4 = nI (A + 4) from nI_add A 4) rfl (by omega), MM_MM, xM_MM, toI64 (by omega), toI64 (by omega), toI64 (by omega), toI64 (by omega), pk_lT (by omega), ← hR.1, st_split (xM u) A 4 2, st_split (xM u) A 2 2, st_split (xM u) A 1 1]
        rw [st_1 (xM u) A (w := (W : Int) / 256 ^ 2 / 256 ^ 2 / 256 ^ 1) (w' := (c : Int)) (by omega), st_1 _ (A + 1) (w := (W : Int) / 256 ^ 2 / 256 ^ 2) (w' := (q : Int)) (by omega), st_2 _ (A + 2) (w := (W : Int) / 256 ^ 2) (w' := ((b * 4096 + d : Nat) : Int)) (by omega), st_2 _ (A + 4) (w := (W : Int)) (w' := ((k * 4096 + e : Nat) : Int)) (by omega)]
        exact hR.mem (oct_st (oct_st (oct_st (oct_st hR.oct _ _ _) _ _ _) _ _ _) _ _ _)
  all_goals
    simp only [reduceCtorEq, ↓reduceIte, Bool.and_self, Bool.and_false, Bool.false_and, demand_f, fails_t w 1 h0 (show ¬ (1 : Int32) = 0 by decide), bx]
    exact ⟨0, _, rfl, rfl, fun e => absurd e (by simp [hi, xc]), hR⟩
