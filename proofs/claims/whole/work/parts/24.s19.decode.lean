/-! an instruction fetched -/
theorem a24 (n : Nat) : nI n &&& 16777215 = nI (n % 16777216) := by
  rw [nx_mod32 n, pk_andN (by omega) 24 rfl, Nat.mod_mod_of_dvd _ (by decide)]
theorem a1_odd {n : Nat} (h : n < 16777216) : nI n &&& 1 = nI (n % 2) := pk_andN (by omega) 1 rfl
theorem in_cN (v : MS) {c lo hi : Nat} {y1 y2 : Int64} (hc : c < 256) (h1 : y1 = lN lo) (h2 : y2 = lN hi) (hl : lo < 256) (hh : hi < 256) : f_MMo_in v (nI c).toInt64 y1 y2 = some (decide (lo ≤ c ∧ c ≤ hi)) := by
  subst h1; subst h2
  have q1 : (lN c < lN lo) = (c < lo) := propext (lN_lt (by omega) (by omega))
  have q2 : (lN hi < lN c) = (hi < c) := propext (lN_lt (by omega) (by omega))
  simp only [f_MMo_in, nI_l (show c < 2 ^ 31 by omega), q1, q2]
  by_cases d1 : c < lo
  · rw [if_pos d1, decide_eq_false (by omega)]
  · rw [if_neg d1]
    by_cases d2 : hi < c
    · rw [if_pos d2, decide_eq_false (by omega)]
    · rw [if_neg d2, decide_eq_true (by omega)]
def kn (c : Nat) : Bool := if 64 ≤ c then (if 128 ≤ c then (if 192 ≤ c then decide (209 ≤ c ∧ c ≤ 215) || decide (c = 220) || decide (c = 242) || decide (c = 243) || decide (248 ≤ c ∧ c ≤ 253) else decide (134 ≤ c ∧ c ≤ 139) || decide (c = 144) || decide (c = 145) || decide (c = 146) || decide (148 ≤ c ∧ c ≤ 152)) else decide (64 ≤ c ∧ c ≤ 67) || decide (69 ≤ c ∧ c ≤ 76) || decide (c = 78) || decide (c = 79) || decide (c = 80) || decide (84 ≤ c ∧ c ≤ 95)) else decide (5 ≤ c ∧ c ≤ 7) || decide (c = 10) || decide (16 ≤ c ∧ c ≤ 31)
theorem or_ite (a : Bool) (p : Prop) [Decidable p] (o : Option Bool) (x : Bool) (h : o = some x) : (if a = false then o else some true) = some (a || x) := by
  cases a
  · rw [if_pos rfl, h]; rfl
  · rw [if_neg (by decide)]; rfl
theorem if_or (p : Prop) [Decidable p] (o : Option Bool) (x : Bool) (h : o = some x) : (if p then some true else o) = some (decide p || x) := by
  by_cases c : p
  · rw [if_pos c, decide_eq_true c]; rfl
  · rw [if_neg c, decide_eq_false c, h]; rfl
theorem last_ite (a : Bool) : (if a = false then some false else some true) = some a := by cases a <;> rfl
theorem known_eq (v : MS) {c : Nat} (hc : c < 256) : f_MMo_isKnown v (nI c) = some (kn c) := by
  have k1 : ((64 : Int32) ≤ nI c) = (64 ≤ c) := le_nI (k := 64) (by decide) (by omega)
  have k2 : ((128 : Int32) ≤ nI c) = (128 ≤ c) := le_nI (k := 128) (by decide) (by omega)
  have k3 : ((192 : Int32) ≤ nI c) = (192 ≤ c) := le_nI (k := 192) (by decide) (by omega)
  have e : ∀ k, k < 256 → (nI c = nI k) = (c = k) := fun k hk => eq_nI (by omega) (by omega)
  have e220 : (nI c = (220 : Int32)) = (c = 220) := e 220 (by decide)
  have e242 : (nI c = (242 : Int32)) = (c = 242) := e 242 (by decide)
  have e243 : (nI c = (243 : Int32)) = (c = 243) := e 243 (by decide)
  have e144 : (nI c = (144 : Int32)) = (c = 144) := e 144 (by decide)
  have e145 : (nI c = (145 : Int32)) = (c = 145) := e 145 (by decide)
  have e146 : (nI c = (146 : Int32)) = (c = 146) := e 146 (by decide)
  have e78 : (nI c = (78 : Int32)) = (c = 78) := e 78 (by decide)
  have e79 : (nI c = (79 : Int32)) = (c = 79) := e 79 (by decide)
  have e80 : (nI c = (80 : Int32)) = (c = 80) := e 80 (by decide)
  have e10 : (nI c = (10 : Int32)) = (c = 10) := e 10 (by decide)
  have i1 := in_cN v (c := c) (lo := 209) (hi := 215) (y1 := 209) (y2 := 215) hc rfl rfl (by decide) (by decide)
  have i2 := in_cN v (c := c) (lo := 248) (hi := 253) (y1 := 248) (y2 := 253) hc rfl rfl (by decide) (by decide)
  have i3 := in_cN v (c := c) (lo := 134) (hi := 139) (y1 := 134) (y2 := 139) hc rfl rfl (by decide) (by decide)
  have i4 := in_cN v (c := c) (lo := 148) (hi := 152) (y1 := 148) (y2 := 152) hc rfl rfl (by decide) (by decide)
  have i5 := in_cN v (c := c) (lo := 64) (hi := 67) (y1 := 64) (y2 := 67) hc rfl rfl (by decide) (by decide)
  have i6 := in_cN v (c := c) (lo := 69) (hi := 76) (y1 := 69) (y2 := 76) hc rfl rfl (by decide) (by decide)
  have i7 := in_cN v (c := c) (lo := 84) (hi := 95) (y1 := 84) (y2 := 95) hc rfl rfl (by decide) (by decide)
  have i8 := in_cN v (c := c) (lo := 5) (hi := 7) (y1 := 5) (y2 := 7) hc rfl rfl (by decide) (by decide)
  have i9 := in_cN v (c := c) (lo := 16) (hi := 31) (y1 := 16) (y2 := 31) hc rfl rfl (by decide) (by decide)
  simp only [f_MMo_isKnown, k1, k2, k3, e220, e242, e243, e144, e145, e146, e78, e79, e80, e10, i1, i2, i3, i4, i5, i6, i7, i8, i9, bd1S, bI0]
  unfold kn
  by_cases d1 : 64 ≤ c
  · rw [if_pos d1, if_pos d1]
    by_cases d2 : 128 ≤ c
    · rw [if_pos d2, if_pos d2]
      by_cases d3 : 192 ≤ c
      · rw [if_pos d3, if_pos d3]
        simp only [Bool.or_assoc]
        exact or_ite _ True _ _ (if_or _ _ _ (if_or _ _ _ (if_or _ _ _ (last_ite _))))
      · rw [if_neg d3, if_neg d3]
        simp only [Bool.or_assoc]
        exact or_ite _ True _ _ (if_or _ _ _ (if_or _ _ _ (if_or _ _ _ (last_ite _))))
    · rw [if_neg d2, if_neg d2]
      simp only [Bool.or_assoc]
      exact or_ite _ True _ _ (or_ite _ True _ _ (if_or _ _ _ (if_or _ _ _ (if_or _ _ _ (last_ite _)))))
  · rw [if_neg d1, if_neg d1]
    simp only [Bool.or_assoc]
    exact or_ite _ True _ _ (if_or _ _ _ (last_ite _))
theorem place_based {u : XS} {w : MS} {b : Nat → Nat} (hb : ∀ j, b j < 256) (hxb : ∀ j, xM u j = nI (b j)) (hmb : ∀ j, mA w 1 j = nI (b j)) (hR : xR u = mA w 2) {A : Nat} (hA : A + 2 ≤ 1024) : ∃ P, f_XIn_place u (nI A) = nI P ∧ f_MMo_based w (nI A) = some (nI (P % 16777216)) := by
  have h1 := hb A
  have h2 := hb (A + 1)
  have et : tk b A 2 = b A * 256 + b (A + 1) := by simp [tk]
  have mt := m_take w hb hmb (a := nI A) (n := 2) (A := A) (N := 2) rfl rfl hA (by decide)
  rw [et] at mt
  have s12 : nI (b A * 256 + b (A + 1)) >>> ((12 : Int32) &&& 31) = nI (b A / 16) := by
    rw [pk_shrN (by omega) _ 12 rfl]
    congr 1
    omega
  have a12 : nI (b A * 256 + b (A + 1)) &&& 4095 = nI (b A % 16 * 256 + b (A + 1)) := by
    rw [pk_andN (by omega) 12 rfl]
    congr 1
    omega
  have m256 : nI (b A % 16) * (256 : Int32) = nI (b A % 16 * 256) := pk_mul _ 256
  have q0 : (nI (b A / 16) = (0 : Int32)) = (b A / 16 = 0) := eq_nI (c := 0) (by omega) (by decide)
  have q1 : (nI (b A / 16) ≤ (0 : Int32)) = (b A / 16 ≤ 0) := le_nI (c := 0) (by omega) (by decide)
  have z0 : nI (b A % 16 * 256 + b (A + 1)) + 0 = nI (b A % 16 * 256 + b (A + 1)) := Int32.add_zero _
  have eX : f_XIn_place u (nI A) = if b A / 16 = 0 then nI (b A % 16 * 256 + b (A + 1)) else nI (b A % 16 * 256 + b (A + 1)) + xR u (b A / 16) := by
    simp only [f_XIn_place, nmE, getN u (A := A) rfl (show A < 1024 by omega), nI_1, getN u (A := A + 1) rfl (show A + 1 < 1024 by omega), hxb, sh4 (show b A < 2147483648 by omega), a15 _ (show b A < 4294967296 by omega), m256, nI_add, q0, x_val u rfl (show b A / 16 < 16 by omega)]
  have eM : f_MMo_based w (nI A) = if b A / 16 ≤ 0 then some (nI (b A % 16 * 256 + b (A + 1)) &&& 16777215) else some ((nI (b A % 16 * 256 + b (A + 1)) + mA w 2 (b A / 16)) &&& 16777215) := by
    simp only [f_MMo_based, mt, bd1S, nmE, lN_i, s12, a12, q1, z0, ckIN (n := 16) (A := b A / 16) rfl (show b A / 16 < 16 by omega) (by decide), nI_clamp (show b A / 16 < 2 ^ 31 by omega)]
  rw [eX, eM]
  by_cases c : b A / 16 = 0
  · rw [if_pos c, if_pos (by omega)]
    exact ⟨_, rfl, by rw [a24]⟩
  · rw [if_neg c, if_neg (by omega), hR]
    obtain ⟨r, hr, er⟩ := wb_of32 (mA w 2 (b A / 16))
    rw [er, nI_add]
    exact ⟨_, rfl, by rw [a24]⟩
def tailM : MS → Option MS := fun u_22 => if (mF u_22 13) ≤ (0 : Int32) then ckI ((mF u_22 2) + (1 : Int32)) 1024 (nm (msF u_22 10 (mA u_22 1 (Int32.toNatClampNeg ((mF u_22 2) + (1 : Int32))))) (fun (u_25 : MS) => jn (fun (K_27 : Int32 → Option (MS)) => if (mF u_25 9) ≤ (2 : Int32) then K_27 (0 : Int32) else bd1 (f_MMo_based u_25 ((mF u_25 2) + (2 : Int32))) (fun (x_40 : Int32) => K_27 x_40)) (fun (x_26 : Int32) => nm (msF u_25 11 x_26) (fun (u_28 : MS) => jn (fun (K_30 : Int32 → Option (MS)) => if (mF u_28 9) = (6 : Int32) then bd1 (f_MMo_based u_28 ((mF u_28 2) + (4 : Int32))) (fun (x_38 : Int32) => K_30 x_38) else K_30 (mF u_28 11)) (fun (x_29 : Int32) => nm (msF u_28 12 x_29) (fun (u_31 : MS) => bd1 (f_MMo_in u_31 (Int32.toInt64 (mF u_31 8)) (64 : Int64) (127 : Int64)) (fun (z_32 : Bool) => if (bI z_32) = (0 : Int32) then some u_31 else if ((mF u_31 10) &&& (15 : Int32)) ≤ (0 : Int32) then some u_31 else ckI ((mF u_31 10) &&& (15 : Int32)) 16 (nm (msF u_31 12 (((mF u_31 12) + (mA u_31 2 (Int32.toNatClampNeg ((mF u_31 10) &&& (15 : Int32))))) &&& (16777215 : Int32))) (fun (u_36 : MS) => some u_36))))))))) else some u_22
theorem dcd_eq (u0 : MS) : f_MMo_decodes u0 = nm (msF u0 13 (0 : Int32)) (fun (u_1 : MS) => jn (fun (K_3 : Bool → Option (MS)) => if ((mF u_1 2) &&& (1 : Int32)) = (1 : Int32) then K_3 true else K_3 false) (fun (z_2 : Bool) => bd1 (f_MMo_wrong u_1 z_2 (6 : Int32)) (fun (u_4 : MS) => bd1 (f_MMo_lies u_4 (mF u_4 2) (1 : Int32)) (fun (z_5 : Bool) => jn (fun (K_7 : Bool → Option (MS)) => if (bI z_5) = (0 : Int32) then K_7 true else K_7 false) (fun (z_6 : Bool) => bd1 (f_MMo_wrong u_4 z_6 (5 : Int32)) (fun (u_8 : MS) => if (mF u_8 13) ≤ (0 : Int32) then ckI (mF u_8 2) 1024 (nm (msF u_8 8 (mA u_8 1 (Int32.toNatClampNeg (mF u_8 2)))) (fun (u_11 : MS) => jn (fun (K_13 : Int32 → Option (MS)) => if (64 : Int32) ≤ (mF u_11 8) then if (192 : Int32) ≤ (mF u_11 8) then K_13 (6 : Int32) else K_13 (4 : Int32) else K_13 (2 : Int32)) (fun (x_12 : Int32) => nm (msF u_11 9 x_12) (fun (u_14 : MS) => bd1 (f_MMo_lies u_14 (mF u_14 2) (mF u_14 9)) (fun (z_15 : Bool) => jn (fun (K_17 : Bool → Option (MS)) => if (bI z_15) = (0 : Int32) then K_17 true else K_17 false) (fun (z_16 : Bool) => bd1 (f_MMo_wrong u_14 z_16 (5 : Int32)) (fun (u_18 : MS) => bd1 (f_MMo_isKnown u_18 (mF u_18 8)) (fun (z_19 : Bool) => jn (fun (K_21 : Bool → Option (MS)) => if (bI z_19) = (0 : Int32) then K_21 true else K_21 false) (fun (z_20 : Bool) => bd1 (f_MMo_wrong u_18 z_20 (1 : Int32)) tailM))))))))) else some u_8)))))) := by
  unfold f_MMo_decodes tailM
  rfl
theorem kn_cases : ∀ c, c < 256 → kn c = true → c ∈ [5, 6, 7, 10, 16, 17, 18, 19, 20, 21, 22, 23, 24, 25, 26, 27, 28, 29, 30, 31, 64, 65, 66, 67, 69, 70, 71, 72, 73, 74, 75, 76, 78, 79, 80, 84, 85, 86, 87, 88, 89, 90, 91, 92, 93, 94, 95, 134, 135, 136, 137, 138, 139, 144, 145, 146, 148, 149, 150, 151, 152, 209, 210, 211, 212, 213, 214, 215, 220, 242, 243, 248, 249, 250, 251, 252, 253] := by decide +kernel
theorem perform_1 {u : XS} {c : Nat} (hc : c < 256) (h4 : xF u 4 = nI c) (hk : kn c = false) : f_XPr_perform u = (1, u) := by
  have n5 : (nI c = (5 : Int32)) = False := by rw [show (nI c = (5 : Int32)) = (c = 5) from eq_nI (c := 5) (by omega) (by decide)]; exact eq_false (fun h => by rw [h] at hk; exact absurd hk (by decide))
  have n6 : (nI c = (6 : Int32)) = False := by rw [show (nI c = (6 : Int32)) = (c = 6) from eq_nI (c := 6) (by omega) (by decide)]; exact eq_false (fun h => by rw [h] at hk; exact absurd hk (by decide))
  have n7 : (nI c = (7 : Int32)) = False := by rw [show (nI c = (7 : Int32)) = (c = 7) from eq_nI (c := 7) (by omega) (by decide)]; exact eq_false (fun h => by rw [h] at hk; exact absurd hk (by decide))
  have n10 : (nI c = (10 : Int32)) = False := by rw [show (nI c = (10 : Int32)) = (c = 10) from eq_nI (c := 10) (by omega) (by decide)]; exact eq_false (fun h => by rw [h] at hk; exact absurd hk (by decide))
  have n64 : (nI c = (64 : Int32)) = False := by rw [show (nI c = (64 : Int32)) = (c = 64) from eq_nI (c := 64) (by omega) (by decide)]; exact eq_false (fun h => by rw [h] at hk; exact absurd hk (by decide))
  have n65 : (nI c = (65 : Int32)) = False := by rw [show (nI c = (65 : Int32)) = (c = 65) from eq_nI (c := 65) (by omega) (by decide)]; exact eq_false (fun h => by rw [h] at hk; exact absurd hk (by decide))
  have n66 : (nI c = (66 : Int32)) = False := by rw [show (nI c = (66 : Int32)) = (c = 66) from eq_nI (c := 66) (by omega) (by decide)]; exact eq_false (fun h => by rw [h] at hk; exact absurd hk (by decide))
  have n67 : (nI c = (67 : Int32)) = False := by rw [show (nI c = (67 : Int32)) = (c = 67) from eq_nI (c := 67) (by omega) (by decide)]; exact eq_false (fun h => by rw [h] at hk; exact absurd hk (by decide))
  have n69 : (nI c = (69 : Int32)) = False := by rw [show (nI c = (69 : Int32)) = (c = 69) from eq_nI (c := 69) (by omega) (by decide)]; exact eq_false (fun h => by rw [h] at hk; exact absurd hk (by decide))
  have n70 : (nI c = (70 : Int32)) = False := by rw [show (nI c = (70 : Int32)) = (c = 70) from eq_nI (c := 70) (by omega) (by decide)]; exact eq_false (fun h => by rw [h] at hk; exact absurd hk (by decide))
  have n71 : (nI c = (71 : Int32)) = False := by rw [show (nI c = (71 : Int32)) = (c = 71) from eq_nI (c := 71) (by omega) (by decide)]; exact eq_false (fun h => by rw [h] at hk; exact absurd hk (by decide))
  have n72 : (nI c = (72 : Int32)) = False := by rw [show (nI c = (72 : Int32)) = (c = 72) from eq_nI (c := 72) (by omega) (by decide)]; exact eq_false (fun h => by rw [h] at hk; exact absurd hk (by decide))
  have n73 : (nI c = (73 : Int32)) = False := by rw [show (nI c = (73 : Int32)) = (c = 73) from eq_nI (c := 73) (by omega) (by decide)]; exact eq_false (fun h => by rw [h] at hk; exact absurd hk (by decide))
  have n74 : (nI c = (74 : Int32)) = False := by rw [show (nI c = (74 : Int32)) = (c = 74) from eq_nI (c := 74) (by omega) (by decide)]; exact eq_false (fun h => by rw [h] at hk; exact absurd hk (by decide))
  have n75 : (nI c = (75 : Int32)) = False := by rw [show (nI c = (75 : Int32)) = (c = 75) from eq_nI (c := 75) (by omega) (by decide)]; exact eq_false (fun h => by rw [h] at hk; exact absurd hk (by decide))
  have n76 : (nI c = (76 : Int32)) = False := by rw [show (nI c = (76 : Int32)) = (c = 76) from eq_nI (c := 76) (by omega) (by decide)]; exact eq_false (fun h => by rw [h] at hk; exact absurd hk (by decide))
  have n78 : (nI c = (78 : Int32)) = False := by rw [show (nI c = (78 : Int32)) = (c = 78) from eq_nI (c := 78) (by omega) (by decide)]; exact eq_false (fun h => by rw [h] at hk; exact absurd hk (by decide))
  have n79 : (nI c = (79 : Int32)) = False := by rw [show (nI c = (79 : Int32)) = (c = 79) from eq_nI (c := 79) (by omega) (by decide)]; exact eq_false (fun h => by rw [h] at hk; exact absurd hk (by decide))
  have n80 : (nI c = (80 : Int32)) = False := by rw [show (nI c = (80 : Int32)) = (c = 80) from eq_nI (c := 80) (by omega) (by decide)]; exact eq_false (fun h => by rw [h] at hk; exact absurd hk (by decide))
  have n134 : (nI c = (134 : Int32)) = False := by rw [show (nI c = (134 : Int32)) = (c = 134) from eq_nI (c := 134) (by omega) (by decide)]; exact eq_false (fun h => by rw [h] at hk; exact absurd hk (by decide))
  have n135 : (nI c = (135 : Int32)) = False := by rw [show (nI c = (135 : Int32)) = (c = 135) from eq_nI (c := 135) (by omega) (by decide)]; exact eq_false (fun h => by rw [h] at hk; exact absurd hk (by decide))
  have n136 : (nI c = (136 : Int32)) = False := by rw [show (nI c = (136 : Int32)) = (c = 136) from eq_nI (c := 136) (by omega) (by decide)]; exact eq_false (fun h => by rw [h] at hk; exact absurd hk (by decide))
  have n137 : (nI c = (137 : Int32)) = False := by rw [show (nI c = (137 : Int32)) = (c = 137) from eq_nI (c := 137) (by omega) (by decide)]; exact eq_false (fun h => by rw [h] at hk; exact absurd hk (by decide))
  have n138 : (nI c = (138 : Int32)) = False := by rw [show (nI c = (138 : Int32)) = (c = 138) from eq_nI (c := 138) (by omega) (by decide)]; exact eq_false (fun h => by rw [h] at hk; exact absurd hk (by decide))
  have n139 : (nI c = (139 : Int32)) = False := by rw [show (nI c = (139 : Int32)) = (c = 139) from eq_nI (c := 139) (by omega) (by decide)]; exact eq_false (fun h => by rw [h] at hk; exact absurd hk (by decide))
  have n144 : (nI c = (144 : Int32)) = False := by rw [show (nI c = (144 : Int32)) = (c = 144) from eq_nI (c := 144) (by omega) (by decide)]; exact eq_false (fun h => by rw [h] at hk; exact absurd hk (by decide))
  have n145 : (nI c = (145 : Int32)) = False := by rw [show (nI c = (145 : Int32)) = (c = 145) from eq_nI (c := 145) (by omega) (by decide)]; exact eq_false (fun h => by rw [h] at hk; exact absurd hk (by decide))
  have n146 : (nI c = (146 : Int32)) = False := by rw [show (nI c = (146 : Int32)) = (c = 146) from eq_nI (c := 146) (by omega) (by decide)]; exact eq_false (fun h => by rw [h] at hk; exact absurd hk (by decide))
  have n148 : (nI c = (148 : Int32)) = False := by rw [show (nI c = (148 : Int32)) = (c = 148) from eq_nI (c := 148) (by omega) (by decide)]; exact eq_false (fun h => by rw [h] at hk; exact absurd hk (by decide))
  have n149 : (nI c = (149 : Int32)) = False := by rw [show (nI c = (149 : Int32)) = (c = 149) from eq_nI (c := 149) (by omega) (by decide)]; exact eq_false (fun h => by rw [h] at hk; exact absurd hk (by decide))
  have n150 : (nI c = (150 : Int32)) = False := by rw [show (nI c = (150 : Int32)) = (c = 150) from eq_nI (c := 150) (by omega) (by decide)]; exact eq_false (fun h => by rw [h] at hk; exact absurd hk (by decide))
  have n151 : (nI c = (151 : Int32)) = False := by rw [show (nI c = (151 : Int32)) = (c = 151) from eq_nI (c := 151) (by omega) (by decide)]; exact eq_false (fun h => by rw [h] at hk; exact absurd hk (by decide))
  have n152 : (nI c = (152 : Int32)) = False := by rw [show (nI c = (152 : Int32)) = (c = 152) from eq_nI (c := 152) (by omega) (by decide)]; exact eq_false (fun h => by rw [h] at hk; exact absurd hk (by decide))
  have n209 : (nI c = (209 : Int32)) = False := by rw [show (nI c = (209 : Int32)) = (c = 209) from eq_nI (c := 209) (by omega) (by decide)]; exact eq_false (fun h => by rw [h] at hk; exact absurd hk (by decide))
  have n210 : (nI c = (210 : Int32)) = False := by rw [show (nI c = (210 : Int32)) = (c = 210) from eq_nI (c := 210) (by omega) (by decide)]; exact eq_false (fun h => by rw [h] at hk; exact absurd hk (by decide))
  have n211 : (nI c = (211 : Int32)) = False := by rw [show (nI c = (211 : Int32)) = (c = 211) from eq_nI (c := 211) (by omega) (by decide)]; exact eq_false (fun h => by rw [h] at hk; exact absurd hk (by decide))
  have n212 : (nI c = (212 : Int32)) = False := by rw [show (nI c = (212 : Int32)) = (c = 212) from eq_nI (c := 212) (by omega) (by decide)]; exact eq_false (fun h => by rw [h] at hk; exact absurd hk (by decide))
  have n213 : (nI c = (213 : Int32)) = False := by rw [show (nI c = (213 : Int32)) = (c = 213) from eq_nI (c := 213) (by omega) (by decide)]; exact eq_false (fun h => by rw [h] at hk; exact absurd hk (by decide))
  have n214 : (nI c = (214 : Int32)) = False := by rw [show (nI c = (214 : Int32)) = (c = 214) from eq_nI (c := 214) (by omega) (by decide)]; exact eq_false (fun h => by rw [h] at hk; exact absurd hk (by decide))
  have n215 : (nI c = (215 : Int32)) = False := by rw [show (nI c = (215 : Int32)) = (c = 215) from eq_nI (c := 215) (by omega) (by decide)]; exact eq_false (fun h => by rw [h] at hk; exact absurd hk (by decide))
  have n220 : (nI c = (220 : Int32)) = False := by rw [show (nI c = (220 : Int32)) = (c = 220) from eq_nI (c := 220) (by omega) (by decide)]; exact eq_false (fun h => by rw [h] at hk; exact absurd hk (by decide))
  have n242 : (nI c = (242 : Int32)) = False := by rw [show (nI c = (242 : Int32)) = (c = 242) from eq_nI (c := 242) (by omega) (by decide)]; exact eq_false (fun h => by rw [h] at hk; exact absurd hk (by decide))
  have n243 : (nI c = (243 : Int32)) = False := by rw [show (nI c = (243 : Int32)) = (c = 243) from eq_nI (c := 243) (by omega) (by decide)]; exact eq_false (fun h => by rw [h] at hk; exact absurd hk (by decide))
  have n248 : (nI c = (248 : Int32)) = False := by rw [show (nI c = (248 : Int32)) = (c = 248) from eq_nI (c := 248) (by omega) (by decide)]; exact eq_false (fun h => by rw [h] at hk; exact absurd hk (by decide))
  have n249 : (nI c = (249 : Int32)) = False := by rw [show (nI c = (249 : Int32)) = (c = 249) from eq_nI (c := 249) (by omega) (by decide)]; exact eq_false (fun h => by rw [h] at hk; exact absurd hk (by decide))
  have n250 : (nI c = (250 : Int32)) = False := by rw [show (nI c = (250 : Int32)) = (c = 250) from eq_nI (c := 250) (by omega) (by decide)]; exact eq_false (fun h => by rw [h] at hk; exact absurd hk (by decide))
  have n251 : (nI c = (251 : Int32)) = False := by rw [show (nI c = (251 : Int32)) = (c = 251) from eq_nI (c := 251) (by omega) (by decide)]; exact eq_false (fun h => by rw [h] at hk; exact absurd hk (by decide))
  have n252 : (nI c = (252 : Int32)) = False := by rw [show (nI c = (252 : Int32)) = (c = 252) from eq_nI (c := 252) (by omega) (by decide)]; exact eq_false (fun h => by rw [h] at hk; exact absurd hk (by decide))
  have n253 : (nI c = (253 : Int32)) = False := by rw [show (nI c = (253 : Int32)) = (c = 253) from eq_nI (c := 253) (by omega) (by decide)]; exact eq_false (fun h => by rw [h] at hk; exact absurd hk (by decide))
  have r1 : (nI c < (16 : Int32)) = (c < 16) := lt_nI (c := 16) (by omega) (by decide)
  have r2 : ((31 : Int32) < nI c) = (31 < c) := lt_nI (k := 31) (by decide) (by omega)
  have r3 : (nI c < (84 : Int32)) = (c < 84) := lt_nI (c := 84) (by omega) (by decide)
  have r4 : ((95 : Int32) < nI c) = (95 < c) := lt_nI (k := 95) (by decide) (by omega)
  have d1 : c < 16 ∨ 31 < c := (by decide +kernel : ∀ c, c < 256 → kn c = false → c < 16 ∨ 31 < c) c hc hk
  have d2 : c < 84 ∨ 95 < c := (by decide +kernel : ∀ c, c < 256 → kn c = false → c < 84 ∨ 95 < c) c hc hk
  have e : (if c < 84 then ((1 : Int32), u) else if 95 < c then (1, u) else f_XAr_withWord u) = (1, u) := by
    by_cases q : c < 84
    · rw [if_pos q]
    · rw [if_neg q, if_pos (d2.resolve_left q)]
  simp only [f_XPr_perform, f_XPr_performRegular, nmE, jnE, prI, h4, n5, n6, n7, n10, n64, n65, n66, n67, n69, n70, n71, n72, n73, n74, n75, n76, n78, n79, n80, n134, n135, n136, n137, n138, n139, n144, n145, n146, n148, n149, n150, n151, n152, n209, n210, n211, n212, n213, n214, n215, n220, n242, n243, n248, n249, n250, n251, n252, n253, ↓reduceIte, r1, r2, r3, r4, e]
  by_cases q : c < 16
  · rw [if_pos q]
  · rw [if_neg q, if_pos (d1.resolve_left q)]
theorem perform_all {u : XS} {v : MS} {c s i j a1 a2 at0 : Nat} (h : Dd u v c s i j a1 a2 at0) (hk : kn c = true) : Out (f_XPr_perform u) v := by
  have hc := h.2.1.1
  have hm := kn_cases c hc hk
  simp only [List.mem_cons, List.not_mem_nil, or_false] at hm
  rcases hm with rfl | rfl | rfl | rfl | rfl | rfl | rfl | rfl | rfl | rfl | rfl | rfl | rfl | rfl | rfl | rfl | rfl | rfl | rfl | rfl | rfl | rfl | rfl | rfl | rfl | rfl | rfl | rfl | rfl | rfl | rfl | rfl | rfl | rfl | rfl | rfl | rfl | rfl | rfl | rfl | rfl | rfl | rfl | rfl | rfl | rfl | rfl | rfl | rfl | rfl | rfl | rfl | rfl | rfl | rfl | rfl | rfl | rfl | rfl | rfl | rfl | rfl | rfl | rfl | rfl | rfl | rfl | rfl | rfl | rfl | rfl | rfl | rfl | rfl | rfl | rfl | rfl
  · exact op_5 h
  · exact op_6 h
  · exact op_7 h
  · exact op_10 h
  · exact op_16 h
  · exact op_17 h
  · exact op_18 h
  · exact op_19 h
  · exact op_20 h
  · exact op_21 h
  · exact op_22 h
  · exact op_23 h
  · exact op_24 h
  · exact op_25 h
  · exact op_26 h
  · exact op_27 h
  · exact op_28 h
  · exact op_29 h
  · exact op_30 h
  · exact op_31 h
  · exact op_64 h
  · exact op_65 h
  · exact op_66 h
  · exact op_67 h
  · exact op_69 h
  · exact op_70 h
  · exact op_71 h
  · exact op_72 h
  · exact op_73 h
  · exact op_74 h
  · exact op_75 h
  · exact op_76 h
  · exact op_78 h
  · exact op_79 h
  · exact op_80 h
  · exact op_84 h
  · exact op_85 h
  · exact op_86 h
  · exact op_87 h
  · exact op_88 h
  · exact op_89 h
  · exact op_90 h
  · exact op_91 h
  · exact op_92 h
  · exact op_93 h
  · exact op_94 h
  · exact op_95 h
  · exact op_134 h
  · exact op_135 h
  · exact op_136 h
  · exact op_137 h
  · exact op_138 h
  · exact op_139 h
  · exact op_144 h
  · exact op_145 h
  · exact op_146 h
  · exact op_148 h
  · exact op_149 h
  · exact op_150 h
  · exact op_151 h
  · exact op_152 h
  · exact op_209 h
  · exact op_210 h
  · exact op_211 h
  · exact op_212 h
  · exact op_213 h
  · exact op_214 h
  · exact op_215 h
  · exact op_220 h
  · exact op_242 h
  · exact op_243 h
  · exact op_248 h
  · exact op_249 h
  · exact op_250 h
  · exact op_251 h
  · exact op_252 h
  · exact op_253 h
def szc (c : Nat) : Nat := if 64 ≤ c then (if 192 ≤ c then 6 else 4) else 2
theorem decodes_eq {u : XS} {v : MS} {b : Nat → Nat} (hb : ∀ j, b j < 256) (hmb : ∀ j, mA v 1 j = nI (b j)) {at0 : Nat} (ha : at0 < 16777216) (h2 : mF v 2 = nI at0) : f_MMo_decodes v = if at0 % 2 = 1 then some (msF (msF v 13 0) 13 6) else if f_XMe_holds u (nI at0) 1 = false then some (msF (msF v 13 0) 13 5) else if f_XMe_holds u (nI at0) (nI (szc (b at0))) = false then some (msF (msF (msF (msF v 13 0) 8 (nI (b at0))) 9 (nI (szc (b at0)))) 13 5) else if kn (b at0) = false then some (msF (msF (msF (msF v 13 0) 8 (nI (b at0))) 9 (nI (szc (b at0)))) 13 1) else tailM (msF (msF (msF v 13 0) 8 (nI (b at0))) 9 (nI (szc (b at0)))) := by
  have hbt := hb at0
  have l1 := fun w => lies_holds w u (nI at0) (n := 1) (N := 1) rfl (by decide)
  have l2 := fun w => lies_holds w u (nI at0) (n := nI (szc (b at0))) (N := szc (b at0)) rfl (by unfold szc; split; split <;> decide; decide)
  have o1 : (nI (at0 % 2) = (1 : Int32)) = (at0 % 2 = 1) := eq_nI (c := 1) (by omega) (by decide)
  have k1 : ((64 : Int32) ≤ nI (b at0)) = (64 ≤ b at0) := le_nI (k := 64) (by decide) (by omega)
  have k3 : ((192 : Int32) ≤ nI (b at0)) = (192 ≤ b at0) := le_nI (k := 192) (by decide) (by omega)
  have ks := fun w => known_eq w hbt
  have w6 : ∀ z c, f_MMo_wrong (msF (msF v 13 0) 13 6) z c = some (msF (msF v 13 0) 13 6) := fun z c => wrong_n _ z c (by rw [mF_F, if_pos rfl]; decide)
  by_cases c1 : at0 % 2 = 1
  · rw [if_pos c1]
    have e1 : nI at0 &&& 1 = 1 := by rw [a1_odd ha, c1]; rfl
    simp +decide only [dcd_eq, nmE, jnE, mF_F, Nat.reduceEqDiff, ↓reduceIte, h2, e1, wrong_t (msF v 13 0) 6 rfl, bd1S, l1, w6, bI0, ite_self]
  · rw [if_neg c1]
    have e1 : (nI at0 &&& 1 = 1) = False := by rw [a1_odd ha, o1]; exact eq_false c1
    have w5 : ∀ w, mF w 13 = 5 → ∀ z c, f_MMo_wrong w z c = some w := fun w hw z c => wrong_n _ z c (by rw [hw]; decide)
    cases hh : f_XMe_holds u (nI at0) 1 with
    | false =>
      simp +decide only [dcd_eq, nmE, jnE, mF_F, Nat.reduceEqDiff, ↓reduceIte, h2, e1, wrong_f, wrong_t (msF v 13 0) 5 rfl, bd1S, l1, hh, bI0]
    | true =>
      obtain ⟨A, hA, hA3⟩ := (holds_iff u (nI at0) (n := 1) (N := 1) rfl (by omega)).mp hh
      have hA' : at0 = A := (nI_eq (by omega) (by omega)).mp (by rw [hA])
      have hlt : at0 < 1024 := by omega
      have main : ∀ Z : Int32, (∀ w, f_MMo_lies w (nI at0) Z = some (f_XMe_holds u (nI at0) Z)) → (bd1 (f_MMo_lies (msF (msF (msF v 13 0) 8 (nI (b at0))) 9 Z) (nI at0) Z) fun z_15 => if z_15 = false then bd1 (f_MMo_wrong (msF (msF (msF v 13 0) 8 (nI (b at0))) 9 Z) true 5) fun u_18 => bd1 (f_MMo_isKnown u_18 (mF u_18 8)) fun z_19 => if z_19 = false then bd1 (f_MMo_wrong u_18 true 1) tailM else tailM u_18 else bd1 (f_MMo_isKnown (msF (msF (msF v 13 0) 8 (nI (b at0))) 9 Z) (nI (b at0))) fun z_19 => if z_19 = false then bd1 (f_MMo_wrong (msF (msF (msF v 13 0) 8 (nI (b at0))) 9 Z) true 1) tailM else tailM (msF (msF (msF v 13 0) 8 (nI (b at0))) 9 Z)) = if f_XMe_holds u (nI at0) Z = false then some (msF (msF (msF (msF v 13 0) 8 (nI (b at0))) 9 Z) 13 5) else if kn (b at0) = false then some (msF (msF (msF (msF v 13 0) 8 (nI (b at0))) 9 Z) 13 1) else tailM (msF (msF (msF v 13 0) 8 (nI (b at0))) 9 Z) := by
        intro Z hZ
        have t5 : tailM (msF (msF (msF (msF v 13 0) 8 (nI (b at0))) 9 Z) 13 5) = some (msF (msF (msF (msF v 13 0) 8 (nI (b at0))) 9 Z) 13 5) := by
          simp +decide only [tailM, mF_F, ↓reduceIte]
        have t1 : tailM (msF (msF (msF (msF v 13 0) 8 (nI (b at0))) 9 Z) 13 1) = some (msF (msF (msF (msF v 13 0) 8 (nI (b at0))) 9 Z) 13 1) := by
          simp +decide only [tailM, mF_F, ↓reduceIte]
        rw [hZ, bd1S]
        cases f_XMe_holds u (nI at0) Z with
        | false =>
          cases hk : kn (b at0) <;> simp +decide only [↓reduceIte, wrong_t (msF (msF (msF v 13 0) 8 (nI (b at0))) 9 Z) 5 rfl, bd1S, mF_F, ks, hk, w5 (msF (msF (msF (msF v 13 0) 8 (nI (b at0))) 9 Z) 13 5) rfl, t5]
        | true =>
          cases hk : kn (b at0) <;> simp +decide only [↓reduceIte, wrong_t (msF (msF (msF v 13 0) 8 (nI (b at0))) 9 Z) 1 rfl, bd1S, mF_F, ks, hk, t1]
      simp +decide only [dcd_eq, nmE, jnE, mF_F, mA_F, Nat.reduceEqDiff, ↓reduceIte, h2, e1, wrong_f, bd1S, l1, hh, bI0, ckIN (n := 1024) (A := at0) rfl hlt (by decide), nI_clamp (show at0 < 2 ^ 31 by omega), hmb, k1, k3]
      by_cases c1 : 64 ≤ b at0
      · rw [if_pos c1]
        by_cases c2 : 192 ≤ b at0
        · rw [if_pos c2, show nI (szc (b at0)) = (6 : Int32) from by unfold szc; rw [if_pos c1, if_pos c2]; rfl]
          exact main 6 (fun w => lies_holds w u (nI at0) (n := 6) (N := 6) rfl (by decide))
        · rw [if_neg c2, show nI (szc (b at0)) = (4 : Int32) from by unfold szc; rw [if_pos c1, if_neg c2]; rfl]
          exact main 4 (fun w => lies_holds w u (nI at0) (n := 4) (N := 4) rfl (by decide))
      · rw [if_neg c1, show nI (szc (b at0)) = (2 : Int32) from by unfold szc; rw [if_neg c1]; rfl]
        exact main 2 (fun w => lies_holds w u (nI at0) (n := 2) (N := 2) rfl (by decide))
theorem Core.xf {u : XS} {v : MS} (h : Core u v) {k : Nat} (hk : k = 0 ∨ 4 ≤ k ∧ k ≤ 10) (x : Int32) : Core (xsF u k x) v := by
  unfold Core at h ⊢
  simp only [xM_F, xR_F, xF_F, if_neg (show ¬ 1 = k by omega), if_neg (show ¬ 2 = k by omega), if_neg (show ¬ 3 = k by omega), if_neg (show ¬ 11 = k by omega), if_neg (show ¬ 12 = k by omega), if_neg (show ¬ 13 = k by omega)]
  exact h
theorem Core.mf {u : XS} {v : MS} (h : Core u v) {k : Nat} (hk : k = 0 ∨ k = 2 ∨ 8 ≤ k) (x : Int32) : Core u (msF v k x) := by
  unfold Core at h ⊢
  simp only [mA_F, mF_F, if_neg (show ¬ 1 = k by omega), if_neg (show ¬ 3 = k by omega), if_neg (show ¬ 4 = k by omega), if_neg (show ¬ 5 = k by omega), if_neg (show ¬ 6 = k by omega), if_neg (show ¬ 7 = k by omega)]
  exact h
theorem szc_le (c : Nat) : szc c ≤ 6 := by
  unfold szc
  split
  · split <;> decide
  · decide
def u15 (u : XS) (c s at0 : Nat) : XS := xsF (xsF (xsF (xsF (xsF u 4 (nI c)) 5 (nI s)) 6 (nI (s / 16))) 7 (nI (s % 16))) 10 (nI (at0 + szc c))
theorem fetch_eq {u : XS} {b : Nat → Nat} (hb : ∀ j, b j < 256) (hxb : ∀ j, xM u j = nI (b j)) {at0 : Nat} (ha : at0 < 16777216) (h0 : xF u 0 = nI at0) : f_XIn_fetch u = if at0 % 2 = 1 then (6, u) else if f_XMe_holds u (nI at0) 2 = false then (5, u) else if f_XMe_holds u (nI at0) (nI (szc (b at0))) = false then (5, xsF u 4 (nI (b at0))) else (0, if b at0 < 64 then u15 u (b at0) (b (at0 + 1)) at0 else f_XIn_findAddresses (u15 u (b at0) (b (at0 + 1)) at0) (nI at0)) := by
  have hbt := hb at0
  have hbs := hb (at0 + 1)
  have hol : ∀ (w : XS) a n, f_XMe_holds w a n = f_XMe_holds u a n := fun _ _ _ => rfl
  have k1 : ((64 : Int32) ≤ nI (b at0)) = (64 ≤ b at0) := le_nI (k := 64) (by decide) (by omega)
  have k3 : ((192 : Int32) ≤ nI (b at0)) = (192 ≤ b at0) := le_nI (k := 192) (by decide) (by omega)
  by_cases c1 : at0 % 2 = 1
  · rw [if_pos c1]
    have e1 : (nI at0 &&& 1 = 0) = False := by
      rw [a1_odd ha, c1]
      exact eq_false (by decide)
    simp only [f_XIn_fetch, nmE, h0, e1, ↓reduceIte]
  · rw [if_neg c1]
    have e1 : nI at0 &&& 1 = 0 := by rw [a1_odd ha, show at0 % 2 = 0 by omega]; rfl
    cases hh : f_XMe_holds u (nI at0) 2 with
    | false => simp only [f_XIn_fetch, nmE, h0, e1, ↓reduceIte, hh, bI0]
    | true =>
      obtain ⟨A, hA, hA3⟩ := (holds_iff u (nI at0) (n := 2) (N := 2) rfl (by omega)).mp hh
      have hA' : at0 = A := (nI_eq (by omega) (by omega)).mp (by rw [hA])
      have hlt : at0 + 1 < 1024 := by omega
      have main : ∀ (Z : Int32) (z : Nat), Z = nI z → z ≤ 6 → (z ≤ 2 ↔ b at0 < 64) → szc (b at0) = z → (if f_XMe_holds u (nI at0) Z = false then ((5 : Int32), xsF u 4 (nI (b at0))) else if Z ≤ 2 then (0, xsF (xsF (xsF (xsF (xsF u 4 (nI (b at0))) 5 (nI (b (at0 + 1)))) 6 (nI (b (at0 + 1) / 16))) 7 (nI (b (at0 + 1) % 16))) 10 (nI at0 + Z)) else (0, f_XIn_findAddresses (xsF (xsF (xsF (xsF (xsF u 4 (nI (b at0))) 5 (nI (b (at0 + 1)))) 6 (nI (b (at0 + 1) / 16))) 7 (nI (b (at0 + 1) % 16))) 10 (nI at0 + Z)) (nI at0))) = if f_XMe_holds u (nI at0) (nI (szc (b at0))) = false then (5, xsF u 4 (nI (b at0))) else (0, if b at0 < 64 then u15 u (b at0) (b (at0 + 1)) at0 else f_XIn_findAddresses (u15 u (b at0) (b (at0 + 1)) at0) (nI at0)) := by
        intro Z z hZ hz hz2 hs
        subst hZ
        have q : (nI z ≤ (2 : Int32)) = (z ≤ 2) := le_nI (c := 2) (by omega) (by decide)
        unfold u15
        rw [hs, nI_add]
        simp only [q, hz2]
        split
        · rfl
        · split <;> rfl
      simp +decide only [f_XIn_fetch, nmE, jnE, h0, e1, ↓reduceIte, hh, hol, bI0, getN u (A := at0) rfl (show at0 < 1024 by omega), hxb, xF_F, Nat.reduceEqDiff, k1, k3, nI_1, getN _ (A := at0 + 1) rfl hlt, xM_F, sh4 (show b (at0 + 1) < 2147483648 by omega), a15 _ (show b (at0 + 1) < 4294967296 by omega)]
      by_cases c1 : 64 ≤ b at0
      · rw [if_pos c1]
        by_cases c2 : 192 ≤ b at0
        · rw [if_pos c2]
          exact main 6 6 rfl (by decide) (by omega) (by unfold szc; rw [if_pos c1, if_pos c2])
        · rw [if_neg c2]
          exact main 4 4 rfl (by decide) (by omega) (by unfold szc; rw [if_pos c1, if_neg c2])
      · rw [if_neg c1]
        have m := main 2 2 rfl (by decide) (by omega) (by unfold szc; rw [if_neg c1])
        rw [hh, if_neg (show ¬ true = false by decide), if_pos (show (2 : Int32) ≤ 2 by decide)] at m
        exact m
theorem Dd_of {u : XS} {v : MS} {c s a1 a2 at0 : Nat} (hC : Core u v) (hc : c < 256) (hs : s < 256) (h1 : a1 < 16777216) (h2 : a2 < 16777216) (x4 : xF u 4 = nI c) (m8 : mF v 8 = nI c) (x5 : xF u 5 = nI s) (m10 : mF v 10 = nI s) (x6 : xF u 6 = nI (s / 16)) (x7 : xF u 7 = nI (s % 16)) (hA2 : 64 ≤ c → xF u 9 = nI a2 ∧ mF v 12 = nI a2) (hA1 : 128 ≤ c → xF u 8 = nI a1 ∧ mF v 11 = nI a1) (hA : 128 ≤ c → c < 192 → a1 = a2) (m13 : mF v 13 = 0) (m0 : mF v 0 = 0) (m2 : mF v 2 = nI at0) (m9 : mF v 9 = nI (szc c)) (hz : at0 + szc c ≤ 1024) (x10 : xF u 10 = nI (at0 + szc c)) (x0 : xF u 0 = nI (at0 + szc c)) : ∃ s i j a1 a2, Dd u v c s i j a1 a2 at0 :=
  ⟨s, s / 16, s % 16, a1, a2, hC, ⟨hc, hs, by omega, by omega, h1, h2⟩, ⟨a15 _ (by omega), sh4 (by omega), by omega⟩, ⟨x4, m8⟩, ⟨x5, m10⟩, ⟨x6, x7⟩, hA2, hA1, hA, ⟨m13, m0, m2⟩, szc c, m9, hz, x10, x0⟩
theorem decode_ok {u : XS} {v : MS} {b : Nat → Nat} (hC : Core u v) (hb : ∀ j, b j < 256) (hxb : ∀ j, xM u j = nI (b j)) (hmb : ∀ j, mA v 1 j = nI (b j)) {at0 : Nat} (h2 : mF v 2 = nI at0) (h0 : mF v 0 = 0) (hz : at0 + szc (b at0) ≤ 1024) : ∃ v', tailM (msF (msF (msF v 13 0) 8 (nI (b at0))) 9 (nI (szc (b at0)))) = some v' ∧ ∃ s i j a1 a2, Dd (xsF (if b at0 < 64 then u15 u (b at0) (b (at0 + 1)) at0 else f_XIn_findAddresses (u15 u (b at0) (b (at0 + 1)) at0) (nI at0)) 0 (xF (if b at0 < 64 then u15 u (b at0) (b (at0 + 1)) at0 else f_XIn_findAddresses (u15 u (b at0) (b (at0 + 1)) at0) (nI at0)) 10)) v' (b at0) s i j a1 a2 at0 := by
  have hbt := hb at0
  have hbs := hb (at0 + 1)
  obtain ⟨c, hc⟩ : ∃ c, c = b at0 := ⟨_, rfl⟩
  obtain ⟨s, hs⟩ : ∃ s, s = b (at0 + 1) := ⟨_, rfl⟩
  rw [← hc] at hz hbt ⊢
  rw [← hs] at hbs ⊢
  have hs1 : mA v 1 (at0 + 1) = nI s := by rw [hmb, hs]
  have hR : xR u = mA v 2 := hC.2.1
  have k1 : ((64 : Int32) ≤ nI c) = (64 ≤ c) := le_nI (k := 64) (by decide) (by omega)
  have k2 : ((128 : Int32) ≤ nI c) = (128 ≤ c) := le_nI (k := 128) (by decide) (by omega)
  have k3 : ((192 : Int32) ≤ nI c) = (192 ≤ c) := le_nI (k := 192) (by decide) (by omega)
  have ic := fun w : MS => in_cN w (c := c) (lo := 64) (hi := 127) (y1 := 64) (y2 := 127) hbt rfl rfl (by decide) (by decide)
  have hz2 : 2 ≤ szc c := by unfold szc; split; split <;> decide; decide
  have hlt : at0 + 1 < 1024 := by omega
  have g0 : nI at0 + 1 = nI (at0 + 1) := nI_1 _
  have g2 : nI at0 + 2 = nI (at0 + 2) := nI_add at0 2
  have g4 : nI at0 + 4 = nI (at0 + 4) := nI_add at0 4
  have j0 : (nI (s % 16) = (0 : Int32)) = (s % 16 = 0) := eq_nI (c := 0) (by omega) (by decide)
  have jl : (nI (s % 16) ≤ (0 : Int32)) = (s % 16 ≤ 0) := le_nI (c := 0) (by omega) (by decide)
  by_cases c1 : c < 64
  · have ez : szc c = 2 := by unfold szc; rw [if_neg (by omega)]
    rw [if_pos c1]
    have eM : tailM (msF (msF (msF v 13 0) 8 (nI c)) 9 (nI (szc c))) = some (msF (msF (msF (msF (msF (msF v 13 0) 8 (nI c)) 9 (nI (szc c))) 10 (nI s)) 11 0) 12 0) := by
      rw [ez, show nI 2 = (2 : Int32) from rfl]
      simp +decide only [tailM, nmE, jnE, mF_F, mA_F, Nat.reduceEqDiff, ↓reduceIte, h2, g0, ckIN (n := 1024) (A := at0 + 1) rfl hlt (by decide), nI_clamp (show at0 + 1 < 2 ^ 31 by omega), hs1, ic, bd1S, decide_eq_false (show ¬ (64 ≤ c ∧ c ≤ 127) by omega), bI0]
    refine ⟨_, eM, ?_⟩
    refine Dd_of (s := s) (a1 := 0) (a2 := 0) ?_ hbt hbs (by omega) (by omega) ?_ ?_ ?_ ?_ ?_ ?_ (fun h => by omega) (fun h => by omega) (fun h => by omega) ?_ ?_ ?_ ?_ hz ?_ ?_
    · unfold u15
      exact ((((((((((((hC.xf (by omega) _).xf (by omega) _).xf (by omega) _).xf (by omega) _).xf (by omega) _).xf (by omega) _).mf (by omega) _).mf (by omega) _).mf (by omega) _).mf (by omega) _).mf (by omega) _).mf (by omega) _)
    all_goals simp only [u15, xF_F, mF_F, Nat.reduceEqDiff, ↓reduceIte, h0, h2]
  · rw [if_neg c1]
    have hP2 : at0 + 2 + 2 ≤ 1024 := by
      have : 4 ≤ szc c := by unfold szc; rw [if_pos (by omega)]; split <;> decide
      omega
    have fR : ∀ (w : MS), mA w = mA v → mF w = mF w → ∃ P, f_XIn_place (u15 u c s at0) (nI (at0 + 2)) = nI P ∧ f_MMo_based w (nI (at0 + 2)) = some (nI (P % 16777216)) := fun w hw _ => place_based hb (u := u15 u c s at0) hxb (fun j => by rw [hw]; exact hmb j) (by rw [hw]; exact hR) hP2
    have xv : ∀ {r}, r < 16 → f_XSt_value (u15 u c s at0) (nI r) = mA v 2 r := fun hr => by rw [x_val _ rfl hr, ← hR]; rfl
    have f4 : xF (u15 u c s at0) 4 = nI c := rfl
    have f7 : xF (u15 u c s at0) 7 = nI (s % 16) := rfl
    have hC15 : Core (u15 u c s at0) v := by
      unfold u15
      exact (((((hC.xf (by omega) _).xf (by omega) _).xf (by omega) _).xf (by omega) _).xf (by omega) _)
    by_cases c3 : c < 192
    · have ez : szc c = 4 := by unfold szc; rw [if_pos (by omega), if_neg (by omega)]
      obtain ⟨P, hP, hB⟩ := fR (msF (msF (msF (msF v 13 0) 8 (nI c)) 9 (nI (szc c))) 10 (nI s)) rfl rfl
      rw [ez, show nI 4 = (4 : Int32) from rfl] at hB
      by_cases c2 : c < 128
      · obtain ⟨r, hr, er⟩ : ∃ r : Nat, r < 4294967296 ∧ (if s % 16 = 0 then 0 else mA v 2 (s % 16)) = nI r := by
          obtain ⟨r, hr, er⟩ := wb_of32 (if s % 16 = 0 then 0 else mA v 2 (s % 16))
          exact ⟨r, hr, er⟩
        have eX : f_XIn_findAddresses (u15 u c s at0) (nI at0) = xsF (xsF (u15 u c s at0) 8 (nI ((P + r) % 16777216))) 9 (nI ((P + r) % 16777216)) := by
          have t : f_XIn_findAddresses (u15 u c s at0) (nI at0) = xsF (xsF (u15 u c s at0) 8 ((nI P + (if s % 16 = 0 then 0 else mA v 2 (s % 16))) &&& 16777215)) 9 ((nI P + (if s % 16 = 0 then 0 else mA v 2 (s % 16))) &&& 16777215) := by
            by_cases q : s % 16 = 0
            · simp +decide only [f_XIn_findAddresses, nmE, jnE, f4, f7, k2, k3, g2, g4, hP, xF_F, Nat.reduceEqDiff, ↓reduceIte, if_neg (show ¬ 128 ≤ c by omega), if_neg (show ¬ 192 ≤ c by omega), j0, q]
            · simp +decide only [f_XIn_findAddresses, nmE, jnE, f4, f7, k2, k3, g2, g4, hP, xF_F, Nat.reduceEqDiff, ↓reduceIte, if_neg (show ¬ 128 ≤ c by omega), if_neg (show ¬ 192 ≤ c by omega), j0, q, xv (show s % 16 < 16 by omega)]
          rw [t, er, nI_add, a24]
        have eM : tailM (msF (msF (msF v 13 0) 8 (nI c)) 9 (nI (szc c))) = some (msF (msF (msF (msF (msF (msF v 13 0) 8 (nI c)) 9 (nI (szc c))) 10 (nI s)) 11 (nI (P % 16777216))) 12 (nI (P % 16777216))) ∧ s % 16 = 0 ∨ tailM (msF (msF (msF v 13 0) 8 (nI c)) 9 (nI (szc c))) = some (msF (msF (msF (msF (msF (msF (msF v 13 0) 8 (nI c)) 9 (nI (szc c))) 10 (nI s)) 11 (nI (P % 16777216))) 12 (nI (P % 16777216))) 12 ((nI (P % 16777216) + mA v 2 (s % 16)) &&& 16777215)) ∧ ¬ s % 16 = 0 := by
          rw [ez, show nI 4 = (4 : Int32) from rfl]
          by_cases q : s % 16 = 0
          · refine Or.inl ⟨?_, q⟩
            simp +decide only [tailM, nmE, jnE, mF_F, mA_F, Nat.reduceEqDiff, ↓reduceIte, h2, g0, g2, ckIN (n := 1024) (A := at0 + 1) rfl hlt (by decide), nI_clamp (show at0 + 1 < 2 ^ 31 by omega), hs1, ic, bd1S, hB, decide_eq_true (show 64 ≤ c ∧ c ≤ 127 by omega), bI0, a15 s (by omega), jl, q]
          · refine Or.inr ⟨?_, q⟩
            simp +decide only [tailM, nmE, jnE, mF_F, mA_F, Nat.reduceEqDiff, ↓reduceIte, h2, g0, g2, ckIN (n := 1024) (A := at0 + 1) rfl hlt (by decide), nI_clamp (show at0 + 1 < 2 ^ 31 by omega), hs1, ic, bd1S, hB, decide_eq_true (show 64 ≤ c ∧ c ≤ 127 by omega), bI0, a15 s (by omega), jl, if_neg (show ¬ s % 16 ≤ 0 by omega), ckIN (n := 16) (A := s % 16) rfl (show s % 16 < 16 by omega) (by decide), nI_clamp (show s % 16 < 2 ^ 31 by omega)]
        rw [eX]
        rcases eM with ⟨eM, q⟩ | ⟨eM, q⟩
        · rw [if_pos q] at er
          have hr0 : r = 0 := by
            have h := congrArg (fun x : Int32 => x.toBitVec.toNat) er
            simp only [nI_bv, BitVec.toNat_ofNat] at h
            have h9 : (0 : Int32).toBitVec.toNat = 0 := rfl
            rw [h9] at h
            omega
          subst hr0
          refine ⟨_, eM, ?_⟩
          refine Dd_of (s := s) (a1 := 0) (a2 := P % 16777216) ?_ hbt hbs (by omega) (by omega) ?_ ?_ ?_ ?_ ?_ ?_ (fun h => ?_) (fun h => by omega) (fun h => by omega) ?_ ?_ ?_ ?_ hz ?_ ?_
          · exact (((((((((hC15.xf (by omega) _).xf (by omega) _).xf (by omega) _).mf (by omega) _).mf (by omega) _).mf (by omega) _).mf (by omega) _).mf (by omega) _).mf (by omega) _)
          all_goals simp only [u15, xF_F, mF_F, Nat.reduceEqDiff, ↓reduceIte, h0, h2, Nat.add_zero, and_self]
        · rw [if_neg q] at er
          rw [er, nI_add, a24, Nat.mod_add_mod] at eM
          refine ⟨_, eM, ?_⟩
          refine Dd_of (s := s) (a1 := 0) (a2 := (P + r) % 16777216) ?_ hbt hbs (by omega) (by omega) ?_ ?_ ?_ ?_ ?_ ?_ (fun h => ?_) (fun h => by omega) (fun h => by omega) ?_ ?_ ?_ ?_ hz ?_ ?_
          · exact ((((((((((hC15.xf (by omega) _).xf (by omega) _).xf (by omega) _).mf (by omega) _).mf (by omega) _).mf (by omega) _).mf (by omega) _).mf (by omega) _).mf (by omega) _).mf (by omega) _)
          all_goals simp only [u15, xF_F, mF_F, Nat.reduceEqDiff, ↓reduceIte, h0, h2, and_self]
      · have eX : f_XIn_findAddresses (u15 u c s at0) (nI at0) = xsF (xsF (u15 u c s at0) 8 (nI (P % 16777216))) 9 (nI (P % 16777216)) := by
          simp +decide only [f_XIn_findAddresses, nmE, jnE, f4, f7, k2, k3, g2, g4, hP, xF_F, Nat.reduceEqDiff, ↓reduceIte, if_pos (show 128 ≤ c by omega), if_neg (show ¬ 192 ≤ c by omega), Int32.add_zero, a24]
        have eM : tailM (msF (msF (msF v 13 0) 8 (nI c)) 9 (nI (szc c))) = some (msF (msF (msF (msF (msF (msF v 13 0) 8 (nI c)) 9 (nI (szc c))) 10 (nI s)) 11 (nI (P % 16777216))) 12 (nI (P % 16777216))) := by
          rw [ez, show nI 4 = (4 : Int32) from rfl]
          simp +decide only [tailM, nmE, jnE, mF_F, mA_F, Nat.reduceEqDiff, ↓reduceIte, h2, g0, g2, ckIN (n := 1024) (A := at0 + 1) rfl hlt (by decide), nI_clamp (show at0 + 1 < 2 ^ 31 by omega), hs1, ic, bd1S, hB, decide_eq_false (show ¬ (64 ≤ c ∧ c ≤ 127) by omega), bI0]
        rw [eX]
        refine ⟨_, eM, ?_⟩
        refine Dd_of (s := s) (a1 := P % 16777216) (a2 := P % 16777216) ?_ hbt hbs (by omega) (by omega) ?_ ?_ ?_ ?_ ?_ ?_ (fun h => ?_) (fun h => ?_) (fun _ _ => rfl) ?_ ?_ ?_ ?_ hz ?_ ?_
        · exact (((((((((hC15.xf (by omega) _).xf (by omega) _).xf (by omega) _).mf (by omega) _).mf (by omega) _).mf (by omega) _).mf (by omega) _).mf (by omega) _).mf (by omega) _)
        all_goals simp only [u15, xF_F, mF_F, Nat.reduceEqDiff, ↓reduceIte, h0, h2, and_self]
    · have ez : szc c = 6 := by unfold szc; rw [if_pos (by omega), if_pos (by omega)]
      obtain ⟨P, hP, hB⟩ := fR (msF (msF (msF (msF v 13 0) 8 (nI c)) 9 (nI (szc c))) 10 (nI s)) rfl rfl
      obtain ⟨Q, hQ, hB2⟩ := place_based hb (u := xsF (u15 u c s at0) 8 (nI (P % 16777216))) (w := msF (msF (msF (msF (msF v 13 0) 8 (nI c)) 9 (nI (szc c))) 10 (nI s)) 11 (nI (P % 16777216))) (A := at0 + 4) hxb hmb hR (by omega)
      rw [ez, show nI 6 = (6 : Int32) from rfl] at hB hB2
      have eX : f_XIn_findAddresses (u15 u c s at0) (nI at0) = xsF (xsF (u15 u c s at0) 8 (nI (P % 16777216))) 9 (nI (Q % 16777216)) := by
        simp +decide only [f_XIn_findAddresses, nmE, jnE, f4, f7, k2, k3, g2, g4, hP, xF_F, Nat.reduceEqDiff, ↓reduceIte, if_pos (show 128 ≤ c by omega), if_pos (show 192 ≤ c by omega), Int32.add_zero, a24, hQ]
      have eM : tailM (msF (msF (msF v 13 0) 8 (nI c)) 9 (nI (szc c))) = some (msF (msF (msF (msF (msF (msF v 13 0) 8 (nI c)) 9 (nI (szc c))) 10 (nI s)) 11 (nI (P % 16777216))) 12 (nI (Q % 16777216))) := by
        rw [ez, show nI 6 = (6 : Int32) from rfl]
        simp +decide only [tailM, nmE, jnE, mF_F, mA_F, Nat.reduceEqDiff, ↓reduceIte, h2, g0, g2, g4, ckIN (n := 1024) (A := at0 + 1) rfl hlt (by decide), nI_clamp (show at0 + 1 < 2 ^ 31 by omega), hs1, ic, bd1S, hB, hB2, decide_eq_false (show ¬ (64 ≤ c ∧ c ≤ 127) by omega), bI0]
      rw [eX]
      refine ⟨_, eM, ?_⟩
      refine Dd_of (s := s) (a1 := P % 16777216) (a2 := Q % 16777216) ?_ hbt hbs (by omega) (by omega) ?_ ?_ ?_ ?_ ?_ ?_ (fun h => ?_) (fun h => ?_) (fun h => by omega) ?_ ?_ ?_ ?_ hz ?_ ?_
      · exact (((((((((hC15.xf (by omega) _).xf (by omega) _).xf (by omega) _).mf (by omega) _).mf (by omega) _).mf (by omega) _).mf (by omega) _).mf (by omega) _).mf (by omega) _)
      all_goals simp only [u15, xF_F, mF_F, Nat.reduceEqDiff, ↓reduceIte, h0, h2, and_self]
