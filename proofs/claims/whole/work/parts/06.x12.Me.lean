def f_XMe_put (u0 : XS) (x1 : Int32) (x2 : Int32) : XS := if x1 < (0 : Int32) then u0 else if (1024 : Int32) ≤ x1 then u0 else nm (xsM u0 (Int32.toNatClampNeg x1) (x2 &&& (255 : Int32))) (fun (u_3 : XS) => u_3)
set_option maxHeartbeats 4000000 in
set_option maxRecDepth 100000 in
theorem c_XMe_put (l : Launch) (D : va_G) (a : Nat → Nat) (k : Nat → ClassId) (u0 : XS) (x1 : Int32) (x2 : Int32) : zMv l y_XMe_put w_XMe_put rm_XMe_put D clX (tyX k) nwX (xW a k) [.ref (a 2), .int x1, .int x2] u0 (f_XMe_put u0 x1 x2) := by
  generalize hF : f_XMe_put u0 x1 x2 = F
  have hf := hF.symm
  unfold f_XMe_put at hf
  refine zMv_of (cc := b_XMe_put) (maxL := 3) (own := RX_Me) (by decide) rfl rfl (Nat.le_of_ble_eq_true rfl) ?_
  intro p e R st m args below meth c A H locs Q ls hR hx hb hml hown hts hw hS hret hl
  subst hR
  have hcs : 0 ≤ (rm_XMe_put).cells ∧ 0 ≤ (rm_XMe_put).slots := ⟨Nat.zero_le _, Nat.zero_le _⟩
  have hl : lv_has ls 3 [(0, .ref (a 2)), (1, .int x1), (2, .int x2)] := hl
  refine lv_iload_n hx hb d_XMe_put_0 rfl (lv_at hl 1 rfl) ?_
  refine lv_if_lt (tgt := 22) hx hb d_XMe_put_1 (by decide) (fun c_1 => ?_) (fun c_1 => ?_)
  · have hf := hf.trans (if_pos c_1)
    exact hret _ _ _ _ _ d_XMe_put_22 hw hS hf
  · have hf := hf.trans (if_neg c_1)
    refine lv_iload_n hx hb d_XMe_put_4 rfl (lv_at hl 1 rfl) ?_
    refine lv_sipush (v := (1024 : Int32)) hx hb d_XMe_put_5 (by decide) ?_
    refine lv_icmp_ge (tgt := 22) hx hb d_XMe_put_8 (by decide) (fun c_2 => ?_) (fun c_2 => ?_)
    · have hf := hf.trans (if_pos c_2)
      exact hret _ _ _ _ _ d_XMe_put_22 hw hS hf
    · have hf := hf.trans (if_neg c_2)
      refine lv_aload_n hx hb d_XMe_put_11 rfl (lv_at hl 0 rfl) ?_
      refine va_get (v := .ref (a 3)) hx hb hts iX_Me hown hw.2.1 hw.1 2 rfl rfl 0 (by decide) (hts _ kX_Me_11) (fun _ h => h) rfl d_XMe_put_12 ?_
      refine lv_iload_n hx hb d_XMe_put_15 rfl (lv_at hl 1 rfl) ?_
      refine lv_iload_n hx hb d_XMe_put_16 rfl (lv_at hl 2 rfl) ?_
      refine lv_sipush (v := (255 : Int32)) hx hb d_XMe_put_17 (by decide) ?_
      refine lv_iand hx hb d_XMe_put_20 ?_
      refine z_iast (u' := xsM u0 (Int32.toNatClampNeg x1) (x2 &&& (255 : Int32))) hx hb hw hS 3 0 rfl rfl (z_in1024 (by assumption) (by assumption)) rfl d_XMe_put_21 (fun u_3 H locs eu_3 hw hS => ?_)
      have hf := hf.trans (nm_eq eu_3)
      exact hret _ _ _ _ _ d_XMe_put_22 hw hS hf
def g_XMe_putDecimal_22 (x1 : Int32) (L_8 : Int64 → Int32 → Int32 → XS → XS) : Int64 → Int32 → Int32 → XS → XS := fun y_4 x_5 x_6 u_7 => if x_6 < (0 : Int32) then u_7 else nm (f_XMe_put u_7 (x1 + x_6) (((Int64.toInt32 (y_4 - y_4 / (10 : Int64) * (10 : Int64))) * (16 : Int32)) + x_5)) (fun (u_11 : XS) => nm (Int64.toInt32 ((y_4 / (10 : Int64)) - (y_4 / (10 : Int64)) / (10 : Int64) * (10 : Int64))) (fun (x_12 : Int32) => nm (y_4 / (100 : Int64)) (fun (y_13 : Int64) => nm (x_6 + (-1 : Int32)) (fun (x_14 : Int32) => L_8 y_13 x_12 x_14 u_11))))
def f_XMe_putDecimal (u0 : XS) (x1 : Int32) (x2 : Int32) (y3 : Int64) (z5 : Bool) : XS := jn (fun (K_2 : Int32 → XS) => if (bI z5) = (0 : Int32) then K_2 (12 : Int32) else K_2 (13 : Int32)) (fun (x_1 : Int32) => nm (x2 - (1 : Int32)) (fun (x_3 : Int32) => lpN ((Int32.toInt x_3 + 1).toNat + 1) (g_XMe_putDecimal_22 x1) (fun _ _ _ _ => default) y3 x_1 x_3 u0))
set_option maxHeartbeats 4000000 in
set_option maxRecDepth 100000 in
theorem c_XMe_putDecimal (l : Launch) (D : va_G) (a : Nat → Nat) (k : Nat → ClassId) (u0 : XS) (x1 : Int32) (x2 : Int32) (y3 : Int64) (z5 : Bool) : zMv l y_XMe_putDecimal w_XMe_putDecimal rm_XMe_putDecimal D clX (tyX k) nwX (xW a k) [.ref (a 2), .int x1, .int x2, .long y3, .int (bI z5)] u0 (f_XMe_putDecimal u0 x1 x2 y3 z5) := by
  generalize hF : f_XMe_putDecimal u0 x1 x2 y3 z5 = F
  have hf := hF.symm
  unfold f_XMe_putDecimal at hf
  refine zMv_of (cc := b_XMe_putDecimal) (maxL := 10) (own := RX_Me) (by decide) rfl rfl (Nat.le_of_ble_eq_true rfl) ?_
  intro p e R st m args below meth c A H locs Q ls hR hx hb hml hown hts hw hS hret hl
  subst hR
  have hcs : 0 ≤ (rm_XMe_putDecimal).cells ∧ 0 ≤ (rm_XMe_putDecimal).slots := ⟨Nat.zero_le _, Nat.zero_le _⟩
  have hl : lv_has ls 10 [(0, .ref (a 2)), (1, .int x1), (2, .int x2), (3, .long y3), (5, .int (bI z5))] := hl
  refine lv_lload_n hx hb d_XMe_putDecimal_0 rfl (lv_at hl 3 rfl) ?_
  refine lv_lstore (lv' := [(6, .long y3), (0, .ref (a 2)), (1, .int x1), (2, .int x2), (3, .long y3), (5, .int (bI z5))]) hx hb d_XMe_putDecimal_1 hl (by decide) rfl (fun ls hl => ?_)
  refine lv_iload hx hb d_XMe_putDecimal_3 (lv_at hl 5 rfl) ?_
  refine jn_cut hf (fun (K_2 : Int32 → XS) => ∀ (x_1 : Int32), ∀ (ls : Array Slot), lv_has ls 10 [(0, .ref (a 2)), (1, .int x1), (2, .int x2), (6, .long y3)] → F = K_2 x_1 → W p l e rm_XMe_putDecimal st m args below meth c H locs 0 0 Q (F0 m 15 ls [.int x_1])) ?_ ?_
  · intro x_1 ls hl hf
    refine lv_istore (lv' := [(8, .int x_1), (0, .ref (a 2)), (1, .int x1), (2, .int x2), (6, .long y3)]) hx hb d_XMe_putDecimal_15 hl (by decide) rfl (fun ls hl => ?_)
    refine lv_iload_n hx hb d_XMe_putDecimal_17 rfl (lv_at hl 3 rfl) ?_
    refine lv_iconst (v := (1 : Int32)) hx hb d_XMe_putDecimal_18 (by decide) ?_
    refine lv_isub hx hb d_XMe_putDecimal_19 ?_
    refine lv_topi (fun x_3 ex_3 => ?_)
    have hf := hf.trans (nm_eq ex_3)
    refine lv_istore (lv' := [(9, .int x_3), (8, .int x_1), (0, .ref (a 2)), (1, .int x1), (2, .int x2), (6, .long y3)]) hx hb d_XMe_putDecimal_20 hl (by decide) rfl (fun ls hl => ?_)
    refine lp_cut (fun (n_9 : Nat) (L_8 : Int64 → Int32 → Int32 → XS → XS) => ∀ (y_4 : Int64) (x_5 : Int32) (x_6 : Int32) (u_7 : XS), (Int32.toInt x_6 + 1).toNat < n_9 → ∀ (H : Heap) (locs : List Loc), zW D clX (tyX k) nwX (xW a k) A st u_7 H → va_S A st.heap H locs → ∀ (ls : Array Slot), lv_has ls 10 [(0, .ref (a 2)), (1, .int x1), (6, .long y_4), (8, .int x_5), (9, .int x_6)] → F = L_8 y_4 x_5 x_6 u_7 → W p l e rm_XMe_putDecimal st m args below meth c H locs 0 0 Q (F0 m 22 ls [])) ?_ ?_ ((Int32.toInt x_3 + 1).toNat + 1) y3 x_1 x_3 u0 (Nat.lt_succ_self _) _ _ hw hS _ (lv_sub hl [2, 3, 5, 1, 0] rfl) hf
    · intro y_4 x_5 x_6 u_7 hn; exact absurd hn (Nat.not_lt_zero _)
    · intro n_9 L_8 hL_8 y_4 x_5 x_6 u_7 hn H locs hw hS ls hl hf
      unfold g_XMe_putDecimal_22 at hf
      refine lv_iload hx hb d_XMe_putDecimal_22 (lv_at hl 4 rfl) ?_
      refine lv_if_lt (tgt := 75) hx hb d_XMe_putDecimal_24 (by decide) (fun c_10 => ?_) (fun c_10 => ?_)
      · have hf := hf.trans (if_pos c_10)
        exact hret _ _ _ _ _ d_XMe_putDecimal_75 hw hS hf
      · have hf := hf.trans (if_neg c_10)
        refine lv_aload_n hx hb d_XMe_putDecimal_27 rfl (lv_at hl 0 rfl) ?_
        refine lv_iload_n hx hb d_XMe_putDecimal_28 rfl (lv_at hl 1 rfl) ?_
        refine lv_iload hx hb d_XMe_putDecimal_29 (lv_at hl 4 rfl) ?_
        refine lv_iadd hx hb d_XMe_putDecimal_31 ?_
        refine lv_lload hx hb d_XMe_putDecimal_32 (lv_at hl 2 rfl) ?_
        refine lv_ldc2 (v := (10 : Int64)) hx hb hown (hts _ kX_Me_31) d_XMe_putDecimal_34 ?_
        refine lv_lrem hx hb d_XMe_putDecimal_37 (by decide) ?_
        refine lv_l2i (v := Int64.toInt32 (y_4 - y_4 / (10 : Int64) * (10 : Int64))) hx hb d_XMe_putDecimal_38 rfl ?_
        refine lv_bipush (v := (16 : Int32)) hx hb d_XMe_putDecimal_39 (by decide) ?_
        refine lv_imul hx hb d_XMe_putDecimal_41 ?_
        refine lv_iload hx hb d_XMe_putDecimal_42 (lv_at hl 3 rfl) ?_
        refine lv_iadd hx hb d_XMe_putDecimal_44 ?_
        refine z_wv (z_runV (As := [.int (x1 + x_6), .int (((Int64.toInt32 (y_4 - y_4 / (10 : Int64) * (10 : Int64))) * (16 : Int32)) + x_5)]) (rest := []) ⟨hx, hb, hml, hown, hts⟩ (c_XMe_put l D a k u_7 (x1 + x_6) (((Int64.toInt32 (y_4 - y_4 / (10 : Int64) * (10 : Int64))) * (16 : Int32)) + x_5)) (qX_Me_25 hts (by decide)) hw 2 rfl rfl hl.1 rfl (lv_room (Nat.le_of_ble_eq_true rfl)) d_XMe_putDecimal_45 hcs) hw hS (fun u_11 H locs eu_11 hw hS => ?_)
        have hf := hf.trans (nm_eq eu_11)
        refine lv_lload hx hb d_XMe_putDecimal_48 (lv_at hl 2 rfl) ?_
        refine lv_ldc2 (v := (10 : Int64)) hx hb hown (hts _ kX_Me_31) d_XMe_putDecimal_50 ?_
        refine lv_ldiv hx hb d_XMe_putDecimal_53 (by decide) ?_
        refine lv_ldc2 (v := (10 : Int64)) hx hb hown (hts _ kX_Me_31) d_XMe_putDecimal_54 ?_
        refine lv_lrem hx hb d_XMe_putDecimal_57 (by decide) ?_
        refine lv_l2i (v := Int64.toInt32 ((y_4 / (10 : Int64)) - (y_4 / (10 : Int64)) / (10 : Int64) * (10 : Int64))) hx hb d_XMe_putDecimal_58 rfl ?_
        refine lv_topi (fun x_12 ex_12 => ?_)
        have hf := hf.trans (nm_eq ex_12)
        refine lv_istore (lv' := [(8, .int x_12), (0, .ref (a 2)), (1, .int x1), (6, .long y_4), (9, .int x_6)]) hx hb d_XMe_putDecimal_59 hl (by decide) rfl (fun ls hl => ?_)
        refine lv_lload hx hb d_XMe_putDecimal_61 (lv_at hl 3 rfl) ?_
        refine lv_ldc2 (v := (100 : Int64)) hx hb hown (hts _ kX_Me_29) d_XMe_putDecimal_63 ?_
        refine lv_ldiv hx hb d_XMe_putDecimal_66 (by decide) ?_
        refine lv_topl (fun y_13 ey_13 => ?_)
        have hf := hf.trans (nm_eq ey_13)
        refine lv_lstore (lv' := [(6, .long y_13), (8, .int x_12), (0, .ref (a 2)), (1, .int x1), (9, .int x_6)]) hx hb d_XMe_putDecimal_67 hl (by decide) rfl (fun ls hl => ?_)
        obtain ⟨x_14, ex_14⟩ : ∃ y : Int32, y = x_6 + (-1 : Int32) := ⟨_, rfl⟩
        have hf := hf.trans (nm_eq ex_14)
        refine lv_iinc (v := x_14) (lv' := [(9, .int x_14), (6, .long y_13), (8, .int x_12), (0, .ref (a 2)), (1, .int x1)]) hx hb d_XMe_putDecimal_69 hl (k := 4) rfl (by rw [ex_14]; rfl) (by decide) rfl (fun ls hl => ?_)
        refine lv_goto (tgt := 22) hx hb d_XMe_putDecimal_72 (by decide) ?_
        exact hL_8 y_13 x_12 x_14 u_11 (mu_dn c_10 ex_14 hn) _ _ hw hS _ (lv_sub hl [3, 4, 1, 2, 0] rfl) hf
  · intro K_2 hK_2 hf
    refine lv_if_eq (tgt := 13) hx hb d_XMe_putDecimal_5 (by decide) (fun c_15 => ?_) (fun c_15 => ?_)
    · have hf := hf.trans (if_pos c_15)
      refine lv_bipush (v := (12 : Int32)) hx hb d_XMe_putDecimal_13 (by decide) ?_
      exact hK_2 (12 : Int32) _ (lv_sub hl [1, 2, 3, 0] rfl) hf
    · have hf := hf.trans (if_neg c_15)
      refine lv_bipush (v := (13 : Int32)) hx hb d_XMe_putDecimal_8 (by decide) ?_
      refine lv_goto (tgt := 15) hx hb d_XMe_putDecimal_10 (by decide) ?_
      exact hK_2 (13 : Int32) _ (lv_sub hl [1, 2, 3, 0] rfl) hf
def g_XMe_isPacked_37 (x2 : Int32) (u0 : XS) (x1 : Int32) (L_6 : Bool → Int32 → Bool) : Bool → Int32 → Bool := fun z_4 x_5 => if (x2 - (1 : Int32)) ≤ x_5 then z_4 else nm (f_XMe_get u0 (x1 + x_5)) (fun (x_9 : Int32) => jn (fun (K_11 : Bool → Bool) => jn (fun (K_13 : Bool) => if (bI z_4) = (0 : Int32) then K_13 else if (9 : Int32) < (x_9 >>> ((4 : Int32) &&& 31)) then K_13 else if (9 : Int32) < (x_9 &&& (15 : Int32)) then K_13 else K_11 true) (K_11 false)) (fun (z_10 : Bool) => nm (x_5 + (1 : Int32)) (fun (x_12 : Int32) => L_6 z_10 x_12)))
def f_XMe_isPacked (u0 : XS) (x1 : Int32) (x2 : Int32) : Bool := nm (f_XMe_get u0 ((x1 + x2) - (1 : Int32))) (fun (x_1 : Int32) => jn (fun (K_3 : Bool → Bool) => jn (fun (K_17 : Bool) => if (9 : Int32) < (x_1 >>> ((4 : Int32) &&& 31)) then K_17 else if (x_1 &&& (15 : Int32)) < (10 : Int32) then K_17 else K_3 true) (K_3 false)) (fun (z_2 : Bool) => lpN ((Int32.toInt (x2 - 1) - Int32.toInt (0 : Int32)).toNat + 1) (g_XMe_isPacked_37 x2 u0 x1) (fun _ _ => default) z_2 (0 : Int32)))
set_option maxHeartbeats 4000000 in
set_option maxRecDepth 100000 in
theorem c_XMe_isPacked (l : Launch) (D : va_G) (a : Nat → Nat) (k : Nat → ClassId) (u0 : XS) (x1 : Int32) (x2 : Int32) : zRz l y_XMe_isPacked w_XMe_isPacked rm_XMe_isPacked D clX (tyX k) nwX (xW a k) [.ref (a 2), .int x1, .int x2] u0 (f_XMe_isPacked u0 x1 x2) := by
  generalize hF : f_XMe_isPacked u0 x1 x2 = F
  have hf := hF.symm
  unfold f_XMe_isPacked at hf
  refine zRz_of (cc := b_XMe_isPacked) (maxL := 7) (own := RX_Me) (by decide) rfl rfl (Nat.le_of_ble_eq_true rfl) ?_
  intro p e R st m args below meth c H locs Q ls hR hx hb hml hown hts hw hret hl
  subst hR
  have hcs : 0 ≤ (rm_XMe_isPacked).cells ∧ 0 ≤ (rm_XMe_isPacked).slots := ⟨Nat.zero_le _, Nat.zero_le _⟩
  have hl : lv_has ls 7 [(0, .ref (a 2)), (1, .int x1), (2, .int x2)] := hl
  refine lv_aload_n hx hb d_XMe_isPacked_0 rfl (lv_at hl 0 rfl) ?_
  refine lv_iload_n hx hb d_XMe_isPacked_1 rfl (lv_at hl 1 rfl) ?_
  refine lv_iload_n hx hb d_XMe_isPacked_2 rfl (lv_at hl 2 rfl) ?_
  refine lv_iadd hx hb d_XMe_isPacked_3 ?_
  refine lv_iconst (v := (1 : Int32)) hx hb d_XMe_isPacked_4 (by decide) ?_
  refine lv_isub hx hb d_XMe_isPacked_5 ?_
  refine z_ri (z_runV (As := [.int ((x1 + x2) - (1 : Int32))]) (rest := []) ⟨hx, hb, hml, hown, hts⟩ (c_XMe_get l D a k u0 ((x1 + x2) - (1 : Int32))) (qX_Me_19 hts (by decide)) hw 2 rfl rfl hl.1 rfl (lv_room (Nat.le_of_ble_eq_true rfl)) d_XMe_isPacked_6 hcs) (fun x_1 ex_1 => ?_)
  have hf := hf.trans (nm_eq ex_1)
  refine lv_istore_n (lv' := [(3, .int x_1), (0, .ref (a 2)), (1, .int x1), (2, .int x2)]) hx hb d_XMe_isPacked_9 rfl hl (by decide) rfl (fun ls hl => ?_)
  refine lv_iload_n hx hb d_XMe_isPacked_10 rfl (lv_at hl 0 rfl) ?_
  refine lv_iconst (v := (4 : Int32)) hx hb d_XMe_isPacked_11 (by decide) ?_
  refine lv_ishr hx hb d_XMe_isPacked_12 ?_
  refine lv_bipush (v := (9 : Int32)) hx hb d_XMe_isPacked_13 (by decide) ?_
  refine jn_cut hf (fun (K_3 : Bool → Bool) => ∀ (z_2 : Bool), ∀ (ls : Array Slot), lv_has ls 7 [(0, .ref (a 2)), (1, .int x1), (2, .int x2)] → F = K_3 z_2 → W p l e rm_XMe_isPacked st m args below meth c H locs 0 0 Q (F0 m 32 ls [.int (bI z_2)])) ?_ ?_
  · intro z_2 ls hl hf
    refine lv_istore (lv' := [(4, .int (bI z_2)), (0, .ref (a 2)), (1, .int x1), (2, .int x2)]) hx hb d_XMe_isPacked_32 hl (by decide) rfl (fun ls hl => ?_)
    refine lv_iconst (v := (0 : Int32)) hx hb d_XMe_isPacked_34 (by decide) ?_
    refine lv_istore (lv' := [(5, .int (0 : Int32)), (4, .int (bI z_2)), (0, .ref (a 2)), (1, .int x1), (2, .int x2)]) hx hb d_XMe_isPacked_35 hl (by decide) rfl (fun ls hl => ?_)
    refine lp_cut (fun (n_7 : Nat) (L_6 : Bool → Int32 → Bool) => ∀ (z_4 : Bool) (x_5 : Int32), (Int32.toInt (x2 - 1) - Int32.toInt x_5).toNat < n_7 → ∀ (ls : Array Slot), lv_has ls 7 [(0, .ref (a 2)), (1, .int x1), (2, .int x2), (4, .int (bI z_4)), (5, .int x_5)] → F = L_6 z_4 x_5 → W p l e rm_XMe_isPacked st m args below meth c H locs 0 0 Q (F0 m 37 ls [])) ?_ ?_ ((Int32.toInt (x2 - 1) - Int32.toInt (0 : Int32)).toNat + 1) z_2 (0 : Int32) (Nat.lt_succ_self _) _ (lv_sub hl [2, 3, 4, 1, 0] rfl) hf
    · intro z_4 x_5 hn; exact absurd hn (Nat.not_lt_zero _)
    · intro n_7 L_6 hL_6 z_4 x_5 hn ls hl hf
      unfold g_XMe_isPacked_37 at hf
      refine lv_iload hx hb d_XMe_isPacked_37 (lv_at hl 4 rfl) ?_
      refine lv_iload_n hx hb d_XMe_isPacked_39 rfl (lv_at hl 2 rfl) ?_
      refine lv_iconst (v := (1 : Int32)) hx hb d_XMe_isPacked_40 (by decide) ?_
      refine lv_isub hx hb d_XMe_isPacked_41 ?_
      refine lv_icmp_ge (tgt := 92) hx hb d_XMe_isPacked_42 (by decide) (fun c_8 => ?_) (fun c_8 => ?_)
      · have hf := hf.trans (if_pos c_8)
        refine lv_iload hx hb d_XMe_isPacked_92 (lv_at hl 3 rfl) ?_
        exact hret z_4 _ _ d_XMe_isPacked_94 hf
      · have hf := hf.trans (if_neg c_8)
        refine lv_aload_n hx hb d_XMe_isPacked_45 rfl (lv_at hl 0 rfl) ?_
        refine lv_iload_n hx hb d_XMe_isPacked_46 rfl (lv_at hl 1 rfl) ?_
        refine lv_iload hx hb d_XMe_isPacked_47 (lv_at hl 4 rfl) ?_
        refine lv_iadd hx hb d_XMe_isPacked_49 ?_
        refine z_ri (z_runV (As := [.int (x1 + x_5)]) (rest := []) ⟨hx, hb, hml, hown, hts⟩ (c_XMe_get l D a k u0 (x1 + x_5)) (qX_Me_19 hts (by decide)) hw 2 rfl rfl hl.1 rfl (lv_room (Nat.le_of_ble_eq_true rfl)) d_XMe_isPacked_50 hcs) (fun x_9 ex_9 => ?_)
        have hf := hf.trans (nm_eq ex_9)
        refine lv_istore (lv' := [(6, .int x_9), (0, .ref (a 2)), (1, .int x1), (2, .int x2), (4, .int (bI z_4)), (5, .int x_5)]) hx hb d_XMe_isPacked_53 hl (by decide) rfl (fun ls hl => ?_)
        refine lv_iload hx hb d_XMe_isPacked_55 (lv_at hl 4 rfl) ?_
        refine jn_cut hf (fun (K_11 : Bool → Bool) => ∀ (z_10 : Bool), ∀ (ls : Array Slot), lv_has ls 7 [(0, .ref (a 2)), (1, .int x1), (2, .int x2), (5, .int x_5)] → F = K_11 z_10 → W p l e rm_XMe_isPacked st m args below meth c H locs 0 0 Q (F0 m 84 ls [.int (bI z_10)])) ?_ ?_
        · intro z_10 ls hl hf
          refine lv_istore (lv' := [(4, .int (bI z_10)), (0, .ref (a 2)), (1, .int x1), (2, .int x2), (5, .int x_5)]) hx hb d_XMe_isPacked_84 hl (by decide) rfl (fun ls hl => ?_)
          obtain ⟨x_12, ex_12⟩ : ∃ y : Int32, y = x_5 + (1 : Int32) := ⟨_, rfl⟩
          have hf := hf.trans (nm_eq ex_12)
          refine lv_iinc (v := x_12) (lv' := [(5, .int x_12), (4, .int (bI z_10)), (0, .ref (a 2)), (1, .int x1), (2, .int x2)]) hx hb d_XMe_isPacked_86 hl (k := 4) rfl (by rw [ex_12]; rfl) (by decide) rfl (fun ls hl => ?_)
          refine lv_goto (tgt := 37) hx hb d_XMe_isPacked_89 (by decide) ?_
          exact hL_6 z_10 x_12 (mu_up c_8 ex_12 hn) _ (lv_sub hl [2, 3, 4, 1, 0] rfl) hf
        · intro K_11 hK_11 hf
          refine jn_cut hf (fun (K_13 : Bool) => ∀ (ls : Array Slot), lv_has ls 7 [(0, .ref (a 2)), (1, .int x1), (2, .int x2), (5, .int x_5)] → F = K_13 → W p l e rm_XMe_isPacked st m args below meth c H locs 0 0 Q (F0 m 83 ls [])) ?_ ?_
          · intro ls hl hf
            refine lv_iconst (v := (0 : Int32)) hx hb d_XMe_isPacked_83 (by decide) ?_
            exact hK_11 false _ (lv_sub hl [0, 1, 2, 3] rfl) hf
          · intro K_13 hK_13 hf
            refine lv_if_eq (tgt := 83) hx hb d_XMe_isPacked_57 (by decide) (fun c_14 => ?_) (fun c_14 => ?_)
            · have hf := hf.trans (if_pos c_14)
              exact hK_13 _ (lv_sub hl [1, 2, 3, 5] rfl) hf
            · have hf := hf.trans (if_neg c_14)
              refine lv_iload hx hb d_XMe_isPacked_60 (lv_at hl 0 rfl) ?_
              refine lv_iconst (v := (4 : Int32)) hx hb d_XMe_isPacked_62 (by decide) ?_
              refine lv_ishr hx hb d_XMe_isPacked_63 ?_
              refine lv_bipush (v := (9 : Int32)) hx hb d_XMe_isPacked_64 (by decide) ?_
              refine lv_icmp_gt (tgt := 83) hx hb d_XMe_isPacked_66 (by decide) (fun c_15 => ?_) (fun c_15 => ?_)
              · have hf := hf.trans (if_pos c_15)
                exact hK_13 _ (lv_sub hl [1, 2, 3, 5] rfl) hf
              · have hf := hf.trans (if_neg c_15)
                refine lv_iload hx hb d_XMe_isPacked_69 (lv_at hl 0 rfl) ?_
                refine lv_bipush (v := (15 : Int32)) hx hb d_XMe_isPacked_71 (by decide) ?_
                refine lv_iand hx hb d_XMe_isPacked_73 ?_
                refine lv_bipush (v := (9 : Int32)) hx hb d_XMe_isPacked_74 (by decide) ?_
                refine lv_icmp_gt (tgt := 83) hx hb d_XMe_isPacked_76 (by decide) (fun c_16 => ?_) (fun c_16 => ?_)
                · have hf := hf.trans (if_pos c_16)
                  exact hK_13 _ (lv_sub hl [1, 2, 3, 5] rfl) hf
                · have hf := hf.trans (if_neg c_16)
                  refine lv_iconst (v := (1 : Int32)) hx hb d_XMe_isPacked_79 (by decide) ?_
                  refine lv_goto (tgt := 84) hx hb d_XMe_isPacked_80 (by decide) ?_
                  exact hK_11 true _ (lv_sub hl [1, 2, 3, 5] rfl) hf
  · intro K_3 hK_3 hf
    refine jn_cut hf (fun (K_17 : Bool) => ∀ (ls : Array Slot), lv_has ls 7 [(0, .ref (a 2)), (1, .int x1), (2, .int x2)] → F = K_17 → W p l e rm_XMe_isPacked st m args below meth c H locs 0 0 Q (F0 m 31 ls [])) ?_ ?_
    · intro ls hl hf
      refine lv_iconst (v := (0 : Int32)) hx hb d_XMe_isPacked_31 (by decide) ?_
      exact hK_3 false _ (lv_sub hl [0, 1, 2] rfl) hf
    · intro K_17 hK_17 hf
      refine lv_icmp_gt (tgt := 31) hx hb d_XMe_isPacked_15 (by decide) (fun c_18 => ?_) (fun c_18 => ?_)
      · have hf := hf.trans (if_pos c_18)
        exact hK_17 _ (lv_sub hl [1, 2, 3] rfl) hf
      · have hf := hf.trans (if_neg c_18)
        refine lv_iload_n hx hb d_XMe_isPacked_18 rfl (lv_at hl 0 rfl) ?_
        refine lv_bipush (v := (15 : Int32)) hx hb d_XMe_isPacked_19 (by decide) ?_
        refine lv_iand hx hb d_XMe_isPacked_21 ?_
        refine lv_bipush (v := (10 : Int32)) hx hb d_XMe_isPacked_22 (by decide) ?_
        refine lv_icmp_lt (tgt := 31) hx hb d_XMe_isPacked_24 (by decide) (fun c_19 => ?_) (fun c_19 => ?_)
        · have hf := hf.trans (if_pos c_19)
          exact hK_17 _ (lv_sub hl [1, 2, 3] rfl) hf
        · have hf := hf.trans (if_neg c_19)
          refine lv_iconst (v := (1 : Int32)) hx hb d_XMe_isPacked_27 (by decide) ?_
          refine lv_goto (tgt := 32) hx hb d_XMe_isPacked_28 (by decide) ?_
          exact hK_3 true _ (lv_sub hl [1, 2, 3] rfl) hf
def f_XMe_isMinus (u0 : XS) (x1 : Int32) (x2 : Int32) : Bool := nm (f_XMe_get u0 ((x1 + x2) - (1 : Int32))) (fun (x_1 : Int32) => nm (x_1 &&& (15 : Int32)) (fun (x_2 : Int32) => if x_2 = (13 : Int32) then true else if x_2 = (11 : Int32) then true else false))
set_option maxHeartbeats 4000000 in
set_option maxRecDepth 100000 in
theorem c_XMe_isMinus (l : Launch) (D : va_G) (a : Nat → Nat) (k : Nat → ClassId) (u0 : XS) (x1 : Int32) (x2 : Int32) : zRz l y_XMe_isMinus w_XMe_isMinus rm_XMe_isMinus D clX (tyX k) nwX (xW a k) [.ref (a 2), .int x1, .int x2] u0 (f_XMe_isMinus u0 x1 x2) := by
  generalize hF : f_XMe_isMinus u0 x1 x2 = F
  have hf := hF.symm
  unfold f_XMe_isMinus at hf
  refine zRz_of (cc := b_XMe_isMinus) (maxL := 4) (own := RX_Me) (by decide) rfl rfl (Nat.le_of_ble_eq_true rfl) ?_
  intro p e R st m args below meth c H locs Q ls hR hx hb hml hown hts hw hret hl
  subst hR
  have hcs : 0 ≤ (rm_XMe_isMinus).cells ∧ 0 ≤ (rm_XMe_isMinus).slots := ⟨Nat.zero_le _, Nat.zero_le _⟩
  have hl : lv_has ls 4 [(0, .ref (a 2)), (1, .int x1), (2, .int x2)] := hl
  refine lv_aload_n hx hb d_XMe_isMinus_0 rfl (lv_at hl 0 rfl) ?_
  refine lv_iload_n hx hb d_XMe_isMinus_1 rfl (lv_at hl 1 rfl) ?_
  refine lv_iload_n hx hb d_XMe_isMinus_2 rfl (lv_at hl 2 rfl) ?_
  refine lv_iadd hx hb d_XMe_isMinus_3 ?_
  refine lv_iconst (v := (1 : Int32)) hx hb d_XMe_isMinus_4 (by decide) ?_
  refine lv_isub hx hb d_XMe_isMinus_5 ?_
  refine z_ri (z_runV (As := [.int ((x1 + x2) - (1 : Int32))]) (rest := []) ⟨hx, hb, hml, hown, hts⟩ (c_XMe_get l D a k u0 ((x1 + x2) - (1 : Int32))) (qX_Me_19 hts (by decide)) hw 2 rfl rfl hl.1 rfl (lv_room (Nat.le_of_ble_eq_true rfl)) d_XMe_isMinus_6 hcs) (fun x_1 ex_1 => ?_)
  have hf := hf.trans (nm_eq ex_1)
  refine lv_bipush (v := (15 : Int32)) hx hb d_XMe_isMinus_9 (by decide) ?_
  refine lv_iand hx hb d_XMe_isMinus_11 ?_
  refine lv_topi (fun x_2 ex_2 => ?_)
  have hf := hf.trans (nm_eq ex_2)
  refine lv_istore_n (lv' := [(3, .int x_2), (0, .ref (a 2)), (1, .int x1), (2, .int x2)]) hx hb d_XMe_isMinus_12 rfl hl (by decide) rfl (fun ls hl => ?_)
  refine lv_iload_n hx hb d_XMe_isMinus_13 rfl (lv_at hl 0 rfl) ?_
  refine lv_bipush (v := (13 : Int32)) hx hb d_XMe_isMinus_14 (by decide) ?_
  refine lv_icmp_eq (tgt := 25) hx hb d_XMe_isMinus_16 (by decide) (fun c_3 => ?_) (fun c_3 => ?_)
  · have hf := hf.trans (if_pos c_3)
    refine lv_iconst (v := (1 : Int32)) hx hb d_XMe_isMinus_25 (by decide) ?_
    refine lv_goto (tgt := 30) hx hb d_XMe_isMinus_26 (by decide) ?_
    exact hret true _ _ d_XMe_isMinus_30 hf
  · have hf := hf.trans (if_neg c_3)
    refine lv_iload_n hx hb d_XMe_isMinus_19 rfl (lv_at hl 0 rfl) ?_
    refine lv_bipush (v := (11 : Int32)) hx hb d_XMe_isMinus_20 (by decide) ?_
    refine lv_icmp_ne (tgt := 29) hx hb d_XMe_isMinus_22 (by decide) (fun c_4 => ?_) (fun c_4 => ?_)
    · have hf := hf.trans (if_neg c_4)
      refine lv_iconst (v := (0 : Int32)) hx hb d_XMe_isMinus_29 (by decide) ?_
      exact hret false _ _ d_XMe_isMinus_30 hf
    · have hf := hf.trans (if_pos c_4)
      refine lv_iconst (v := (1 : Int32)) hx hb d_XMe_isMinus_25 (by decide) ?_
      refine lv_goto (tgt := 30) hx hb d_XMe_isMinus_26 (by decide) ?_
      exact hret true _ _ d_XMe_isMinus_30 hf
def g_XMe_decimal_5 (x2 : Int32) (K_2 : Int64 → Int64) (u0 : XS) (x1 : Int32) (L_9 : Int64 → Int32 → Int64) : Int64 → Int32 → Int64 := fun y_7 x_8 => if (x2 - (1 : Int32)) ≤ x_8 then K_2 y_7 else nm (f_XMe_get u0 (x1 + x_8)) (fun (x_12 : Int32) => nm (((y_7 * (100 : Int64)) + (Int32.toInt64 ((x_12 >>> ((4 : Int32) &&& 31)) * (10 : Int32)))) + (Int32.toInt64 (x_12 &&& (15 : Int32)))) (fun (y_13 : Int64) => nm (x_8 + (1 : Int32)) (fun (x_14 : Int32) => L_9 y_13 x_14)))
def f_XMe_decimal (u0 : XS) (x1 : Int32) (x2 : Int32) : Int64 := jn (fun (K_2 : Int64 → Int64) => lpN ((Int32.toInt (x2 - 1) - Int32.toInt (0 : Int32)).toNat + 1) (g_XMe_decimal_5 x2 K_2 u0 x1) (fun _ _ => default) (0 : Int64) (0 : Int32)) (fun (y_1 : Int64) => nm (f_XMe_get u0 ((x1 + x2) - (1 : Int32))) (fun (x_3 : Int32) => nm ((y_1 * (10 : Int64)) + (Int32.toInt64 (x_3 >>> ((4 : Int32) &&& 31)))) (fun (y_4 : Int64) => nm (f_XMe_isMinus u0 x1 x2) (fun (z_5 : Bool) => if (bI z_5) = (0 : Int32) then y_4 else (-y_4)))))
set_option maxHeartbeats 4000000 in
set_option maxRecDepth 100000 in
theorem c_XMe_decimal (l : Launch) (D : va_G) (a : Nat → Nat) (k : Nat → ClassId) (u0 : XS) (x1 : Int32) (x2 : Int32) : zRl l y_XMe_decimal w_XMe_decimal rm_XMe_decimal D clX (tyX k) nwX (xW a k) [.ref (a 2), .int x1, .int x2] u0 (f_XMe_decimal u0 x1 x2) := by
  generalize hF : f_XMe_decimal u0 x1 x2 = F
  have hf := hF.symm
  unfold f_XMe_decimal at hf
  refine zRl_of (cc := b_XMe_decimal) (maxL := 7) (own := RX_Me) (by decide) rfl rfl (Nat.le_of_ble_eq_true rfl) ?_
  intro p e R st m args below meth c H locs Q ls hR hx hb hml hown hts hw hret hl
  subst hR
  have hcs : 0 ≤ (rm_XMe_decimal).cells ∧ 0 ≤ (rm_XMe_decimal).slots := ⟨Nat.zero_le _, Nat.zero_le _⟩
  have hl : lv_has ls 7 [(0, .ref (a 2)), (1, .int x1), (2, .int x2)] := hl
  refine lv_lconst (v := 0) hx hb d_XMe_decimal_0 (by decide) ?_
  refine lv_lstore_n (lv' := [(3, .long (0 : Int64)), (0, .ref (a 2)), (1, .int x1), (2, .int x2)]) hx hb d_XMe_decimal_1 rfl hl (by decide) rfl (fun ls hl => ?_)
  refine lv_iconst (v := (0 : Int32)) hx hb d_XMe_decimal_2 (by decide) ?_
  refine lv_istore (lv' := [(5, .int (0 : Int32)), (3, .long (0 : Int64)), (0, .ref (a 2)), (1, .int x1), (2, .int x2)]) hx hb d_XMe_decimal_3 hl (by decide) rfl (fun ls hl => ?_)
  refine jn_cut hf (fun (K_2 : Int64 → Int64) => ∀ (y_1 : Int64), ∀ (ls : Array Slot), lv_has ls 7 [(0, .ref (a 2)), (1, .int x1), (2, .int x2), (3, .long y_1)] → F = K_2 y_1 → W p l e rm_XMe_decimal st m args below meth c H locs 0 0 Q (F0 m 51 ls [])) ?_ ?_
  · intro y_1 ls hl hf
    refine lv_lload_n hx hb d_XMe_decimal_51 rfl (lv_at hl 3 rfl) ?_
    refine lv_ldc2 (v := (10 : Int64)) hx hb hown (hts _ kX_Me_31) d_XMe_decimal_52 ?_
    refine lv_lmul hx hb d_XMe_decimal_55 ?_
    refine lv_aload_n hx hb d_XMe_decimal_56 rfl (lv_at hl 0 rfl) ?_
    refine lv_iload_n hx hb d_XMe_decimal_57 rfl (lv_at hl 1 rfl) ?_
    refine lv_iload_n hx hb d_XMe_decimal_58 rfl (lv_at hl 2 rfl) ?_
    refine lv_iadd hx hb d_XMe_decimal_59 ?_
    refine lv_iconst (v := (1 : Int32)) hx hb d_XMe_decimal_60 (by decide) ?_
    refine lv_isub hx hb d_XMe_decimal_61 ?_
    refine z_ri (z_runV (As := [.int ((x1 + x2) - (1 : Int32))]) (rest := [.long (y_1 * (10 : Int64))]) ⟨hx, hb, hml, hown, hts⟩ (c_XMe_get l D a k u0 ((x1 + x2) - (1 : Int32))) (qX_Me_19 hts (by decide)) hw 2 rfl rfl hl.1 rfl (lv_room (Nat.le_of_ble_eq_true rfl)) d_XMe_decimal_62 hcs) (fun x_3 ex_3 => ?_)
    have hf := hf.trans (nm_eq ex_3)
    refine lv_iconst (v := (4 : Int32)) hx hb d_XMe_decimal_65 (by decide) ?_
    refine lv_ishr hx hb d_XMe_decimal_66 ?_
    refine lv_i2l (v := Int32.toInt64 (x_3 >>> ((4 : Int32) &&& 31))) hx hb d_XMe_decimal_67 rfl ?_
    refine lv_ladd hx hb d_XMe_decimal_68 ?_
    refine lv_topl (fun y_4 ey_4 => ?_)
    have hf := hf.trans (nm_eq ey_4)
    refine lv_lstore_n (lv' := [(3, .long y_4), (0, .ref (a 2)), (1, .int x1), (2, .int x2)]) hx hb d_XMe_decimal_69 rfl hl (by decide) rfl (fun ls hl => ?_)
    refine lv_aload_n hx hb d_XMe_decimal_70 rfl (lv_at hl 1 rfl) ?_
    refine lv_iload_n hx hb d_XMe_decimal_71 rfl (lv_at hl 2 rfl) ?_
    refine lv_iload_n hx hb d_XMe_decimal_72 rfl (lv_at hl 3 rfl) ?_
    refine z_rz (z_runV (As := [.int x1, .int x2]) (rest := []) ⟨hx, hb, hml, hown, hts⟩ (c_XMe_isMinus l D a k u0 x1 x2) (qX_Me_33 hts (by decide)) hw 2 rfl rfl hl.1 rfl (lv_room (Nat.le_of_ble_eq_true rfl)) d_XMe_decimal_73 hcs) (fun z_5 ez_5 => ?_)
    have hf := hf.trans (nm_eq ez_5)
    refine lv_if_eq (tgt := 84) hx hb d_XMe_decimal_76 (by decide) (fun c_6 => ?_) (fun c_6 => ?_)
    · have hf := hf.trans (if_pos c_6)
      refine lv_lload_n hx hb d_XMe_decimal_84 rfl (lv_at hl 0 rfl) ?_
      exact hret y_4 _ _ d_XMe_decimal_85 hf
    · have hf := hf.trans (if_neg c_6)
      refine lv_lload_n hx hb d_XMe_decimal_79 rfl (lv_at hl 0 rfl) ?_
      refine lv_lneg hx hb d_XMe_decimal_80 ?_
      refine lv_goto (tgt := 85) hx hb d_XMe_decimal_81 (by decide) ?_
      exact hret (-y_4) _ _ d_XMe_decimal_85 hf
  · intro K_2 hK_2 hf
    refine lp_cut (fun (n_10 : Nat) (L_9 : Int64 → Int32 → Int64) => ∀ (y_7 : Int64) (x_8 : Int32), (Int32.toInt (x2 - 1) - Int32.toInt x_8).toNat < n_10 → ∀ (ls : Array Slot), lv_has ls 7 [(0, .ref (a 2)), (1, .int x1), (2, .int x2), (3, .long y_7), (5, .int x_8)] → F = L_9 y_7 x_8 → W p l e rm_XMe_decimal st m args below meth c H locs 0 0 Q (F0 m 5 ls [])) ?_ ?_ ((Int32.toInt (x2 - 1) - Int32.toInt (0 : Int32)).toNat + 1) (0 : Int64) (0 : Int32) (Nat.lt_succ_self _) _ (lv_sub hl [2, 3, 4, 1, 0] rfl) hf
    · intro y_7 x_8 hn; exact absurd hn (Nat.not_lt_zero _)
    · intro n_10 L_9 hL_9 y_7 x_8 hn ls hl hf
      unfold g_XMe_decimal_5 at hf
      refine lv_iload hx hb d_XMe_decimal_5 (lv_at hl 4 rfl) ?_
      refine lv_iload_n hx hb d_XMe_decimal_7 rfl (lv_at hl 2 rfl) ?_
      refine lv_iconst (v := (1 : Int32)) hx hb d_XMe_decimal_8 (by decide) ?_
      refine lv_isub hx hb d_XMe_decimal_9 ?_
      refine lv_icmp_ge (tgt := 51) hx hb d_XMe_decimal_10 (by decide) (fun c_11 => ?_) (fun c_11 => ?_)
      · have hf := hf.trans (if_pos c_11)
        exact hK_2 y_7 _ (lv_sub hl [0, 1, 2, 3] rfl) hf
      · have hf := hf.trans (if_neg c_11)
        refine lv_aload_n hx hb d_XMe_decimal_13 rfl (lv_at hl 0 rfl) ?_
        refine lv_iload_n hx hb d_XMe_decimal_14 rfl (lv_at hl 1 rfl) ?_
        refine lv_iload hx hb d_XMe_decimal_15 (lv_at hl 4 rfl) ?_
        refine lv_iadd hx hb d_XMe_decimal_17 ?_
        refine z_ri (z_runV (As := [.int (x1 + x_8)]) (rest := []) ⟨hx, hb, hml, hown, hts⟩ (c_XMe_get l D a k u0 (x1 + x_8)) (qX_Me_19 hts (by decide)) hw 2 rfl rfl hl.1 rfl (lv_room (Nat.le_of_ble_eq_true rfl)) d_XMe_decimal_18 hcs) (fun x_12 ex_12 => ?_)
        have hf := hf.trans (nm_eq ex_12)
        refine lv_istore (lv' := [(6, .int x_12), (0, .ref (a 2)), (1, .int x1), (2, .int x2), (3, .long y_7), (5, .int x_8)]) hx hb d_XMe_decimal_21 hl (by decide) rfl (fun ls hl => ?_)
        refine lv_lload_n hx hb d_XMe_decimal_23 rfl (lv_at hl 4 rfl) ?_
        refine lv_ldc2 (v := (100 : Int64)) hx hb hown (hts _ kX_Me_29) d_XMe_decimal_24 ?_
        refine lv_lmul hx hb d_XMe_decimal_27 ?_
        refine lv_iload hx hb d_XMe_decimal_28 (lv_at hl 0 rfl) ?_
        refine lv_iconst (v := (4 : Int32)) hx hb d_XMe_decimal_30 (by decide) ?_
        refine lv_ishr hx hb d_XMe_decimal_31 ?_
        refine lv_bipush (v := (10 : Int32)) hx hb d_XMe_decimal_32 (by decide) ?_
        refine lv_imul hx hb d_XMe_decimal_34 ?_
        refine lv_i2l (v := Int32.toInt64 ((x_12 >>> ((4 : Int32) &&& 31)) * (10 : Int32))) hx hb d_XMe_decimal_35 rfl ?_
        refine lv_ladd hx hb d_XMe_decimal_36 ?_
        refine lv_iload hx hb d_XMe_decimal_37 (lv_at hl 0 rfl) ?_
        refine lv_bipush (v := (15 : Int32)) hx hb d_XMe_decimal_39 (by decide) ?_
        refine lv_iand hx hb d_XMe_decimal_41 ?_
        refine lv_i2l (v := Int32.toInt64 (x_12 &&& (15 : Int32))) hx hb d_XMe_decimal_42 rfl ?_
        refine lv_ladd hx hb d_XMe_decimal_43 ?_
        refine lv_topl (fun y_13 ey_13 => ?_)
        have hf := hf.trans (nm_eq ey_13)
        refine lv_lstore_n (lv' := [(3, .long y_13), (6, .int x_12), (0, .ref (a 2)), (1, .int x1), (2, .int x2), (5, .int x_8)]) hx hb d_XMe_decimal_44 rfl hl (by decide) rfl (fun ls hl => ?_)
        obtain ⟨x_14, ex_14⟩ : ∃ y : Int32, y = x_8 + (1 : Int32) := ⟨_, rfl⟩
        have hf := hf.trans (nm_eq ex_14)
        refine lv_iinc (v := x_14) (lv' := [(5, .int x_14), (3, .long y_13), (6, .int x_12), (0, .ref (a 2)), (1, .int x1), (2, .int x2)]) hx hb d_XMe_decimal_45 hl (k := 5) rfl (by rw [ex_14]; rfl) (by decide) rfl (fun ls hl => ?_)
        refine lv_goto (tgt := 5) hx hb d_XMe_decimal_48 (by decide) ?_
        exact hL_9 y_13 x_14 (mu_up c_11 ex_14 hn) _ (lv_sub hl [3, 4, 5, 1, 0] rfl) hf
