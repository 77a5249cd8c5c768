def f_XDe_putSum (u0 : XS) (x1 : Int32) (x2 : Int32) (y3 : Int64) : Int32 × XS := nm (if 0 < y3 then y3 else -y3) (fun (y_1 : Int64) => jn (fun (K_3 : Bool → Int32 × XS) => if (0 : Int64) ≤ y3 then K_3 false else K_3 true) (fun (z_2 : Bool) => nm (f_XMe_putDecimal u0 x1 x2 y_1 z_2) (fun (u_4 : XS) => nm (f_XSt_conditionBySign u_4 y3) (fun (u_5 : XS) => nm (f_XDe_hasRoom u_5 y_1 x2) (fun (z_6 : Bool) => if (bI z_6) = (0 : Int32) then pr (f_XSt_decimalOverflow u_5) (fun (x_9 : Int32) (u_8 : XS) => (x_9, u_8)) else ((0 : Int32), u_5))))))
set_option maxHeartbeats 4000000 in
set_option maxRecDepth 100000 in
theorem c_XDe_putSum (l : Launch) (D : va_G) (a : Nat → Nat) (k : Nat → ClassId) (u0 : XS) (x1 : Int32) (x2 : Int32) (y3 : Int64) : zMi l y_XDe_putSum w_XDe_putSum rm_XDe_putSum D clX (tyX k) nwX (xW a k) [.ref (a 11), .int x1, .int x2, .long y3] u0 (f_XDe_putSum u0 x1 x2 y3) := by
  generalize hF : f_XDe_putSum u0 x1 x2 y3 = F
  have hf := hF.symm
  unfold f_XDe_putSum at hf
  refine zMi_of (cc := b_XDe_putSum) (maxL := 7) (own := RX_De) (by decide) rfl rfl (Nat.le_of_ble_eq_true rfl) ?_
  intro p e R st m args below meth c A H locs Q ls hR hx hb hml hown hts hw hS hret hl
  subst hR
  have hcs : 0 ≤ (rm_XDe_putSum).cells ∧ 0 ≤ (rm_XDe_putSum).slots := ⟨Nat.zero_le _, Nat.zero_le _⟩
  have hl : lv_has ls 7 [(0, .ref (a 11)), (1, .int x1), (2, .int x2), (3, .long y3)] := hl
  refine lv_lload_n hx hb d_XDe_putSum_0 rfl (lv_at hl 3 rfl) ?_
  refine va_mabs_long hx hb (hml.trans hl.1.symm) hown (hts _ kX_De_48) (hts _ kX_abs_static) (hts _ kX_abs_ini) (hts _ kX_abs_code) (by decide) (Nat.le_of_ble_eq_true rfl) hcs.1 hcs.2 d_XDe_putSum_1 ?_
  refine lv_topl (fun y_1 ey_1 => ?_)
  have hf := hf.trans (nm_eq ey_1)
  refine lv_lstore (lv' := [(5, .long y_1), (0, .ref (a 11)), (1, .int x1), (2, .int x2), (3, .long y3)]) hx hb d_XDe_putSum_4 hl (by decide) rfl (fun ls hl => ?_)
  refine lv_aload_n hx hb d_XDe_putSum_6 rfl (lv_at hl 1 rfl) ?_
  refine va_get (v := .ref (a 2)) hx hb hts iX_De hown hw.2.1 hw.1 11 rfl rfl 1 (by decide) (hts _ kX_De_25) (fun _ h => h) rfl d_XDe_putSum_7 ?_
  refine lv_iload_n hx hb d_XDe_putSum_10 rfl (lv_at hl 2 rfl) ?_
  refine lv_iload_n hx hb d_XDe_putSum_11 rfl (lv_at hl 3 rfl) ?_
  refine lv_lload hx hb d_XDe_putSum_12 (lv_at hl 0 rfl) ?_
  refine lv_lload_n hx hb d_XDe_putSum_14 rfl (lv_at hl 4 rfl) ?_
  refine lv_lconst (v := 0) hx hb d_XDe_putSum_15 (by decide) ?_
  refine jn_cut hf (fun (K_3 : Bool → Int32 × XS) => ∀ (z_2 : Bool), ∀ (ls : Array Slot), lv_has ls 7 [(0, .ref (a 11)), (2, .int x2), (3, .long y3), (5, .long y_1)] → F = K_3 z_2 → W p l e rm_XDe_putSum st m args below meth c H locs 0 0 Q (F0 m 25 ls [.int (bI z_2), .long y_1, .int x2, .int x1, .ref (a 2)])) ?_ ?_
  · intro z_2 ls hl hf
    refine z_wv (z_runV (As := [.int x1, .int x2, .long y_1, .int (bI z_2)]) (rest := []) ⟨hx, hb, hml, hown, hts⟩ (c_XMe_putDecimal l D a k u0 x1 x2 y_1 z_2) (qX_De_54 hts (by decide)) hw 2 rfl rfl hl.1 rfl (lv_room (Nat.le_of_ble_eq_true rfl)) d_XDe_putSum_25 hcs) hw hS (fun u_4 H locs eu_4 hw hS => ?_)
    have hf := hf.trans (nm_eq eu_4)
    refine lv_aload_n hx hb d_XDe_putSum_28 rfl (lv_at hl 0 rfl) ?_
    refine va_get (v := .ref (a 1)) hx hb hts iX_De hown hw.2.1 hw.1 11 rfl rfl 0 (by decide) (hts _ kX_De_15) (fun _ h => h) rfl d_XDe_putSum_29 ?_
    refine lv_lload_n hx hb d_XDe_putSum_32 rfl (lv_at hl 2 rfl) ?_
    refine z_wv (z_runV (As := [.long y3]) (rest := []) ⟨hx, hb, hml, hown, hts⟩ (c_XSt_conditionBySign l D a k u_4 y3) (qX_De_105 hts (by decide)) hw 1 rfl rfl hl.1 rfl (lv_room (Nat.le_of_ble_eq_true rfl)) d_XDe_putSum_33 hcs) hw hS (fun u_5 H locs eu_5 hw hS => ?_)
    have hf := hf.trans (nm_eq eu_5)
    refine lv_lload hx hb d_XDe_putSum_36 (lv_at hl 3 rfl) ?_
    refine lv_iload_n hx hb d_XDe_putSum_38 rfl (lv_at hl 1 rfl) ?_
    refine z_rz (z_runS (As := [.long y_1, .int x2]) (rest := []) ⟨hx, hb, hml, hown, hts⟩ (c_XDe_hasRoom l D a k u_5 y_1 x2) (qX_De_122 hts (by decide)) hw  hl.1 rfl (lv_room (Nat.le_of_ble_eq_true rfl)) d_XDe_putSum_39 hcs) (fun z_6 ez_6 => ?_)
    have hf := hf.trans (nm_eq ez_6)
    refine lv_if_eq (tgt := 49) hx hb d_XDe_putSum_42 (by decide) (fun c_7 => ?_) (fun c_7 => ?_)
    · have hf := hf.trans (if_pos c_7)
      refine lv_aload_n hx hb d_XDe_putSum_49 rfl (lv_at hl 0 rfl) ?_
      refine va_get (v := .ref (a 1)) hx hb hts iX_De hown hw.2.1 hw.1 11 rfl rfl 0 (by decide) (hts _ kX_De_15) (fun _ h => h) rfl d_XDe_putSum_50 ?_
      refine z_wi (z_runV (As := []) (rest := []) ⟨hx, hb, hml, hown, hts⟩ (c_XSt_decimalOverflow l D a k u_5) (qX_De_126 hts (by decide)) hw 1 rfl rfl hl.1 rfl (lv_room (Nat.le_of_ble_eq_true rfl)) d_XDe_putSum_53 hcs) hw hS (fun x_9 u_8 H locs ex_9 hw hS => ?_)
      have hf := hf.trans (pr_eq ex_9)
      exact hret x_9 _ _ _ _ _ d_XDe_putSum_56 hw hS hf
    · have hf := hf.trans (if_neg c_7)
      refine lv_iconst (v := (0 : Int32)) hx hb d_XDe_putSum_45 (by decide) ?_
      refine lv_goto (tgt := 56) hx hb d_XDe_putSum_46 (by decide) ?_
      exact hret (0 : Int32) _ _ _ _ _ d_XDe_putSum_56 hw hS hf
  · intro K_3 hK_3 hf
    refine z_lcmp_ge (tgt := 24) hx hb d_XDe_putSum_16 d_XDe_putSum_17 (by decide) (fun c_10 => ?_) (fun c_10 => ?_)
    · have hf := hf.trans (if_pos c_10)
      refine lv_iconst (v := (0 : Int32)) hx hb d_XDe_putSum_24 (by decide) ?_
      exact hK_3 false _ (lv_sub hl [1, 3, 4, 0] rfl) hf
    · have hf := hf.trans (if_neg c_10)
      refine lv_iconst (v := (1 : Int32)) hx hb d_XDe_putSum_20 (by decide) ?_
      refine lv_goto (tgt := 25) hx hb d_XDe_putSum_21 (by decide) ?_
      exact hK_3 true _ (lv_sub hl [1, 3, 4, 0] rfl) hf
def f_XDe_multiply (u0 : XS) (x2 : Int32) (x3 : Int32) : Int32 × XS := nm (f_XMe_decimal u0 (xF u0 8) x2) (fun (y_1 : Int64) => nm (f_XMe_decimal u0 (xF u0 9) x3) (fun (y_2 : Int64) => nm (y_1 * y_2) (fun (y_3 : Int64) => nm (f_XMe_isMinus u0 (xF u0 8) x2) (fun (z_4 : Bool) => nm (f_XMe_isMinus u0 (xF u0 9) x3) (fun (z_5 : Bool) => jn (fun (K_7 : Bool → Int32 × XS) => if (bI z_4) = (bI z_5) then K_7 false else K_7 true) (fun (z_6 : Bool) => nm (f_XMe_putDecimal u0 (xF u0 8) x2 (if 0 < y_3 then y_3 else -y_3) z_6) (fun (u_8 : XS) => ((0 : Int32), u_8))))))))
set_option maxHeartbeats 4000000 in
set_option maxRecDepth 100000 in
theorem c_XDe_multiply (l : Launch) (D : va_G) (a : Nat → Nat) (k : Nat → ClassId) (u0 : XS) (x2 : Int32) (x3 : Int32) : zMi l y_XDe_multiply w_XDe_multiply rm_XDe_multiply D clX (tyX k) nwX (xW a k) [.ref (a 11), .ref (a 6), .int x2, .int x3] u0 (f_XDe_multiply u0 x2 x3) := by
  generalize hF : f_XDe_multiply u0 x2 x3 = F
  have hf := hF.symm
  unfold f_XDe_multiply at hf
  refine zMi_of (cc := b_XDe_multiply) (maxL := 7) (own := RX_De) (by decide) rfl rfl (Nat.le_of_ble_eq_true rfl) ?_
  intro p e R st m args below meth c A H locs Q ls hR hx hb hml hown hts hw hS hret hl
  subst hR
  have hcs : 0 ≤ (rm_XDe_multiply).cells ∧ 0 ≤ (rm_XDe_multiply).slots := ⟨Nat.zero_le _, Nat.zero_le _⟩
  have hl : lv_has ls 7 [(0, .ref (a 11)), (1, .ref (a 6)), (2, .int x2), (3, .int x3)] := hl
  refine lv_aload_n hx hb d_XDe_multiply_0 rfl (lv_at hl 0 rfl) ?_
  refine va_get (v := .ref (a 2)) hx hb hts iX_De hown hw.2.1 hw.1 11 rfl rfl 1 (by decide) (hts _ kX_De_25) (fun _ h => h) rfl d_XDe_multiply_1 ?_
  refine lv_aload_n hx hb d_XDe_multiply_4 rfl (lv_at hl 1 rfl) ?_
  refine va_getN (v := .int (xF u0 8)) hx hb hts iX_In hown hw.2.1 hw.1 6 rfl rfl 4 (by decide) (va_Nw.use rfl (hw.2.2.2 _ kX_De_77).2) (fun _ h => h) rfl d_XDe_multiply_5 ?_
  refine lv_iload_n hx hb d_XDe_multiply_8 rfl (lv_at hl 2 rfl) ?_
  refine z_rl (z_runV (As := [.int (xF u0 8), .int x2]) (rest := []) ⟨hx, hb, hml, hown, hts⟩ (c_XMe_decimal l D a k u0 (xF u0 8) x2) (qX_De_66 hts (by decide)) hw 2 rfl rfl hl.1 rfl (lv_room (Nat.le_of_ble_eq_true rfl)) d_XDe_multiply_9 hcs) (fun y_1 ey_1 => ?_)
  have hf := hf.trans (nm_eq ey_1)
  refine lv_aload_n hx hb d_XDe_multiply_12 rfl (lv_at hl 0 rfl) ?_
  refine va_get (v := .ref (a 2)) hx hb hts iX_De hown hw.2.1 hw.1 11 rfl rfl 1 (by decide) (hts _ kX_De_25) (fun _ h => h) rfl d_XDe_multiply_13 ?_
  refine lv_aload_n hx hb d_XDe_multiply_16 rfl (lv_at hl 1 rfl) ?_
  refine va_getN (v := .int (xF u0 9)) hx hb hts iX_In hown hw.2.1 hw.1 6 rfl rfl 5 (by decide) (va_Nw.use rfl (hw.2.2.2 _ kX_De_26).2) (fun _ h => h) rfl d_XDe_multiply_17 ?_
  refine lv_iload_n hx hb d_XDe_multiply_20 rfl (lv_at hl 3 rfl) ?_
  refine z_rl (z_runV (As := [.int (xF u0 9), .int x3]) (rest := [.long y_1]) ⟨hx, hb, hml, hown, hts⟩ (c_XMe_decimal l D a k u0 (xF u0 9) x3) (qX_De_66 hts (by decide)) hw 2 rfl rfl hl.1 rfl (lv_room (Nat.le_of_ble_eq_true rfl)) d_XDe_multiply_21 hcs) (fun y_2 ey_2 => ?_)
  have hf := hf.trans (nm_eq ey_2)
  refine lv_lmul hx hb d_XDe_multiply_24 ?_
  refine lv_topl (fun y_3 ey_3 => ?_)
  have hf := hf.trans (nm_eq ey_3)
  refine lv_lstore (lv' := [(4, .long y_3), (0, .ref (a 11)), (1, .ref (a 6)), (2, .int x2), (3, .int x3)]) hx hb d_XDe_multiply_25 hl (by decide) rfl (fun ls hl => ?_)
  refine lv_aload_n hx hb d_XDe_multiply_27 rfl (lv_at hl 1 rfl) ?_
  refine va_get (v := .ref (a 2)) hx hb hts iX_De hown hw.2.1 hw.1 11 rfl rfl 1 (by decide) (hts _ kX_De_25) (fun _ h => h) rfl d_XDe_multiply_28 ?_
  refine lv_aload_n hx hb d_XDe_multiply_31 rfl (lv_at hl 2 rfl) ?_
  refine va_getN (v := .int (xF u0 8)) hx hb hts iX_In hown hw.2.1 hw.1 6 rfl rfl 4 (by decide) (va_Nw.use rfl (hw.2.2.2 _ kX_De_77).2) (fun _ h => h) rfl d_XDe_multiply_32 ?_
  refine lv_iload_n hx hb d_XDe_multiply_35 rfl (lv_at hl 3 rfl) ?_
  refine z_rz (z_runV (As := [.int (xF u0 8), .int x2]) (rest := []) ⟨hx, hb, hml, hown, hts⟩ (c_XMe_isMinus l D a k u0 (xF u0 8) x2) (qX_De_130 hts (by decide)) hw 2 rfl rfl hl.1 rfl (lv_room (Nat.le_of_ble_eq_true rfl)) d_XDe_multiply_36 hcs) (fun z_4 ez_4 => ?_)
  have hf := hf.trans (nm_eq ez_4)
  refine lv_aload_n hx hb d_XDe_multiply_39 rfl (lv_at hl 1 rfl) ?_
  refine va_get (v := .ref (a 2)) hx hb hts iX_De hown hw.2.1 hw.1 11 rfl rfl 1 (by decide) (hts _ kX_De_25) (fun _ h => h) rfl d_XDe_multiply_40 ?_
  refine lv_aload_n hx hb d_XDe_multiply_43 rfl (lv_at hl 2 rfl) ?_
  refine va_getN (v := .int (xF u0 9)) hx hb hts iX_In hown hw.2.1 hw.1 6 rfl rfl 5 (by decide) (va_Nw.use rfl (hw.2.2.2 _ kX_De_26).2) (fun _ h => h) rfl d_XDe_multiply_44 ?_
  refine lv_iload_n hx hb d_XDe_multiply_47 rfl (lv_at hl 4 rfl) ?_
  refine z_rz (z_runV (As := [.int (xF u0 9), .int x3]) (rest := [.int (bI z_4)]) ⟨hx, hb, hml, hown, hts⟩ (c_XMe_isMinus l D a k u0 (xF u0 9) x3) (qX_De_130 hts (by decide)) hw 2 rfl rfl hl.1 rfl (lv_room (Nat.le_of_ble_eq_true rfl)) d_XDe_multiply_48 hcs) (fun z_5 ez_5 => ?_)
  have hf := hf.trans (nm_eq ez_5)
  refine jn_cut hf (fun (K_7 : Bool → Int32 × XS) => ∀ (z_6 : Bool), ∀ (ls : Array Slot), lv_has ls 7 [(0, .ref (a 11)), (1, .ref (a 6)), (2, .int x2), (4, .long y_3)] → F = K_7 z_6 → W p l e rm_XDe_multiply st m args below meth c H locs 0 0 Q (F0 m 59 ls [.int (bI z_6)])) ?_ ?_
  · intro z_6 ls hl hf
    refine lv_istore (lv' := [(6, .int (bI z_6)), (0, .ref (a 11)), (1, .ref (a 6)), (2, .int x2), (4, .long y_3)]) hx hb d_XDe_multiply_59 hl (by decide) rfl (fun ls hl => ?_)
    refine lv_aload_n hx hb d_XDe_multiply_61 rfl (lv_at hl 1 rfl) ?_
    refine va_get (v := .ref (a 2)) hx hb hts iX_De hown hw.2.1 hw.1 11 rfl rfl 1 (by decide) (hts _ kX_De_25) (fun _ h => h) rfl d_XDe_multiply_62 ?_
    refine lv_aload_n hx hb d_XDe_multiply_65 rfl (lv_at hl 2 rfl) ?_
    refine va_getN (v := .int (xF u0 8)) hx hb hts iX_In hown hw.2.1 hw.1 6 rfl rfl 4 (by decide) (va_Nw.use rfl (hw.2.2.2 _ kX_De_77).2) (fun _ h => h) rfl d_XDe_multiply_66 ?_
    refine lv_iload_n hx hb d_XDe_multiply_69 rfl (lv_at hl 3 rfl) ?_
    refine lv_lload hx hb d_XDe_multiply_70 (lv_at hl 4 rfl) ?_
    refine va_mabs_long hx hb (hml.trans hl.1.symm) hown (hts _ kX_De_48) (hts _ kX_abs_static) (hts _ kX_abs_ini) (hts _ kX_abs_code) (by decide) (Nat.le_of_ble_eq_true rfl) hcs.1 hcs.2 d_XDe_multiply_72 ?_
    refine lv_iload hx hb d_XDe_multiply_75 (lv_at hl 0 rfl) ?_
    refine z_wv (z_runV (As := [.int (xF u0 8), .int x2, .long (if 0 < y_3 then y_3 else -y_3), .int (bI z_6)]) (rest := []) ⟨hx, hb, hml, hown, hts⟩ (c_XMe_putDecimal l D a k u0 (xF u0 8) x2 (if 0 < y_3 then y_3 else -y_3) z_6) (qX_De_54 hts (by decide)) hw 2 rfl rfl hl.1 rfl (lv_room (Nat.le_of_ble_eq_true rfl)) d_XDe_multiply_77 hcs) hw hS (fun u_8 H locs eu_8 hw hS => ?_)
    have hf := hf.trans (nm_eq eu_8)
    refine lv_iconst (v := (0 : Int32)) hx hb d_XDe_multiply_80 (by decide) ?_
    exact hret (0 : Int32) _ _ _ _ _ d_XDe_multiply_81 hw hS hf
  · intro K_7 hK_7 hf
    refine lv_icmp_eq (tgt := 58) hx hb d_XDe_multiply_51 (by decide) (fun c_9 => ?_) (fun c_9 => ?_)
    · have hf := hf.trans (if_pos c_9)
      refine lv_iconst (v := (0 : Int32)) hx hb d_XDe_multiply_58 (by decide) ?_
      exact hK_7 false _ (lv_sub hl [1, 2, 3, 0] rfl) hf
    · have hf := hf.trans (if_neg c_9)
      refine lv_iconst (v := (1 : Int32)) hx hb d_XDe_multiply_54 (by decide) ?_
      refine lv_goto (tgt := 59) hx hb d_XDe_multiply_55 (by decide) ?_
      exact hK_7 true _ (lv_sub hl [1, 2, 3, 0] rfl) hf
def f_XDe_divide (u0 : XS) (x2 : Int32) (x3 : Int32) : Int32 × XS := nm (f_XMe_decimal u0 (xF u0 8) x2) (fun (y_1 : Int64) => nm (if 0 < y_1 then y_1 else -y_1) (fun (y_2 : Int64) => nm (f_XMe_decimal u0 (xF u0 9) x3) (fun (y_3 : Int64) => nm (if 0 < y_3 then y_3 else -y_3) (fun (y_4 : Int64) => nm (x2 - x3) (fun (x_5 : Int32) => if y_4 = (0 : Int64) then ((11 : Int32), u0) else nm (f_XDe_hasRoom u0 (y_2 / y_4) x_5) (fun (z_7 : Bool) => if (bI z_7) = (0 : Int32) then ((11 : Int32), u0) else nm (f_XMe_isMinus u0 (xF u0 8) x2) (fun (z_9 : Bool) => nm (f_XMe_isMinus u0 (xF u0 9) x3) (fun (z_10 : Bool) => jn (fun (K_12 : Bool → Int32 × XS) => if (bI z_9) = (bI z_10) then K_12 false else K_12 true) (fun (z_11 : Bool) => nm (f_XMe_putDecimal u0 (xF u0 8) x_5 (y_2 / y_4) z_11) (fun (u_13 : XS) => nm (f_XMe_putDecimal u_13 ((xF u_13 8) + x_5) x3 (y_2 - y_2 / y_4 * y_4) z_9) (fun (u_14 : XS) => ((0 : Int32), u_14))))))))))))
set_option maxHeartbeats 4000000 in
set_option maxRecDepth 100000 in
theorem c_XDe_divide (l : Launch) (D : va_G) (a : Nat → Nat) (k : Nat → ClassId) (u0 : XS) (x2 : Int32) (x3 : Int32) : zMi l y_XDe_divide w_XDe_divide rm_XDe_divide D clX (tyX k) nwX (xW a k) [.ref (a 11), .ref (a 6), .int x2, .int x3] u0 (f_XDe_divide u0 x2 x3) := by
  generalize hF : f_XDe_divide u0 x2 x3 = F
  have hf := hF.symm
  unfold f_XDe_divide at hf
  refine zMi_of (cc := b_XDe_divide) (maxL := 11) (own := RX_De) (by decide) rfl rfl (Nat.le_of_ble_eq_true rfl) ?_
  intro p e R st m args below meth c A H locs Q ls hR hx hb hml hown hts hw hS hret hl
  subst hR
  have hcs : 0 ≤ (rm_XDe_divide).cells ∧ 0 ≤ (rm_XDe_divide).slots := ⟨Nat.zero_le _, Nat.zero_le _⟩
  have hl : lv_has ls 11 [(0, .ref (a 11)), (1, .ref (a 6)), (2, .int x2), (3, .int x3)] := hl
  refine lv_aload_n hx hb d_XDe_divide_0 rfl (lv_at hl 0 rfl) ?_
  refine va_get (v := .ref (a 2)) hx hb hts iX_De hown hw.2.1 hw.1 11 rfl rfl 1 (by decide) (hts _ kX_De_25) (fun _ h => h) rfl d_XDe_divide_1 ?_
  refine lv_aload_n hx hb d_XDe_divide_4 rfl (lv_at hl 1 rfl) ?_
  refine va_getN (v := .int (xF u0 8)) hx hb hts iX_In hown hw.2.1 hw.1 6 rfl rfl 4 (by decide) (va_Nw.use rfl (hw.2.2.2 _ kX_De_77).2) (fun _ h => h) rfl d_XDe_divide_5 ?_
  refine lv_iload_n hx hb d_XDe_divide_8 rfl (lv_at hl 2 rfl) ?_
  refine z_rl (z_runV (As := [.int (xF u0 8), .int x2]) (rest := []) ⟨hx, hb, hml, hown, hts⟩ (c_XMe_decimal l D a k u0 (xF u0 8) x2) (qX_De_66 hts (by decide)) hw 2 rfl rfl hl.1 rfl (lv_room (Nat.le_of_ble_eq_true rfl)) d_XDe_divide_9 hcs) (fun y_1 ey_1 => ?_)
  have hf := hf.trans (nm_eq ey_1)
  refine va_mabs_long hx hb (hml.trans hl.1.symm) hown (hts _ kX_De_48) (hts _ kX_abs_static) (hts _ kX_abs_ini) (hts _ kX_abs_code) (by decide) (Nat.le_of_ble_eq_true rfl) hcs.1 hcs.2 d_XDe_divide_12 ?_
  refine lv_topl (fun y_2 ey_2 => ?_)
  have hf := hf.trans (nm_eq ey_2)
  refine lv_lstore (lv' := [(4, .long y_2), (0, .ref (a 11)), (1, .ref (a 6)), (2, .int x2), (3, .int x3)]) hx hb d_XDe_divide_15 hl (by decide) rfl (fun ls hl => ?_)
  refine lv_aload_n hx hb d_XDe_divide_17 rfl (lv_at hl 1 rfl) ?_
  refine va_get (v := .ref (a 2)) hx hb hts iX_De hown hw.2.1 hw.1 11 rfl rfl 1 (by decide) (hts _ kX_De_25) (fun _ h => h) rfl d_XDe_divide_18 ?_
  refine lv_aload_n hx hb d_XDe_divide_21 rfl (lv_at hl 2 rfl) ?_
  refine va_getN (v := .int (xF u0 9)) hx hb hts iX_In hown hw.2.1 hw.1 6 rfl rfl 5 (by decide) (va_Nw.use rfl (hw.2.2.2 _ kX_De_26).2) (fun _ h => h) rfl d_XDe_divide_22 ?_
  refine lv_iload_n hx hb d_XDe_divide_25 rfl (lv_at hl 4 rfl) ?_
  refine z_rl (z_runV (As := [.int (xF u0 9), .int x3]) (rest := []) ⟨hx, hb, hml, hown, hts⟩ (c_XMe_decimal l D a k u0 (xF u0 9) x3) (qX_De_66 hts (by decide)) hw 2 rfl rfl hl.1 rfl (lv_room (Nat.le_of_ble_eq_true rfl)) d_XDe_divide_26 hcs) (fun y_3 ey_3 => ?_)
  have hf := hf.trans (nm_eq ey_3)
  refine va_mabs_long hx hb (hml.trans hl.1.symm) hown (hts _ kX_De_48) (hts _ kX_abs_static) (hts _ kX_abs_ini) (hts _ kX_abs_code) (by decide) (Nat.le_of_ble_eq_true rfl) hcs.1 hcs.2 d_XDe_divide_29 ?_
  refine lv_topl (fun y_4 ey_4 => ?_)
  have hf := hf.trans (nm_eq ey_4)
  refine lv_lstore (lv' := [(6, .long y_4), (4, .long y_2), (0, .ref (a 11)), (1, .ref (a 6)), (2, .int x2), (3, .int x3)]) hx hb d_XDe_divide_32 hl (by decide) rfl (fun ls hl => ?_)
  refine lv_iload_n hx hb d_XDe_divide_34 rfl (lv_at hl 4 rfl) ?_
  refine lv_iload_n hx hb d_XDe_divide_35 rfl (lv_at hl 5 rfl) ?_
  refine lv_isub hx hb d_XDe_divide_36 ?_
  refine lv_topi (fun x_5 ex_5 => ?_)
  have hf := hf.trans (nm_eq ex_5)
  refine lv_istore (lv' := [(8, .int x_5), (6, .long y_4), (4, .long y_2), (0, .ref (a 11)), (1, .ref (a 6)), (2, .int x2), (3, .int x3)]) hx hb d_XDe_divide_37 hl (by decide) rfl (fun ls hl => ?_)
  refine lv_lload hx hb d_XDe_divide_39 (lv_at hl 1 rfl) ?_
  refine lv_lconst (v := 0) hx hb d_XDe_divide_41 (by decide) ?_
  refine z_lcmp_eq (tgt := 59) hx hb d_XDe_divide_42 d_XDe_divide_43 (by decide) (fun c_6 => ?_) (fun c_6 => ?_)
  · have hf := hf.trans (if_pos c_6)
    refine lv_bipush (v := (11 : Int32)) hx hb d_XDe_divide_59 (by decide) ?_
    exact hret (11 : Int32) _ _ _ _ _ d_XDe_divide_61 hw hS hf
  · have hf := hf.trans (if_neg c_6)
    refine lv_lload hx hb d_XDe_divide_46 (lv_at hl 2 rfl) ?_
    refine lv_lload hx hb d_XDe_divide_48 (lv_at hl 1 rfl) ?_
    refine lv_ldiv hx hb d_XDe_divide_50 (by assumption) ?_
    refine lv_iload hx hb d_XDe_divide_51 (lv_at hl 0 rfl) ?_
    refine z_rz (z_runS (As := [.long (y_2 / y_4), .int x_5]) (rest := []) ⟨hx, hb, hml, hown, hts⟩ (c_XDe_hasRoom l D a k u0 (y_2 / y_4) x_5) (qX_De_122 hts (by decide)) hw  hl.1 rfl (lv_room (Nat.le_of_ble_eq_true rfl)) d_XDe_divide_53 hcs) (fun z_7 ez_7 => ?_)
    have hf := hf.trans (nm_eq ez_7)
    refine lv_if_ne (tgt := 62) hx hb d_XDe_divide_56 (by decide) (fun c_8 => ?_) (fun c_8 => ?_)
    · have hf := hf.trans (if_neg c_8)
      refine lv_aload_n hx hb d_XDe_divide_62 rfl (lv_at hl 3 rfl) ?_
      refine va_get (v := .ref (a 2)) hx hb hts iX_De hown hw.2.1 hw.1 11 rfl rfl 1 (by decide) (hts _ kX_De_25) (fun _ h => h) rfl d_XDe_divide_63 ?_
      refine lv_aload_n hx hb d_XDe_divide_66 rfl (lv_at hl 4 rfl) ?_
      refine va_getN (v := .int (xF u0 8)) hx hb hts iX_In hown hw.2.1 hw.1 6 rfl rfl 4 (by decide) (va_Nw.use rfl (hw.2.2.2 _ kX_De_77).2) (fun _ h => h) rfl d_XDe_divide_67 ?_
      refine lv_iload_n hx hb d_XDe_divide_70 rfl (lv_at hl 5 rfl) ?_
      refine z_rz (z_runV (As := [.int (xF u0 8), .int x2]) (rest := []) ⟨hx, hb, hml, hown, hts⟩ (c_XMe_isMinus l D a k u0 (xF u0 8) x2) (qX_De_130 hts (by decide)) hw 2 rfl rfl hl.1 rfl (lv_room (Nat.le_of_ble_eq_true rfl)) d_XDe_divide_71 hcs) (fun z_9 ez_9 => ?_)
      have hf := hf.trans (nm_eq ez_9)
      refine lv_istore (lv' := [(9, .int (bI z_9)), (8, .int x_5), (6, .long y_4), (4, .long y_2), (0, .ref (a 11)), (1, .ref (a 6)), (2, .int x2), (3, .int x3)]) hx hb d_XDe_divide_74 hl (by decide) rfl (fun ls hl => ?_)
      refine lv_aload_n hx hb d_XDe_divide_76 rfl (lv_at hl 4 rfl) ?_
      refine va_get (v := .ref (a 2)) hx hb hts iX_De hown hw.2.1 hw.1 11 rfl rfl 1 (by decide) (hts _ kX_De_25) (fun _ h => h) rfl d_XDe_divide_77 ?_
      refine lv_aload_n hx hb d_XDe_divide_80 rfl (lv_at hl 5 rfl) ?_
      refine va_getN (v := .int (xF u0 9)) hx hb hts iX_In hown hw.2.1 hw.1 6 rfl rfl 5 (by decide) (va_Nw.use rfl (hw.2.2.2 _ kX_De_26).2) (fun _ h => h) rfl d_XDe_divide_81 ?_
      refine lv_iload_n hx hb d_XDe_divide_84 rfl (lv_at hl 7 rfl) ?_
      refine z_rz (z_runV (As := [.int (xF u0 9), .int x3]) (rest := []) ⟨hx, hb, hml, hown, hts⟩ (c_XMe_isMinus l D a k u0 (xF u0 9) x3) (qX_De_130 hts (by decide)) hw 2 rfl rfl hl.1 rfl (lv_room (Nat.le_of_ble_eq_true rfl)) d_XDe_divide_85 hcs) (fun z_10 ez_10 => ?_)
      have hf := hf.trans (nm_eq ez_10)
      refine lv_istore (lv' := [(10, .int (bI z_10)), (9, .int (bI z_9)), (8, .int x_5), (6, .long y_4), (4, .long y_2), (0, .ref (a 11)), (1, .ref (a 6)), (2, .int x2), (3, .int x3)]) hx hb d_XDe_divide_88 hl (by decide) rfl (fun ls hl => ?_)
      refine lv_aload_n hx hb d_XDe_divide_90 rfl (lv_at hl 5 rfl) ?_
      refine va_get (v := .ref (a 2)) hx hb hts iX_De hown hw.2.1 hw.1 11 rfl rfl 1 (by decide) (hts _ kX_De_25) (fun _ h => h) rfl d_XDe_divide_91 ?_
      refine lv_aload_n hx hb d_XDe_divide_94 rfl (lv_at hl 6 rfl) ?_
      refine va_getN (v := .int (xF u0 8)) hx hb hts iX_In hown hw.2.1 hw.1 6 rfl rfl 4 (by decide) (va_Nw.use rfl (hw.2.2.2 _ kX_De_77).2) (fun _ h => h) rfl d_XDe_divide_95 ?_
      refine lv_iload hx hb d_XDe_divide_98 (lv_at hl 2 rfl) ?_
      refine lv_lload hx hb d_XDe_divide_100 (lv_at hl 4 rfl) ?_
      refine lv_lload hx hb d_XDe_divide_102 (lv_at hl 3 rfl) ?_
      refine lv_ldiv hx hb d_XDe_divide_104 (by assumption) ?_
      refine lv_iload hx hb d_XDe_divide_105 (lv_at hl 1 rfl) ?_
      refine lv_iload hx hb d_XDe_divide_107 (lv_at hl 0 rfl) ?_
      refine jn_cut hf (fun (K_12 : Bool → Int32 × XS) => ∀ (z_11 : Bool), ∀ (ls : Array Slot), lv_has ls 11 [(0, .ref (a 11)), (1, .ref (a 6)), (3, .int x3), (4, .long y_2), (6, .long y_4), (8, .int x_5), (9, .int (bI z_9))] → F = K_12 z_11 → W p l e rm_XDe_divide st m args below meth c H locs 0 0 Q (F0 m 117 ls [.int (bI z_11), .long (y_2 / y_4), .int x_5, .int (xF u0 8), .ref (a 2)])) ?_ ?_
      · intro z_11 ls hl hf
        refine z_wv (z_runV (As := [.int (xF u0 8), .int x_5, .long (y_2 / y_4), .int (bI z_11)]) (rest := []) ⟨hx, hb, hml, hown, hts⟩ (c_XMe_putDecimal l D a k u0 (xF u0 8) x_5 (y_2 / y_4) z_11) (qX_De_54 hts (by decide)) hw 2 rfl rfl hl.1 rfl (lv_room (Nat.le_of_ble_eq_true rfl)) d_XDe_divide_117 hcs) hw hS (fun u_13 H locs eu_13 hw hS => ?_)
        have hf := hf.trans (nm_eq eu_13)
        refine lv_aload_n hx hb d_XDe_divide_120 rfl (lv_at hl 0 rfl) ?_
        refine va_get (v := .ref (a 2)) hx hb hts iX_De hown hw.2.1 hw.1 11 rfl rfl 1 (by decide) (hts _ kX_De_25) (fun _ h => h) rfl d_XDe_divide_121 ?_
        refine lv_aload_n hx hb d_XDe_divide_124 rfl (lv_at hl 1 rfl) ?_
        refine va_getN (v := .int (xF u_13 8)) hx hb hts iX_In hown hw.2.1 hw.1 6 rfl rfl 4 (by decide) (va_Nw.use rfl (hw.2.2.2 _ kX_De_77).2) (fun _ h => h) rfl d_XDe_divide_125 ?_
        refine lv_iload hx hb d_XDe_divide_128 (lv_at hl 5 rfl) ?_
        refine lv_iadd hx hb d_XDe_divide_130 ?_
        refine lv_iload_n hx hb d_XDe_divide_131 rfl (lv_at hl 2 rfl) ?_
        refine lv_lload hx hb d_XDe_divide_132 (lv_at hl 3 rfl) ?_
        refine lv_lload hx hb d_XDe_divide_134 (lv_at hl 4 rfl) ?_
        refine lv_lrem hx hb d_XDe_divide_136 (by assumption) ?_
        refine lv_iload hx hb d_XDe_divide_137 (lv_at hl 6 rfl) ?_
        refine z_wv (z_runV (As := [.int ((xF u_13 8) + x_5), .int x3, .long (y_2 - y_2 / y_4 * y_4), .int (bI z_9)]) (rest := []) ⟨hx, hb, hml, hown, hts⟩ (c_XMe_putDecimal l D a k u_13 ((xF u_13 8) + x_5) x3 (y_2 - y_2 / y_4 * y_4) z_9) (qX_De_54 hts (by decide)) hw 2 rfl rfl hl.1 rfl (lv_room (Nat.le_of_ble_eq_true rfl)) d_XDe_divide_139 hcs) hw hS (fun u_14 H locs eu_14 hw hS => ?_)
        have hf := hf.trans (nm_eq eu_14)
        refine lv_iconst (v := (0 : Int32)) hx hb d_XDe_divide_142 (by decide) ?_
        exact hret (0 : Int32) _ _ _ _ _ d_XDe_divide_143 hw hS hf
      · intro K_12 hK_12 hf
        refine lv_icmp_eq (tgt := 116) hx hb d_XDe_divide_109 (by decide) (fun c_15 => ?_) (fun c_15 => ?_)
        · have hf := hf.trans (if_pos c_15)
          refine lv_iconst (v := (0 : Int32)) hx hb d_XDe_divide_116 (by decide) ?_
          exact hK_12 false _ (lv_sub hl [5, 6, 8, 4, 3, 2, 1] rfl) hf
        · have hf := hf.trans (if_neg c_15)
          refine lv_iconst (v := (1 : Int32)) hx hb d_XDe_divide_112 (by decide) ?_
          refine lv_goto (tgt := 117) hx hb d_XDe_divide_113 (by decide) ?_
          exact hK_12 true _ (lv_sub hl [5, 6, 8, 4, 3, 2, 1] rfl) hf
    · have hf := hf.trans (if_pos c_8)
      refine lv_bipush (v := (11 : Int32)) hx hb d_XDe_divide_59 (by decide) ?_
      exact hret (11 : Int32) _ _ _ _ _ d_XDe_divide_61 hw hS hf
def f_XDe_calculate (u0 : XS)  : Int32 × XS := nm ((xF u0 6) + (1 : Int32)) (fun (x_1 : Int32) => nm ((xF u0 7) + (1 : Int32)) (fun (x_2 : Int32) => nm (f_XDe_faultOfFields u0 x_1 x_2) (fun (x_3 : Int32) => if x_3 = (0 : Int32) then nm (f_XMe_decimal u0 (xF u0 8) x_1) (fun (y_5 : Int64) => nm (f_XMe_decimal u0 (xF u0 9) x_2) (fun (y_6 : Int64) => nm (xF u0 4) (fun (x_7 : Int32) => if x_7 = (248 : Int32) then pr (f_XDe_putSum u0 (xF u0 8) x_1 y_6) (fun (x_10 : Int32) (u_9 : XS) => (x_10, u_9)) else if x_7 = (249 : Int32) then nm (f_XSt_conditionBySign u0 (y_5 - y_6)) (fun (u_12 : XS) => ((0 : Int32), u_12)) else if x_7 = (250 : Int32) then pr (f_XDe_putSum u0 (xF u0 8) x_1 (y_5 + y_6)) (fun (x_15 : Int32) (u_14 : XS) => (x_15, u_14)) else if x_7 = (251 : Int32) then pr (f_XDe_putSum u0 (xF u0 8) x_1 (y_5 - y_6)) (fun (x_18 : Int32) (u_17 : XS) => (x_18, u_17)) else if x_7 = (252 : Int32) then pr (f_XDe_multiply u0 x_1 x_2) (fun (x_21 : Int32) (u_20 : XS) => (x_21, u_20)) else pr (f_XDe_divide u0 x_1 x_2) (fun (x_23 : Int32) (u_22 : XS) => (x_23, u_22))))) else (x_3, u0))))
set_option maxHeartbeats 4000000 in
set_option maxRecDepth 100000 in
theorem c_XDe_calculate (l : Launch) (D : va_G) (a : Nat → Nat) (k : Nat → ClassId) (u0 : XS)  : zMi l y_XDe_calculate w_XDe_calculate rm_XDe_calculate D clX (tyX k) nwX (xW a k) [.ref (a 11), .ref (a 6)] u0 (f_XDe_calculate u0) := by
  generalize hF : f_XDe_calculate u0 = F
  have hf := hF.symm
  unfold f_XDe_calculate at hf
  refine zMi_of (cc := b_XDe_calculate) (maxL := 9) (own := RX_De) (by decide) rfl rfl (Nat.le_of_ble_eq_true rfl) ?_
  intro p e R st m args below meth c A H locs Q ls hR hx hb hml hown hts hw hS hret hl
  subst hR
  have hcs : 0 ≤ (rm_XDe_calculate).cells ∧ 0 ≤ (rm_XDe_calculate).slots := ⟨Nat.zero_le _, Nat.zero_le _⟩
  have hl : lv_has ls 9 [(0, .ref (a 11)), (1, .ref (a 6))] := hl
  refine lv_aload_n hx hb d_XDe_calculate_0 rfl (lv_at hl 1 rfl) ?_
  refine va_getN (v := .int (xF u0 6)) hx hb hts iX_In hown hw.2.1 hw.1 6 rfl rfl 2 (by decide) (va_Nw.use rfl (hw.2.2.2 _ kX_De_41).2) (fun _ h => h) rfl d_XDe_calculate_1 ?_
  refine lv_iconst (v := (1 : Int32)) hx hb d_XDe_calculate_4 (by decide) ?_
  refine lv_iadd hx hb d_XDe_calculate_5 ?_
  refine lv_topi (fun x_1 ex_1 => ?_)
  have hf := hf.trans (nm_eq ex_1)
  refine lv_istore_n (lv' := [(2, .int x_1), (0, .ref (a 11)), (1, .ref (a 6))]) hx hb d_XDe_calculate_6 rfl hl (by decide) rfl (fun ls hl => ?_)
  refine lv_aload_n hx hb d_XDe_calculate_7 rfl (lv_at hl 2 rfl) ?_
  refine va_getN (v := .int (xF u0 7)) hx hb hts iX_In hown hw.2.1 hw.1 6 rfl rfl 3 (by decide) (va_Nw.use rfl (hw.2.2.2 _ kX_De_74).2) (fun _ h => h) rfl d_XDe_calculate_8 ?_
  refine lv_iconst (v := (1 : Int32)) hx hb d_XDe_calculate_11 (by decide) ?_
  refine lv_iadd hx hb d_XDe_calculate_12 ?_
  refine lv_topi (fun x_2 ex_2 => ?_)
  have hf := hf.trans (nm_eq ex_2)
  refine lv_istore_n (lv' := [(3, .int x_2), (2, .int x_1), (0, .ref (a 11)), (1, .ref (a 6))]) hx hb d_XDe_calculate_13 rfl hl (by decide) rfl (fun ls hl => ?_)
  refine lv_aload_n hx hb d_XDe_calculate_14 rfl (lv_at hl 2 rfl) ?_
  refine lv_aload_n hx hb d_XDe_calculate_15 rfl (lv_at hl 3 rfl) ?_
  refine lv_iload_n hx hb d_XDe_calculate_16 rfl (lv_at hl 1 rfl) ?_
  refine lv_iload_n hx hb d_XDe_calculate_17 rfl (lv_at hl 0 rfl) ?_
  refine z_ri (z_runV (As := [.ref (a 6), .int x_1, .int x_2]) (rest := []) ⟨hx, hb, hml, hown, hts⟩ (c_XDe_faultOfFields l D a k u0 x_1 x_2) (qX_De_97 hts (by decide)) hw 11 rfl rfl hl.1 rfl (lv_room (Nat.le_of_ble_eq_true rfl)) d_XDe_calculate_18 hcs) (fun x_3 ex_3 => ?_)
  have hf := hf.trans (nm_eq ex_3)
  refine lv_istore (lv' := [(4, .int x_3), (3, .int x_2), (2, .int x_1), (0, .ref (a 11)), (1, .ref (a 6))]) hx hb d_XDe_calculate_21 hl (by decide) rfl (fun ls hl => ?_)
  refine lv_iload hx hb d_XDe_calculate_23 (lv_at hl 0 rfl) ?_
  refine lv_if_eq (tgt := 31) hx hb d_XDe_calculate_25 (by decide) (fun c_4 => ?_) (fun c_4 => ?_)
  · have hf := hf.trans (if_pos c_4)
    refine lv_aload_n hx hb d_XDe_calculate_31 rfl (lv_at hl 3 rfl) ?_
    refine va_get (v := .ref (a 2)) hx hb hts iX_De hown hw.2.1 hw.1 11 rfl rfl 1 (by decide) (hts _ kX_De_25) (fun _ h => h) rfl d_XDe_calculate_32 ?_
    refine lv_aload_n hx hb d_XDe_calculate_35 rfl (lv_at hl 4 rfl) ?_
    refine va_getN (v := .int (xF u0 8)) hx hb hts iX_In hown hw.2.1 hw.1 6 rfl rfl 4 (by decide) (va_Nw.use rfl (hw.2.2.2 _ kX_De_77).2) (fun _ h => h) rfl d_XDe_calculate_36 ?_
    refine lv_iload_n hx hb d_XDe_calculate_39 rfl (lv_at hl 2 rfl) ?_
    refine z_rl (z_runV (As := [.int (xF u0 8), .int x_1]) (rest := []) ⟨hx, hb, hml, hown, hts⟩ (c_XMe_decimal l D a k u0 (xF u0 8) x_1) (qX_De_66 hts (by decide)) hw 2 rfl rfl hl.1 rfl (lv_room (Nat.le_of_ble_eq_true rfl)) d_XDe_calculate_40 hcs) (fun y_5 ey_5 => ?_)
    have hf := hf.trans (nm_eq ey_5)
    refine lv_lstore (lv' := [(5, .long y_5), (4, .int x_3), (3, .int x_2), (2, .int x_1), (0, .ref (a 11)), (1, .ref (a 6))]) hx hb d_XDe_calculate_43 hl (by decide) rfl (fun ls hl => ?_)
    refine lv_aload_n hx hb d_XDe_calculate_45 rfl (lv_at hl 4 rfl) ?_
    refine va_get (v := .ref (a 2)) hx hb hts iX_De hown hw.2.1 hw.1 11 rfl rfl 1 (by decide) (hts _ kX_De_25) (fun _ h => h) rfl d_XDe_calculate_46 ?_
    refine lv_aload_n hx hb d_XDe_calculate_49 rfl (lv_at hl 5 rfl) ?_
    refine va_getN (v := .int (xF u0 9)) hx hb hts iX_In hown hw.2.1 hw.1 6 rfl rfl 5 (by decide) (va_Nw.use rfl (hw.2.2.2 _ kX_De_26).2) (fun _ h => h) rfl d_XDe_calculate_50 ?_
    refine lv_iload_n hx hb d_XDe_calculate_53 rfl (lv_at hl 2 rfl) ?_
    refine z_rl (z_runV (As := [.int (xF u0 9), .int x_2]) (rest := []) ⟨hx, hb, hml, hown, hts⟩ (c_XMe_decimal l D a k u0 (xF u0 9) x_2) (qX_De_66 hts (by decide)) hw 2 rfl rfl hl.1 rfl (lv_room (Nat.le_of_ble_eq_true rfl)) d_XDe_calculate_54 hcs) (fun y_6 ey_6 => ?_)
    have hf := hf.trans (nm_eq ey_6)
    refine lv_lstore (lv' := [(7, .long y_6), (5, .long y_5), (4, .int x_3), (3, .int x_2), (2, .int x_1), (0, .ref (a 11)), (1, .ref (a 6))]) hx hb d_XDe_calculate_57 hl (by decide) rfl (fun ls hl => ?_)
    refine lv_aload_n hx hb d_XDe_calculate_59 rfl (lv_at hl 6 rfl) ?_
    refine va_getN (v := .int (xF u0 4)) hx hb hts iX_In hown hw.2.1 hw.1 6 rfl rfl 0 (by decide) (va_Nw.use rfl (hw.2.2.2 _ kX_De_38).2) (fun _ h => h) rfl d_XDe_calculate_60 ?_
    refine lv_topi (fun x_7 ex_7 => ?_)
    have hf := hf.trans (nm_eq ex_7)
    by_cases c_8 : x_7 = (248 : Int32)
    · have hf := hf.trans (if_pos c_8)
      refine lv_tableIn (off := 33) (tgt := 96) hx hb d_XDe_calculate_63 (by rw [c_8]; decide +kernel) (by rw [c_8]; decide +kernel) (by rw [c_8]; decide +kernel) (by decide) ?_
      refine lv_aload_n hx hb d_XDe_calculate_96 rfl (lv_at hl 5 rfl) ?_
      refine lv_aload_n hx hb d_XDe_calculate_97 rfl (lv_at hl 6 rfl) ?_
      refine va_getN (v := .int (xF u0 8)) hx hb hts iX_In hown hw.2.1 hw.1 6 rfl rfl 4 (by decide) (va_Nw.use rfl (hw.2.2.2 _ kX_De_77).2) (fun _ h => h) rfl d_XDe_calculate_98 ?_
      refine lv_iload_n hx hb d_XDe_calculate_101 rfl (lv_at hl 4 rfl) ?_
      refine lv_lload hx hb d_XDe_calculate_102 (lv_at hl 0 rfl) ?_
      refine z_wi (z_runV (As := [.int (xF u0 8), .int x_1, .long y_6]) (rest := []) ⟨hx, hb, hml, hown, hts⟩ (c_XDe_putSum l D a k u0 (xF u0 8) x_1 y_6) (qX_De_101 hts (by decide)) hw 11 rfl rfl hl.1 rfl (lv_room (Nat.le_of_ble_eq_true rfl)) d_XDe_calculate_104 hcs) hw hS (fun x_10 u_9 H locs ex_10 hw hS => ?_)
      have hf := hf.trans (pr_eq ex_10)
      exact hret x_10 _ _ _ _ _ d_XDe_calculate_107 hw hS hf
    have hf := hf.trans (if_neg c_8)
    by_cases c_11 : x_7 = (249 : Int32)
    · have hf := hf.trans (if_pos c_11)
      refine lv_tableIn (off := 45) (tgt := 108) hx hb d_XDe_calculate_63 (by rw [c_11]; decide +kernel) (by rw [c_11]; decide +kernel) (by rw [c_11]; decide +kernel) (by decide) ?_
      refine lv_aload_n hx hb d_XDe_calculate_108 rfl (lv_at hl 5 rfl) ?_
      refine va_get (v := .ref (a 1)) hx hb hts iX_De hown hw.2.1 hw.1 11 rfl rfl 0 (by decide) (hts _ kX_De_15) (fun _ h => h) rfl d_XDe_calculate_109 ?_
      refine lv_lload hx hb d_XDe_calculate_112 (lv_at hl 1 rfl) ?_
      refine lv_lload hx hb d_XDe_calculate_114 (lv_at hl 0 rfl) ?_
      refine lv_lsub hx hb d_XDe_calculate_116 ?_
      refine z_wv (z_runV (As := [.long (y_5 - y_6)]) (rest := []) ⟨hx, hb, hml, hown, hts⟩ (c_XSt_conditionBySign l D a k u0 (y_5 - y_6)) (qX_De_105 hts (by decide)) hw 1 rfl rfl hl.1 rfl (lv_room (Nat.le_of_ble_eq_true rfl)) d_XDe_calculate_117 hcs) hw hS (fun u_12 H locs eu_12 hw hS => ?_)
      have hf := hf.trans (nm_eq eu_12)
      refine lv_iconst (v := (0 : Int32)) hx hb d_XDe_calculate_120 (by decide) ?_
      exact hret (0 : Int32) _ _ _ _ _ d_XDe_calculate_121 hw hS hf
    have hf := hf.trans (if_neg c_11)
    by_cases c_13 : x_7 = (250 : Int32)
    · have hf := hf.trans (if_pos c_13)
      refine lv_tableIn (off := 59) (tgt := 122) hx hb d_XDe_calculate_63 (by rw [c_13]; decide +kernel) (by rw [c_13]; decide +kernel) (by rw [c_13]; decide +kernel) (by decide) ?_
      refine lv_aload_n hx hb d_XDe_calculate_122 rfl (lv_at hl 5 rfl) ?_
      refine lv_aload_n hx hb d_XDe_calculate_123 rfl (lv_at hl 6 rfl) ?_
      refine va_getN (v := .int (xF u0 8)) hx hb hts iX_In hown hw.2.1 hw.1 6 rfl rfl 4 (by decide) (va_Nw.use rfl (hw.2.2.2 _ kX_De_77).2) (fun _ h => h) rfl d_XDe_calculate_124 ?_
      refine lv_iload_n hx hb d_XDe_calculate_127 rfl (lv_at hl 4 rfl) ?_
      refine lv_lload hx hb d_XDe_calculate_128 (lv_at hl 1 rfl) ?_
      refine lv_lload hx hb d_XDe_calculate_130 (lv_at hl 0 rfl) ?_
      refine lv_ladd hx hb d_XDe_calculate_132 ?_
      refine z_wi (z_runV (As := [.int (xF u0 8), .int x_1, .long (y_5 + y_6)]) (rest := []) ⟨hx, hb, hml, hown, hts⟩ (c_XDe_putSum l D a k u0 (xF u0 8) x_1 (y_5 + y_6)) (qX_De_101 hts (by decide)) hw 11 rfl rfl hl.1 rfl (lv_room (Nat.le_of_ble_eq_true rfl)) d_XDe_calculate_133 hcs) hw hS (fun x_15 u_14 H locs ex_15 hw hS => ?_)
      have hf := hf.trans (pr_eq ex_15)
      exact hret x_15 _ _ _ _ _ d_XDe_calculate_136 hw hS hf
    have hf := hf.trans (if_neg c_13)
    by_cases c_16 : x_7 = (251 : Int32)
    · have hf := hf.trans (if_pos c_16)
      refine lv_tableIn (off := 74) (tgt := 137) hx hb d_XDe_calculate_63 (by rw [c_16]; decide +kernel) (by rw [c_16]; decide +kernel) (by rw [c_16]; decide +kernel) (by decide) ?_
      refine lv_aload_n hx hb d_XDe_calculate_137 rfl (lv_at hl 5 rfl) ?_
      refine lv_aload_n hx hb d_XDe_calculate_138 rfl (lv_at hl 6 rfl) ?_
      refine va_getN (v := .int (xF u0 8)) hx hb hts iX_In hown hw.2.1 hw.1 6 rfl rfl 4 (by decide) (va_Nw.use rfl (hw.2.2.2 _ kX_De_77).2) (fun _ h => h) rfl d_XDe_calculate_139 ?_
      refine lv_iload_n hx hb d_XDe_calculate_142 rfl (lv_at hl 4 rfl) ?_
      refine lv_lload hx hb d_XDe_calculate_143 (lv_at hl 1 rfl) ?_
      refine lv_lload hx hb d_XDe_calculate_145 (lv_at hl 0 rfl) ?_
      refine lv_lsub hx hb d_XDe_calculate_147 ?_
      refine z_wi (z_runV (As := [.int (xF u0 8), .int x_1, .long (y_5 - y_6)]) (rest := []) ⟨hx, hb, hml, hown, hts⟩ (c_XDe_putSum l D a k u0 (xF u0 8) x_1 (y_5 - y_6)) (qX_De_101 hts (by decide)) hw 11 rfl rfl hl.1 rfl (lv_room (Nat.le_of_ble_eq_true rfl)) d_XDe_calculate_148 hcs) hw hS (fun x_18 u_17 H locs ex_18 hw hS => ?_)
      have hf := hf.trans (pr_eq ex_18)
      exact hret x_18 _ _ _ _ _ d_XDe_calculate_151 hw hS hf
    have hf := hf.trans (if_neg c_16)
    by_cases c_19 : x_7 = (252 : Int32)
    · have hf := hf.trans (if_pos c_19)
      refine lv_tableIn (off := 89) (tgt := 152) hx hb d_XDe_calculate_63 (by rw [c_19]; decide +kernel) (by rw [c_19]; decide +kernel) (by rw [c_19]; decide +kernel) (by decide) ?_
      refine lv_aload_n hx hb d_XDe_calculate_152 rfl (lv_at hl 5 rfl) ?_
      refine lv_aload_n hx hb d_XDe_calculate_153 rfl (lv_at hl 6 rfl) ?_
      refine lv_iload_n hx hb d_XDe_calculate_154 rfl (lv_at hl 4 rfl) ?_
      refine lv_iload_n hx hb d_XDe_calculate_155 rfl (lv_at hl 3 rfl) ?_
      refine z_wi (z_runV (As := [.ref (a 6), .int x_1, .int x_2]) (rest := []) ⟨hx, hb, hml, hown, hts⟩ (c_XDe_multiply l D a k u0 x_1 x_2) (qX_De_109 hts (by decide)) hw 11 rfl rfl hl.1 rfl (lv_room (Nat.le_of_ble_eq_true rfl)) d_XDe_calculate_156 hcs) hw hS (fun x_21 u_20 H locs ex_21 hw hS => ?_)
      have hf := hf.trans (pr_eq ex_21)
      exact hret x_21 _ _ _ _ _ d_XDe_calculate_159 hw hS hf
    have hf := hf.trans (if_neg c_19)
    refine lv_tableOut (tgt := 160) hx hb d_XDe_calculate_63 (by have := lv_neT c_8 (a := 248) (by decide +kernel); have := lv_neT c_11 (a := 249) (by decide +kernel); have := lv_neT c_13 (a := 250) (by decide +kernel); have := lv_neT c_16 (a := 251) (by decide +kernel); have := lv_neT c_19 (a := 252) (by decide +kernel); omega) (by decide) ?_
    refine lv_aload_n hx hb d_XDe_calculate_160 rfl (lv_at hl 5 rfl) ?_
    refine lv_aload_n hx hb d_XDe_calculate_161 rfl (lv_at hl 6 rfl) ?_
    refine lv_iload_n hx hb d_XDe_calculate_162 rfl (lv_at hl 4 rfl) ?_
    refine lv_iload_n hx hb d_XDe_calculate_163 rfl (lv_at hl 3 rfl) ?_
    refine z_wi (z_runV (As := [.ref (a 6), .int x_1, .int x_2]) (rest := []) ⟨hx, hb, hml, hown, hts⟩ (c_XDe_divide l D a k u0 x_1 x_2) (qX_De_112 hts (by decide)) hw 11 rfl rfl hl.1 rfl (lv_room (Nat.le_of_ble_eq_true rfl)) d_XDe_calculate_164 hcs) hw hS (fun x_23 u_22 H locs ex_23 hw hS => ?_)
    have hf := hf.trans (pr_eq ex_23)
    exact hret x_23 _ _ _ _ _ d_XDe_calculate_167 hw hS hf
  · have hf := hf.trans (if_neg c_4)
    refine lv_iload hx hb d_XDe_calculate_28 (lv_at hl 0 rfl) ?_
    exact hret x_3 _ _ _ _ _ d_XDe_calculate_30 hw hS hf
