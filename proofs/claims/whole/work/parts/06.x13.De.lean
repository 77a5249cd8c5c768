def f_XDe_convertToBinary (u0 : XS)  : Int32 × XS := nm (f_XMe_isPacked u0 (xF u0 9) (8 : Int32)) (fun (z_1 : Bool) => if (bI z_1) = (0 : Int32) then ((7 : Int32), u0) else nm (f_XMe_decimal u0 (xF u0 9) (8 : Int32)) (fun (y_3 : Int64) => if y_3 = (Int32.toInt64 (Int64.toInt32 y_3)) then nm (f_XSt_put u0 (xF u0 6) (Int64.toInt32 y_3)) (fun (u_5 : XS) => ((0 : Int32), u_5)) else ((9 : Int32), u0)))
set_option maxHeartbeats 4000000 in
set_option maxRecDepth 100000 in
theorem c_XDe_convertToBinary (l : Launch) (D : va_G) (a : Nat → Nat) (k : Nat → ClassId) (u0 : XS)  : zMi l y_XDe_convertToBinary w_XDe_convertToBinary rm_XDe_convertToBinary D clX (tyX k) nwX (xW a k) [.ref (a 11), .ref (a 6)] u0 (f_XDe_convertToBinary u0) := by
  generalize hF : f_XDe_convertToBinary u0 = F
  have hf := hF.symm
  unfold f_XDe_convertToBinary at hf
  refine zMi_of (cc := b_XDe_convertToBinary) (maxL := 4) (own := RX_De) (by decide) rfl rfl (Nat.le_of_ble_eq_true rfl) ?_
  intro p e R st m args below meth c A H locs Q ls hR hx hb hml hown hts hw hS hret hl
  subst hR
  have hcs : 0 ≤ (rm_XDe_convertToBinary).cells ∧ 0 ≤ (rm_XDe_convertToBinary).slots := ⟨Nat.zero_le _, Nat.zero_le _⟩
  have hl : lv_has ls 4 [(0, .ref (a 11)), (1, .ref (a 6))] := hl
  refine lv_aload_n hx hb d_XDe_convertToBinary_0 rfl (lv_at hl 0 rfl) ?_
  refine va_get (v := .ref (a 2)) hx hb hts iX_De hown hw.2.1 hw.1 11 rfl rfl 1 (by decide) (hts _ kX_De_25) (fun _ h => h) rfl d_XDe_convertToBinary_1 ?_
  refine lv_aload_n hx hb d_XDe_convertToBinary_4 rfl (lv_at hl 1 rfl) ?_
  refine va_getN (v := .int (xF u0 9)) hx hb hts iX_In hown hw.2.1 hw.1 6 rfl rfl 5 (by decide) (va_Nw.use rfl (hw.2.2.2 _ kX_De_26).2) (fun _ h => h) rfl d_XDe_convertToBinary_5 ?_
  refine lv_bipush (v := (8 : Int32)) hx hb d_XDe_convertToBinary_8 (by decide) ?_
  refine z_rz (z_runV (As := [.int (xF u0 9), .int (8 : Int32)]) (rest := []) ⟨hx, hb, hml, hown, hts⟩ (c_XMe_isPacked l D a k u0 (xF u0 9) (8 : Int32)) (qX_De_62 hts (by decide)) hw 2 rfl rfl hl.1 rfl (lv_room (Nat.le_of_ble_eq_true rfl)) d_XDe_convertToBinary_10 hcs) (fun z_1 ez_1 => ?_)
  have hf := hf.trans (nm_eq ez_1)
  refine lv_if_ne (tgt := 19) hx hb d_XDe_convertToBinary_13 (by decide) (fun c_2 => ?_) (fun c_2 => ?_)
  · have hf := hf.trans (if_neg c_2)
    refine lv_aload_n hx hb d_XDe_convertToBinary_19 rfl (lv_at hl 0 rfl) ?_
    refine va_get (v := .ref (a 2)) hx hb hts iX_De hown hw.2.1 hw.1 11 rfl rfl 1 (by decide) (hts _ kX_De_25) (fun _ h => h) rfl d_XDe_convertToBinary_20 ?_
    refine lv_aload_n hx hb d_XDe_convertToBinary_23 rfl (lv_at hl 1 rfl) ?_
    refine va_getN (v := .int (xF u0 9)) hx hb hts iX_In hown hw.2.1 hw.1 6 rfl rfl 5 (by decide) (va_Nw.use rfl (hw.2.2.2 _ kX_De_26).2) (fun _ h => h) rfl d_XDe_convertToBinary_24 ?_
    refine lv_bipush (v := (8 : Int32)) hx hb d_XDe_convertToBinary_27 (by decide) ?_
    refine z_rl (z_runV (As := [.int (xF u0 9), .int (8 : Int32)]) (rest := []) ⟨hx, hb, hml, hown, hts⟩ (c_XMe_decimal l D a k u0 (xF u0 9) (8 : Int32)) (qX_De_66 hts (by decide)) hw 2 rfl rfl hl.1 rfl (lv_room (Nat.le_of_ble_eq_true rfl)) d_XDe_convertToBinary_29 hcs) (fun y_3 ey_3 => ?_)
    have hf := hf.trans (nm_eq ey_3)
    refine lv_lstore_n (lv' := [(2, .long y_3), (0, .ref (a 11)), (1, .ref (a 6))]) hx hb d_XDe_convertToBinary_32 rfl hl (by decide) rfl (fun ls hl => ?_)
    refine lv_lload_n hx hb d_XDe_convertToBinary_33 rfl (lv_at hl 0 rfl) ?_
    refine lv_lload_n hx hb d_XDe_convertToBinary_34 rfl (lv_at hl 0 rfl) ?_
    refine lv_l2i (v := Int64.toInt32 y_3) hx hb d_XDe_convertToBinary_35 rfl ?_
    refine lv_i2l (v := Int32.toInt64 (Int64.toInt32 y_3)) hx hb d_XDe_convertToBinary_36 rfl ?_
    refine z_lcmp_eq (tgt := 44) hx hb d_XDe_convertToBinary_37 d_XDe_convertToBinary_38 (by decide) (fun c_4 => ?_) (fun c_4 => ?_)
    · have hf := hf.trans (if_pos c_4)
      refine lv_aload_n hx hb d_XDe_convertToBinary_44 rfl (lv_at hl 1 rfl) ?_
      refine va_get (v := .ref (a 1)) hx hb hts iX_De hown hw.2.1 hw.1 11 rfl rfl 0 (by decide) (hts _ kX_De_15) (fun _ h => h) rfl d_XDe_convertToBinary_45 ?_
      refine lv_aload_n hx hb d_XDe_convertToBinary_48 rfl (lv_at hl 2 rfl) ?_
      refine va_getN (v := .int (xF u0 6)) hx hb hts iX_In hown hw.2.1 hw.1 6 rfl rfl 2 (by decide) (va_Nw.use rfl (hw.2.2.2 _ kX_De_41).2) (fun _ h => h) rfl d_XDe_convertToBinary_49 ?_
      refine lv_lload_n hx hb d_XDe_convertToBinary_52 rfl (lv_at hl 0 rfl) ?_
      refine lv_l2i (v := Int64.toInt32 y_3) hx hb d_XDe_convertToBinary_53 rfl ?_
      refine z_wv (z_runV (As := [.int (xF u0 6), .int (Int64.toInt32 y_3)]) (rest := []) ⟨hx, hb, hml, hown, hts⟩ (c_XSt_put l D a k u0 (xF u0 6) (Int64.toInt32 y_3)) (qX_De_70 hts (by decide)) hw 1 rfl rfl hl.1 rfl (lv_room (Nat.le_of_ble_eq_true rfl)) d_XDe_convertToBinary_54 hcs) hw hS (fun u_5 H locs eu_5 hw hS => ?_)
      have hf := hf.trans (nm_eq eu_5)
      refine lv_iconst (v := (0 : Int32)) hx hb d_XDe_convertToBinary_57 (by decide) ?_
      exact hret (0 : Int32) _ _ _ _ _ d_XDe_convertToBinary_58 hw hS hf
    · have hf := hf.trans (if_neg c_4)
      refine lv_bipush (v := (9 : Int32)) hx hb d_XDe_convertToBinary_41 (by decide) ?_
      exact hret (9 : Int32) _ _ _ _ _ d_XDe_convertToBinary_43 hw hS hf
  · have hf := hf.trans (if_pos c_2)
    refine lv_bipush (v := (7 : Int32)) hx hb d_XDe_convertToBinary_16 (by decide) ?_
    exact hret (7 : Int32) _ _ _ _ _ d_XDe_convertToBinary_18 hw hS hf
def f_XDe_convert (u0 : XS)  : Int32 × XS := nm (f_XMe_faultOf u0 (xF u0 9) (8 : Int32)) (fun (x_1 : Int32) => if x_1 = (0 : Int32) then if (xF u0 4) = (78 : Int32) then nm (f_XSt_value u0 (xF u0 6)) (fun (x_6 : Int32) => nm (Int32.toInt64 x_6) (fun (y_7 : Int64) => if (0 : Int64) ≤ y_7 then nm (f_XMe_putDecimal u0 (xF u0 9) (8 : Int32) (if 0 < y_7 then y_7 else -y_7) false) (fun (u_9 : XS) => ((0 : Int32), u_9)) else nm (f_XMe_putDecimal u0 (xF u0 9) (8 : Int32) (if 0 < y_7 then y_7 else -y_7) true) (fun (u_10 : XS) => ((0 : Int32), u_10)))) else pr (f_XDe_convertToBinary u0) (fun (x_5 : Int32) (u_4 : XS) => (x_5, u_4)) else (x_1, u0))
set_option maxHeartbeats 4000000 in
set_option maxRecDepth 100000 in
theorem c_XDe_convert (l : Launch) (D : va_G) (a : Nat → Nat) (k : Nat → ClassId) (u0 : XS)  : zMi l y_XDe_convert w_XDe_convert rm_XDe_convert D clX (tyX k) nwX (xW a k) [.ref (a 11), .ref (a 6)] u0 (f_XDe_convert u0) := by
  generalize hF : f_XDe_convert u0 = F
  have hf := hF.symm
  unfold f_XDe_convert at hf
  refine zMi_of (cc := b_XDe_convert) (maxL := 5) (own := RX_De) (by decide) rfl rfl (Nat.le_of_ble_eq_true rfl) ?_
  intro p e R st m args below meth c A H locs Q ls hR hx hb hml hown hts hw hS hret hl
  subst hR
  have hcs : 0 ≤ (rm_XDe_convert).cells ∧ 0 ≤ (rm_XDe_convert).slots := ⟨Nat.zero_le _, Nat.zero_le _⟩
  have hl : lv_has ls 5 [(0, .ref (a 11)), (1, .ref (a 6))] := hl
  refine lv_aload_n hx hb d_XDe_convert_0 rfl (lv_at hl 0 rfl) ?_
  refine va_get (v := .ref (a 2)) hx hb hts iX_De hown hw.2.1 hw.1 11 rfl rfl 1 (by decide) (hts _ kX_De_25) (fun _ h => h) rfl d_XDe_convert_1 ?_
  refine lv_aload_n hx hb d_XDe_convert_4 rfl (lv_at hl 1 rfl) ?_
  refine va_getN (v := .int (xF u0 9)) hx hb hts iX_In hown hw.2.1 hw.1 6 rfl rfl 5 (by decide) (va_Nw.use rfl (hw.2.2.2 _ kX_De_26).2) (fun _ h => h) rfl d_XDe_convert_5 ?_
  refine lv_bipush (v := (8 : Int32)) hx hb d_XDe_convert_8 (by decide) ?_
  refine z_ri (z_runV (As := [.int (xF u0 9), .int (8 : Int32)]) (rest := []) ⟨hx, hb, hml, hown, hts⟩ (c_XMe_faultOf l D a k u0 (xF u0 9) (8 : Int32)) (qX_De_32 hts (by decide)) hw 2 rfl rfl hl.1 rfl (lv_room (Nat.le_of_ble_eq_true rfl)) d_XDe_convert_10 hcs) (fun x_1 ex_1 => ?_)
  have hf := hf.trans (nm_eq ex_1)
  refine lv_istore_n (lv' := [(2, .int x_1), (0, .ref (a 11)), (1, .ref (a 6))]) hx hb d_XDe_convert_13 rfl hl (by decide) rfl (fun ls hl => ?_)
  refine lv_iload_n hx hb d_XDe_convert_14 rfl (lv_at hl 0 rfl) ?_
  refine lv_if_eq (tgt := 20) hx hb d_XDe_convert_15 (by decide) (fun c_2 => ?_) (fun c_2 => ?_)
  · have hf := hf.trans (if_pos c_2)
    refine lv_aload_n hx hb d_XDe_convert_20 rfl (lv_at hl 2 rfl) ?_
    refine va_getN (v := .int (xF u0 4)) hx hb hts iX_In hown hw.2.1 hw.1 6 rfl rfl 0 (by decide) (va_Nw.use rfl (hw.2.2.2 _ kX_De_38).2) (fun _ h => h) rfl d_XDe_convert_21 ?_
    refine lv_bipush (v := (78 : Int32)) hx hb d_XDe_convert_24 (by decide) ?_
    refine lv_icmp_ne (tgt := 72) hx hb d_XDe_convert_26 (by decide) (fun c_3 => ?_) (fun c_3 => ?_)
    · have hf := hf.trans (if_neg c_3)
      refine lv_aload_n hx hb d_XDe_convert_72 rfl (lv_at hl 1 rfl) ?_
      refine lv_aload_n hx hb d_XDe_convert_73 rfl (lv_at hl 2 rfl) ?_
      refine z_wi (z_runV (As := [.ref (a 6)]) (rest := []) ⟨hx, hb, hml, hown, hts⟩ (c_XDe_convertToBinary l D a k u0) (qX_De_58 hts (by decide)) hw 11 rfl rfl hl.1 rfl (lv_room (Nat.le_of_ble_eq_true rfl)) d_XDe_convert_74 hcs) hw hS (fun x_5 u_4 H locs ex_5 hw hS => ?_)
      have hf := hf.trans (pr_eq ex_5)
      exact hret x_5 _ _ _ _ _ d_XDe_convert_77 hw hS hf
    · have hf := hf.trans (if_pos c_3)
      refine lv_aload_n hx hb d_XDe_convert_29 rfl (lv_at hl 1 rfl) ?_
      refine va_get (v := .ref (a 1)) hx hb hts iX_De hown hw.2.1 hw.1 11 rfl rfl 0 (by decide) (hts _ kX_De_15) (fun _ h => h) rfl d_XDe_convert_30 ?_
      refine lv_aload_n hx hb d_XDe_convert_33 rfl (lv_at hl 2 rfl) ?_
      refine va_getN (v := .int (xF u0 6)) hx hb hts iX_In hown hw.2.1 hw.1 6 rfl rfl 2 (by decide) (va_Nw.use rfl (hw.2.2.2 _ kX_De_41).2) (fun _ h => h) rfl d_XDe_convert_34 ?_
      refine z_ri (z_runV (As := [.int (xF u0 6)]) (rest := []) ⟨hx, hb, hml, hown, hts⟩ (c_XSt_value l D a k u0 (xF u0 6)) (qX_De_44 hts (by decide)) hw 1 rfl rfl hl.1 rfl (lv_room (Nat.le_of_ble_eq_true rfl)) d_XDe_convert_37 hcs) (fun x_6 ex_6 => ?_)
      have hf := hf.trans (nm_eq ex_6)
      refine lv_i2l (v := Int32.toInt64 x_6) hx hb d_XDe_convert_40 rfl ?_
      refine lv_topl (fun y_7 ey_7 => ?_)
      have hf := hf.trans (nm_eq ey_7)
      refine lv_lstore_n (lv' := [(3, .long y_7), (2, .int x_1), (0, .ref (a 11)), (1, .ref (a 6))]) hx hb d_XDe_convert_41 rfl hl (by decide) rfl (fun ls hl => ?_)
      refine lv_aload_n hx hb d_XDe_convert_42 rfl (lv_at hl 2 rfl) ?_
      refine va_get (v := .ref (a 2)) hx hb hts iX_De hown hw.2.1 hw.1 11 rfl rfl 1 (by decide) (hts _ kX_De_25) (fun _ h => h) rfl d_XDe_convert_43 ?_
      refine lv_aload_n hx hb d_XDe_convert_46 rfl (lv_at hl 3 rfl) ?_
      refine va_getN (v := .int (xF u0 9)) hx hb hts iX_In hown hw.2.1 hw.1 6 rfl rfl 5 (by decide) (va_Nw.use rfl (hw.2.2.2 _ kX_De_26).2) (fun _ h => h) rfl d_XDe_convert_47 ?_
      refine lv_bipush (v := (8 : Int32)) hx hb d_XDe_convert_50 (by decide) ?_
      refine lv_lload_n hx hb d_XDe_convert_52 rfl (lv_at hl 0 rfl) ?_
      refine va_mabs_long hx hb (hml.trans hl.1.symm) hown (hts _ kX_De_48) (hts _ kX_abs_static) (hts _ kX_abs_ini) (hts _ kX_abs_code) (by decide) (Nat.le_of_ble_eq_true rfl) hcs.1 hcs.2 d_XDe_convert_53 ?_
      refine lv_lload_n hx hb d_XDe_convert_56 rfl (lv_at hl 0 rfl) ?_
      refine lv_lconst (v := 0) hx hb d_XDe_convert_57 (by decide) ?_
      refine z_lcmp_ge (tgt := 66) hx hb d_XDe_convert_58 d_XDe_convert_59 (by decide) (fun c_8 => ?_) (fun c_8 => ?_)
      · have hf := hf.trans (if_pos c_8)
        refine lv_iconst (v := (0 : Int32)) hx hb d_XDe_convert_66 (by decide) ?_
        refine z_wv (z_runV (As := [.int (xF u0 9), .int (8 : Int32), .long (if 0 < y_7 then y_7 else -y_7), .int (0 : Int32)]) (rest := []) ⟨hx, hb, hml, hown, hts⟩ (c_XMe_putDecimal l D a k u0 (xF u0 9) (8 : Int32) (if 0 < y_7 then y_7 else -y_7) false) (qX_De_54 hts (by decide)) hw 2 rfl rfl hl.1 rfl (lv_room (Nat.le_of_ble_eq_true rfl)) d_XDe_convert_67 hcs) hw hS (fun u_9 H locs eu_9 hw hS => ?_)
        have hf := hf.trans (nm_eq eu_9)
        refine lv_iconst (v := (0 : Int32)) hx hb d_XDe_convert_70 (by decide) ?_
        exact hret (0 : Int32) _ _ _ _ _ d_XDe_convert_71 hw hS hf
      · have hf := hf.trans (if_neg c_8)
        refine lv_iconst (v := (1 : Int32)) hx hb d_XDe_convert_62 (by decide) ?_
        refine lv_goto (tgt := 67) hx hb d_XDe_convert_63 (by decide) ?_
        refine z_wv (z_runV (As := [.int (xF u0 9), .int (8 : Int32), .long (if 0 < y_7 then y_7 else -y_7), .int (1 : Int32)]) (rest := []) ⟨hx, hb, hml, hown, hts⟩ (c_XMe_putDecimal l D a k u0 (xF u0 9) (8 : Int32) (if 0 < y_7 then y_7 else -y_7) true) (qX_De_54 hts (by decide)) hw 2 rfl rfl hl.1 rfl (lv_room (Nat.le_of_ble_eq_true rfl)) d_XDe_convert_67 hcs) hw hS (fun u_10 H locs eu_10 hw hS => ?_)
        have hf := hf.trans (nm_eq eu_10)
        refine lv_iconst (v := (0 : Int32)) hx hb d_XDe_convert_70 (by decide) ?_
        exact hret (0 : Int32) _ _ _ _ _ d_XDe_convert_71 hw hS hf
  · have hf := hf.trans (if_neg c_2)
    refine lv_iload_n hx hb d_XDe_convert_18 rfl (lv_at hl 0 rfl) ?_
    exact hret x_1 _ _ _ _ _ d_XDe_convert_19 hw hS hf
def f_XDe_sourceOctet (u0 : XS) (x1 : Int32) : Int32 := if x1 < (0 : Int32) then (0 : Int32) else if (16 : Int32) ≤ x1 then (0 : Int32) else (xO u0 (Int32.toNatClampNeg x1))
set_option maxHeartbeats 4000000 in
set_option maxRecDepth 100000 in
theorem c_XDe_sourceOctet (l : Launch) (D : va_G) (a : Nat → Nat) (k : Nat → ClassId) (u0 : XS) (x1 : Int32) : zRi l y_XDe_sourceOctet w_XDe_sourceOctet rm_XDe_sourceOctet D clX (tyX k) nwX (xW a k) [.ref (a 11), .int x1] u0 (f_XDe_sourceOctet u0 x1) := by
  generalize hF : f_XDe_sourceOctet u0 x1 = F
  have hf := hF.symm
  unfold f_XDe_sourceOctet at hf
  refine zRi_of (cc := b_XDe_sourceOctet) (maxL := 2) (own := RX_De) (by decide) rfl rfl (Nat.le_of_ble_eq_true rfl) ?_
  intro p e R st m args below meth c H locs Q ls hR hx hb hml hown hts hw hret hl
  subst hR
  have hcs : 0 ≤ (rm_XDe_sourceOctet).cells ∧ 0 ≤ (rm_XDe_sourceOctet).slots := ⟨Nat.zero_le _, Nat.zero_le _⟩
  have hl : lv_has ls 2 [(0, .ref (a 11)), (1, .int x1)] := hl
  refine lv_iload_n hx hb d_XDe_sourceOctet_0 rfl (lv_at hl 1 rfl) ?_
  refine lv_if_lt (tgt := 22) hx hb d_XDe_sourceOctet_1 (by decide) (fun c_1 => ?_) (fun c_1 => ?_)
  · have hf := hf.trans (if_pos c_1)
    refine lv_iconst (v := (0 : Int32)) hx hb d_XDe_sourceOctet_22 (by decide) ?_
    exact hret (0 : Int32) _ _ d_XDe_sourceOctet_23 hf
  · have hf := hf.trans (if_neg c_1)
    refine lv_iload_n hx hb d_XDe_sourceOctet_4 rfl (lv_at hl 1 rfl) ?_
    refine lv_aload_n hx hb d_XDe_sourceOctet_5 rfl (lv_at hl 0 rfl) ?_
    refine va_get (v := .ref (a 12)) hx hb hts iX_De hown hw.2.1 hw.1 11 rfl rfl 2 (by decide) (hts _ kX_De_9) (fun _ h => h) rfl d_XDe_sourceOctet_6 ?_
    refine va_alen (v := 16) hx hb hw.2.1 hw.1 12 2 rfl rfl rfl d_XDe_sourceOctet_9 ?_
    refine lv_icmp_ge (tgt := 22) hx hb d_XDe_sourceOctet_10 (by decide) (fun c_2 => ?_) (fun c_2 => ?_)
    · have hf := hf.trans (if_pos c_2)
      refine lv_iconst (v := (0 : Int32)) hx hb d_XDe_sourceOctet_22 (by decide) ?_
      exact hret (0 : Int32) _ _ d_XDe_sourceOctet_23 hf
    · have hf := hf.trans (if_neg c_2)
      refine lv_aload_n hx hb d_XDe_sourceOctet_13 rfl (lv_at hl 0 rfl) ?_
      refine va_get (v := .ref (a 12)) hx hb hts iX_De hown hw.2.1 hw.1 11 rfl rfl 2 (by decide) (hts _ kX_De_9) (fun _ h => h) rfl d_XDe_sourceOctet_14 ?_
      refine lv_iload_n hx hb d_XDe_sourceOctet_17 rfl (lv_at hl 1 rfl) ?_
      refine va_iald hx hb hw.2.1 hw.1 12 2 rfl rfl (z_in16 (by assumption) (by assumption)) d_XDe_sourceOctet_18 ?_
      refine lv_goto (tgt := 23) hx hb d_XDe_sourceOctet_19 (by decide) ?_
      exact hret (xO u0 (Int32.toNatClampNeg x1)) _ _ d_XDe_sourceOctet_23 hf
def g_XDe_packRest_10 (x1 : Int32) (L_6 : Int32 → Int32 → XS → XS) : Int32 → Int32 → XS → XS := fun x_3 x_4 u_5 => if x_4 < (0 : Int32) then u_5 else nm (f_XDe_sourceOctet u_5 x_3) (fun (x_9 : Int32) => nm (x_9 &&& (15 : Int32)) (fun (x_10 : Int32) => nm (f_XDe_sourceOctet u_5 (x_3 - (1 : Int32))) (fun (x_11 : Int32) => nm (x_11 &&& (15 : Int32)) (fun (x_12 : Int32) => nm (f_XMe_put u_5 (x1 + x_4) ((x_12 <<< ((4 : Int32) &&& 31)) ||| x_10)) (fun (u_13 : XS) => nm (x_3 - (2 : Int32)) (fun (x_14 : Int32) => nm (x_4 + (-1 : Int32)) (fun (x_15 : Int32) => L_6 x_14 x_15 u_13)))))))
def f_XDe_packRest (u0 : XS) (x1 : Int32) (x2 : Int32) (x3 : Int32) : XS := nm (x3 - (2 : Int32)) (fun (x_1 : Int32) => nm (x2 - (2 : Int32)) (fun (x_2 : Int32) => lpN ((Int32.toInt x_2 + 1).toNat + 1) (g_XDe_packRest_10 x1) (fun _ _ _ => default) x_1 x_2 u0))
set_option maxHeartbeats 4000000 in
set_option maxRecDepth 100000 in
theorem c_XDe_packRest (l : Launch) (D : va_G) (a : Nat → Nat) (k : Nat → ClassId) (u0 : XS) (x1 : Int32) (x2 : Int32) (x3 : Int32) : zMv l y_XDe_packRest w_XDe_packRest rm_XDe_packRest D clX (tyX k) nwX (xW a k) [.ref (a 11), .int x1, .int x2, .int x3] u0 (f_XDe_packRest u0 x1 x2 x3) := by
  generalize hF : f_XDe_packRest u0 x1 x2 x3 = F
  have hf := hF.symm
  unfold f_XDe_packRest at hf
  refine zMv_of (cc := b_XDe_packRest) (maxL := 8) (own := RX_De) (by decide) rfl rfl (Nat.le_of_ble_eq_true rfl) ?_
  intro p e R st m args below meth c A H locs Q ls hR hx hb hml hown hts hw hS hret hl
  subst hR
  have hcs : 0 ≤ (rm_XDe_packRest).cells ∧ 0 ≤ (rm_XDe_packRest).slots := ⟨Nat.zero_le _, Nat.zero_le _⟩
  have hl : lv_has ls 8 [(0, .ref (a 11)), (1, .int x1), (2, .int x2), (3, .int x3)] := hl
  refine lv_iload_n hx hb d_XDe_packRest_0 rfl (lv_at hl 3 rfl) ?_
  refine lv_iconst (v := (2 : Int32)) hx hb d_XDe_packRest_1 (by decide) ?_
  refine lv_isub hx hb d_XDe_packRest_2 ?_
  refine lv_topi (fun x_1 ex_1 => ?_)
  have hf := hf.trans (nm_eq ex_1)
  refine lv_istore (lv' := [(4, .int x_1), (0, .ref (a 11)), (1, .int x1), (2, .int x2), (3, .int x3)]) hx hb d_XDe_packRest_3 hl (by decide) rfl (fun ls hl => ?_)
  refine lv_iload_n hx hb d_XDe_packRest_5 rfl (lv_at hl 3 rfl) ?_
  refine lv_iconst (v := (2 : Int32)) hx hb d_XDe_packRest_6 (by decide) ?_
  refine lv_isub hx hb d_XDe_packRest_7 ?_
  refine lv_topi (fun x_2 ex_2 => ?_)
  have hf := hf.trans (nm_eq ex_2)
  refine lv_istore (lv' := [(5, .int x_2), (4, .int x_1), (0, .ref (a 11)), (1, .int x1), (2, .int x2), (3, .int x3)]) hx hb d_XDe_packRest_8 hl (by decide) rfl (fun ls hl => ?_)
  refine lp_cut (fun (n_7 : Nat) (L_6 : Int32 → Int32 → XS → XS) => ∀ (x_3 : Int32) (x_4 : Int32) (u_5 : XS), (Int32.toInt x_4 + 1).toNat < n_7 → ∀ (H : Heap) (locs : List Loc), zW D clX (tyX k) nwX (xW a k) A st u_5 H → va_S A st.heap H locs → ∀ (ls : Array Slot), lv_has ls 8 [(0, .ref (a 11)), (1, .int x1), (4, .int x_3), (5, .int x_4)] → F = L_6 x_3 x_4 u_5 → W p l e rm_XDe_packRest st m args below meth c H locs 0 0 Q (F0 m 10 ls [])) ?_ ?_ ((Int32.toInt x_2 + 1).toNat + 1) x_1 x_2 u0 (Nat.lt_succ_self _) _ _ hw hS _ (lv_sub hl [2, 3, 1, 0] rfl) hf
  · intro x_3 x_4 u_5 hn; exact absurd hn (Nat.not_lt_zero _)
  · intro n_7 L_6 hL_6 x_3 x_4 u_5 hn H locs hw hS ls hl hf
    unfold g_XDe_packRest_10 at hf
    refine lv_iload hx hb d_XDe_packRest_10 (lv_at hl 3 rfl) ?_
    refine lv_if_lt (tgt := 69) hx hb d_XDe_packRest_12 (by decide) (fun c_8 => ?_) (fun c_8 => ?_)
    · have hf := hf.trans (if_pos c_8)
      exact hret _ _ _ _ _ d_XDe_packRest_69 hw hS hf
    · have hf := hf.trans (if_neg c_8)
      refine lv_aload_n hx hb d_XDe_packRest_15 rfl (lv_at hl 0 rfl) ?_
      refine lv_iload hx hb d_XDe_packRest_16 (lv_at hl 2 rfl) ?_
      refine z_ri (z_runV (As := [.int x_3]) (rest := []) ⟨hx, hb, hml, hown, hts⟩ (c_XDe_sourceOctet l D a k u_5 x_3) (qX_De_86 hts (by decide)) hw 11 rfl rfl hl.1 rfl (lv_room (Nat.le_of_ble_eq_true rfl)) d_XDe_packRest_18 hcs) (fun x_9 ex_9 => ?_)
      have hf := hf.trans (nm_eq ex_9)
      refine lv_bipush (v := (15 : Int32)) hx hb d_XDe_packRest_21 (by decide) ?_
      refine lv_iand hx hb d_XDe_packRest_23 ?_
      refine lv_topi (fun x_10 ex_10 => ?_)
      have hf := hf.trans (nm_eq ex_10)
      refine lv_istore (lv' := [(6, .int x_10), (0, .ref (a 11)), (1, .int x1), (4, .int x_3), (5, .int x_4)]) hx hb d_XDe_packRest_24 hl (by decide) rfl (fun ls hl => ?_)
      refine lv_aload_n hx hb d_XDe_packRest_26 rfl (lv_at hl 1 rfl) ?_
      refine lv_iload hx hb d_XDe_packRest_27 (lv_at hl 3 rfl) ?_
      refine lv_iconst (v := (1 : Int32)) hx hb d_XDe_packRest_29 (by decide) ?_
      refine lv_isub hx hb d_XDe_packRest_30 ?_
      refine z_ri (z_runV (As := [.int (x_3 - (1 : Int32))]) (rest := []) ⟨hx, hb, hml, hown, hts⟩ (c_XDe_sourceOctet l D a k u_5 (x_3 - (1 : Int32))) (qX_De_86 hts (by decide)) hw 11 rfl rfl hl.1 rfl (lv_room (Nat.le_of_ble_eq_true rfl)) d_XDe_packRest_31 hcs) (fun x_11 ex_11 => ?_)
      have hf := hf.trans (nm_eq ex_11)
      refine lv_bipush (v := (15 : Int32)) hx hb d_XDe_packRest_34 (by decide) ?_
      refine lv_iand hx hb d_XDe_packRest_36 ?_
      refine lv_topi (fun x_12 ex_12 => ?_)
      have hf := hf.trans (nm_eq ex_12)
      refine lv_istore (lv' := [(7, .int x_12), (6, .int x_10), (0, .ref (a 11)), (1, .int x1), (4, .int x_3), (5, .int x_4)]) hx hb d_XDe_packRest_37 hl (by decide) rfl (fun ls hl => ?_)
      refine lv_aload_n hx hb d_XDe_packRest_39 rfl (lv_at hl 2 rfl) ?_
      refine va_get (v := .ref (a 2)) hx hb hts iX_De hown hw.2.1 hw.1 11 rfl rfl 1 (by decide) (hts _ kX_De_25) (fun _ h => h) rfl d_XDe_packRest_40 ?_
      refine lv_iload_n hx hb d_XDe_packRest_43 rfl (lv_at hl 3 rfl) ?_
      refine lv_iload hx hb d_XDe_packRest_44 (lv_at hl 5 rfl) ?_
      refine lv_iadd hx hb d_XDe_packRest_46 ?_
      refine lv_iload hx hb d_XDe_packRest_47 (lv_at hl 0 rfl) ?_
      refine lv_iconst (v := (4 : Int32)) hx hb d_XDe_packRest_49 (by decide) ?_
      refine lv_ishl hx hb d_XDe_packRest_50 ?_
      refine lv_iload hx hb d_XDe_packRest_51 (lv_at hl 1 rfl) ?_
      refine lv_ior hx hb d_XDe_packRest_53 ?_
      refine z_wv (z_runV (As := [.int (x1 + x_4), .int ((x_12 <<< ((4 : Int32) &&& 31)) ||| x_10)]) (rest := []) ⟨hx, hb, hml, hown, hts⟩ (c_XMe_put l D a k u_5 (x1 + x_4) ((x_12 <<< ((4 : Int32) &&& 31)) ||| x_10)) (qX_De_89 hts (by decide)) hw 2 rfl rfl hl.1 rfl (lv_room (Nat.le_of_ble_eq_true rfl)) d_XDe_packRest_54 hcs) hw hS (fun u_13 H locs eu_13 hw hS => ?_)
      have hf := hf.trans (nm_eq eu_13)
      refine lv_iload hx hb d_XDe_packRest_57 (lv_at hl 4 rfl) ?_
      refine lv_iconst (v := (2 : Int32)) hx hb d_XDe_packRest_59 (by decide) ?_
      refine lv_isub hx hb d_XDe_packRest_60 ?_
      refine lv_topi (fun x_14 ex_14 => ?_)
      have hf := hf.trans (nm_eq ex_14)
      refine lv_istore (lv' := [(4, .int x_14), (7, .int x_12), (6, .int x_10), (0, .ref (a 11)), (1, .int x1), (5, .int x_4)]) hx hb d_XDe_packRest_61 hl (by decide) rfl (fun ls hl => ?_)
      obtain ⟨x_15, ex_15⟩ : ∃ y : Int32, y = x_4 + (-1 : Int32) := ⟨_, rfl⟩
      have hf := hf.trans (nm_eq ex_15)
      refine lv_iinc (v := x_15) (lv' := [(5, .int x_15), (4, .int x_14), (7, .int x_12), (6, .int x_10), (0, .ref (a 11)), (1, .int x1)]) hx hb d_XDe_packRest_63 hl (k := 5) rfl (by rw [ex_15]; rfl) (by decide) rfl (fun ls hl => ?_)
      refine lv_goto (tgt := 10) hx hb d_XDe_packRest_66 (by decide) ?_
      exact hL_6 x_14 x_15 u_13 (mu_dn c_8 ex_15 hn) _ _ hw hS _ (lv_sub hl [4, 5, 1, 0] rfl) hf
def g_XDe_unpackRest_3 (x2 : Int32) (x3 : Int32) (x1 : Int32) (L_3 : Int32 → XS → XS) : Int32 → XS → XS := fun x_1 u_2 => if (x2 - (1 : Int32)) ≤ x_1 then u_2 else nm (f_XDe_sourceOctet u_2 ((x3 - (2 : Int32)) - (x_1 / (2 : Int32)))) (fun (x_6 : Int32) => jn (fun (K_8 : Int32 → XS) => if (x_1 - x_1 / (2 : Int32) * (2 : Int32)) = (0 : Int32) then K_8 (x_6 &&& (15 : Int32)) else K_8 (x_6 >>> ((4 : Int32) &&& 31))) (fun (x_7 : Int32) => nm (f_XMe_put u_2 (((x1 + x2) - (2 : Int32)) - x_1) ((240 : Int32) ||| x_7)) (fun (u_9 : XS) => nm (x_1 + (1 : Int32)) (fun (x_10 : Int32) => L_3 x_10 u_9))))
def f_XDe_unpackRest (u0 : XS) (x1 : Int32) (x2 : Int32) (x3 : Int32) : XS := lpN ((Int32.toInt (x2 - 1) - Int32.toInt (0 : Int32)).toNat + 1) (g_XDe_unpackRest_3 x2 x3 x1) (fun _ _ => default) (0 : Int32) u0
set_option maxHeartbeats 4000000 in
set_option maxRecDepth 100000 in
theorem c_XDe_unpackRest (l : Launch) (D : va_G) (a : Nat → Nat) (k : Nat → ClassId) (u0 : XS) (x1 : Int32) (x2 : Int32) (x3 : Int32) : zMv l y_XDe_unpackRest w_XDe_unpackRest rm_XDe_unpackRest D clX (tyX k) nwX (xW a k) [.ref (a 11), .int x1, .int x2, .int x3] u0 (f_XDe_unpackRest u0 x1 x2 x3) := by
  generalize hF : f_XDe_unpackRest u0 x1 x2 x3 = F
  have hf := hF.symm
  unfold f_XDe_unpackRest at hf
  refine zMv_of (cc := b_XDe_unpackRest) (maxL := 7) (own := RX_De) (by decide) rfl rfl (Nat.le_of_ble_eq_true rfl) ?_
  intro p e R st m args below meth c A H locs Q ls hR hx hb hml hown hts hw hS hret hl
  subst hR
  have hcs : 0 ≤ (rm_XDe_unpackRest).cells ∧ 0 ≤ (rm_XDe_unpackRest).slots := ⟨Nat.zero_le _, Nat.zero_le _⟩
  have hl : lv_has ls 7 [(0, .ref (a 11)), (1, .int x1), (2, .int x2), (3, .int x3)] := hl
  refine lv_iconst (v := (0 : Int32)) hx hb d_XDe_unpackRest_0 (by decide) ?_
  refine lv_istore (lv' := [(4, .int (0 : Int32)), (0, .ref (a 11)), (1, .int x1), (2, .int x2), (3, .int x3)]) hx hb d_XDe_unpackRest_1 hl (by decide) rfl (fun ls hl => ?_)
  refine lp_cut (fun (n_4 : Nat) (L_3 : Int32 → XS → XS) => ∀ (x_1 : Int32) (u_2 : XS), (Int32.toInt (x2 - 1) - Int32.toInt x_1).toNat < n_4 → ∀ (H : Heap) (locs : List Loc), zW D clX (tyX k) nwX (xW a k) A st u_2 H → va_S A st.heap H locs → ∀ (ls : Array Slot), lv_has ls 7 [(0, .ref (a 11)), (1, .int x1), (2, .int x2), (3, .int x3), (4, .int x_1)] → F = L_3 x_1 u_2 → W p l e rm_XDe_unpackRest st m args below meth c H locs 0 0 Q (F0 m 3 ls [])) ?_ ?_ ((Int32.toInt (x2 - 1) - Int32.toInt (0 : Int32)).toNat + 1) (0 : Int32) u0 (Nat.lt_succ_self _) _ _ hw hS _ (lv_sub hl [1, 2, 3, 4, 0] rfl) hf
  · intro x_1 u_2 hn; exact absurd hn (Nat.not_lt_zero _)
  · intro n_4 L_3 hL_3 x_1 u_2 hn H locs hw hS ls hl hf
    unfold g_XDe_unpackRest_3 at hf
    refine lv_iload hx hb d_XDe_unpackRest_3 (lv_at hl 4 rfl) ?_
    refine lv_iload_n hx hb d_XDe_unpackRest_5 rfl (lv_at hl 2 rfl) ?_
    refine lv_iconst (v := (1 : Int32)) hx hb d_XDe_unpackRest_6 (by decide) ?_
    refine lv_isub hx hb d_XDe_unpackRest_7 ?_
    refine lv_icmp_ge (tgt := 73) hx hb d_XDe_unpackRest_8 (by decide) (fun c_5 => ?_) (fun c_5 => ?_)
    · have hf := hf.trans (if_pos c_5)
      exact hret _ _ _ _ _ d_XDe_unpackRest_73 hw hS hf
    · have hf := hf.trans (if_neg c_5)
      refine lv_aload_n hx hb d_XDe_unpackRest_11 rfl (lv_at hl 0 rfl) ?_
      refine lv_iload_n hx hb d_XDe_unpackRest_12 rfl (lv_at hl 3 rfl) ?_
      refine lv_iconst (v := (2 : Int32)) hx hb d_XDe_unpackRest_13 (by decide) ?_
      refine lv_isub hx hb d_XDe_unpackRest_14 ?_
      refine lv_iload hx hb d_XDe_unpackRest_15 (lv_at hl 4 rfl) ?_
      refine lv_iconst (v := (2 : Int32)) hx hb d_XDe_unpackRest_17 (by decide) ?_
      refine lv_idiv hx hb d_XDe_unpackRest_18 (by decide) ?_
      refine lv_isub hx hb d_XDe_unpackRest_19 ?_
      refine z_ri (z_runV (As := [.int ((x3 - (2 : Int32)) - (x_1 / (2 : Int32)))]) (rest := []) ⟨hx, hb, hml, hown, hts⟩ (c_XDe_sourceOctet l D a k u_2 ((x3 - (2 : Int32)) - (x_1 / (2 : Int32)))) (qX_De_86 hts (by decide)) hw 11 rfl rfl hl.1 rfl (lv_room (Nat.le_of_ble_eq_true rfl)) d_XDe_unpackRest_20 hcs) (fun x_6 ex_6 => ?_)
      have hf := hf.trans (nm_eq ex_6)
      refine lv_istore (lv' := [(5, .int x_6), (0, .ref (a 11)), (1, .int x1), (2, .int x2), (3, .int x3), (4, .int x_1)]) hx hb d_XDe_unpackRest_23 hl (by decide) rfl (fun ls hl => ?_)
      refine lv_iload hx hb d_XDe_unpackRest_25 (lv_at hl 5 rfl) ?_
      refine lv_iconst (v := (2 : Int32)) hx hb d_XDe_unpackRest_27 (by decide) ?_
      refine lv_irem hx hb d_XDe_unpackRest_28 (by decide) ?_
      refine jn_cut hf (fun (K_8 : Int32 → XS) => ∀ (x_7 : Int32), ∀ (ls : Array Slot), lv_has ls 7 [(0, .ref (a 11)), (1, .int x1), (2, .int x2), (3, .int x3), (4, .int x_1)] → F = K_8 x_7 → W p l e rm_XDe_unpackRest st m args below meth c H locs 0 0 Q (F0 m 44 ls [.int x_7])) ?_ ?_
      · intro x_7 ls hl hf
        refine lv_istore (lv' := [(6, .int x_7), (0, .ref (a 11)), (1, .int x1), (2, .int x2), (3, .int x3), (4, .int x_1)]) hx hb d_XDe_unpackRest_44 hl (by decide) rfl (fun ls hl => ?_)
        refine lv_aload_n hx hb d_XDe_unpackRest_46 rfl (lv_at hl 1 rfl) ?_
        refine va_get (v := .ref (a 2)) hx hb hts iX_De hown hw.2.1 hw.1 11 rfl rfl 1 (by decide) (hts _ kX_De_25) (fun _ h => h) rfl d_XDe_unpackRest_47 ?_
        refine lv_iload_n hx hb d_XDe_unpackRest_50 rfl (lv_at hl 2 rfl) ?_
        refine lv_iload_n hx hb d_XDe_unpackRest_51 rfl (lv_at hl 3 rfl) ?_
        refine lv_iadd hx hb d_XDe_unpackRest_52 ?_
        refine lv_iconst (v := (2 : Int32)) hx hb d_XDe_unpackRest_53 (by decide) ?_
        refine lv_isub hx hb d_XDe_unpackRest_54 ?_
        refine lv_iload hx hb d_XDe_unpackRest_55 (lv_at hl 5 rfl) ?_
        refine lv_isub hx hb d_XDe_unpackRest_57 ?_
        refine lv_sipush (v := (240 : Int32)) hx hb d_XDe_unpackRest_58 (by decide) ?_
        refine lv_iload hx hb d_XDe_unpackRest_61 (lv_at hl 0 rfl) ?_
        refine lv_ior hx hb d_XDe_unpackRest_63 ?_
        refine z_wv (z_runV (As := [.int (((x1 + x2) - (2 : Int32)) - x_1), .int ((240 : Int32) ||| x_7)]) (rest := []) ⟨hx, hb, hml, hown, hts⟩ (c_XMe_put l D a k u_2 (((x1 + x2) - (2 : Int32)) - x_1) ((240 : Int32) ||| x_7)) (qX_De_89 hts (by decide)) hw 2 rfl rfl hl.1 rfl (lv_room (Nat.le_of_ble_eq_true rfl)) d_XDe_unpackRest_64 hcs) hw hS (fun u_9 H locs eu_9 hw hS => ?_)
        have hf := hf.trans (nm_eq eu_9)
        obtain ⟨x_10, ex_10⟩ : ∃ y : Int32, y = x_1 + (1 : Int32) := ⟨_, rfl⟩
        have hf := hf.trans (nm_eq ex_10)
        refine lv_iinc (v := x_10) (lv' := [(4, .int x_10), (6, .int x_7), (0, .ref (a 11)), (1, .int x1), (2, .int x2), (3, .int x3)]) hx hb d_XDe_unpackRest_67 hl (k := 5) rfl (by rw [ex_10]; rfl) (by decide) rfl (fun ls hl => ?_)
        refine lv_goto (tgt := 3) hx hb d_XDe_unpackRest_70 (by decide) ?_
        exact hL_3 x_10 u_9 (mu_up c_5 ex_10 hn) _ _ hw hS _ (lv_sub hl [2, 3, 4, 5, 0] rfl) hf
      · intro K_8 hK_8 hf
        refine lv_if_ne (tgt := 40) hx hb d_XDe_unpackRest_29 (by decide) (fun c_11 => ?_) (fun c_11 => ?_)
        · have hf := hf.trans (if_neg c_11)
          refine lv_iload hx hb d_XDe_unpackRest_40 (lv_at hl 0 rfl) ?_
          refine lv_iconst (v := (4 : Int32)) hx hb d_XDe_unpackRest_42 (by decide) ?_
          refine lv_ishr hx hb d_XDe_unpackRest_43 ?_
          exact hK_8 (x_6 >>> ((4 : Int32) &&& 31)) _ (lv_sub hl [1, 2, 3, 4, 5] rfl) hf
        · have hf := hf.trans (if_pos c_11)
          refine lv_iload hx hb d_XDe_unpackRest_32 (lv_at hl 0 rfl) ?_
          refine lv_bipush (v := (15 : Int32)) hx hb d_XDe_unpackRest_34 (by decide) ?_
          refine lv_iand hx hb d_XDe_unpackRest_36 ?_
          refine lv_goto (tgt := 44) hx hb d_XDe_unpackRest_37 (by decide) ?_
          exact hK_8 (x_6 &&& (15 : Int32)) _ (lv_sub hl [1, 2, 3, 4, 5] rfl) hf
def g_XDe_changeForm_49 (x_2 : Int32) (K_8 : XS → Int32 × XS) (L_16 : Int32 → XS → Int32 × XS) : Int32 → XS → Int32 × XS := fun x_14 u_15 => if x_2 ≤ x_14 then K_8 u_15 else if (16 : Int32) ≤ x_14 then K_8 u_15 else nm (f_XMe_get u_15 ((xF u_15 9) + x_14)) (fun (x_20 : Int32) => nm (xsO u_15 (Int32.toNatClampNeg x_14) x_20) (fun (u_21 : XS) => nm (x_14 + (1 : Int32)) (fun (x_22 : Int32) => L_16 x_22 u_21)))
def f_XDe_changeForm (u0 : XS)  : Int32 × XS := nm ((xF u0 6) + (1 : Int32)) (fun (x_1 : Int32) => nm ((xF u0 7) + (1 : Int32)) (fun (x_2 : Int32) => nm (f_XMe_holds u0 (xF u0 8) x_1) (fun (z_3 : Bool) => if (bI z_3) = (0 : Int32) then ((5 : Int32), u0) else nm (f_XMe_holds u0 (xF u0 9) x_2) (fun (z_5 : Bool) => if (bI z_5) = (0 : Int32) then ((5 : Int32), u0) else jn (fun (K_8 : XS → Int32 × XS) => lpN ((Int32.toInt x_2 - Int32.toInt (0 : Int32)).toNat + 1) (g_XDe_changeForm_49 x_2 K_8) (fun _ _ => default) (0 : Int32) u0) (fun (u_7 : XS) => nm (f_XDe_sourceOctet u_7 (x_2 - (1 : Int32))) (fun (x_9 : Int32) => nm (f_XMe_put u_7 (((xF u_7 8) + x_1) - (1 : Int32)) (((x_9 &&& (15 : Int32)) <<< ((4 : Int32) &&& 31)) ||| (x_9 >>> ((4 : Int32) &&& 31)))) (fun (u_10 : XS) => if (xF u_10 4) = (242 : Int32) then nm (f_XDe_packRest u_10 (xF u_10 8) x_1 x_2) (fun (u_13 : XS) => ((0 : Int32), u_13)) else nm (f_XDe_unpackRest u_10 (xF u_10 8) x_1 x_2) (fun (u_12 : XS) => ((0 : Int32), u_12)))))))))
set_option maxHeartbeats 4000000 in
set_option maxRecDepth 100000 in
theorem c_XDe_changeForm (l : Launch) (D : va_G) (a : Nat → Nat) (k : Nat → ClassId) (u0 : XS)  : zMi l y_XDe_changeForm w_XDe_changeForm rm_XDe_changeForm D clX (tyX k) nwX (xW a k) [.ref (a 11), .ref (a 6)] u0 (f_XDe_changeForm u0) := by
  generalize hF : f_XDe_changeForm u0 = F
  have hf := hF.symm
  unfold f_XDe_changeForm at hf
  refine zMi_of (cc := b_XDe_changeForm) (maxL := 5) (own := RX_De) (by decide) rfl rfl (Nat.le_of_ble_eq_true rfl) ?_
  intro p e R st m args below meth c A H locs Q ls hR hx hb hml hown hts hw hS hret hl
  subst hR
  have hcs : 0 ≤ (rm_XDe_changeForm).cells ∧ 0 ≤ (rm_XDe_changeForm).slots := ⟨Nat.zero_le _, Nat.zero_le _⟩
  have hl : lv_has ls 5 [(0, .ref (a 11)), (1, .ref (a 6))] := hl
  refine lv_aload_n hx hb d_XDe_changeForm_0 rfl (lv_at hl 1 rfl) ?_
  refine va_getN (v := .int (xF u0 6)) hx hb hts iX_In hown hw.2.1 hw.1 6 rfl rfl 2 (by decide) (va_Nw.use rfl (hw.2.2.2 _ kX_De_41).2) (fun _ h => h) rfl d_XDe_changeForm_1 ?_
  refine lv_iconst (v := (1 : Int32)) hx hb d_XDe_changeForm_4 (by decide) ?_
  refine lv_iadd hx hb d_XDe_changeForm_5 ?_
  refine lv_topi (fun x_1 ex_1 => ?_)
  have hf := hf.trans (nm_eq ex_1)
  refine lv_istore_n (lv' := [(2, .int x_1), (0, .ref (a 11)), (1, .ref (a 6))]) hx hb d_XDe_changeForm_6 rfl hl (by decide) rfl (fun ls hl => ?_)
  refine lv_aload_n hx hb d_XDe_changeForm_7 rfl (lv_at hl 2 rfl) ?_
  refine va_getN (v := .int (xF u0 7)) hx hb hts iX_In hown hw.2.1 hw.1 6 rfl rfl 3 (by decide) (va_Nw.use rfl (hw.2.2.2 _ kX_De_74).2) (fun _ h => h) rfl d_XDe_changeForm_8 ?_
  refine lv_iconst (v := (1 : Int32)) hx hb d_XDe_changeForm_11 (by decide) ?_
  refine lv_iadd hx hb d_XDe_changeForm_12 ?_
  refine lv_topi (fun x_2 ex_2 => ?_)
  have hf := hf.trans (nm_eq ex_2)
  refine lv_istore_n (lv' := [(3, .int x_2), (2, .int x_1), (0, .ref (a 11)), (1, .ref (a 6))]) hx hb d_XDe_changeForm_13 rfl hl (by decide) rfl (fun ls hl => ?_)
  refine lv_aload_n hx hb d_XDe_changeForm_14 rfl (lv_at hl 2 rfl) ?_
  refine va_get (v := .ref (a 2)) hx hb hts iX_De hown hw.2.1 hw.1 11 rfl rfl 1 (by decide) (hts _ kX_De_25) (fun _ h => h) rfl d_XDe_changeForm_15 ?_
  refine lv_aload_n hx hb d_XDe_changeForm_18 rfl (lv_at hl 3 rfl) ?_
  refine va_getN (v := .int (xF u0 8)) hx hb hts iX_In hown hw.2.1 hw.1 6 rfl rfl 4 (by decide) (va_Nw.use rfl (hw.2.2.2 _ kX_De_77).2) (fun _ h => h) rfl d_XDe_changeForm_19 ?_
  refine lv_iload_n hx hb d_XDe_changeForm_22 rfl (lv_at hl 1 rfl) ?_
  refine z_rz (z_runV (As := [.int (xF u0 8), .int x_1]) (rest := []) ⟨hx, hb, hml, hown, hts⟩ (c_XMe_holds l D a k u0 (xF u0 8) x_1) (qX_De_80 hts (by decide)) hw 2 rfl rfl hl.1 rfl (lv_room (Nat.le_of_ble_eq_true rfl)) d_XDe_changeForm_23 hcs) (fun z_3 ez_3 => ?_)
  have hf := hf.trans (nm_eq ez_3)
  refine lv_if_eq (tgt := 44) hx hb d_XDe_changeForm_26 (by decide) (fun c_4 => ?_) (fun c_4 => ?_)
  · have hf := hf.trans (if_pos c_4)
    refine lv_iconst (v := (5 : Int32)) hx hb d_XDe_changeForm_44 (by decide) ?_
    exact hret (5 : Int32) _ _ _ _ _ d_XDe_changeForm_45 hw hS hf
  · have hf := hf.trans (if_neg c_4)
    refine lv_aload_n hx hb d_XDe_changeForm_29 rfl (lv_at hl 2 rfl) ?_
    refine va_get (v := .ref (a 2)) hx hb hts iX_De hown hw.2.1 hw.1 11 rfl rfl 1 (by decide) (hts _ kX_De_25) (fun _ h => h) rfl d_XDe_changeForm_30 ?_
    refine lv_aload_n hx hb d_XDe_changeForm_33 rfl (lv_at hl 3 rfl) ?_
    refine va_getN (v := .int (xF u0 9)) hx hb hts iX_In hown hw.2.1 hw.1 6 rfl rfl 5 (by decide) (va_Nw.use rfl (hw.2.2.2 _ kX_De_26).2) (fun _ h => h) rfl d_XDe_changeForm_34 ?_
    refine lv_iload_n hx hb d_XDe_changeForm_37 rfl (lv_at hl 0 rfl) ?_
    refine z_rz (z_runV (As := [.int (xF u0 9), .int x_2]) (rest := []) ⟨hx, hb, hml, hown, hts⟩ (c_XMe_holds l D a k u0 (xF u0 9) x_2) (qX_De_80 hts (by decide)) hw 2 rfl rfl hl.1 rfl (lv_room (Nat.le_of_ble_eq_true rfl)) d_XDe_changeForm_38 hcs) (fun z_5 ez_5 => ?_)
    have hf := hf.trans (nm_eq ez_5)
    refine lv_if_ne (tgt := 46) hx hb d_XDe_changeForm_41 (by decide) (fun c_6 => ?_) (fun c_6 => ?_)
    · have hf := hf.trans (if_neg c_6)
      refine lv_iconst (v := (0 : Int32)) hx hb d_XDe_changeForm_46 (by decide) ?_
      refine lv_istore (lv' := [(4, .int (0 : Int32)), (3, .int x_2), (2, .int x_1), (0, .ref (a 11)), (1, .ref (a 6))]) hx hb d_XDe_changeForm_47 hl (by decide) rfl (fun ls hl => ?_)
      refine jn_cut hf (fun (K_8 : XS → Int32 × XS) => ∀ (u_7 : XS), ∀ (H : Heap) (locs : List Loc), zW D clX (tyX k) nwX (xW a k) A st u_7 H → va_S A st.heap H locs → ∀ (ls : Array Slot), lv_has ls 5 [(0, .ref (a 11)), (1, .ref (a 6)), (2, .int x_1), (3, .int x_2)] → F = K_8 u_7 → W p l e rm_XDe_changeForm st m args below meth c H locs 0 0 Q (F0 m 92 ls [])) ?_ ?_
      · intro u_7 H locs hw hS ls hl hf
        refine lv_aload_n hx hb d_XDe_changeForm_92 rfl (lv_at hl 0 rfl) ?_
        refine lv_iload_n hx hb d_XDe_changeForm_93 rfl (lv_at hl 3 rfl) ?_
        refine lv_iconst (v := (1 : Int32)) hx hb d_XDe_changeForm_94 (by decide) ?_
        refine lv_isub hx hb d_XDe_changeForm_95 ?_
        refine z_ri (z_runV (As := [.int (x_2 - (1 : Int32))]) (rest := []) ⟨hx, hb, hml, hown, hts⟩ (c_XDe_sourceOctet l D a k u_7 (x_2 - (1 : Int32))) (qX_De_86 hts (by decide)) hw 11 rfl rfl hl.1 rfl (lv_room (Nat.le_of_ble_eq_true rfl)) d_XDe_changeForm_96 hcs) (fun x_9 ex_9 => ?_)
        have hf := hf.trans (nm_eq ex_9)
        refine lv_istore (lv' := [(4, .int x_9), (0, .ref (a 11)), (1, .ref (a 6)), (2, .int x_1), (3, .int x_2)]) hx hb d_XDe_changeForm_99 hl (by decide) rfl (fun ls hl => ?_)
        refine lv_aload_n hx hb d_XDe_changeForm_101 rfl (lv_at hl 1 rfl) ?_
        refine va_get (v := .ref (a 2)) hx hb hts iX_De hown hw.2.1 hw.1 11 rfl rfl 1 (by decide) (hts _ kX_De_25) (fun _ h => h) rfl d_XDe_changeForm_102 ?_
        refine lv_aload_n hx hb d_XDe_changeForm_105 rfl (lv_at hl 2 rfl) ?_
        refine va_getN (v := .int (xF u_7 8)) hx hb hts iX_In hown hw.2.1 hw.1 6 rfl rfl 4 (by decide) (va_Nw.use rfl (hw.2.2.2 _ kX_De_77).2) (fun _ h => h) rfl d_XDe_changeForm_106 ?_
        refine lv_iload_n hx hb d_XDe_changeForm_109 rfl (lv_at hl 3 rfl) ?_
        refine lv_iadd hx hb d_XDe_changeForm_110 ?_
        refine lv_iconst (v := (1 : Int32)) hx hb d_XDe_changeForm_111 (by decide) ?_
        refine lv_isub hx hb d_XDe_changeForm_112 ?_
        refine lv_iload hx hb d_XDe_changeForm_113 (lv_at hl 0 rfl) ?_
        refine lv_bipush (v := (15 : Int32)) hx hb d_XDe_changeForm_115 (by decide) ?_
        refine lv_iand hx hb d_XDe_changeForm_117 ?_
        refine lv_iconst (v := (4 : Int32)) hx hb d_XDe_changeForm_118 (by decide) ?_
        refine lv_ishl hx hb d_XDe_changeForm_119 ?_
        refine lv_iload hx hb d_XDe_changeForm_120 (lv_at hl 0 rfl) ?_
        refine lv_iconst (v := (4 : Int32)) hx hb d_XDe_changeForm_122 (by decide) ?_
        refine lv_ishr hx hb d_XDe_changeForm_123 ?_
        refine lv_ior hx hb d_XDe_changeForm_124 ?_
        refine z_wv (z_runV (As := [.int (((xF u_7 8) + x_1) - (1 : Int32)), .int (((x_9 &&& (15 : Int32)) <<< ((4 : Int32) &&& 31)) ||| (x_9 >>> ((4 : Int32) &&& 31)))]) (rest := []) ⟨hx, hb, hml, hown, hts⟩ (c_XMe_put l D a k u_7 (((xF u_7 8) + x_1) - (1 : Int32)) (((x_9 &&& (15 : Int32)) <<< ((4 : Int32) &&& 31)) ||| (x_9 >>> ((4 : Int32) &&& 31)))) (qX_De_89 hts (by decide)) hw 2 rfl rfl hl.1 rfl (lv_room (Nat.le_of_ble_eq_true rfl)) d_XDe_changeForm_125 hcs) hw hS (fun u_10 H locs eu_10 hw hS => ?_)
        have hf := hf.trans (nm_eq eu_10)
        refine lv_aload_n hx hb d_XDe_changeForm_128 rfl (lv_at hl 2 rfl) ?_
        refine va_getN (v := .int (xF u_10 4)) hx hb hts iX_In hown hw.2.1 hw.1 6 rfl rfl 0 (by decide) (va_Nw.use rfl (hw.2.2.2 _ kX_De_38).2) (fun _ h => h) rfl d_XDe_changeForm_129 ?_
        refine lv_sipush (v := (242 : Int32)) hx hb d_XDe_changeForm_132 (by decide) ?_
        refine lv_icmp_ne (tgt := 151) hx hb d_XDe_changeForm_135 (by decide) (fun c_11 => ?_) (fun c_11 => ?_)
        · have hf := hf.trans (if_neg c_11)
          refine lv_aload_n hx hb d_XDe_changeForm_151 rfl (lv_at hl 1 rfl) ?_
          refine lv_aload_n hx hb d_XDe_changeForm_152 rfl (lv_at hl 2 rfl) ?_
          refine va_getN (v := .int (xF u_10 8)) hx hb hts iX_In hown hw.2.1 hw.1 6 rfl rfl 4 (by decide) (va_Nw.use rfl (hw.2.2.2 _ kX_De_77).2) (fun _ h => h) rfl d_XDe_changeForm_153 ?_
          refine lv_iload_n hx hb d_XDe_changeForm_156 rfl (lv_at hl 3 rfl) ?_
          refine lv_iload_n hx hb d_XDe_changeForm_157 rfl (lv_at hl 4 rfl) ?_
          refine z_wv (z_runV (As := [.int (xF u_10 8), .int x_1, .int x_2]) (rest := []) ⟨hx, hb, hml, hown, hts⟩ (c_XDe_unpackRest l D a k u_10 (xF u_10 8) x_1 x_2) (qX_De_94 hts (by decide)) hw 11 rfl rfl hl.1 rfl (lv_room (Nat.le_of_ble_eq_true rfl)) d_XDe_changeForm_158 hcs) hw hS (fun u_12 H locs eu_12 hw hS => ?_)
          have hf := hf.trans (nm_eq eu_12)
          refine lv_iconst (v := (0 : Int32)) hx hb d_XDe_changeForm_161 (by decide) ?_
          exact hret (0 : Int32) _ _ _ _ _ d_XDe_changeForm_162 hw hS hf
        · have hf := hf.trans (if_pos c_11)
          refine lv_aload_n hx hb d_XDe_changeForm_138 rfl (lv_at hl 1 rfl) ?_
          refine lv_aload_n hx hb d_XDe_changeForm_139 rfl (lv_at hl 2 rfl) ?_
          refine va_getN (v := .int (xF u_10 8)) hx hb hts iX_In hown hw.2.1 hw.1 6 rfl rfl 4 (by decide) (va_Nw.use rfl (hw.2.2.2 _ kX_De_77).2) (fun _ h => h) rfl d_XDe_changeForm_140 ?_
          refine lv_iload_n hx hb d_XDe_changeForm_143 rfl (lv_at hl 3 rfl) ?_
          refine lv_iload_n hx hb d_XDe_changeForm_144 rfl (lv_at hl 4 rfl) ?_
          refine z_wv (z_runV (As := [.int (xF u_10 8), .int x_1, .int x_2]) (rest := []) ⟨hx, hb, hml, hown, hts⟩ (c_XDe_packRest l D a k u_10 (xF u_10 8) x_1 x_2) (qX_De_90 hts (by decide)) hw 11 rfl rfl hl.1 rfl (lv_room (Nat.le_of_ble_eq_true rfl)) d_XDe_changeForm_145 hcs) hw hS (fun u_13 H locs eu_13 hw hS => ?_)
          have hf := hf.trans (nm_eq eu_13)
          refine lv_goto (tgt := 161) hx hb d_XDe_changeForm_148 (by decide) ?_
          refine lv_iconst (v := (0 : Int32)) hx hb d_XDe_changeForm_161 (by decide) ?_
          exact hret (0 : Int32) _ _ _ _ _ d_XDe_changeForm_162 hw hS hf
      · intro K_8 hK_8 hf
        refine lp_cut (fun (n_17 : Nat) (L_16 : Int32 → XS → Int32 × XS) => ∀ (x_14 : Int32) (u_15 : XS), (Int32.toInt x_2 - Int32.toInt x_14).toNat < n_17 ∧ ¬ x_14 < 0 → ∀ (H : Heap) (locs : List Loc), zW D clX (tyX k) nwX (xW a k) A st u_15 H → va_S A st.heap H locs → ∀ (ls : Array Slot), lv_has ls 5 [(0, .ref (a 11)), (1, .ref (a 6)), (2, .int x_1), (3, .int x_2), (4, .int x_14)] → F = L_16 x_14 u_15 → W p l e rm_XDe_changeForm st m args below meth c H locs 0 0 Q (F0 m 49 ls [])) ?_ ?_ ((Int32.toInt x_2 - Int32.toInt (0 : Int32)).toNat + 1) (0 : Int32) u0 ⟨Nat.lt_succ_self _, by decide⟩ _ _ hw hS _ (lv_sub hl [3, 4, 2, 1, 0] rfl) hf
        · intro x_14 u_15 hn; exact absurd hn.1 (Nat.not_lt_zero _)
        · intro n_17 L_16 hL_16 x_14 u_15 hn H locs hw hS ls hl hf
          unfold g_XDe_changeForm_49 at hf
          refine lv_iload hx hb d_XDe_changeForm_49 (lv_at hl 4 rfl) ?_
          refine lv_iload_n hx hb d_XDe_changeForm_51 rfl (lv_at hl 3 rfl) ?_
          refine lv_icmp_ge (tgt := 92) hx hb d_XDe_changeForm_52 (by decide) (fun c_18 => ?_) (fun c_18 => ?_)
          · have hf := hf.trans (if_pos c_18)
            exact hK_8 u_15 _ _ hw hS _ (lv_sub hl [0, 1, 2, 3] rfl) hf
          · have hf := hf.trans (if_neg c_18)
            refine lv_iload hx hb d_XDe_changeForm_55 (lv_at hl 4 rfl) ?_
            refine lv_aload_n hx hb d_XDe_changeForm_57 rfl (lv_at hl 0 rfl) ?_
            refine va_get (v := .ref (a 12)) hx hb hts iX_De hown hw.2.1 hw.1 11 rfl rfl 2 (by decide) (hts _ kX_De_9) (fun _ h => h) rfl d_XDe_changeForm_58 ?_
            refine va_alen (v := 16) hx hb hw.2.1 hw.1 12 2 rfl rfl rfl d_XDe_changeForm_61 ?_
            refine lv_icmp_ge (tgt := 92) hx hb d_XDe_changeForm_62 (by decide) (fun c_19 => ?_) (fun c_19 => ?_)
            · have hf := hf.trans (if_pos c_19)
              exact hK_8 u_15 _ _ hw hS _ (lv_sub hl [0, 1, 2, 3] rfl) hf
            · have hf := hf.trans (if_neg c_19)
              refine lv_aload_n hx hb d_XDe_changeForm_65 rfl (lv_at hl 0 rfl) ?_
              refine va_get (v := .ref (a 12)) hx hb hts iX_De hown hw.2.1 hw.1 11 rfl rfl 2 (by decide) (hts _ kX_De_9) (fun _ h => h) rfl d_XDe_changeForm_66 ?_
              refine lv_iload hx hb d_XDe_changeForm_69 (lv_at hl 4 rfl) ?_
              refine lv_aload_n hx hb d_XDe_changeForm_71 rfl (lv_at hl 0 rfl) ?_
              refine va_get (v := .ref (a 2)) hx hb hts iX_De hown hw.2.1 hw.1 11 rfl rfl 1 (by decide) (hts _ kX_De_25) (fun _ h => h) rfl d_XDe_changeForm_72 ?_
              refine lv_aload_n hx hb d_XDe_changeForm_75 rfl (lv_at hl 1 rfl) ?_
              refine va_getN (v := .int (xF u_15 9)) hx hb hts iX_In hown hw.2.1 hw.1 6 rfl rfl 5 (by decide) (va_Nw.use rfl (hw.2.2.2 _ kX_De_26).2) (fun _ h => h) rfl d_XDe_changeForm_76 ?_
              refine lv_iload hx hb d_XDe_changeForm_79 (lv_at hl 4 rfl) ?_
              refine lv_iadd hx hb d_XDe_changeForm_81 ?_
              refine z_ri (z_runV (As := [.int ((xF u_15 9) + x_14)]) (rest := [.int x_14, .ref (a 12)]) ⟨hx, hb, hml, hown, hts⟩ (c_XMe_get l D a k u_15 ((xF u_15 9) + x_14)) (qX_De_83 hts (by decide)) hw 2 rfl rfl hl.1 rfl (lv_room (Nat.le_of_ble_eq_true rfl)) d_XDe_changeForm_82 hcs) (fun x_20 ex_20 => ?_)
              have hf := hf.trans (nm_eq ex_20)
              refine z_iast (u' := xsO u_15 (Int32.toNatClampNeg x_14) x_20) hx hb hw hS 12 2 rfl rfl (z_in16 hn.2 (by assumption)) rfl d_XDe_changeForm_85 (fun u_21 H locs eu_21 hw hS => ?_)
              have hf := hf.trans (nm_eq eu_21)
              obtain ⟨x_22, ex_22⟩ : ∃ y : Int32, y = x_14 + (1 : Int32) := ⟨_, rfl⟩
              have hf := hf.trans (nm_eq ex_22)
              refine lv_iinc (v := x_22) (lv' := [(4, .int x_22), (0, .ref (a 11)), (1, .ref (a 6)), (2, .int x_1), (3, .int x_2)]) hx hb d_XDe_changeForm_86 hl (k := 4) rfl (by rw [ex_22]; rfl) (by decide) rfl (fun ls hl => ?_)
              refine lv_goto (tgt := 49) hx hb d_XDe_changeForm_89 (by decide) ?_
              exact hL_16 x_22 u_21 (⟨mu_up c_18 ex_22 hn.1, inv_up c_18 ex_22 hn.2⟩) _ _ hw hS _ (lv_sub hl [1, 2, 3, 4, 0] rfl) hf
    · have hf := hf.trans (if_pos c_6)
      refine lv_iconst (v := (5 : Int32)) hx hb d_XDe_changeForm_44 (by decide) ?_
      exact hret (5 : Int32) _ _ _ _ _ d_XDe_changeForm_45 hw hS hf
def g_XDe_startsWithZeros_5 (x2 : Int32) (K_2 : Int32 → Bool) (u0 : XS) (x1 : Int32) (L_6 : Int32 → Int32 → Bool) : Int32 → Int32 → Bool := fun x_4 x_5 => if x2 ≤ x_5 then K_2 x_4 else nm (f_XMe_get u0 (x1 + x_5)) (fun (x_9 : Int32) => nm (x_4 ||| x_9) (fun (x_10 : Int32) => nm (x_5 + (1 : Int32)) (fun (x_11 : Int32) => L_6 x_10 x_11)))
def f_XDe_startsWithZeros (u0 : XS) (x1 : Int32) (x2 : Int32) : Bool := jn (fun (K_2 : Int32 → Bool) => lpN ((Int32.toInt x2 - Int32.toInt (0 : Int32)).toNat + 1) (g_XDe_startsWithZeros_5 x2 K_2 u0 x1) (fun _ _ => default) (0 : Int32) (0 : Int32)) (fun (x_1 : Int32) => if x_1 = (0 : Int32) then true else false)
set_option maxHeartbeats 4000000 in
set_option maxRecDepth 100000 in
theorem c_XDe_startsWithZeros (l : Launch) (D : va_G) (a : Nat → Nat) (k : Nat → ClassId) (u0 : XS) (x1 : Int32) (x2 : Int32) : zRz l y_XDe_startsWithZeros w_XDe_startsWithZeros rm_XDe_startsWithZeros D clX (tyX k) nwX (xW a k) [.ref (a 11), .int x1, .int x2] u0 (f_XDe_startsWithZeros u0 x1 x2) := by
  generalize hF : f_XDe_startsWithZeros u0 x1 x2 = F
  have hf := hF.symm
  unfold f_XDe_startsWithZeros at hf
  refine zRz_of (cc := b_XDe_startsWithZeros) (maxL := 5) (own := RX_De) (by decide) rfl rfl (Nat.le_of_ble_eq_true rfl) ?_
  intro p e R st m args below meth c H locs Q ls hR hx hb hml hown hts hw hret hl
  subst hR
  have hcs : 0 ≤ (rm_XDe_startsWithZeros).cells ∧ 0 ≤ (rm_XDe_startsWithZeros).slots := ⟨Nat.zero_le _, Nat.zero_le _⟩
  have hl : lv_has ls 5 [(0, .ref (a 11)), (1, .int x1), (2, .int x2)] := hl
  refine lv_iconst (v := (0 : Int32)) hx hb d_XDe_startsWithZeros_0 (by decide) ?_
  refine lv_istore_n (lv' := [(3, .int (0 : Int32)), (0, .ref (a 11)), (1, .int x1), (2, .int x2)]) hx hb d_XDe_startsWithZeros_1 rfl hl (by decide) rfl (fun ls hl => ?_)
  refine lv_iconst (v := (0 : Int32)) hx hb d_XDe_startsWithZeros_2 (by decide) ?_
  refine lv_istore (lv' := [(4, .int (0 : Int32)), (3, .int (0 : Int32)), (0, .ref (a 11)), (1, .int x1), (2, .int x2)]) hx hb d_XDe_startsWithZeros_3 hl (by decide) rfl (fun ls hl => ?_)
  refine jn_cut hf (fun (K_2 : Int32 → Bool) => ∀ (x_1 : Int32), ∀ (ls : Array Slot), lv_has ls 5 [(3, .int x_1)] → F = K_2 x_1 → W p l e rm_XDe_startsWithZeros st m args below meth c H locs 0 0 Q (F0 m 31 ls [])) ?_ ?_
  · intro x_1 ls hl hf
    refine lv_iload_n hx hb d_XDe_startsWithZeros_31 rfl (lv_at hl 0 rfl) ?_
    refine lv_if_ne (tgt := 39) hx hb d_XDe_startsWithZeros_32 (by decide) (fun c_3 => ?_) (fun c_3 => ?_)
    · have hf := hf.trans (if_neg c_3)
      refine lv_iconst (v := (0 : Int32)) hx hb d_XDe_startsWithZeros_39 (by decide) ?_
      exact hret false _ _ d_XDe_startsWithZeros_40 hf
    · have hf := hf.trans (if_pos c_3)
      refine lv_iconst (v := (1 : Int32)) hx hb d_XDe_startsWithZeros_35 (by decide) ?_
      refine lv_goto (tgt := 40) hx hb d_XDe_startsWithZeros_36 (by decide) ?_
      exact hret true _ _ d_XDe_startsWithZeros_40 hf
  · intro K_2 hK_2 hf
    refine lp_cut (fun (n_7 : Nat) (L_6 : Int32 → Int32 → Bool) => ∀ (x_4 : Int32) (x_5 : Int32), (Int32.toInt x2 - Int32.toInt x_5).toNat < n_7 → ∀ (ls : Array Slot), lv_has ls 5 [(0, .ref (a 11)), (1, .int x1), (2, .int x2), (3, .int x_4), (4, .int x_5)] → F = L_6 x_4 x_5 → W p l e rm_XDe_startsWithZeros st m args below meth c H locs 0 0 Q (F0 m 5 ls [])) ?_ ?_ ((Int32.toInt x2 - Int32.toInt (0 : Int32)).toNat + 1) (0 : Int32) (0 : Int32) (Nat.lt_succ_self _) _ (lv_sub hl [2, 3, 4, 1, 0] rfl) hf
    · intro x_4 x_5 hn; exact absurd hn (Nat.not_lt_zero _)
    · intro n_7 L_6 hL_6 x_4 x_5 hn ls hl hf
      unfold g_XDe_startsWithZeros_5 at hf
      refine lv_iload hx hb d_XDe_startsWithZeros_5 (lv_at hl 4 rfl) ?_
      refine lv_iload_n hx hb d_XDe_startsWithZeros_7 rfl (lv_at hl 2 rfl) ?_
      refine lv_icmp_ge (tgt := 31) hx hb d_XDe_startsWithZeros_8 (by decide) (fun c_8 => ?_) (fun c_8 => ?_)
      · have hf := hf.trans (if_pos c_8)
        exact hK_2 x_4 _ (lv_sub hl [3] rfl) hf
      · have hf := hf.trans (if_neg c_8)
        refine lv_iload_n hx hb d_XDe_startsWithZeros_11 rfl (lv_at hl 3 rfl) ?_
        refine lv_aload_n hx hb d_XDe_startsWithZeros_12 rfl (lv_at hl 0 rfl) ?_
        refine va_get (v := .ref (a 2)) hx hb hts iX_De hown hw.2.1 hw.1 11 rfl rfl 1 (by decide) (hts _ kX_De_25) (fun _ h => h) rfl d_XDe_startsWithZeros_13 ?_
        refine lv_iload_n hx hb d_XDe_startsWithZeros_16 rfl (lv_at hl 1 rfl) ?_
        refine lv_iload hx hb d_XDe_startsWithZeros_17 (lv_at hl 4 rfl) ?_
        refine lv_iadd hx hb d_XDe_startsWithZeros_19 ?_
        refine z_ri (z_runV (As := [.int (x1 + x_5)]) (rest := [.int x_4]) ⟨hx, hb, hml, hown, hts⟩ (c_XMe_get l D a k u0 (x1 + x_5)) (qX_De_83 hts (by decide)) hw 2 rfl rfl hl.1 rfl (lv_room (Nat.le_of_ble_eq_true rfl)) d_XDe_startsWithZeros_20 hcs) (fun x_9 ex_9 => ?_)
        have hf := hf.trans (nm_eq ex_9)
        refine lv_ior hx hb d_XDe_startsWithZeros_23 ?_
        refine lv_topi (fun x_10 ex_10 => ?_)
        have hf := hf.trans (nm_eq ex_10)
        refine lv_istore_n (lv' := [(3, .int x_10), (0, .ref (a 11)), (1, .int x1), (2, .int x2), (4, .int x_5)]) hx hb d_XDe_startsWithZeros_24 rfl hl (by decide) rfl (fun ls hl => ?_)
        obtain ⟨x_11, ex_11⟩ : ∃ y : Int32, y = x_5 + (1 : Int32) := ⟨_, rfl⟩
        have hf := hf.trans (nm_eq ex_11)
        refine lv_iinc (v := x_11) (lv' := [(4, .int x_11), (3, .int x_10), (0, .ref (a 11)), (1, .int x1), (2, .int x2)]) hx hb d_XDe_startsWithZeros_25 hl (k := 4) rfl (by rw [ex_11]; rfl) (by decide) rfl (fun ls hl => ?_)
        refine lv_goto (tgt := 5) hx hb d_XDe_startsWithZeros_28 (by decide) ?_
        exact hL_6 x_10 x_11 (mu_up c_8 ex_11 hn) _ (lv_sub hl [2, 3, 4, 1, 0] rfl) hf
def f_XDe_faultOfFields (u0 : XS) (x2 : Int32) (x3 : Int32) : Int32 := jn (fun (K_2 : Bool → Int32) => jn (fun (K_23 : Int32) => if (8 : Int32) < x2 then K_23 else if x3 ≤ (8 : Int32) then K_2 false else K_23) (K_2 true)) (fun (z_1 : Bool) => if (bI z_1) = (0 : Int32) then jn (fun (K_4 : Int32) => if (xF u0 4) < (252 : Int32) then K_4 else if x3 < x2 then K_4 else (6 : Int32)) (nm (f_XMe_holds u0 (xF u0 8) x2) (fun (z_5 : Bool) => if (bI z_5) = (0 : Int32) then (5 : Int32) else nm (f_XMe_holds u0 (xF u0 9) x3) (fun (z_7 : Bool) => if (bI z_7) = (0 : Int32) then (5 : Int32) else jn (fun (K_10 : Bool → Int32) => jn (fun (K_17 : Int32) => if (xF u0 4) = (248 : Int32) then K_17 else nm (f_XMe_isPacked u0 (xF u0 8) x2) (fun (z_19 : Bool) => if (bI z_19) = (0 : Int32) then K_10 false else K_17)) (K_10 true)) (fun (z_9 : Bool) => if (bI z_9) = (0 : Int32) then (7 : Int32) else nm (f_XMe_isPacked u0 (xF u0 9) x3) (fun (z_12 : Bool) => if (bI z_12) = (0 : Int32) then (7 : Int32) else if (xF u0 4) = (252 : Int32) then nm (f_XDe_startsWithZeros u0 (xF u0 8) x3) (fun (z_15 : Bool) => if (bI z_15) = (0 : Int32) then (7 : Int32) else (0 : Int32)) else (0 : Int32)))))) else (6 : Int32))
set_option maxHeartbeats 4000000 in
set_option maxRecDepth 100000 in
theorem c_XDe_faultOfFields (l : Launch) (D : va_G) (a : Nat → Nat) (k : Nat → ClassId) (u0 : XS) (x2 : Int32) (x3 : Int32) : zRi l y_XDe_faultOfFields w_XDe_faultOfFields rm_XDe_faultOfFields D clX (tyX k) nwX (xW a k) [.ref (a 11), .ref (a 6), .int x2, .int x3] u0 (f_XDe_faultOfFields u0 x2 x3) := by
  generalize hF : f_XDe_faultOfFields u0 x2 x3 = F
  have hf := hF.symm
  unfold f_XDe_faultOfFields at hf
  refine zRi_of (cc := b_XDe_faultOfFields) (maxL := 6) (own := RX_De) (by decide) rfl rfl (Nat.le_of_ble_eq_true rfl) ?_
  intro p e R st m args below meth c H locs Q ls hR hx hb hml hown hts hw hret hl
  subst hR
  have hcs : 0 ≤ (rm_XDe_faultOfFields).cells ∧ 0 ≤ (rm_XDe_faultOfFields).slots := ⟨Nat.zero_le _, Nat.zero_le _⟩
  have hl : lv_has ls 6 [(0, .ref (a 11)), (1, .ref (a 6)), (2, .int x2), (3, .int x3)] := hl
  refine lv_iload_n hx hb d_XDe_faultOfFields_0 rfl (lv_at hl 2 rfl) ?_
  refine lv_bipush (v := (8 : Int32)) hx hb d_XDe_faultOfFields_1 (by decide) ?_
  refine jn_cut hf (fun (K_2 : Bool → Int32) => ∀ (z_1 : Bool), ∀ (ls : Array Slot), lv_has ls 6 [(0, .ref (a 11)), (1, .ref (a 6)), (2, .int x2), (3, .int x3)] → F = K_2 z_1 → W p l e rm_XDe_faultOfFields st m args below meth c H locs 0 0 Q (F0 m 17 ls [.int (bI z_1)])) ?_ ?_
  · intro z_1 ls hl hf
    refine lv_istore (lv' := [(4, .int (bI z_1)), (0, .ref (a 11)), (1, .ref (a 6)), (2, .int x2), (3, .int x3)]) hx hb d_XDe_faultOfFields_17 hl (by decide) rfl (fun ls hl => ?_)
    refine lv_iload hx hb d_XDe_faultOfFields_19 (lv_at hl 0 rfl) ?_
    refine lv_if_ne (tgt := 39) hx hb d_XDe_faultOfFields_21 (by decide) (fun c_3 => ?_) (fun c_3 => ?_)
    · have hf := hf.trans (if_neg c_3)
      refine lv_bipush (v := (6 : Int32)) hx hb d_XDe_faultOfFields_39 (by decide) ?_
      exact hret (6 : Int32) _ _ d_XDe_faultOfFields_41 hf
    · have hf := hf.trans (if_pos c_3)
      refine lv_aload_n hx hb d_XDe_faultOfFields_24 rfl (lv_at hl 2 rfl) ?_
      refine va_getN (v := .int (xF u0 4)) hx hb hts iX_In hown hw.2.1 hw.1 6 rfl rfl 0 (by decide) (va_Nw.use rfl (hw.2.2.2 _ kX_De_38).2) (fun _ h => h) rfl d_XDe_faultOfFields_25 ?_
      refine lv_sipush (v := (252 : Int32)) hx hb d_XDe_faultOfFields_28 (by decide) ?_
      refine jn_cut hf (fun (K_4 : Int32) => ∀ (ls : Array Slot), lv_has ls 6 [(0, .ref (a 11)), (1, .ref (a 6)), (2, .int x2), (3, .int x3)] → F = K_4 → W p l e rm_XDe_faultOfFields st m args below meth c H locs 0 0 Q (F0 m 42 ls [])) ?_ ?_
      · intro ls hl hf
        refine lv_aload_n hx hb d_XDe_faultOfFields_42 rfl (lv_at hl 0 rfl) ?_
        refine va_get (v := .ref (a 2)) hx hb hts iX_De hown hw.2.1 hw.1 11 rfl rfl 1 (by decide) (hts _ kX_De_25) (fun _ h => h) rfl d_XDe_faultOfFields_43 ?_
        refine lv_aload_n hx hb d_XDe_faultOfFields_46 rfl (lv_at hl 1 rfl) ?_
        refine va_getN (v := .int (xF u0 8)) hx hb hts iX_In hown hw.2.1 hw.1 6 rfl rfl 4 (by decide) (va_Nw.use rfl (hw.2.2.2 _ kX_De_77).2) (fun _ h => h) rfl d_XDe_faultOfFields_47 ?_
        refine lv_iload_n hx hb d_XDe_faultOfFields_50 rfl (lv_at hl 2 rfl) ?_
        refine z_rz (z_runV (As := [.int (xF u0 8), .int x2]) (rest := []) ⟨hx, hb, hml, hown, hts⟩ (c_XMe_holds l D a k u0 (xF u0 8) x2) (qX_De_80 hts (by decide)) hw 2 rfl rfl hl.1 rfl (lv_room (Nat.le_of_ble_eq_true rfl)) d_XDe_faultOfFields_51 hcs) (fun z_5 ez_5 => ?_)
        have hf := hf.trans (nm_eq ez_5)
        refine lv_if_eq (tgt := 72) hx hb d_XDe_faultOfFields_54 (by decide) (fun c_6 => ?_) (fun c_6 => ?_)
        · have hf := hf.trans (if_pos c_6)
          refine lv_iconst (v := (5 : Int32)) hx hb d_XDe_faultOfFields_72 (by decide) ?_
          exact hret (5 : Int32) _ _ d_XDe_faultOfFields_73 hf
        · have hf := hf.trans (if_neg c_6)
          refine lv_aload_n hx hb d_XDe_faultOfFields_57 rfl (lv_at hl 0 rfl) ?_
          refine va_get (v := .ref (a 2)) hx hb hts iX_De hown hw.2.1 hw.1 11 rfl rfl 1 (by decide) (hts _ kX_De_25) (fun _ h => h) rfl d_XDe_faultOfFields_58 ?_
          refine lv_aload_n hx hb d_XDe_faultOfFields_61 rfl (lv_at hl 1 rfl) ?_
          refine va_getN (v := .int (xF u0 9)) hx hb hts iX_In hown hw.2.1 hw.1 6 rfl rfl 5 (by decide) (va_Nw.use rfl (hw.2.2.2 _ kX_De_26).2) (fun _ h => h) rfl d_XDe_faultOfFields_62 ?_
          refine lv_iload_n hx hb d_XDe_faultOfFields_65 rfl (lv_at hl 3 rfl) ?_
          refine z_rz (z_runV (As := [.int (xF u0 9), .int x3]) (rest := []) ⟨hx, hb, hml, hown, hts⟩ (c_XMe_holds l D a k u0 (xF u0 9) x3) (qX_De_80 hts (by decide)) hw 2 rfl rfl hl.1 rfl (lv_room (Nat.le_of_ble_eq_true rfl)) d_XDe_faultOfFields_66 hcs) (fun z_7 ez_7 => ?_)
          have hf := hf.trans (nm_eq ez_7)
          refine lv_if_ne (tgt := 74) hx hb d_XDe_faultOfFields_69 (by decide) (fun c_8 => ?_) (fun c_8 => ?_)
          · have hf := hf.trans (if_neg c_8)
            refine lv_aload_n hx hb d_XDe_faultOfFields_74 rfl (lv_at hl 1 rfl) ?_
            refine va_getN (v := .int (xF u0 4)) hx hb hts iX_In hown hw.2.1 hw.1 6 rfl rfl 0 (by decide) (va_Nw.use rfl (hw.2.2.2 _ kX_De_38).2) (fun _ h => h) rfl d_XDe_faultOfFields_75 ?_
            refine lv_sipush (v := (248 : Int32)) hx hb d_XDe_faultOfFields_78 (by decide) ?_
            refine jn_cut hf (fun (K_10 : Bool → Int32) => ∀ (z_9 : Bool), ∀ (ls : Array Slot), lv_has ls 6 [(0, .ref (a 11)), (1, .ref (a 6)), (3, .int x3)] → F = K_10 z_9 → W p l e rm_XDe_faultOfFields st m args below meth c H locs 0 0 Q (F0 m 104 ls [.int (bI z_9)])) ?_ ?_
            · intro z_9 ls hl hf
              refine lv_istore (lv' := [(5, .int (bI z_9)), (0, .ref (a 11)), (1, .ref (a 6)), (3, .int x3)]) hx hb d_XDe_faultOfFields_104 hl (by decide) rfl (fun ls hl => ?_)
              refine lv_iload hx hb d_XDe_faultOfFields_106 (lv_at hl 0 rfl) ?_
              refine lv_if_eq (tgt := 126) hx hb d_XDe_faultOfFields_108 (by decide) (fun c_11 => ?_) (fun c_11 => ?_)
              · have hf := hf.trans (if_pos c_11)
                refine lv_bipush (v := (7 : Int32)) hx hb d_XDe_faultOfFields_126 (by decide) ?_
                exact hret (7 : Int32) _ _ d_XDe_faultOfFields_128 hf
              · have hf := hf.trans (if_neg c_11)
                refine lv_aload_n hx hb d_XDe_faultOfFields_111 rfl (lv_at hl 1 rfl) ?_
                refine va_get (v := .ref (a 2)) hx hb hts iX_De hown hw.2.1 hw.1 11 rfl rfl 1 (by decide) (hts _ kX_De_25) (fun _ h => h) rfl d_XDe_faultOfFields_112 ?_
                refine lv_aload_n hx hb d_XDe_faultOfFields_115 rfl (lv_at hl 2 rfl) ?_
                refine va_getN (v := .int (xF u0 9)) hx hb hts iX_In hown hw.2.1 hw.1 6 rfl rfl 5 (by decide) (va_Nw.use rfl (hw.2.2.2 _ kX_De_26).2) (fun _ h => h) rfl d_XDe_faultOfFields_116 ?_
                refine lv_iload_n hx hb d_XDe_faultOfFields_119 rfl (lv_at hl 3 rfl) ?_
                refine z_rz (z_runV (As := [.int (xF u0 9), .int x3]) (rest := []) ⟨hx, hb, hml, hown, hts⟩ (c_XMe_isPacked l D a k u0 (xF u0 9) x3) (qX_De_62 hts (by decide)) hw 2 rfl rfl hl.1 rfl (lv_room (Nat.le_of_ble_eq_true rfl)) d_XDe_faultOfFields_120 hcs) (fun z_12 ez_12 => ?_)
                have hf := hf.trans (nm_eq ez_12)
                refine lv_if_ne (tgt := 129) hx hb d_XDe_faultOfFields_123 (by decide) (fun c_13 => ?_) (fun c_13 => ?_)
                · have hf := hf.trans (if_neg c_13)
                  refine lv_aload_n hx hb d_XDe_faultOfFields_129 rfl (lv_at hl 2 rfl) ?_
                  refine va_getN (v := .int (xF u0 4)) hx hb hts iX_In hown hw.2.1 hw.1 6 rfl rfl 0 (by decide) (va_Nw.use rfl (hw.2.2.2 _ kX_De_38).2) (fun _ h => h) rfl d_XDe_faultOfFields_130 ?_
                  refine lv_sipush (v := (252 : Int32)) hx hb d_XDe_faultOfFields_133 (by decide) ?_
                  refine lv_icmp_ne (tgt := 156) hx hb d_XDe_faultOfFields_136 (by decide) (fun c_14 => ?_) (fun c_14 => ?_)
                  · have hf := hf.trans (if_neg c_14)
                    refine lv_iconst (v := (0 : Int32)) hx hb d_XDe_faultOfFields_156 (by decide) ?_
                    exact hret (0 : Int32) _ _ d_XDe_faultOfFields_157 hf
                  · have hf := hf.trans (if_pos c_14)
                    refine lv_aload_n hx hb d_XDe_faultOfFields_139 rfl (lv_at hl 1 rfl) ?_
                    refine lv_aload_n hx hb d_XDe_faultOfFields_140 rfl (lv_at hl 2 rfl) ?_
                    refine va_getN (v := .int (xF u0 8)) hx hb hts iX_In hown hw.2.1 hw.1 6 rfl rfl 4 (by decide) (va_Nw.use rfl (hw.2.2.2 _ kX_De_77).2) (fun _ h => h) rfl d_XDe_faultOfFields_141 ?_
                    refine lv_iload_n hx hb d_XDe_faultOfFields_144 rfl (lv_at hl 3 rfl) ?_
                    refine z_rz (z_runV (As := [.int (xF u0 8), .int x3]) (rest := []) ⟨hx, hb, hml, hown, hts⟩ (c_XDe_startsWithZeros l D a k u0 (xF u0 8) x3) (qX_De_115 hts (by decide)) hw 11 rfl rfl hl.1 rfl (lv_room (Nat.le_of_ble_eq_true rfl)) d_XDe_faultOfFields_145 hcs) (fun z_15 ez_15 => ?_)
                    have hf := hf.trans (nm_eq ez_15)
                    refine lv_if_ne (tgt := 156) hx hb d_XDe_faultOfFields_148 (by decide) (fun c_16 => ?_) (fun c_16 => ?_)
                    · have hf := hf.trans (if_neg c_16)
                      refine lv_iconst (v := (0 : Int32)) hx hb d_XDe_faultOfFields_156 (by decide) ?_
                      exact hret (0 : Int32) _ _ d_XDe_faultOfFields_157 hf
                    · have hf := hf.trans (if_pos c_16)
                      refine lv_bipush (v := (7 : Int32)) hx hb d_XDe_faultOfFields_151 (by decide) ?_
                      refine lv_goto (tgt := 157) hx hb d_XDe_faultOfFields_153 (by decide) ?_
                      exact hret (7 : Int32) _ _ d_XDe_faultOfFields_157 hf
                · have hf := hf.trans (if_pos c_13)
                  refine lv_bipush (v := (7 : Int32)) hx hb d_XDe_faultOfFields_126 (by decide) ?_
                  exact hret (7 : Int32) _ _ d_XDe_faultOfFields_128 hf
            · intro K_10 hK_10 hf
              refine jn_cut hf (fun (K_17 : Int32) => ∀ (ls : Array Slot), lv_has ls 6 [(0, .ref (a 11)), (1, .ref (a 6)), (3, .int x3)] → F = K_17 → W p l e rm_XDe_faultOfFields st m args below meth c H locs 0 0 Q (F0 m 99 ls [])) ?_ ?_
              · intro ls hl hf
                refine lv_iconst (v := (1 : Int32)) hx hb d_XDe_faultOfFields_99 (by decide) ?_
                refine lv_goto (tgt := 104) hx hb d_XDe_faultOfFields_100 (by decide) ?_
                exact hK_10 true _ (lv_sub hl [0, 1, 2] rfl) hf
              · intro K_17 hK_17 hf
                refine lv_icmp_eq (tgt := 99) hx hb d_XDe_faultOfFields_81 (by decide) (fun c_18 => ?_) (fun c_18 => ?_)
                · have hf := hf.trans (if_pos c_18)
                  exact hK_17 _ (lv_sub hl [0, 1, 3] rfl) hf
                · have hf := hf.trans (if_neg c_18)
                  refine lv_aload_n hx hb d_XDe_faultOfFields_84 rfl (lv_at hl 0 rfl) ?_
                  refine va_get (v := .ref (a 2)) hx hb hts iX_De hown hw.2.1 hw.1 11 rfl rfl 1 (by decide) (hts _ kX_De_25) (fun _ h => h) rfl d_XDe_faultOfFields_85 ?_
                  refine lv_aload_n hx hb d_XDe_faultOfFields_88 rfl (lv_at hl 1 rfl) ?_
                  refine va_getN (v := .int (xF u0 8)) hx hb hts iX_In hown hw.2.1 hw.1 6 rfl rfl 4 (by decide) (va_Nw.use rfl (hw.2.2.2 _ kX_De_77).2) (fun _ h => h) rfl d_XDe_faultOfFields_89 ?_
                  refine lv_iload_n hx hb d_XDe_faultOfFields_92 rfl (lv_at hl 2 rfl) ?_
                  refine z_rz (z_runV (As := [.int (xF u0 8), .int x2]) (rest := []) ⟨hx, hb, hml, hown, hts⟩ (c_XMe_isPacked l D a k u0 (xF u0 8) x2) (qX_De_62 hts (by decide)) hw 2 rfl rfl hl.1 rfl (lv_room (Nat.le_of_ble_eq_true rfl)) d_XDe_faultOfFields_93 hcs) (fun z_19 ez_19 => ?_)
                  have hf := hf.trans (nm_eq ez_19)
                  refine lv_if_eq (tgt := 103) hx hb d_XDe_faultOfFields_96 (by decide) (fun c_20 => ?_) (fun c_20 => ?_)
                  · have hf := hf.trans (if_pos c_20)
                    refine lv_iconst (v := (0 : Int32)) hx hb d_XDe_faultOfFields_103 (by decide) ?_
                    exact hK_10 false _ (lv_sub hl [0, 1, 3] rfl) hf
                  · have hf := hf.trans (if_neg c_20)
                    exact hK_17 _ (lv_sub hl [0, 1, 3] rfl) hf
          · have hf := hf.trans (if_pos c_8)
            refine lv_iconst (v := (5 : Int32)) hx hb d_XDe_faultOfFields_72 (by decide) ?_
            exact hret (5 : Int32) _ _ d_XDe_faultOfFields_73 hf
      · intro K_4 hK_4 hf
        refine lv_icmp_lt (tgt := 42) hx hb d_XDe_faultOfFields_31 (by decide) (fun c_21 => ?_) (fun c_21 => ?_)
        · have hf := hf.trans (if_pos c_21)
          exact hK_4 _ (lv_sub hl [1, 2, 3, 4] rfl) hf
        · have hf := hf.trans (if_neg c_21)
          refine lv_iload_n hx hb d_XDe_faultOfFields_34 rfl (lv_at hl 4 rfl) ?_
          refine lv_iload_n hx hb d_XDe_faultOfFields_35 rfl (lv_at hl 3 rfl) ?_
          refine lv_icmp_lt (tgt := 42) hx hb d_XDe_faultOfFields_36 (by decide) (fun c_22 => ?_) (fun c_22 => ?_)
          · have hf := hf.trans (if_pos c_22)
            exact hK_4 _ (lv_sub hl [1, 2, 3, 4] rfl) hf
          · have hf := hf.trans (if_neg c_22)
            refine lv_bipush (v := (6 : Int32)) hx hb d_XDe_faultOfFields_39 (by decide) ?_
            exact hret (6 : Int32) _ _ d_XDe_faultOfFields_41 hf
  · intro K_2 hK_2 hf
    refine jn_cut hf (fun (K_23 : Int32) => ∀ (ls : Array Slot), lv_has ls 6 [(0, .ref (a 11)), (1, .ref (a 6)), (2, .int x2), (3, .int x3)] → F = K_23 → W p l e rm_XDe_faultOfFields st m args below meth c H locs 0 0 Q (F0 m 12 ls [])) ?_ ?_
    · intro ls hl hf
      refine lv_iconst (v := (1 : Int32)) hx hb d_XDe_faultOfFields_12 (by decide) ?_
      refine lv_goto (tgt := 17) hx hb d_XDe_faultOfFields_13 (by decide) ?_
      exact hK_2 true _ (lv_sub hl [0, 1, 2, 3] rfl) hf
    · intro K_23 hK_23 hf
      refine lv_icmp_gt (tgt := 12) hx hb d_XDe_faultOfFields_3 (by decide) (fun c_24 => ?_) (fun c_24 => ?_)
      · have hf := hf.trans (if_pos c_24)
        exact hK_23 _ (lv_sub hl [0, 1, 2, 3] rfl) hf
      · have hf := hf.trans (if_neg c_24)
        refine lv_iload_n hx hb d_XDe_faultOfFields_6 rfl (lv_at hl 3 rfl) ?_
        refine lv_bipush (v := (8 : Int32)) hx hb d_XDe_faultOfFields_7 (by decide) ?_
        refine lv_icmp_le (tgt := 16) hx hb d_XDe_faultOfFields_9 (by decide) (fun c_25 => ?_) (fun c_25 => ?_)
        · have hf := hf.trans (if_pos c_25)
          refine lv_iconst (v := (0 : Int32)) hx hb d_XDe_faultOfFields_16 (by decide) ?_
          exact hK_2 false _ (lv_sub hl [0, 1, 2, 3] rfl) hf
        · have hf := hf.trans (if_neg c_25)
          exact hK_23 _ (lv_sub hl [0, 1, 2, 3] rfl) hf
def g_XDe_hasRoom_7 (x2 : Int32) (K_2 : Int64 → Bool) (L_6 : Int64 → Int32 → Bool) : Int64 → Int32 → Bool := fun y_4 x_5 => if x2 ≤ x_5 then K_2 y_4 else nm (y_4 * (100 : Int64)) (fun (y_9 : Int64) => nm (x_5 + (1 : Int32)) (fun (x_10 : Int32) => L_6 y_9 x_10))
def f_XDe_hasRoom (u0 : XS) (y0 : Int64) (x2 : Int32) : Bool := jn (fun (K_2 : Int64 → Bool) => lpN ((Int32.toInt x2 - Int32.toInt (1 : Int32)).toNat + 1) (g_XDe_hasRoom_7 x2 K_2) (fun _ _ => default) (10 : Int64) (1 : Int32)) (fun (y_1 : Int64) => if y_1 ≤ y0 then false else true)
set_option maxHeartbeats 4000000 in
set_option maxRecDepth 100000 in
theorem c_XDe_hasRoom (l : Launch) (D : va_G) (a : Nat → Nat) (k : Nat → ClassId) (u0 : XS) (y0 : Int64) (x2 : Int32) : zRz l y_XDe_hasRoom w_XDe_hasRoom rm_XDe_hasRoom D clX (tyX k) nwX (xW a k) [.long y0, .int x2] u0 (f_XDe_hasRoom u0 y0 x2) := by
  generalize hF : f_XDe_hasRoom u0 y0 x2 = F
  have hf := hF.symm
  unfold f_XDe_hasRoom at hf
  refine zRz_of (cc := b_XDe_hasRoom) (maxL := 6) (own := RX_De) (by decide) rfl rfl (Nat.le_of_ble_eq_true rfl) ?_
  intro p e R st m args below meth c H locs Q ls hR hx hb hml hown hts hw hret hl
  subst hR
  have hcs : 0 ≤ (rm_XDe_hasRoom).cells ∧ 0 ≤ (rm_XDe_hasRoom).slots := ⟨Nat.zero_le _, Nat.zero_le _⟩
  have hl : lv_has ls 6 [(0, .long y0), (2, .int x2)] := hl
  refine lv_ldc2 (v := (10 : Int64)) hx hb hown (hts _ kX_De_118) d_XDe_hasRoom_0 ?_
  refine lv_lstore_n (lv' := [(3, .long (10 : Int64)), (0, .long y0), (2, .int x2)]) hx hb d_XDe_hasRoom_3 rfl hl (by decide) rfl (fun ls hl => ?_)
  refine lv_iconst (v := (1 : Int32)) hx hb d_XDe_hasRoom_4 (by decide) ?_
  refine lv_istore (lv' := [(5, .int (1 : Int32)), (3, .long (10 : Int64)), (0, .long y0), (2, .int x2)]) hx hb d_XDe_hasRoom_5 hl (by decide) rfl (fun ls hl => ?_)
  refine jn_cut hf (fun (K_2 : Int64 → Bool) => ∀ (y_1 : Int64), ∀ (ls : Array Slot), lv_has ls 6 [(0, .long y0), (3, .long y_1)] → F = K_2 y_1 → W p l e rm_XDe_hasRoom st m args below meth c H locs 0 0 Q (F0 m 25 ls [])) ?_ ?_
  · intro y_1 ls hl hf
    refine lv_lload_n hx hb d_XDe_hasRoom_25 rfl (lv_at hl 0 rfl) ?_
    refine lv_lload_n hx hb d_XDe_hasRoom_26 rfl (lv_at hl 1 rfl) ?_
    refine z_lcmp_ge (tgt := 35) hx hb d_XDe_hasRoom_27 d_XDe_hasRoom_28 (by decide) (fun c_3 => ?_) (fun c_3 => ?_)
    · have hf := hf.trans (if_pos c_3)
      refine lv_iconst (v := (0 : Int32)) hx hb d_XDe_hasRoom_35 (by decide) ?_
      exact hret false _ _ d_XDe_hasRoom_36 hf
    · have hf := hf.trans (if_neg c_3)
      refine lv_iconst (v := (1 : Int32)) hx hb d_XDe_hasRoom_31 (by decide) ?_
      refine lv_goto (tgt := 36) hx hb d_XDe_hasRoom_32 (by decide) ?_
      exact hret true _ _ d_XDe_hasRoom_36 hf
  · intro K_2 hK_2 hf
    refine lp_cut (fun (n_7 : Nat) (L_6 : Int64 → Int32 → Bool) => ∀ (y_4 : Int64) (x_5 : Int32), (Int32.toInt x2 - Int32.toInt x_5).toNat < n_7 → ∀ (ls : Array Slot), lv_has ls 6 [(0, .long y0), (2, .int x2), (3, .long y_4), (5, .int x_5)] → F = L_6 y_4 x_5 → W p l e rm_XDe_hasRoom st m args below meth c H locs 0 0 Q (F0 m 7 ls [])) ?_ ?_ ((Int32.toInt x2 - Int32.toInt (1 : Int32)).toNat + 1) (10 : Int64) (1 : Int32) (Nat.lt_succ_self _) _ (lv_sub hl [2, 3, 1, 0] rfl) hf
    · intro y_4 x_5 hn; exact absurd hn (Nat.not_lt_zero _)
    · intro n_7 L_6 hL_6 y_4 x_5 hn ls hl hf
      unfold g_XDe_hasRoom_7 at hf
      refine lv_iload hx hb d_XDe_hasRoom_7 (lv_at hl 3 rfl) ?_
      refine lv_iload_n hx hb d_XDe_hasRoom_9 rfl (lv_at hl 1 rfl) ?_
      refine lv_icmp_ge (tgt := 25) hx hb d_XDe_hasRoom_10 (by decide) (fun c_8 => ?_) (fun c_8 => ?_)
      · have hf := hf.trans (if_pos c_8)
        exact hK_2 y_4 _ (lv_sub hl [0, 2] rfl) hf
      · have hf := hf.trans (if_neg c_8)
        refine lv_lload_n hx hb d_XDe_hasRoom_13 rfl (lv_at hl 2 rfl) ?_
        refine lv_ldc2 (v := (100 : Int64)) hx hb hown (hts _ kX_De_120) d_XDe_hasRoom_14 ?_
        refine lv_lmul hx hb d_XDe_hasRoom_17 ?_
        refine lv_topl (fun y_9 ey_9 => ?_)
        have hf := hf.trans (nm_eq ey_9)
        refine lv_lstore_n (lv' := [(3, .long y_9), (0, .long y0), (2, .int x2), (5, .int x_5)]) hx hb d_XDe_hasRoom_18 rfl hl (by decide) rfl (fun ls hl => ?_)
        obtain ⟨x_10, ex_10⟩ : ∃ y : Int32, y = x_5 + (1 : Int32) := ⟨_, rfl⟩
        have hf := hf.trans (nm_eq ex_10)
        refine lv_iinc (v := x_10) (lv' := [(5, .int x_10), (3, .long y_9), (0, .long y0), (2, .int x2)]) hx hb d_XDe_hasRoom_19 hl (k := 3) rfl (by rw [ex_10]; rfl) (by decide) rfl (fun ls hl => ?_)
        refine lv_goto (tgt := 7) hx hb d_XDe_hasRoom_22 (by decide) ?_
        exact hL_6 y_9 x_10 (mu_up c_8 ex_10 hn) _ (lv_sub hl [2, 3, 1, 0] rfl) hf
