def f_XAr_putBits (u0 : XS) (x1 : Int32) (x2 : Int32) : Int32 × XS := nm (f_XSt_put u0 x1 x2) (fun (u_1 : XS) => nm (f_XSt_conditionByBits u_1 x2) (fun (u_2 : XS) => ((0 : Int32), u_2)))
set_option maxHeartbeats 4000000 in
set_option maxRecDepth 100000 in
theorem c_XAr_putBits (l : Launch) (D : va_G) (a : Nat → Nat) (k : Nat → ClassId) (u0 : XS) (x1 : Int32) (x2 : Int32) : zMi l y_XAr_putBits w_XAr_putBits rm_XAr_putBits D clX (tyX k) nwX (xW a k) [.ref (a 7), .int x1, .int x2] u0 (f_XAr_putBits u0 x1 x2) := by
  generalize hF : f_XAr_putBits u0 x1 x2 = F
  have hf := hF.symm
  unfold f_XAr_putBits at hf
  refine zMi_of (cc := b_XAr_putBits) (maxL := 3) (own := RX_Ar) (by decide) rfl rfl (Nat.le_of_ble_eq_true rfl) ?_
  intro p e R st m args below meth c A H locs Q ls hR hx hb hml hown hts hw hS hret hl
  subst hR
  have hcs : 0 ≤ (rm_XAr_putBits).cells ∧ 0 ≤ (rm_XAr_putBits).slots := ⟨Nat.zero_le _, Nat.zero_le _⟩
  have hl : lv_has ls 3 [(0, .ref (a 7)), (1, .int x1), (2, .int x2)] := hl
  refine lv_aload_n hx hb d_XAr_putBits_0 rfl (lv_at hl 0 rfl) ?_
  refine va_get (v := .ref (a 1)) hx hb hts iX_Ar hown hw.2.1 hw.1 7 rfl rfl 0 (by decide) (hts _ kX_Ar_9) (fun _ h => h) rfl d_XAr_putBits_1 ?_
  refine lv_iload_n hx hb d_XAr_putBits_4 rfl (lv_at hl 1 rfl) ?_
  refine lv_iload_n hx hb d_XAr_putBits_5 rfl (lv_at hl 2 rfl) ?_
  refine z_wv (z_runV (As := [.int x1, .int x2]) (rest := []) ⟨hx, hb, hml, hown, hts⟩ (c_XSt_put l D a k u0 x1 x2) (qX_Ar_60 hts (by decide)) hw 1 rfl rfl hl.1 rfl (lv_room (Nat.le_of_ble_eq_true rfl)) d_XAr_putBits_6 hcs) hw hS (fun u_1 H locs eu_1 hw hS => ?_)
  have hf := hf.trans (nm_eq eu_1)
  refine lv_aload_n hx hb d_XAr_putBits_9 rfl (lv_at hl 0 rfl) ?_
  refine va_get (v := .ref (a 1)) hx hb hts iX_Ar hown hw.2.1 hw.1 7 rfl rfl 0 (by decide) (hts _ kX_Ar_9) (fun _ h => h) rfl d_XAr_putBits_10 ?_
  refine lv_iload_n hx hb d_XAr_putBits_13 rfl (lv_at hl 2 rfl) ?_
  refine z_wv (z_runV (As := [.int x2]) (rest := []) ⟨hx, hb, hml, hown, hts⟩ (c_XSt_conditionByBits l D a k u_1 x2) (qX_Ar_102 hts (by decide)) hw 1 rfl rfl hl.1 rfl (lv_room (Nat.le_of_ble_eq_true rfl)) d_XAr_putBits_14 hcs) hw hS (fun u_2 H locs eu_2 hw hS => ?_)
  have hf := hf.trans (nm_eq eu_2)
  refine lv_iconst (v := (0 : Int32)) hx hb d_XAr_putBits_17 (by decide) ?_
  exact hret (0 : Int32) _ _ _ _ _ d_XAr_putBits_18 hw hS hf
def f_XAr_compare (u0 : XS) (y1 : Int64) (y3 : Int64) : Int32 × XS := nm (f_XSt_conditionBySign u0 (y1 - y3)) (fun (u_1 : XS) => ((0 : Int32), u_1))
set_option maxHeartbeats 4000000 in
set_option maxRecDepth 100000 in
theorem c_XAr_compare (l : Launch) (D : va_G) (a : Nat → Nat) (k : Nat → ClassId) (u0 : XS) (y1 : Int64) (y3 : Int64) : zMi l y_XAr_compare w_XAr_compare rm_XAr_compare D clX (tyX k) nwX (xW a k) [.ref (a 7), .long y1, .long y3] u0 (f_XAr_compare u0 y1 y3) := by
  generalize hF : f_XAr_compare u0 y1 y3 = F
  have hf := hF.symm
  unfold f_XAr_compare at hf
  refine zMi_of (cc := b_XAr_compare) (maxL := 5) (own := RX_Ar) (by decide) rfl rfl (Nat.le_of_ble_eq_true rfl) ?_
  intro p e R st m args below meth c A H locs Q ls hR hx hb hml hown hts hw hS hret hl
  subst hR
  have hcs : 0 ≤ (rm_XAr_compare).cells ∧ 0 ≤ (rm_XAr_compare).slots := ⟨Nat.zero_le _, Nat.zero_le _⟩
  have hl : lv_has ls 5 [(0, .ref (a 7)), (1, .long y1), (3, .long y3)] := hl
  refine lv_aload_n hx hb d_XAr_compare_0 rfl (lv_at hl 0 rfl) ?_
  refine va_get (v := .ref (a 1)) hx hb hts iX_Ar hown hw.2.1 hw.1 7 rfl rfl 0 (by decide) (hts _ kX_Ar_9) (fun _ h => h) rfl d_XAr_compare_1 ?_
  refine lv_lload_n hx hb d_XAr_compare_4 rfl (lv_at hl 1 rfl) ?_
  refine lv_lload_n hx hb d_XAr_compare_5 rfl (lv_at hl 2 rfl) ?_
  refine lv_lsub hx hb d_XAr_compare_6 ?_
  refine z_wv (z_runV (As := [.long (y1 - y3)]) (rest := []) ⟨hx, hb, hml, hown, hts⟩ (c_XSt_conditionBySign l D a k u0 (y1 - y3)) (qX_Ar_98 hts (by decide)) hw 1 rfl rfl hl.1 rfl (lv_room (Nat.le_of_ble_eq_true rfl)) d_XAr_compare_7 hcs) hw hS (fun u_1 H locs eu_1 hw hS => ?_)
  have hf := hf.trans (nm_eq eu_1)
  refine lv_iconst (v := (0 : Int32)) hx hb d_XAr_compare_10 (by decide) ?_
  exact hret (0 : Int32) _ _ _ _ _ d_XAr_compare_11 hw hS hf
def f_XAr_load (u0 : XS) (x1 : Int32) (x2 : Int32) : Int32 × XS := nm (f_XSt_put u0 x1 x2) (fun (u_1 : XS) => ((0 : Int32), u_1))
set_option maxHeartbeats 4000000 in
set_option maxRecDepth 100000 in
theorem c_XAr_load (l : Launch) (D : va_G) (a : Nat → Nat) (k : Nat → ClassId) (u0 : XS) (x1 : Int32) (x2 : Int32) : zMi l y_XAr_load w_XAr_load rm_XAr_load D clX (tyX k) nwX (xW a k) [.ref (a 7), .int x1, .int x2] u0 (f_XAr_load u0 x1 x2) := by
  generalize hF : f_XAr_load u0 x1 x2 = F
  have hf := hF.symm
  unfold f_XAr_load at hf
  refine zMi_of (cc := b_XAr_load) (maxL := 3) (own := RX_Ar) (by decide) rfl rfl (Nat.le_of_ble_eq_true rfl) ?_
  intro p e R st m args below meth c A H locs Q ls hR hx hb hml hown hts hw hS hret hl
  subst hR
  have hcs : 0 ≤ (rm_XAr_load).cells ∧ 0 ≤ (rm_XAr_load).slots := ⟨Nat.zero_le _, Nat.zero_le _⟩
  have hl : lv_has ls 3 [(0, .ref (a 7)), (1, .int x1), (2, .int x2)] := hl
  refine lv_aload_n hx hb d_XAr_load_0 rfl (lv_at hl 0 rfl) ?_
  refine va_get (v := .ref (a 1)) hx hb hts iX_Ar hown hw.2.1 hw.1 7 rfl rfl 0 (by decide) (hts _ kX_Ar_9) (fun _ h => h) rfl d_XAr_load_1 ?_
  refine lv_iload_n hx hb d_XAr_load_4 rfl (lv_at hl 1 rfl) ?_
  refine lv_iload_n hx hb d_XAr_load_5 rfl (lv_at hl 2 rfl) ?_
  refine z_wv (z_runV (As := [.int x1, .int x2]) (rest := []) ⟨hx, hb, hml, hown, hts⟩ (c_XSt_put l D a k u0 x1 x2) (qX_Ar_60 hts (by decide)) hw 1 rfl rfl hl.1 rfl (lv_room (Nat.le_of_ble_eq_true rfl)) d_XAr_load_6 hcs) hw hS (fun u_1 H locs eu_1 hw hS => ?_)
  have hf := hf.trans (nm_eq eu_1)
  refine lv_iconst (v := (0 : Int32)) hx hb d_XAr_load_9 (by decide) ?_
  exact hret (0 : Int32) _ _ _ _ _ d_XAr_load_10 hw hS hf
def f_XAr_multiply (u0 : XS) (x1 : Int32) (x2 : Int32) : Int32 × XS := nm (f_XSt_value u0 (x1 + (1 : Int32))) (fun (x_1 : Int32) => nm ((Int32.toInt64 x_1) * (Int32.toInt64 x2)) (fun (y_2 : Int64) => nm (f_XSt_put u0 x1 (Int64.toInt32 (y_2 >>> (Int32.toInt64 (32 : Int32) &&& 63)))) (fun (u_3 : XS) => nm (f_XSt_put u_3 (x1 + (1 : Int32)) (Int64.toInt32 y_2)) (fun (u_4 : XS) => ((0 : Int32), u_4)))))
set_option maxHeartbeats 4000000 in
set_option maxRecDepth 100000 in
theorem c_XAr_multiply (l : Launch) (D : va_G) (a : Nat → Nat) (k : Nat → ClassId) (u0 : XS) (x1 : Int32) (x2 : Int32) : zMi l y_XAr_multiply w_XAr_multiply rm_XAr_multiply D clX (tyX k) nwX (xW a k) [.ref (a 7), .int x1, .int x2] u0 (f_XAr_multiply u0 x1 x2) := by
  generalize hF : f_XAr_multiply u0 x1 x2 = F
  have hf := hF.symm
  unfold f_XAr_multiply at hf
  refine zMi_of (cc := b_XAr_multiply) (maxL := 5) (own := RX_Ar) (by decide) rfl rfl (Nat.le_of_ble_eq_true rfl) ?_
  intro p e R st m args below meth c A H locs Q ls hR hx hb hml hown hts hw hS hret hl
  subst hR
  have hcs : 0 ≤ (rm_XAr_multiply).cells ∧ 0 ≤ (rm_XAr_multiply).slots := ⟨Nat.zero_le _, Nat.zero_le _⟩
  have hl : lv_has ls 5 [(0, .ref (a 7)), (1, .int x1), (2, .int x2)] := hl
  refine lv_aload_n hx hb d_XAr_multiply_0 rfl (lv_at hl 0 rfl) ?_
  refine va_get (v := .ref (a 1)) hx hb hts iX_Ar hown hw.2.1 hw.1 7 rfl rfl 0 (by decide) (hts _ kX_Ar_9) (fun _ h => h) rfl d_XAr_multiply_1 ?_
  refine lv_iload_n hx hb d_XAr_multiply_4 rfl (lv_at hl 1 rfl) ?_
  refine lv_iconst (v := (1 : Int32)) hx hb d_XAr_multiply_5 (by decide) ?_
  refine lv_iadd hx hb d_XAr_multiply_6 ?_
  refine z_ri (z_runV (As := [.int (x1 + (1 : Int32))]) (rest := []) ⟨hx, hb, hml, hown, hts⟩ (c_XSt_value l D a k u0 (x1 + (1 : Int32))) (qX_Ar_31 hts (by decide)) hw 1 rfl rfl hl.1 rfl (lv_room (Nat.le_of_ble_eq_true rfl)) d_XAr_multiply_7 hcs) (fun x_1 ex_1 => ?_)
  have hf := hf.trans (nm_eq ex_1)
  refine lv_i2l (v := Int32.toInt64 x_1) hx hb d_XAr_multiply_10 rfl ?_
  refine lv_iload_n hx hb d_XAr_multiply_11 rfl (lv_at hl 2 rfl) ?_
  refine lv_i2l (v := Int32.toInt64 x2) hx hb d_XAr_multiply_12 rfl ?_
  refine lv_lmul hx hb d_XAr_multiply_13 ?_
  refine lv_topl (fun y_2 ey_2 => ?_)
  have hf := hf.trans (nm_eq ey_2)
  refine lv_lstore_n (lv' := [(3, .long y_2), (0, .ref (a 7)), (1, .int x1), (2, .int x2)]) hx hb d_XAr_multiply_14 rfl hl (by decide) rfl (fun ls hl => ?_)
  refine lv_aload_n hx hb d_XAr_multiply_15 rfl (lv_at hl 1 rfl) ?_
  refine va_get (v := .ref (a 1)) hx hb hts iX_Ar hown hw.2.1 hw.1 7 rfl rfl 0 (by decide) (hts _ kX_Ar_9) (fun _ h => h) rfl d_XAr_multiply_16 ?_
  refine lv_iload_n hx hb d_XAr_multiply_19 rfl (lv_at hl 2 rfl) ?_
  refine lv_lload_n hx hb d_XAr_multiply_20 rfl (lv_at hl 0 rfl) ?_
  refine lv_bipush (v := (32 : Int32)) hx hb d_XAr_multiply_21 (by decide) ?_
  refine lv_lshr (v := y_2 >>> (Int32.toInt64 (32 : Int32) &&& 63)) hx hb d_XAr_multiply_23 rfl ?_
  refine lv_l2i (v := Int64.toInt32 (y_2 >>> (Int32.toInt64 (32 : Int32) &&& 63))) hx hb d_XAr_multiply_24 rfl ?_
  refine z_wv (z_runV (As := [.int x1, .int (Int64.toInt32 (y_2 >>> (Int32.toInt64 (32 : Int32) &&& 63)))]) (rest := []) ⟨hx, hb, hml, hown, hts⟩ (c_XSt_put l D a k u0 x1 (Int64.toInt32 (y_2 >>> (Int32.toInt64 (32 : Int32) &&& 63)))) (qX_Ar_60 hts (by decide)) hw 1 rfl rfl hl.1 rfl (lv_room (Nat.le_of_ble_eq_true rfl)) d_XAr_multiply_25 hcs) hw hS (fun u_3 H locs eu_3 hw hS => ?_)
  have hf := hf.trans (nm_eq eu_3)
  refine lv_aload_n hx hb d_XAr_multiply_28 rfl (lv_at hl 1 rfl) ?_
  refine va_get (v := .ref (a 1)) hx hb hts iX_Ar hown hw.2.1 hw.1 7 rfl rfl 0 (by decide) (hts _ kX_Ar_9) (fun _ h => h) rfl d_XAr_multiply_29 ?_
  refine lv_iload_n hx hb d_XAr_multiply_32 rfl (lv_at hl 2 rfl) ?_
  refine lv_iconst (v := (1 : Int32)) hx hb d_XAr_multiply_33 (by decide) ?_
  refine lv_iadd hx hb d_XAr_multiply_34 ?_
  refine lv_lload_n hx hb d_XAr_multiply_35 rfl (lv_at hl 0 rfl) ?_
  refine lv_l2i (v := Int64.toInt32 y_2) hx hb d_XAr_multiply_36 rfl ?_
  refine z_wv (z_runV (As := [.int (x1 + (1 : Int32)), .int (Int64.toInt32 y_2)]) (rest := []) ⟨hx, hb, hml, hown, hts⟩ (c_XSt_put l D a k u_3 (x1 + (1 : Int32)) (Int64.toInt32 y_2)) (qX_Ar_60 hts (by decide)) hw 1 rfl rfl hl.1 rfl (lv_room (Nat.le_of_ble_eq_true rfl)) d_XAr_multiply_37 hcs) hw hS (fun u_4 H locs eu_4 hw hS => ?_)
  have hf := hf.trans (nm_eq eu_4)
  refine lv_iconst (v := (0 : Int32)) hx hb d_XAr_multiply_40 (by decide) ?_
  exact hret (0 : Int32) _ _ _ _ _ d_XAr_multiply_41 hw hS hf
def f_XAr_divide (u0 : XS) (x1 : Int32) (x2 : Int32) : Int32 × XS := if x2 = (0 : Int32) then ((9 : Int32), u0) else nm (f_XSt_value u0 x1) (fun (x_2 : Int32) => nm (f_XSt_value u0 (x1 + (1 : Int32))) (fun (x_3 : Int32) => nm (((Int32.toInt64 x_2) <<< (Int32.toInt64 (32 : Int32) &&& 63)) ||| ((Int32.toInt64 x_3) &&& (4294967295 : Int64))) (fun (y_4 : Int64) => nm (y_4 / (Int32.toInt64 x2)) (fun (y_5 : Int64) => if y_5 = (Int32.toInt64 (Int64.toInt32 y_5)) then nm (f_XSt_put u0 x1 (Int64.toInt32 (y_4 - y_4 / (Int32.toInt64 x2) * (Int32.toInt64 x2)))) (fun (u_7 : XS) => nm (f_XSt_put u_7 (x1 + (1 : Int32)) (Int64.toInt32 y_5)) (fun (u_8 : XS) => ((0 : Int32), u_8))) else ((9 : Int32), u0)))))
set_option maxHeartbeats 4000000 in
set_option maxRecDepth 100000 in
theorem c_XAr_divide (l : Launch) (D : va_G) (a : Nat → Nat) (k : Nat → ClassId) (u0 : XS) (x1 : Int32) (x2 : Int32) : zMi l y_XAr_divide w_XAr_divide rm_XAr_divide D clX (tyX k) nwX (xW a k) [.ref (a 7), .int x1, .int x2] u0 (f_XAr_divide u0 x1 x2) := by
  generalize hF : f_XAr_divide u0 x1 x2 = F
  have hf := hF.symm
  unfold f_XAr_divide at hf
  refine zMi_of (cc := b_XAr_divide) (maxL := 7) (own := RX_Ar) (by decide) rfl rfl (Nat.le_of_ble_eq_true rfl) ?_
  intro p e R st m args below meth c A H locs Q ls hR hx hb hml hown hts hw hS hret hl
  subst hR
  have hcs : 0 ≤ (rm_XAr_divide).cells ∧ 0 ≤ (rm_XAr_divide).slots := ⟨Nat.zero_le _, Nat.zero_le _⟩
  have hl : lv_has ls 7 [(0, .ref (a 7)), (1, .int x1), (2, .int x2)] := hl
  refine lv_iload_n hx hb d_XAr_divide_0 rfl (lv_at hl 2 rfl) ?_
  refine lv_if_ne (tgt := 7) hx hb d_XAr_divide_1 (by decide) (fun c_1 => ?_) (fun c_1 => ?_)
  · have hf := hf.trans (if_neg c_1)
    refine lv_aload_n hx hb d_XAr_divide_7 rfl (lv_at hl 0 rfl) ?_
    refine va_get (v := .ref (a 1)) hx hb hts iX_Ar hown hw.2.1 hw.1 7 rfl rfl 0 (by decide) (hts _ kX_Ar_9) (fun _ h => h) rfl d_XAr_divide_8 ?_
    refine lv_iload_n hx hb d_XAr_divide_11 rfl (lv_at hl 1 rfl) ?_
    refine z_ri (z_runV (As := [.int x1]) (rest := []) ⟨hx, hb, hml, hown, hts⟩ (c_XSt_value l D a k u0 x1) (qX_Ar_31 hts (by decide)) hw 1 rfl rfl hl.1 rfl (lv_room (Nat.le_of_ble_eq_true rfl)) d_XAr_divide_12 hcs) (fun x_2 ex_2 => ?_)
    have hf := hf.trans (nm_eq ex_2)
    refine lv_i2l (v := Int32.toInt64 x_2) hx hb d_XAr_divide_15 rfl ?_
    refine lv_bipush (v := (32 : Int32)) hx hb d_XAr_divide_16 (by decide) ?_
    refine lv_lshl (v := (Int32.toInt64 x_2) <<< (Int32.toInt64 (32 : Int32) &&& 63)) hx hb d_XAr_divide_18 rfl ?_
    refine lv_aload_n hx hb d_XAr_divide_19 rfl (lv_at hl 0 rfl) ?_
    refine va_get (v := .ref (a 1)) hx hb hts iX_Ar hown hw.2.1 hw.1 7 rfl rfl 0 (by decide) (hts _ kX_Ar_9) (fun _ h => h) rfl d_XAr_divide_20 ?_
    refine lv_iload_n hx hb d_XAr_divide_23 rfl (lv_at hl 1 rfl) ?_
    refine lv_iconst (v := (1 : Int32)) hx hb d_XAr_divide_24 (by decide) ?_
    refine lv_iadd hx hb d_XAr_divide_25 ?_
    refine z_ri (z_runV (As := [.int (x1 + (1 : Int32))]) (rest := [.long ((Int32.toInt64 x_2) <<< (Int32.toInt64 (32 : Int32) &&& 63))]) ⟨hx, hb, hml, hown, hts⟩ (c_XSt_value l D a k u0 (x1 + (1 : Int32))) (qX_Ar_31 hts (by decide)) hw 1 rfl rfl hl.1 rfl (lv_room (Nat.le_of_ble_eq_true rfl)) d_XAr_divide_26 hcs) (fun x_3 ex_3 => ?_)
    have hf := hf.trans (nm_eq ex_3)
    refine lv_i2l (v := Int32.toInt64 x_3) hx hb d_XAr_divide_29 rfl ?_
    refine lv_ldc2 (v := (4294967295 : Int64)) hx hb hown (hts _ kX_Ar_64) d_XAr_divide_30 ?_
    refine lv_land hx hb d_XAr_divide_33 ?_
    refine lv_lor hx hb d_XAr_divide_34 ?_
    refine lv_topl (fun y_4 ey_4 => ?_)
    have hf := hf.trans (nm_eq ey_4)
    refine lv_lstore_n (lv' := [(3, .long y_4), (0, .ref (a 7)), (1, .int x1), (2, .int x2)]) hx hb d_XAr_divide_35 rfl hl (by decide) rfl (fun ls hl => ?_)
    refine lv_lload_n hx hb d_XAr_divide_36 rfl (lv_at hl 0 rfl) ?_
    refine lv_iload_n hx hb d_XAr_divide_37 rfl (lv_at hl 3 rfl) ?_
    refine lv_i2l (v := Int32.toInt64 x2) hx hb d_XAr_divide_38 rfl ?_
    refine lv_ldiv hx hb d_XAr_divide_39 (z_nz64 (by assumption)) ?_
    refine lv_topl (fun y_5 ey_5 => ?_)
    have hf := hf.trans (nm_eq ey_5)
    refine lv_lstore (lv' := [(5, .long y_5), (3, .long y_4), (0, .ref (a 7)), (1, .int x1), (2, .int x2)]) hx hb d_XAr_divide_40 hl (by decide) rfl (fun ls hl => ?_)
    refine lv_lload hx hb d_XAr_divide_42 (lv_at hl 0 rfl) ?_
    refine lv_lload hx hb d_XAr_divide_44 (lv_at hl 0 rfl) ?_
    refine lv_l2i (v := Int64.toInt32 y_5) hx hb d_XAr_divide_46 rfl ?_
    refine lv_i2l (v := Int32.toInt64 (Int64.toInt32 y_5)) hx hb d_XAr_divide_47 rfl ?_
    refine z_lcmp_eq (tgt := 55) hx hb d_XAr_divide_48 d_XAr_divide_49 (by decide) (fun c_6 => ?_) (fun c_6 => ?_)
    · have hf := hf.trans (if_pos c_6)
      refine lv_aload_n hx hb d_XAr_divide_55 rfl (lv_at hl 2 rfl) ?_
      refine va_get (v := .ref (a 1)) hx hb hts iX_Ar hown hw.2.1 hw.1 7 rfl rfl 0 (by decide) (hts _ kX_Ar_9) (fun _ h => h) rfl d_XAr_divide_56 ?_
      refine lv_iload_n hx hb d_XAr_divide_59 rfl (lv_at hl 3 rfl) ?_
      refine lv_lload_n hx hb d_XAr_divide_60 rfl (lv_at hl 1 rfl) ?_
      refine lv_iload_n hx hb d_XAr_divide_61 rfl (lv_at hl 4 rfl) ?_
      refine lv_i2l (v := Int32.toInt64 x2) hx hb d_XAr_divide_62 rfl ?_
      refine lv_lrem hx hb d_XAr_divide_63 (z_nz64 (by assumption)) ?_
      refine lv_l2i (v := Int64.toInt32 (y_4 - y_4 / (Int32.toInt64 x2) * (Int32.toInt64 x2))) hx hb d_XAr_divide_64 rfl ?_
      refine z_wv (z_runV (As := [.int x1, .int (Int64.toInt32 (y_4 - y_4 / (Int32.toInt64 x2) * (Int32.toInt64 x2)))]) (rest := []) ⟨hx, hb, hml, hown, hts⟩ (c_XSt_put l D a k u0 x1 (Int64.toInt32 (y_4 - y_4 / (Int32.toInt64 x2) * (Int32.toInt64 x2)))) (qX_Ar_60 hts (by decide)) hw 1 rfl rfl hl.1 rfl (lv_room (Nat.le_of_ble_eq_true rfl)) d_XAr_divide_65 hcs) hw hS (fun u_7 H locs eu_7 hw hS => ?_)
      have hf := hf.trans (nm_eq eu_7)
      refine lv_aload_n hx hb d_XAr_divide_68 rfl (lv_at hl 2 rfl) ?_
      refine va_get (v := .ref (a 1)) hx hb hts iX_Ar hown hw.2.1 hw.1 7 rfl rfl 0 (by decide) (hts _ kX_Ar_9) (fun _ h => h) rfl d_XAr_divide_69 ?_
      refine lv_iload_n hx hb d_XAr_divide_72 rfl (lv_at hl 3 rfl) ?_
      refine lv_iconst (v := (1 : Int32)) hx hb d_XAr_divide_73 (by decide) ?_
      refine lv_iadd hx hb d_XAr_divide_74 ?_
      refine lv_lload hx hb d_XAr_divide_75 (lv_at hl 0 rfl) ?_
      refine lv_l2i (v := Int64.toInt32 y_5) hx hb d_XAr_divide_77 rfl ?_
      refine z_wv (z_runV (As := [.int (x1 + (1 : Int32)), .int (Int64.toInt32 y_5)]) (rest := []) ⟨hx, hb, hml, hown, hts⟩ (c_XSt_put l D a k u_7 (x1 + (1 : Int32)) (Int64.toInt32 y_5)) (qX_Ar_60 hts (by decide)) hw 1 rfl rfl hl.1 rfl (lv_room (Nat.le_of_ble_eq_true rfl)) d_XAr_divide_78 hcs) hw hS (fun u_8 H locs eu_8 hw hS => ?_)
      have hf := hf.trans (nm_eq eu_8)
      refine lv_iconst (v := (0 : Int32)) hx hb d_XAr_divide_81 (by decide) ?_
      exact hret (0 : Int32) _ _ _ _ _ d_XAr_divide_82 hw hS hf
    · have hf := hf.trans (if_neg c_6)
      refine lv_bipush (v := (9 : Int32)) hx hb d_XAr_divide_52 (by decide) ?_
      exact hret (9 : Int32) _ _ _ _ _ d_XAr_divide_54 hw hS hf
  · have hf := hf.trans (if_pos c_1)
    refine lv_bipush (v := (9 : Int32)) hx hb d_XAr_divide_4 (by decide) ?_
    exact hret (9 : Int32) _ _ _ _ _ d_XAr_divide_6 hw hS hf
def f_XAr_putUnsigned (u0 : XS) (x1 : Int32) (y2 : Int64) : Int32 × XS := nm (Int64.toInt32 y2) (fun (x_1 : Int32) => nm (f_XSt_put u0 x1 x_1) (fun (u_2 : XS) => jn (fun (K_4 : Int32 → Int32 × XS) => if y2 ≤ (4294967295 : Int64) then K_4 (0 : Int32) else K_4 (2 : Int32)) (fun (x_3 : Int32) => if x_1 = (0 : Int32) then nm (xsF u_2 1 (x_3 + (0 : Int32))) (fun (u_6 : XS) => ((0 : Int32), u_6)) else nm (xsF u_2 1 (x_3 + (1 : Int32))) (fun (u_7 : XS) => ((0 : Int32), u_7)))))
set_option maxHeartbeats 4000000 in
set_option maxRecDepth 100000 in
theorem c_XAr_putUnsigned (l : Launch) (D : va_G) (a : Nat → Nat) (k : Nat → ClassId) (u0 : XS) (x1 : Int32) (y2 : Int64) : zMi l y_XAr_putUnsigned w_XAr_putUnsigned rm_XAr_putUnsigned D clX (tyX k) nwX (xW a k) [.ref (a 7), .int x1, .long y2] u0 (f_XAr_putUnsigned u0 x1 y2) := by
  generalize hF : f_XAr_putUnsigned u0 x1 y2 = F
  have hf := hF.symm
  unfold f_XAr_putUnsigned at hf
  refine zMi_of (cc := b_XAr_putUnsigned) (maxL := 5) (own := RX_Ar) (by decide) rfl rfl (Nat.le_of_ble_eq_true rfl) ?_
  intro p e R st m args below meth c A H locs Q ls hR hx hb hml hown hts hw hS hret hl
  subst hR
  have hcs : 0 ≤ (rm_XAr_putUnsigned).cells ∧ 0 ≤ (rm_XAr_putUnsigned).slots := ⟨Nat.zero_le _, Nat.zero_le _⟩
  have hl : lv_has ls 5 [(0, .ref (a 7)), (1, .int x1), (2, .long y2)] := hl
  refine lv_lload_n hx hb d_XAr_putUnsigned_0 rfl (lv_at hl 2 rfl) ?_
  refine lv_l2i (v := Int64.toInt32 y2) hx hb d_XAr_putUnsigned_1 rfl ?_
  refine lv_topi (fun x_1 ex_1 => ?_)
  have hf := hf.trans (nm_eq ex_1)
  refine lv_istore (lv' := [(4, .int x_1), (0, .ref (a 7)), (1, .int x1), (2, .long y2)]) hx hb d_XAr_putUnsigned_2 hl (by decide) rfl (fun ls hl => ?_)
  refine lv_aload_n hx hb d_XAr_putUnsigned_4 rfl (lv_at hl 1 rfl) ?_
  refine va_get (v := .ref (a 1)) hx hb hts iX_Ar hown hw.2.1 hw.1 7 rfl rfl 0 (by decide) (hts _ kX_Ar_9) (fun _ h => h) rfl d_XAr_putUnsigned_5 ?_
  refine lv_iload_n hx hb d_XAr_putUnsigned_8 rfl (lv_at hl 2 rfl) ?_
  refine lv_iload hx hb d_XAr_putUnsigned_9 (lv_at hl 0 rfl) ?_
  refine z_wv (z_runV (As := [.int x1, .int x_1]) (rest := []) ⟨hx, hb, hml, hown, hts⟩ (c_XSt_put l D a k u0 x1 x_1) (qX_Ar_60 hts (by decide)) hw 1 rfl rfl hl.1 rfl (lv_room (Nat.le_of_ble_eq_true rfl)) d_XAr_putUnsigned_11 hcs) hw hS (fun u_2 H locs eu_2 hw hS => ?_)
  have hf := hf.trans (nm_eq eu_2)
  refine lv_aload_n hx hb d_XAr_putUnsigned_14 rfl (lv_at hl 1 rfl) ?_
  refine va_get (v := .ref (a 1)) hx hb hts iX_Ar hown hw.2.1 hw.1 7 rfl rfl 0 (by decide) (hts _ kX_Ar_9) (fun _ h => h) rfl d_XAr_putUnsigned_15 ?_
  refine lv_lload_n hx hb d_XAr_putUnsigned_18 rfl (lv_at hl 3 rfl) ?_
  refine lv_ldc2 (v := (4294967295 : Int64)) hx hb hown (hts _ kX_Ar_64) d_XAr_putUnsigned_19 ?_
  refine jn_cut hf (fun (K_4 : Int32 → Int32 × XS) => ∀ (x_3 : Int32), ∀ (ls : Array Slot), lv_has ls 5 [(4, .int x_1)] → F = K_4 x_3 → W p l e rm_XAr_putUnsigned st m args below meth c H locs 0 0 Q (F0 m 31 ls [.int x_3, .ref (a 1)])) ?_ ?_
  · intro x_3 ls hl hf
    refine lv_iload hx hb d_XAr_putUnsigned_31 (lv_at hl 0 rfl) ?_
    refine lv_if_eq (tgt := 40) hx hb d_XAr_putUnsigned_33 (by decide) (fun c_5 => ?_) (fun c_5 => ?_)
    · have hf := hf.trans (if_pos c_5)
      refine lv_iconst (v := (0 : Int32)) hx hb d_XAr_putUnsigned_40 (by decide) ?_
      refine lv_iadd hx hb d_XAr_putUnsigned_41 ?_
      refine z_putN (u' := xsF u_2 1 (x_3 + (0 : Int32))) hx hb hts iX_St tX_St tX_St_ok nX_St hown hw hS 1 rfl rfl 3 (by decide) (va_Nw.use rfl (hw.2.2.2 _ kX_Ar_110).2) (fun _ h => h) rfl rfl (Nat.le_of_ble_eq_true rfl) rfl d_XAr_putUnsigned_42 (fun u_6 H locs eu_6 hw hS => ?_)
      have hf := hf.trans (nm_eq eu_6)
      refine lv_iconst (v := (0 : Int32)) hx hb d_XAr_putUnsigned_45 (by decide) ?_
      exact hret (0 : Int32) _ _ _ _ _ d_XAr_putUnsigned_46 hw hS hf
    · have hf := hf.trans (if_neg c_5)
      refine lv_iconst (v := (1 : Int32)) hx hb d_XAr_putUnsigned_36 (by decide) ?_
      refine lv_goto (tgt := 41) hx hb d_XAr_putUnsigned_37 (by decide) ?_
      refine lv_iadd hx hb d_XAr_putUnsigned_41 ?_
      refine z_putN (u' := xsF u_2 1 (x_3 + (1 : Int32))) hx hb hts iX_St tX_St tX_St_ok nX_St hown hw hS 1 rfl rfl 3 (by decide) (va_Nw.use rfl (hw.2.2.2 _ kX_Ar_110).2) (fun _ h => h) rfl rfl (Nat.le_of_ble_eq_true rfl) rfl d_XAr_putUnsigned_42 (fun u_7 H locs eu_7 hw hS => ?_)
      have hf := hf.trans (nm_eq eu_7)
      refine lv_iconst (v := (0 : Int32)) hx hb d_XAr_putUnsigned_45 (by decide) ?_
      exact hret (0 : Int32) _ _ _ _ _ d_XAr_putUnsigned_46 hw hS hf
  · intro K_4 hK_4 hf
    refine z_lcmp_le (tgt := 30) hx hb d_XAr_putUnsigned_22 d_XAr_putUnsigned_23 (by decide) (fun c_8 => ?_) (fun c_8 => ?_)
    · have hf := hf.trans (if_pos c_8)
      refine lv_iconst (v := (0 : Int32)) hx hb d_XAr_putUnsigned_30 (by decide) ?_
      exact hK_4 (0 : Int32) _ (lv_sub hl [0] rfl) hf
    · have hf := hf.trans (if_neg c_8)
      refine lv_iconst (v := (2 : Int32)) hx hb d_XAr_putUnsigned_26 (by decide) ?_
      refine lv_goto (tgt := 31) hx hb d_XAr_putUnsigned_27 (by decide) ?_
      exact hK_4 (2 : Int32) _ (lv_sub hl [0] rfl) hf
def f_XAr_apply (u0 : XS) (x1 : Int32) (x2 : Int32) (x3 : Int32) : Int32 × XS := nm (f_XSt_value u0 x2) (fun (x_1 : Int32) => if x1 = (16 : Int32) then pr (f_XAr_putSigned u0 x2 (if 0 < (Int32.toInt64 x3) then (Int32.toInt64 x3) else -(Int32.toInt64 x3))) (fun (x_4 : Int32) (u_3 : XS) => (x_4, u_3)) else if x1 = (17 : Int32) then pr (f_XAr_putSigned u0 x2 (-(if 0 < (Int32.toInt64 x3) then (Int32.toInt64 x3) else -(Int32.toInt64 x3)))) (fun (x_7 : Int32) (u_6 : XS) => (x_7, u_6)) else if x1 = (18 : Int32) then pr (f_XAr_putSigned u0 x2 (Int32.toInt64 x3)) (fun (x_10 : Int32) (u_9 : XS) => (x_10, u_9)) else if x1 = (19 : Int32) then pr (f_XAr_putSigned u0 x2 (-(Int32.toInt64 x3))) (fun (x_13 : Int32) (u_12 : XS) => (x_13, u_12)) else if x1 = (20 : Int32) then pr (f_XAr_putBits u0 x2 (x_1 &&& x3)) (fun (x_16 : Int32) (u_15 : XS) => (x_16, u_15)) else if x1 = (21 : Int32) then pr (f_XAr_compare u0 ((Int32.toInt64 x_1) &&& (4294967295 : Int64)) ((Int32.toInt64 x3) &&& (4294967295 : Int64))) (fun (x_19 : Int32) (u_18 : XS) => (x_19, u_18)) else if x1 = (22 : Int32) then pr (f_XAr_putBits u0 x2 (x_1 ||| x3)) (fun (x_22 : Int32) (u_21 : XS) => (x_22, u_21)) else if x1 = (23 : Int32) then pr (f_XAr_putBits u0 x2 (x_1 ^^^ x3)) (fun (x_25 : Int32) (u_24 : XS) => (x_25, u_24)) else if x1 = (24 : Int32) then pr (f_XAr_load u0 x2 x3) (fun (x_28 : Int32) (u_27 : XS) => (x_28, u_27)) else if x1 = (25 : Int32) then pr (f_XAr_compare u0 (Int32.toInt64 x_1) (Int32.toInt64 x3)) (fun (x_31 : Int32) (u_30 : XS) => (x_31, u_30)) else if x1 = (26 : Int32) then pr (f_XAr_putSigned u0 x2 ((Int32.toInt64 x_1) + (Int32.toInt64 x3))) (fun (x_34 : Int32) (u_33 : XS) => (x_34, u_33)) else if x1 = (27 : Int32) then pr (f_XAr_putSigned u0 x2 ((Int32.toInt64 x_1) - (Int32.toInt64 x3))) (fun (x_37 : Int32) (u_36 : XS) => (x_37, u_36)) else if x1 = (28 : Int32) then pr (f_XAr_multiply u0 x2 x3) (fun (x_40 : Int32) (u_39 : XS) => (x_40, u_39)) else if x1 = (29 : Int32) then pr (f_XAr_divide u0 x2 x3) (fun (x_43 : Int32) (u_42 : XS) => (x_43, u_42)) else if x1 = (30 : Int32) then pr (f_XAr_putUnsigned u0 x2 (((Int32.toInt64 x_1) &&& (4294967295 : Int64)) + ((Int32.toInt64 x3) &&& (4294967295 : Int64)))) (fun (x_46 : Int32) (u_45 : XS) => (x_46, u_45)) else if x1 = (31 : Int32) then pr (f_XAr_putUnsigned u0 x2 ((((Int32.toInt64 x_1) &&& (4294967295 : Int64)) + ((Int32.toInt64 (x3 ^^^ (-1 : Int32))) &&& (4294967295 : Int64))) + (1 : Int64))) (fun (x_49 : Int32) (u_48 : XS) => (x_49, u_48)) else ((1 : Int32), u0))
set_option maxHeartbeats 4000000 in
set_option maxRecDepth 100000 in
theorem c_XAr_apply (l : Launch) (D : va_G) (a : Nat → Nat) (k : Nat → ClassId) (u0 : XS) (x1 : Int32) (x2 : Int32) (x3 : Int32) : zMi l y_XAr_apply w_XAr_apply rm_XAr_apply D clX (tyX k) nwX (xW a k) [.ref (a 7), .int x1, .int x2, .int x3] u0 (f_XAr_apply u0 x1 x2 x3) := by
  generalize hF : f_XAr_apply u0 x1 x2 x3 = F
  have hf := hF.symm
  unfold f_XAr_apply at hf
  refine zMi_of (cc := b_XAr_apply) (maxL := 5) (own := RX_Ar) (by decide) rfl rfl (Nat.le_of_ble_eq_true rfl) ?_
  intro p e R st m args below meth c A H locs Q ls hR hx hb hml hown hts hw hS hret hl
  subst hR
  have hcs : 0 ≤ (rm_XAr_apply).cells ∧ 0 ≤ (rm_XAr_apply).slots := ⟨Nat.zero_le _, Nat.zero_le _⟩
  have hl : lv_has ls 5 [(0, .ref (a 7)), (1, .int x1), (2, .int x2), (3, .int x3)] := hl
  refine lv_aload_n hx hb d_XAr_apply_0 rfl (lv_at hl 0 rfl) ?_
  refine va_get (v := .ref (a 1)) hx hb hts iX_Ar hown hw.2.1 hw.1 7 rfl rfl 0 (by decide) (hts _ kX_Ar_9) (fun _ h => h) rfl d_XAr_apply_1 ?_
  refine lv_iload_n hx hb d_XAr_apply_4 rfl (lv_at hl 2 rfl) ?_
  refine z_ri (z_runV (As := [.int x2]) (rest := []) ⟨hx, hb, hml, hown, hts⟩ (c_XSt_value l D a k u0 x2) (qX_Ar_31 hts (by decide)) hw 1 rfl rfl hl.1 rfl (lv_room (Nat.le_of_ble_eq_true rfl)) d_XAr_apply_5 hcs) (fun x_1 ex_1 => ?_)
  have hf := hf.trans (nm_eq ex_1)
  refine lv_istore (lv' := [(4, .int x_1), (0, .ref (a 7)), (1, .int x1), (2, .int x2), (3, .int x3)]) hx hb d_XAr_apply_8 hl (by decide) rfl (fun ls hl => ?_)
  refine lv_iload_n hx hb d_XAr_apply_10 rfl (lv_at hl 2 rfl) ?_
  by_cases c_2 : x1 = (16 : Int32)
  · have hf := hf.trans (if_pos c_2)
    refine lv_tableIn (off := 77) (tgt := 88) hx hb d_XAr_apply_11 (by rw [c_2]; decide +kernel) (by rw [c_2]; decide +kernel) (by rw [c_2]; decide +kernel) (by decide) ?_
    refine lv_aload_n hx hb d_XAr_apply_88 rfl (lv_at hl 1 rfl) ?_
    refine lv_iload_n hx hb d_XAr_apply_89 rfl (lv_at hl 3 rfl) ?_
    refine lv_iload_n hx hb d_XAr_apply_90 rfl (lv_at hl 4 rfl) ?_
    refine lv_i2l (v := Int32.toInt64 x3) hx hb d_XAr_apply_91 rfl ?_
    refine va_mabs_long hx hb (hml.trans hl.1.symm) hown (hts _ kX_Ar_76) (hts _ kX_abs_static) (hts _ kX_abs_ini) (hts _ kX_abs_code) (by decide) (Nat.le_of_ble_eq_true rfl) hcs.1 hcs.2 d_XAr_apply_92 ?_
    refine z_wi (z_runV (As := [.int x2, .long (if 0 < (Int32.toInt64 x3) then (Int32.toInt64 x3) else -(Int32.toInt64 x3))]) (rest := []) ⟨hx, hb, hml, hown, hts⟩ (c_XAr_putSigned l D a k u0 x2 (if 0 < (Int32.toInt64 x3) then (Int32.toInt64 x3) else -(Int32.toInt64 x3))) (qX_Ar_69 hts (by decide)) hw 7 rfl rfl hl.1 rfl (lv_room (Nat.le_of_ble_eq_true rfl)) d_XAr_apply_95 hcs) hw hS (fun x_4 u_3 H locs ex_4 hw hS => ?_)
    have hf := hf.trans (pr_eq ex_4)
    exact hret x_4 _ _ _ _ _ d_XAr_apply_98 hw hS hf
  have hf := hf.trans (if_neg c_2)
  by_cases c_5 : x1 = (17 : Int32)
  · have hf := hf.trans (if_pos c_5)
    refine lv_tableIn (off := 88) (tgt := 99) hx hb d_XAr_apply_11 (by rw [c_5]; decide +kernel) (by rw [c_5]; decide +kernel) (by rw [c_5]; decide +kernel) (by decide) ?_
    refine lv_aload_n hx hb d_XAr_apply_99 rfl (lv_at hl 1 rfl) ?_
    refine lv_iload_n hx hb d_XAr_apply_100 rfl (lv_at hl 3 rfl) ?_
    refine lv_iload_n hx hb d_XAr_apply_101 rfl (lv_at hl 4 rfl) ?_
    refine lv_i2l (v := Int32.toInt64 x3) hx hb d_XAr_apply_102 rfl ?_
    refine va_mabs_long hx hb (hml.trans hl.1.symm) hown (hts _ kX_Ar_76) (hts _ kX_abs_static) (hts _ kX_abs_ini) (hts _ kX_abs_code) (by decide) (Nat.le_of_ble_eq_true rfl) hcs.1 hcs.2 d_XAr_apply_103 ?_
    refine lv_lneg hx hb d_XAr_apply_106 ?_
    refine z_wi (z_runV (As := [.int x2, .long (-(if 0 < (Int32.toInt64 x3) then (Int32.toInt64 x3) else -(Int32.toInt64 x3)))]) (rest := []) ⟨hx, hb, hml, hown, hts⟩ (c_XAr_putSigned l D a k u0 x2 (-(if 0 < (Int32.toInt64 x3) then (Int32.toInt64 x3) else -(Int32.toInt64 x3)))) (qX_Ar_69 hts (by decide)) hw 7 rfl rfl hl.1 rfl (lv_room (Nat.le_of_ble_eq_true rfl)) d_XAr_apply_107 hcs) hw hS (fun x_7 u_6 H locs ex_7 hw hS => ?_)
    have hf := hf.trans (pr_eq ex_7)
    exact hret x_7 _ _ _ _ _ d_XAr_apply_110 hw hS hf
  have hf := hf.trans (if_neg c_5)
  by_cases c_8 : x1 = (18 : Int32)
  · have hf := hf.trans (if_pos c_8)
    refine lv_tableIn (off := 100) (tgt := 111) hx hb d_XAr_apply_11 (by rw [c_8]; decide +kernel) (by rw [c_8]; decide +kernel) (by rw [c_8]; decide +kernel) (by decide) ?_
    refine lv_aload_n hx hb d_XAr_apply_111 rfl (lv_at hl 1 rfl) ?_
    refine lv_iload_n hx hb d_XAr_apply_112 rfl (lv_at hl 3 rfl) ?_
    refine lv_iload_n hx hb d_XAr_apply_113 rfl (lv_at hl 4 rfl) ?_
    refine lv_i2l (v := Int32.toInt64 x3) hx hb d_XAr_apply_114 rfl ?_
    refine z_wi (z_runV (As := [.int x2, .long (Int32.toInt64 x3)]) (rest := []) ⟨hx, hb, hml, hown, hts⟩ (c_XAr_putSigned l D a k u0 x2 (Int32.toInt64 x3)) (qX_Ar_69 hts (by decide)) hw 7 rfl rfl hl.1 rfl (lv_room (Nat.le_of_ble_eq_true rfl)) d_XAr_apply_115 hcs) hw hS (fun x_10 u_9 H locs ex_10 hw hS => ?_)
    have hf := hf.trans (pr_eq ex_10)
    exact hret x_10 _ _ _ _ _ d_XAr_apply_118 hw hS hf
  have hf := hf.trans (if_neg c_8)
  by_cases c_11 : x1 = (19 : Int32)
  · have hf := hf.trans (if_pos c_11)
    refine lv_tableIn (off := 108) (tgt := 119) hx hb d_XAr_apply_11 (by rw [c_11]; decide +kernel) (by rw [c_11]; decide +kernel) (by rw [c_11]; decide +kernel) (by decide) ?_
    refine lv_aload_n hx hb d_XAr_apply_119 rfl (lv_at hl 1 rfl) ?_
    refine lv_iload_n hx hb d_XAr_apply_120 rfl (lv_at hl 3 rfl) ?_
    refine lv_iload_n hx hb d_XAr_apply_121 rfl (lv_at hl 4 rfl) ?_
    refine lv_i2l (v := Int32.toInt64 x3) hx hb d_XAr_apply_122 rfl ?_
    refine lv_lneg hx hb d_XAr_apply_123 ?_
    refine z_wi (z_runV (As := [.int x2, .long (-(Int32.toInt64 x3))]) (rest := []) ⟨hx, hb, hml, hown, hts⟩ (c_XAr_putSigned l D a k u0 x2 (-(Int32.toInt64 x3))) (qX_Ar_69 hts (by decide)) hw 7 rfl rfl hl.1 rfl (lv_room (Nat.le_of_ble_eq_true rfl)) d_XAr_apply_124 hcs) hw hS (fun x_13 u_12 H locs ex_13 hw hS => ?_)
    have hf := hf.trans (pr_eq ex_13)
    exact hret x_13 _ _ _ _ _ d_XAr_apply_127 hw hS hf
  have hf := hf.trans (if_neg c_11)
  by_cases c_14 : x1 = (20 : Int32)
  · have hf := hf.trans (if_pos c_14)
    refine lv_tableIn (off := 117) (tgt := 128) hx hb d_XAr_apply_11 (by rw [c_14]; decide +kernel) (by rw [c_14]; decide +kernel) (by rw [c_14]; decide +kernel) (by decide) ?_
    refine lv_aload_n hx hb d_XAr_apply_128 rfl (lv_at hl 1 rfl) ?_
    refine lv_iload_n hx hb d_XAr_apply_129 rfl (lv_at hl 3 rfl) ?_
    refine lv_iload hx hb d_XAr_apply_130 (lv_at hl 0 rfl) ?_
    refine lv_iload_n hx hb d_XAr_apply_132 rfl (lv_at hl 4 rfl) ?_
    refine lv_iand hx hb d_XAr_apply_133 ?_
    refine z_wi (z_runV (As := [.int x2, .int (x_1 &&& x3)]) (rest := []) ⟨hx, hb, hml, hown, hts⟩ (c_XAr_putBits l D a k u0 x2 (x_1 &&& x3)) (qX_Ar_82 hts (by decide)) hw 7 rfl rfl hl.1 rfl (lv_room (Nat.le_of_ble_eq_true rfl)) d_XAr_apply_134 hcs) hw hS (fun x_16 u_15 H locs ex_16 hw hS => ?_)
    have hf := hf.trans (pr_eq ex_16)
    exact hret x_16 _ _ _ _ _ d_XAr_apply_137 hw hS hf
  have hf := hf.trans (if_neg c_14)
  by_cases c_17 : x1 = (21 : Int32)
  · have hf := hf.trans (if_pos c_17)
    refine lv_tableIn (off := 127) (tgt := 138) hx hb d_XAr_apply_11 (by rw [c_17]; decide +kernel) (by rw [c_17]; decide +kernel) (by rw [c_17]; decide +kernel) (by decide) ?_
    refine lv_aload_n hx hb d_XAr_apply_138 rfl (lv_at hl 1 rfl) ?_
    refine lv_iload hx hb d_XAr_apply_139 (lv_at hl 0 rfl) ?_
    refine lv_i2l (v := Int32.toInt64 x_1) hx hb d_XAr_apply_141 rfl ?_
    refine lv_ldc2 (v := (4294967295 : Int64)) hx hb hown (hts _ kX_Ar_64) d_XAr_apply_142 ?_
    refine lv_land hx hb d_XAr_apply_145 ?_
    refine lv_iload_n hx hb d_XAr_apply_146 rfl (lv_at hl 4 rfl) ?_
    refine lv_i2l (v := Int32.toInt64 x3) hx hb d_XAr_apply_147 rfl ?_
    refine lv_ldc2 (v := (4294967295 : Int64)) hx hb hown (hts _ kX_Ar_64) d_XAr_apply_148 ?_
    refine lv_land hx hb d_XAr_apply_151 ?_
    refine z_wi (z_runV (As := [.long ((Int32.toInt64 x_1) &&& (4294967295 : Int64)), .long ((Int32.toInt64 x3) &&& (4294967295 : Int64))]) (rest := []) ⟨hx, hb, hml, hown, hts⟩ (c_XAr_compare l D a k u0 ((Int32.toInt64 x_1) &&& (4294967295 : Int64)) ((Int32.toInt64 x3) &&& (4294967295 : Int64))) (qX_Ar_85 hts (by decide)) hw 7 rfl rfl hl.1 rfl (lv_room (Nat.le_of_ble_eq_true rfl)) d_XAr_apply_152 hcs) hw hS (fun x_19 u_18 H locs ex_19 hw hS => ?_)
    have hf := hf.trans (pr_eq ex_19)
    exact hret x_19 _ _ _ _ _ d_XAr_apply_155 hw hS hf
  have hf := hf.trans (if_neg c_17)
  by_cases c_20 : x1 = (22 : Int32)
  · have hf := hf.trans (if_pos c_20)
    refine lv_tableIn (off := 145) (tgt := 156) hx hb d_XAr_apply_11 (by rw [c_20]; decide +kernel) (by rw [c_20]; decide +kernel) (by rw [c_20]; decide +kernel) (by decide) ?_
    refine lv_aload_n hx hb d_XAr_apply_156 rfl (lv_at hl 1 rfl) ?_
    refine lv_iload_n hx hb d_XAr_apply_157 rfl (lv_at hl 3 rfl) ?_
    refine lv_iload hx hb d_XAr_apply_158 (lv_at hl 0 rfl) ?_
    refine lv_iload_n hx hb d_XAr_apply_160 rfl (lv_at hl 4 rfl) ?_
    refine lv_ior hx hb d_XAr_apply_161 ?_
    refine z_wi (z_runV (As := [.int x2, .int (x_1 ||| x3)]) (rest := []) ⟨hx, hb, hml, hown, hts⟩ (c_XAr_putBits l D a k u0 x2 (x_1 ||| x3)) (qX_Ar_82 hts (by decide)) hw 7 rfl rfl hl.1 rfl (lv_room (Nat.le_of_ble_eq_true rfl)) d_XAr_apply_162 hcs) hw hS (fun x_22 u_21 H locs ex_22 hw hS => ?_)
    have hf := hf.trans (pr_eq ex_22)
    exact hret x_22 _ _ _ _ _ d_XAr_apply_165 hw hS hf
  have hf := hf.trans (if_neg c_20)
  by_cases c_23 : x1 = (23 : Int32)
  · have hf := hf.trans (if_pos c_23)
    refine lv_tableIn (off := 155) (tgt := 166) hx hb d_XAr_apply_11 (by rw [c_23]; decide +kernel) (by rw [c_23]; decide +kernel) (by rw [c_23]; decide +kernel) (by decide) ?_
    refine lv_aload_n hx hb d_XAr_apply_166 rfl (lv_at hl 1 rfl) ?_
    refine lv_iload_n hx hb d_XAr_apply_167 rfl (lv_at hl 3 rfl) ?_
    refine lv_iload hx hb d_XAr_apply_168 (lv_at hl 0 rfl) ?_
    refine lv_iload_n hx hb d_XAr_apply_170 rfl (lv_at hl 4 rfl) ?_
    refine lv_ixor hx hb d_XAr_apply_171 ?_
    refine z_wi (z_runV (As := [.int x2, .int (x_1 ^^^ x3)]) (rest := []) ⟨hx, hb, hml, hown, hts⟩ (c_XAr_putBits l D a k u0 x2 (x_1 ^^^ x3)) (qX_Ar_82 hts (by decide)) hw 7 rfl rfl hl.1 rfl (lv_room (Nat.le_of_ble_eq_true rfl)) d_XAr_apply_172 hcs) hw hS (fun x_25 u_24 H locs ex_25 hw hS => ?_)
    have hf := hf.trans (pr_eq ex_25)
    exact hret x_25 _ _ _ _ _ d_XAr_apply_175 hw hS hf
  have hf := hf.trans (if_neg c_23)
  by_cases c_26 : x1 = (24 : Int32)
  · have hf := hf.trans (if_pos c_26)
    refine lv_tableIn (off := 165) (tgt := 176) hx hb d_XAr_apply_11 (by rw [c_26]; decide +kernel) (by rw [c_26]; decide +kernel) (by rw [c_26]; decide +kernel) (by decide) ?_
    refine lv_aload_n hx hb d_XAr_apply_176 rfl (lv_at hl 1 rfl) ?_
    refine lv_iload_n hx hb d_XAr_apply_177 rfl (lv_at hl 3 rfl) ?_
    refine lv_iload_n hx hb d_XAr_apply_178 rfl (lv_at hl 4 rfl) ?_
    refine z_wi (z_runV (As := [.int x2, .int x3]) (rest := []) ⟨hx, hb, hml, hown, hts⟩ (c_XAr_load l D a k u0 x2 x3) (qX_Ar_66 hts (by decide)) hw 7 rfl rfl hl.1 rfl (lv_room (Nat.le_of_ble_eq_true rfl)) d_XAr_apply_179 hcs) hw hS (fun x_28 u_27 H locs ex_28 hw hS => ?_)
    have hf := hf.trans (pr_eq ex_28)
    exact hret x_28 _ _ _ _ _ d_XAr_apply_182 hw hS hf
  have hf := hf.trans (if_neg c_26)
  by_cases c_29 : x1 = (25 : Int32)
  · have hf := hf.trans (if_pos c_29)
    refine lv_tableIn (off := 172) (tgt := 183) hx hb d_XAr_apply_11 (by rw [c_29]; decide +kernel) (by rw [c_29]; decide +kernel) (by rw [c_29]; decide +kernel) (by decide) ?_
    refine lv_aload_n hx hb d_XAr_apply_183 rfl (lv_at hl 1 rfl) ?_
    refine lv_iload hx hb d_XAr_apply_184 (lv_at hl 0 rfl) ?_
    refine lv_i2l (v := Int32.toInt64 x_1) hx hb d_XAr_apply_186 rfl ?_
    refine lv_iload_n hx hb d_XAr_apply_187 rfl (lv_at hl 4 rfl) ?_
    refine lv_i2l (v := Int32.toInt64 x3) hx hb d_XAr_apply_188 rfl ?_
    refine z_wi (z_runV (As := [.long (Int32.toInt64 x_1), .long (Int32.toInt64 x3)]) (rest := []) ⟨hx, hb, hml, hown, hts⟩ (c_XAr_compare l D a k u0 (Int32.toInt64 x_1) (Int32.toInt64 x3)) (qX_Ar_85 hts (by decide)) hw 7 rfl rfl hl.1 rfl (lv_room (Nat.le_of_ble_eq_true rfl)) d_XAr_apply_189 hcs) hw hS (fun x_31 u_30 H locs ex_31 hw hS => ?_)
    have hf := hf.trans (pr_eq ex_31)
    exact hret x_31 _ _ _ _ _ d_XAr_apply_192 hw hS hf
  have hf := hf.trans (if_neg c_29)
  by_cases c_32 : x1 = (26 : Int32)
  · have hf := hf.trans (if_pos c_32)
    refine lv_tableIn (off := 182) (tgt := 193) hx hb d_XAr_apply_11 (by rw [c_32]; decide +kernel) (by rw [c_32]; decide +kernel) (by rw [c_32]; decide +kernel) (by decide) ?_
    refine lv_aload_n hx hb d_XAr_apply_193 rfl (lv_at hl 1 rfl) ?_
    refine lv_iload_n hx hb d_XAr_apply_194 rfl (lv_at hl 3 rfl) ?_
    refine lv_iload hx hb d_XAr_apply_195 (lv_at hl 0 rfl) ?_
    refine lv_i2l (v := Int32.toInt64 x_1) hx hb d_XAr_apply_197 rfl ?_
    refine lv_iload_n hx hb d_XAr_apply_198 rfl (lv_at hl 4 rfl) ?_
    refine lv_i2l (v := Int32.toInt64 x3) hx hb d_XAr_apply_199 rfl ?_
    refine lv_ladd hx hb d_XAr_apply_200 ?_
    refine z_wi (z_runV (As := [.int x2, .long ((Int32.toInt64 x_1) + (Int32.toInt64 x3))]) (rest := []) ⟨hx, hb, hml, hown, hts⟩ (c_XAr_putSigned l D a k u0 x2 ((Int32.toInt64 x_1) + (Int32.toInt64 x3))) (qX_Ar_69 hts (by decide)) hw 7 rfl rfl hl.1 rfl (lv_room (Nat.le_of_ble_eq_true rfl)) d_XAr_apply_201 hcs) hw hS (fun x_34 u_33 H locs ex_34 hw hS => ?_)
    have hf := hf.trans (pr_eq ex_34)
    exact hret x_34 _ _ _ _ _ d_XAr_apply_204 hw hS hf
  have hf := hf.trans (if_neg c_32)
  by_cases c_35 : x1 = (27 : Int32)
  · have hf := hf.trans (if_pos c_35)
    refine lv_tableIn (off := 194) (tgt := 205) hx hb d_XAr_apply_11 (by rw [c_35]; decide +kernel) (by rw [c_35]; decide +kernel) (by rw [c_35]; decide +kernel) (by decide) ?_
    refine lv_aload_n hx hb d_XAr_apply_205 rfl (lv_at hl 1 rfl) ?_
    refine lv_iload_n hx hb d_XAr_apply_206 rfl (lv_at hl 3 rfl) ?_
    refine lv_iload hx hb d_XAr_apply_207 (lv_at hl 0 rfl) ?_
    refine lv_i2l (v := Int32.toInt64 x_1) hx hb d_XAr_apply_209 rfl ?_
    refine lv_iload_n hx hb d_XAr_apply_210 rfl (lv_at hl 4 rfl) ?_
    refine lv_i2l (v := Int32.toInt64 x3) hx hb d_XAr_apply_211 rfl ?_
    refine lv_lsub hx hb d_XAr_apply_212 ?_
    refine z_wi (z_runV (As := [.int x2, .long ((Int32.toInt64 x_1) - (Int32.toInt64 x3))]) (rest := []) ⟨hx, hb, hml, hown, hts⟩ (c_XAr_putSigned l D a k u0 x2 ((Int32.toInt64 x_1) - (Int32.toInt64 x3))) (qX_Ar_69 hts (by decide)) hw 7 rfl rfl hl.1 rfl (lv_room (Nat.le_of_ble_eq_true rfl)) d_XAr_apply_213 hcs) hw hS (fun x_37 u_36 H locs ex_37 hw hS => ?_)
    have hf := hf.trans (pr_eq ex_37)
    exact hret x_37 _ _ _ _ _ d_XAr_apply_216 hw hS hf
  have hf := hf.trans (if_neg c_35)
  by_cases c_38 : x1 = (28 : Int32)
  · have hf := hf.trans (if_pos c_38)
    refine lv_tableIn (off := 206) (tgt := 217) hx hb d_XAr_apply_11 (by rw [c_38]; decide +kernel) (by rw [c_38]; decide +kernel) (by rw [c_38]; decide +kernel) (by decide) ?_
    refine lv_aload_n hx hb d_XAr_apply_217 rfl (lv_at hl 1 rfl) ?_
    refine lv_iload_n hx hb d_XAr_apply_218 rfl (lv_at hl 3 rfl) ?_
    refine lv_iload_n hx hb d_XAr_apply_219 rfl (lv_at hl 4 rfl) ?_
    refine z_wi (z_runV (As := [.int x2, .int x3]) (rest := []) ⟨hx, hb, hml, hown, hts⟩ (c_XAr_multiply l D a k u0 x2 x3) (qX_Ar_89 hts (by decide)) hw 7 rfl rfl hl.1 rfl (lv_room (Nat.le_of_ble_eq_true rfl)) d_XAr_apply_220 hcs) hw hS (fun x_40 u_39 H locs ex_40 hw hS => ?_)
    have hf := hf.trans (pr_eq ex_40)
    exact hret x_40 _ _ _ _ _ d_XAr_apply_223 hw hS hf
  have hf := hf.trans (if_neg c_38)
  by_cases c_41 : x1 = (29 : Int32)
  · have hf := hf.trans (if_pos c_41)
    refine lv_tableIn (off := 213) (tgt := 224) hx hb d_XAr_apply_11 (by rw [c_41]; decide +kernel) (by rw [c_41]; decide +kernel) (by rw [c_41]; decide +kernel) (by decide) ?_
    refine lv_aload_n hx hb d_XAr_apply_224 rfl (lv_at hl 1 rfl) ?_
    refine lv_iload_n hx hb d_XAr_apply_225 rfl (lv_at hl 3 rfl) ?_
    refine lv_iload_n hx hb d_XAr_apply_226 rfl (lv_at hl 4 rfl) ?_
    refine z_wi (z_runV (As := [.int x2, .int x3]) (rest := []) ⟨hx, hb, hml, hown, hts⟩ (c_XAr_divide l D a k u0 x2 x3) (qX_Ar_92 hts (by decide)) hw 7 rfl rfl hl.1 rfl (lv_room (Nat.le_of_ble_eq_true rfl)) d_XAr_apply_227 hcs) hw hS (fun x_43 u_42 H locs ex_43 hw hS => ?_)
    have hf := hf.trans (pr_eq ex_43)
    exact hret x_43 _ _ _ _ _ d_XAr_apply_230 hw hS hf
  have hf := hf.trans (if_neg c_41)
  by_cases c_44 : x1 = (30 : Int32)
  · have hf := hf.trans (if_pos c_44)
    refine lv_tableIn (off := 220) (tgt := 231) hx hb d_XAr_apply_11 (by rw [c_44]; decide +kernel) (by rw [c_44]; decide +kernel) (by rw [c_44]; decide +kernel) (by decide) ?_
    refine lv_aload_n hx hb d_XAr_apply_231 rfl (lv_at hl 1 rfl) ?_
    refine lv_iload_n hx hb d_XAr_apply_232 rfl (lv_at hl 3 rfl) ?_
    refine lv_iload hx hb d_XAr_apply_233 (lv_at hl 0 rfl) ?_
    refine lv_i2l (v := Int32.toInt64 x_1) hx hb d_XAr_apply_235 rfl ?_
    refine lv_ldc2 (v := (4294967295 : Int64)) hx hb hown (hts _ kX_Ar_64) d_XAr_apply_236 ?_
    refine lv_land hx hb d_XAr_apply_239 ?_
    refine lv_iload_n hx hb d_XAr_apply_240 rfl (lv_at hl 4 rfl) ?_
    refine lv_i2l (v := Int32.toInt64 x3) hx hb d_XAr_apply_241 rfl ?_
    refine lv_ldc2 (v := (4294967295 : Int64)) hx hb hown (hts _ kX_Ar_64) d_XAr_apply_242 ?_
    refine lv_land hx hb d_XAr_apply_245 ?_
    refine lv_ladd hx hb d_XAr_apply_246 ?_
    refine z_wi (z_runV (As := [.int x2, .long (((Int32.toInt64 x_1) &&& (4294967295 : Int64)) + ((Int32.toInt64 x3) &&& (4294967295 : Int64)))]) (rest := []) ⟨hx, hb, hml, hown, hts⟩ (c_XAr_putUnsigned l D a k u0 x2 (((Int32.toInt64 x_1) &&& (4294967295 : Int64)) + ((Int32.toInt64 x3) &&& (4294967295 : Int64)))) (qX_Ar_95 hts (by decide)) hw 7 rfl rfl hl.1 rfl (lv_room (Nat.le_of_ble_eq_true rfl)) d_XAr_apply_247 hcs) hw hS (fun x_46 u_45 H locs ex_46 hw hS => ?_)
    have hf := hf.trans (pr_eq ex_46)
    exact hret x_46 _ _ _ _ _ d_XAr_apply_250 hw hS hf
  have hf := hf.trans (if_neg c_44)
  by_cases c_47 : x1 = (31 : Int32)
  · have hf := hf.trans (if_pos c_47)
    refine lv_tableIn (off := 240) (tgt := 251) hx hb d_XAr_apply_11 (by rw [c_47]; decide +kernel) (by rw [c_47]; decide +kernel) (by rw [c_47]; decide +kernel) (by decide) ?_
    refine lv_aload_n hx hb d_XAr_apply_251 rfl (lv_at hl 1 rfl) ?_
    refine lv_iload_n hx hb d_XAr_apply_252 rfl (lv_at hl 3 rfl) ?_
    refine lv_iload hx hb d_XAr_apply_253 (lv_at hl 0 rfl) ?_
    refine lv_i2l (v := Int32.toInt64 x_1) hx hb d_XAr_apply_255 rfl ?_
    refine lv_ldc2 (v := (4294967295 : Int64)) hx hb hown (hts _ kX_Ar_64) d_XAr_apply_256 ?_
    refine lv_land hx hb d_XAr_apply_259 ?_
    refine lv_iload_n hx hb d_XAr_apply_260 rfl (lv_at hl 4 rfl) ?_
    refine lv_iconst (v := (-1 : Int32)) hx hb d_XAr_apply_261 (by decide) ?_
    refine lv_ixor hx hb d_XAr_apply_262 ?_
    refine lv_i2l (v := Int32.toInt64 (x3 ^^^ (-1 : Int32))) hx hb d_XAr_apply_263 rfl ?_
    refine lv_ldc2 (v := (4294967295 : Int64)) hx hb hown (hts _ kX_Ar_64) d_XAr_apply_264 ?_
    refine lv_land hx hb d_XAr_apply_267 ?_
    refine lv_ladd hx hb d_XAr_apply_268 ?_
    refine lv_lconst (v := 1) hx hb d_XAr_apply_269 (by decide) ?_
    refine lv_ladd hx hb d_XAr_apply_270 ?_
    refine z_wi (z_runV (As := [.int x2, .long ((((Int32.toInt64 x_1) &&& (4294967295 : Int64)) + ((Int32.toInt64 (x3 ^^^ (-1 : Int32))) &&& (4294967295 : Int64))) + (1 : Int64))]) (rest := []) ⟨hx, hb, hml, hown, hts⟩ (c_XAr_putUnsigned l D a k u0 x2 ((((Int32.toInt64 x_1) &&& (4294967295 : Int64)) + ((Int32.toInt64 (x3 ^^^ (-1 : Int32))) &&& (4294967295 : Int64))) + (1 : Int64))) (qX_Ar_95 hts (by decide)) hw 7 rfl rfl hl.1 rfl (lv_room (Nat.le_of_ble_eq_true rfl)) d_XAr_apply_271 hcs) hw hS (fun x_49 u_48 H locs ex_49 hw hS => ?_)
    have hf := hf.trans (pr_eq ex_49)
    exact hret x_49 _ _ _ _ _ d_XAr_apply_274 hw hS hf
  have hf := hf.trans (if_neg c_47)
  refine lv_tableOut (tgt := 275) hx hb d_XAr_apply_11 (by have := lv_neT c_2 (a := 16) (by decide +kernel); have := lv_neT c_5 (a := 17) (by decide +kernel); have := lv_neT c_8 (a := 18) (by decide +kernel); have := lv_neT c_11 (a := 19) (by decide +kernel); have := lv_neT c_14 (a := 20) (by decide +kernel); have := lv_neT c_17 (a := 21) (by decide +kernel); have := lv_neT c_20 (a := 22) (by decide +kernel); have := lv_neT c_23 (a := 23) (by decide +kernel); have := lv_neT c_26 (a := 24) (by decide +kernel); have := lv_neT c_29 (a := 25) (by decide +kernel); have := lv_neT c_32 (a := 26) (by decide +kernel); have := lv_neT c_35 (a := 27) (by decide +kernel); have := lv_neT c_38 (a := 28) (by decide +kernel); have := lv_neT c_41 (a := 29) (by decide +kernel); have := lv_neT c_44 (a := 30) (by decide +kernel); have := lv_neT c_47 (a := 31) (by decide +kernel); omega) (by decide) ?_
  refine lv_iconst (v := (1 : Int32)) hx hb d_XAr_apply_275 (by decide) ?_
  exact hret (1 : Int32) _ _ _ _ _ d_XAr_apply_276 hw hS hf
def f_XAr_withRegister (u0 : XS)  : Int32 × XS := nm (f_XAr_lacksPair u0 (xF u0 4) (xF u0 6)) (fun (z_1 : Bool) => if (bI z_1) = (0 : Int32) then nm (f_XSt_value u0 (xF u0 7)) (fun (x_3 : Int32) => pr (f_XAr_apply u0 (xF u0 4) (xF u0 6) x_3) (fun (x_5 : Int32) (u_4 : XS) => (x_5, u_4))) else ((6 : Int32), u0))
set_option maxHeartbeats 4000000 in
set_option maxRecDepth 100000 in
theorem c_XAr_withRegister (l : Launch) (D : va_G) (a : Nat → Nat) (k : Nat → ClassId) (u0 : XS)  : zMi l y_XAr_withRegister w_XAr_withRegister rm_XAr_withRegister D clX (tyX k) nwX (xW a k) [.ref (a 7), .ref (a 6)] u0 (f_XAr_withRegister u0) := by
  generalize hF : f_XAr_withRegister u0 = F
  have hf := hF.symm
  unfold f_XAr_withRegister at hf
  refine zMi_of (cc := b_XAr_withRegister) (maxL := 2) (own := RX_Ar) (by decide) rfl rfl (Nat.le_of_ble_eq_true rfl) ?_
  intro p e R st m args below meth c A H locs Q ls hR hx hb hml hown hts hw hS hret hl
  subst hR
  have hcs : 0 ≤ (rm_XAr_withRegister).cells ∧ 0 ≤ (rm_XAr_withRegister).slots := ⟨Nat.zero_le _, Nat.zero_le _⟩
  have hl : lv_has ls 2 [(0, .ref (a 7)), (1, .ref (a 6))] := hl
  refine lv_aload_n hx hb d_XAr_withRegister_0 rfl (lv_at hl 1 rfl) ?_
  refine va_getN (v := .int (xF u0 4)) hx hb hts iX_In hown hw.2.1 hw.1 6 rfl rfl 0 (by decide) (va_Nw.use rfl (hw.2.2.2 _ kX_Ar_15).2) (fun _ h => h) rfl d_XAr_withRegister_1 ?_
  refine lv_aload_n hx hb d_XAr_withRegister_4 rfl (lv_at hl 1 rfl) ?_
  refine va_getN (v := .int (xF u0 6)) hx hb hts iX_In hown hw.2.1 hw.1 6 rfl rfl 2 (by decide) (va_Nw.use rfl (hw.2.2.2 _ kX_Ar_21).2) (fun _ h => h) rfl d_XAr_withRegister_5 ?_
  refine z_rz (z_runS (As := [.int (xF u0 4), .int (xF u0 6)]) (rest := []) ⟨hx, hb, hml, hown, hts⟩ (c_XAr_lacksPair l D a k u0 (xF u0 4) (xF u0 6)) (qX_Ar_24 hts (by decide)) hw  hl.1 rfl (lv_room (Nat.le_of_ble_eq_true rfl)) d_XAr_withRegister_8 hcs) (fun z_1 ez_1 => ?_)
  have hf := hf.trans (nm_eq ez_1)
  refine lv_if_eq (tgt := 17) hx hb d_XAr_withRegister_11 (by decide) (fun c_2 => ?_) (fun c_2 => ?_)
  · have hf := hf.trans (if_pos c_2)
    refine lv_aload_n hx hb d_XAr_withRegister_17 rfl (lv_at hl 0 rfl) ?_
    refine lv_aload_n hx hb d_XAr_withRegister_18 rfl (lv_at hl 1 rfl) ?_
    refine va_getN (v := .int (xF u0 4)) hx hb hts iX_In hown hw.2.1 hw.1 6 rfl rfl 0 (by decide) (va_Nw.use rfl (hw.2.2.2 _ kX_Ar_15).2) (fun _ h => h) rfl d_XAr_withRegister_19 ?_
    refine lv_aload_n hx hb d_XAr_withRegister_22 rfl (lv_at hl 1 rfl) ?_
    refine va_getN (v := .int (xF u0 6)) hx hb hts iX_In hown hw.2.1 hw.1 6 rfl rfl 2 (by decide) (va_Nw.use rfl (hw.2.2.2 _ kX_Ar_21).2) (fun _ h => h) rfl d_XAr_withRegister_23 ?_
    refine lv_aload_n hx hb d_XAr_withRegister_26 rfl (lv_at hl 0 rfl) ?_
    refine va_get (v := .ref (a 1)) hx hb hts iX_Ar hown hw.2.1 hw.1 7 rfl rfl 0 (by decide) (hts _ kX_Ar_9) (fun _ h => h) rfl d_XAr_withRegister_27 ?_
    refine lv_aload_n hx hb d_XAr_withRegister_30 rfl (lv_at hl 1 rfl) ?_
    refine va_getN (v := .int (xF u0 7)) hx hb hts iX_In hown hw.2.1 hw.1 6 rfl rfl 3 (by decide) (va_Nw.use rfl (hw.2.2.2 _ kX_Ar_28).2) (fun _ h => h) rfl d_XAr_withRegister_31 ?_
    refine z_ri (z_runV (As := [.int (xF u0 7)]) (rest := [.int (xF u0 6), .int (xF u0 4), .ref (a 7)]) ⟨hx, hb, hml, hown, hts⟩ (c_XSt_value l D a k u0 (xF u0 7)) (qX_Ar_31 hts (by decide)) hw 1 rfl rfl hl.1 rfl (lv_room (Nat.le_of_ble_eq_true rfl)) d_XAr_withRegister_34 hcs) (fun x_3 ex_3 => ?_)
    have hf := hf.trans (nm_eq ex_3)
    refine z_wi (z_runV (As := [.int (xF u0 4), .int (xF u0 6), .int x_3]) (rest := []) ⟨hx, hb, hml, hown, hts⟩ (c_XAr_apply l D a k u0 (xF u0 4) (xF u0 6) x_3) (qX_Ar_37 hts (by decide)) hw 7 rfl rfl hl.1 rfl (lv_room (Nat.le_of_ble_eq_true rfl)) d_XAr_withRegister_37 hcs) hw hS (fun x_5 u_4 H locs ex_5 hw hS => ?_)
    have hf := hf.trans (pr_eq ex_5)
    exact hret x_5 _ _ _ _ _ d_XAr_withRegister_40 hw hS hf
  · have hf := hf.trans (if_neg c_2)
    refine lv_bipush (v := (6 : Int32)) hx hb d_XAr_withRegister_14 (by decide) ?_
    exact hret (6 : Int32) _ _ _ _ _ d_XAr_withRegister_16 hw hS hf
