def f_XTr_store (u0 : XS) (x2 : Int32) : Int32 × XS := nm (f_XMe_faultOf u0 (xF u0 9) x2) (fun (x_1 : Int32) => if x_1 = (0 : Int32) then nm (f_XSt_value u0 (xF u0 6)) (fun (x_3 : Int32) => nm (f_XMe_store u0 (xF u0 9) x2 (Int32.toInt64 x_3)) (fun (u_4 : XS) => (x_1, u_4))) else (x_1, u0))
set_option maxHeartbeats 4000000 in
set_option maxRecDepth 100000 in
theorem c_XTr_store (l : Launch) (D : va_G) (a : Nat → Nat) (k : Nat → ClassId) (u0 : XS) (x2 : Int32) : zMi l y_XTr_store w_XTr_store rm_XTr_store D clX (tyX k) nwX (xW a k) [.ref (a 8), .ref (a 6), .int x2] u0 (f_XTr_store u0 x2) := by
  generalize hF : f_XTr_store u0 x2 = F
  have hf := hF.symm
  unfold f_XTr_store at hf
  refine zMi_of (cc := b_XTr_store) (maxL := 4) (own := RX_Tr) (by decide) rfl rfl (Nat.le_of_ble_eq_true rfl) ?_
  intro p e R st m args below meth c A H locs Q ls hR hx hb hml hown hts hw hS hret hl
  subst hR
  have hcs : 0 ≤ (rm_XTr_store).cells ∧ 0 ≤ (rm_XTr_store).slots := ⟨Nat.zero_le _, Nat.zero_le _⟩
  have hl : lv_has ls 4 [(0, .ref (a 8)), (1, .ref (a 6)), (2, .int x2)] := hl
  refine lv_aload_n hx hb d_XTr_store_0 rfl (lv_at hl 0 rfl) ?_
  refine va_get (v := .ref (a 1)) hx hb hts iX_Tr hown hw.2.1 hw.1 8 rfl rfl 0 (by decide) (hts _ kX_Tr_9) (fun _ h => h) rfl d_XTr_store_1 ?_
  refine va_getN (v := .ref (a 2)) hx hb hts iX_St hown hw.2.1 hw.1 1 rfl rfl 0 (by decide) (va_Nw.use rfl (hw.2.2.2 _ kX_Tr_44).2) (fun _ h => h) rfl d_XTr_store_4 ?_
  refine lv_aload_n hx hb d_XTr_store_7 rfl (lv_at hl 1 rfl) ?_
  refine va_getN (v := .int (xF u0 9)) hx hb hts iX_In hown hw.2.1 hw.1 6 rfl rfl 5 (by decide) (va_Nw.use rfl (hw.2.2.2 _ kX_Tr_28).2) (fun _ h => h) rfl d_XTr_store_8 ?_
  refine lv_iload_n hx hb d_XTr_store_11 rfl (lv_at hl 2 rfl) ?_
  refine z_ri (z_runV (As := [.int (xF u0 9), .int x2]) (rest := []) ⟨hx, hb, hml, hown, hts⟩ (c_XMe_faultOf l D a k u0 (xF u0 9) x2) (qX_Tr_48 hts (by decide)) hw 2 rfl rfl hl.1 rfl (lv_room (Nat.le_of_ble_eq_true rfl)) d_XTr_store_12 hcs) (fun x_1 ex_1 => ?_)
  have hf := hf.trans (nm_eq ex_1)
  refine lv_istore_n (lv' := [(3, .int x_1), (0, .ref (a 8)), (1, .ref (a 6)), (2, .int x2)]) hx hb d_XTr_store_15 rfl hl (by decide) rfl (fun ls hl => ?_)
  refine lv_iload_n hx hb d_XTr_store_16 rfl (lv_at hl 0 rfl) ?_
  refine lv_if_ne (tgt := 47) hx hb d_XTr_store_17 (by decide) (fun c_2 => ?_) (fun c_2 => ?_)
  · have hf := hf.trans (if_neg c_2)
    refine lv_iload_n hx hb d_XTr_store_47 rfl (lv_at hl 0 rfl) ?_
    exact hret x_1 _ _ _ _ _ d_XTr_store_48 hw hS hf
  · have hf := hf.trans (if_pos c_2)
    refine lv_aload_n hx hb d_XTr_store_20 rfl (lv_at hl 1 rfl) ?_
    refine va_get (v := .ref (a 1)) hx hb hts iX_Tr hown hw.2.1 hw.1 8 rfl rfl 0 (by decide) (hts _ kX_Tr_9) (fun _ h => h) rfl d_XTr_store_21 ?_
    refine va_getN (v := .ref (a 2)) hx hb hts iX_St hown hw.2.1 hw.1 1 rfl rfl 0 (by decide) (va_Nw.use rfl (hw.2.2.2 _ kX_Tr_44).2) (fun _ h => h) rfl d_XTr_store_24 ?_
    refine lv_aload_n hx hb d_XTr_store_27 rfl (lv_at hl 2 rfl) ?_
    refine va_getN (v := .int (xF u0 9)) hx hb hts iX_In hown hw.2.1 hw.1 6 rfl rfl 5 (by decide) (va_Nw.use rfl (hw.2.2.2 _ kX_Tr_28).2) (fun _ h => h) rfl d_XTr_store_28 ?_
    refine lv_iload_n hx hb d_XTr_store_31 rfl (lv_at hl 3 rfl) ?_
    refine lv_aload_n hx hb d_XTr_store_32 rfl (lv_at hl 1 rfl) ?_
    refine va_get (v := .ref (a 1)) hx hb hts iX_Tr hown hw.2.1 hw.1 8 rfl rfl 0 (by decide) (hts _ kX_Tr_9) (fun _ h => h) rfl d_XTr_store_33 ?_
    refine lv_aload_n hx hb d_XTr_store_36 rfl (lv_at hl 2 rfl) ?_
    refine va_getN (v := .int (xF u0 6)) hx hb hts iX_In hown hw.2.1 hw.1 6 rfl rfl 2 (by decide) (va_Nw.use rfl (hw.2.2.2 _ kX_Tr_25).2) (fun _ h => h) rfl d_XTr_store_37 ?_
    refine z_ri (z_runV (As := [.int (xF u0 6)]) (rest := [.int x2, .int (xF u0 9), .ref (a 2)]) ⟨hx, hb, hml, hown, hts⟩ (c_XSt_value l D a k u0 (xF u0 6)) (qX_Tr_54 hts (by decide)) hw 1 rfl rfl hl.1 rfl (lv_room (Nat.le_of_ble_eq_true rfl)) d_XTr_store_40 hcs) (fun x_3 ex_3 => ?_)
    have hf := hf.trans (nm_eq ex_3)
    refine lv_i2l (v := Int32.toInt64 x_3) hx hb d_XTr_store_43 rfl ?_
    refine z_wv (z_runV (As := [.int (xF u0 9), .int x2, .long (Int32.toInt64 x_3)]) (rest := []) ⟨hx, hb, hml, hown, hts⟩ (c_XMe_store l D a k u0 (xF u0 9) x2 (Int32.toInt64 x_3)) (qX_Tr_58 hts (by decide)) hw 2 rfl rfl hl.1 rfl (lv_room (Nat.le_of_ble_eq_true rfl)) d_XTr_store_44 hcs) hw hS (fun u_4 H locs eu_4 hw hS => ?_)
    have hf := hf.trans (nm_eq eu_4)
    refine lv_iload_n hx hb d_XTr_store_47 rfl (lv_at hl 0 rfl) ?_
    exact hret x_1 _ _ _ _ _ d_XTr_store_48 hw hS hf
def f_XTr_insert (u0 : XS)  : Int32 × XS := nm (f_XMe_holds u0 (xF u0 9) (1 : Int32)) (fun (z_1 : Bool) => if (bI z_1) = (0 : Int32) then ((5 : Int32), u0) else nm (f_XSt_value u0 (xF u0 6)) (fun (x_3 : Int32) => nm (f_XMe_get u0 (xF u0 9)) (fun (x_4 : Int32) => nm (f_XSt_put u0 (xF u0 6) ((x_3 &&& (-256 : Int32)) ||| x_4)) (fun (u_5 : XS) => ((0 : Int32), u_5)))))
set_option maxHeartbeats 4000000 in
set_option maxRecDepth 100000 in
theorem c_XTr_insert (l : Launch) (D : va_G) (a : Nat → Nat) (k : Nat → ClassId) (u0 : XS)  : zMi l y_XTr_insert w_XTr_insert rm_XTr_insert D clX (tyX k) nwX (xW a k) [.ref (a 8), .ref (a 6)] u0 (f_XTr_insert u0) := by
  generalize hF : f_XTr_insert u0 = F
  have hf := hF.symm
  unfold f_XTr_insert at hf
  refine zMi_of (cc := b_XTr_insert) (maxL := 2) (own := RX_Tr) (by decide) rfl rfl (Nat.le_of_ble_eq_true rfl) ?_
  intro p e R st m args below meth c A H locs Q ls hR hx hb hml hown hts hw hS hret hl
  subst hR
  have hcs : 0 ≤ (rm_XTr_insert).cells ∧ 0 ≤ (rm_XTr_insert).slots := ⟨Nat.zero_le _, Nat.zero_le _⟩
  have hl : lv_has ls 2 [(0, .ref (a 8)), (1, .ref (a 6))] := hl
  refine lv_aload_n hx hb d_XTr_insert_0 rfl (lv_at hl 0 rfl) ?_
  refine va_get (v := .ref (a 1)) hx hb hts iX_Tr hown hw.2.1 hw.1 8 rfl rfl 0 (by decide) (hts _ kX_Tr_9) (fun _ h => h) rfl d_XTr_insert_1 ?_
  refine va_getN (v := .ref (a 2)) hx hb hts iX_St hown hw.2.1 hw.1 1 rfl rfl 0 (by decide) (va_Nw.use rfl (hw.2.2.2 _ kX_Tr_44).2) (fun _ h => h) rfl d_XTr_insert_4 ?_
  refine lv_aload_n hx hb d_XTr_insert_7 rfl (lv_at hl 1 rfl) ?_
  refine va_getN (v := .int (xF u0 9)) hx hb hts iX_In hown hw.2.1 hw.1 6 rfl rfl 5 (by decide) (va_Nw.use rfl (hw.2.2.2 _ kX_Tr_28).2) (fun _ h => h) rfl d_XTr_insert_8 ?_
  refine lv_iconst (v := (1 : Int32)) hx hb d_XTr_insert_11 (by decide) ?_
  refine z_rz (z_runV (As := [.int (xF u0 9), .int (1 : Int32)]) (rest := []) ⟨hx, hb, hml, hown, hts⟩ (c_XMe_holds l D a k u0 (xF u0 9) (1 : Int32)) (qX_Tr_61 hts (by decide)) hw 2 rfl rfl hl.1 rfl (lv_room (Nat.le_of_ble_eq_true rfl)) d_XTr_insert_12 hcs) (fun z_1 ez_1 => ?_)
  have hf := hf.trans (nm_eq ez_1)
  refine lv_if_ne (tgt := 20) hx hb d_XTr_insert_15 (by decide) (fun c_2 => ?_) (fun c_2 => ?_)
  · have hf := hf.trans (if_neg c_2)
    refine lv_aload_n hx hb d_XTr_insert_20 rfl (lv_at hl 0 rfl) ?_
    refine va_get (v := .ref (a 1)) hx hb hts iX_Tr hown hw.2.1 hw.1 8 rfl rfl 0 (by decide) (hts _ kX_Tr_9) (fun _ h => h) rfl d_XTr_insert_21 ?_
    refine lv_aload_n hx hb d_XTr_insert_24 rfl (lv_at hl 1 rfl) ?_
    refine va_getN (v := .int (xF u0 6)) hx hb hts iX_In hown hw.2.1 hw.1 6 rfl rfl 2 (by decide) (va_Nw.use rfl (hw.2.2.2 _ kX_Tr_25).2) (fun _ h => h) rfl d_XTr_insert_25 ?_
    refine lv_aload_n hx hb d_XTr_insert_28 rfl (lv_at hl 0 rfl) ?_
    refine va_get (v := .ref (a 1)) hx hb hts iX_Tr hown hw.2.1 hw.1 8 rfl rfl 0 (by decide) (hts _ kX_Tr_9) (fun _ h => h) rfl d_XTr_insert_29 ?_
    refine lv_aload_n hx hb d_XTr_insert_32 rfl (lv_at hl 1 rfl) ?_
    refine va_getN (v := .int (xF u0 6)) hx hb hts iX_In hown hw.2.1 hw.1 6 rfl rfl 2 (by decide) (va_Nw.use rfl (hw.2.2.2 _ kX_Tr_25).2) (fun _ h => h) rfl d_XTr_insert_33 ?_
    refine z_ri (z_runV (As := [.int (xF u0 6)]) (rest := [.int (xF u0 6), .ref (a 1)]) ⟨hx, hb, hml, hown, hts⟩ (c_XSt_value l D a k u0 (xF u0 6)) (qX_Tr_54 hts (by decide)) hw 1 rfl rfl hl.1 rfl (lv_room (Nat.le_of_ble_eq_true rfl)) d_XTr_insert_36 hcs) (fun x_3 ex_3 => ?_)
    have hf := hf.trans (nm_eq ex_3)
    refine lv_sipush (v := (-256 : Int32)) hx hb d_XTr_insert_39 (by decide) ?_
    refine lv_iand hx hb d_XTr_insert_42 ?_
    refine lv_aload_n hx hb d_XTr_insert_43 rfl (lv_at hl 0 rfl) ?_
    refine va_get (v := .ref (a 1)) hx hb hts iX_Tr hown hw.2.1 hw.1 8 rfl rfl 0 (by decide) (hts _ kX_Tr_9) (fun _ h => h) rfl d_XTr_insert_44 ?_
    refine va_getN (v := .ref (a 2)) hx hb hts iX_St hown hw.2.1 hw.1 1 rfl rfl 0 (by decide) (va_Nw.use rfl (hw.2.2.2 _ kX_Tr_44).2) (fun _ h => h) rfl d_XTr_insert_47 ?_
    refine lv_aload_n hx hb d_XTr_insert_50 rfl (lv_at hl 1 rfl) ?_
    refine va_getN (v := .int (xF u0 9)) hx hb hts iX_In hown hw.2.1 hw.1 6 rfl rfl 5 (by decide) (va_Nw.use rfl (hw.2.2.2 _ kX_Tr_28).2) (fun _ h => h) rfl d_XTr_insert_51 ?_
    refine z_ri (z_runV (As := [.int (xF u0 9)]) (rest := [.int (x_3 &&& (-256 : Int32)), .int (xF u0 6), .ref (a 1)]) ⟨hx, hb, hml, hown, hts⟩ (c_XMe_get l D a k u0 (xF u0 9)) (qX_Tr_65 hts (by decide)) hw 2 rfl rfl hl.1 rfl (lv_room (Nat.le_of_ble_eq_true rfl)) d_XTr_insert_54 hcs) (fun x_4 ex_4 => ?_)
    have hf := hf.trans (nm_eq ex_4)
    refine lv_ior hx hb d_XTr_insert_57 ?_
    refine z_wv (z_runV (As := [.int (xF u0 6), .int ((x_3 &&& (-256 : Int32)) ||| x_4)]) (rest := []) ⟨hx, hb, hml, hown, hts⟩ (c_XSt_put l D a k u0 (xF u0 6) ((x_3 &&& (-256 : Int32)) ||| x_4)) (qX_Tr_31 hts (by decide)) hw 1 rfl rfl hl.1 rfl (lv_room (Nat.le_of_ble_eq_true rfl)) d_XTr_insert_58 hcs) hw hS (fun u_5 H locs eu_5 hw hS => ?_)
    have hf := hf.trans (nm_eq eu_5)
    refine lv_iconst (v := (0 : Int32)) hx hb d_XTr_insert_61 (by decide) ?_
    exact hret (0 : Int32) _ _ _ _ _ d_XTr_insert_62 hw hS hf
  · have hf := hf.trans (if_pos c_2)
    refine lv_iconst (v := (5 : Int32)) hx hb d_XTr_insert_18 (by decide) ?_
    exact hret (5 : Int32) _ _ _ _ _ d_XTr_insert_19 hw hS hf
def g_XTr_several_51 (x_1 : Int32) (L_7 : Int32 → XS → Int32 × XS) : Int32 → XS → Int32 × XS := fun x_5 u_6 => if x_1 ≤ x_5 then ((0 : Int32), u_6) else nm (((xF u_6 6) + x_5) &&& (15 : Int32)) (fun (x_10 : Int32) => jn (fun (K_12 : XS → Int32 × XS) => if (xF u_6 4) = (144 : Int32) then nm (f_XSt_value u_6 x_10) (fun (x_17 : Int32) => nm (f_XMe_store u_6 ((xF u_6 9) + ((4 : Int32) * x_5)) (4 : Int32) (Int32.toInt64 x_17)) (fun (u_18 : XS) => K_12 u_18)) else nm (f_XMe_word u_6 ((xF u_6 9) + ((4 : Int32) * x_5))) (fun (x_15 : Int32) => nm (f_XSt_put u_6 x_10 x_15) (fun (u_16 : XS) => K_12 u_16))) (fun (u_11 : XS) => nm (x_5 + (1 : Int32)) (fun (x_13 : Int32) => L_7 x_13 u_11)))
def f_XTr_several (u0 : XS)  : Int32 × XS := nm ((((xF u0 7) - (xF u0 6)) &&& (15 : Int32)) + (1 : Int32)) (fun (x_1 : Int32) => if ((xF u0 9) &&& (3 : Int32)) = (0 : Int32) then nm (f_XMe_holds u0 (xF u0 9) ((4 : Int32) * x_1)) (fun (z_3 : Bool) => if (bI z_3) = (0 : Int32) then ((5 : Int32), u0) else lpN ((Int32.toInt x_1 - Int32.toInt (0 : Int32)).toNat + 1) (g_XTr_several_51 x_1) (fun _ _ => default) (0 : Int32) u0) else ((6 : Int32), u0))
set_option maxHeartbeats 4000000 in
set_option maxRecDepth 100000 in
theorem c_XTr_several (l : Launch) (D : va_G) (a : Nat → Nat) (k : Nat → ClassId) (u0 : XS)  : zMi l y_XTr_several w_XTr_several rm_XTr_several D clX (tyX k) nwX (xW a k) [.ref (a 8), .ref (a 6)] u0 (f_XTr_several u0) := by
  generalize hF : f_XTr_several u0 = F
  have hf := hF.symm
  unfold f_XTr_several at hf
  refine zMi_of (cc := b_XTr_several) (maxL := 5) (own := RX_Tr) (by decide) rfl rfl (Nat.le_of_ble_eq_true rfl) ?_
  intro p e R st m args below meth c A H locs Q ls hR hx hb hml hown hts hw hS hret hl
  subst hR
  have hcs : 0 ≤ (rm_XTr_several).cells ∧ 0 ≤ (rm_XTr_several).slots := ⟨Nat.zero_le _, Nat.zero_le _⟩
  have hl : lv_has ls 5 [(0, .ref (a 8)), (1, .ref (a 6))] := hl
  refine lv_aload_n hx hb d_XTr_several_0 rfl (lv_at hl 1 rfl) ?_
  refine va_getN (v := .int (xF u0 7)) hx hb hts iX_In hown hw.2.1 hw.1 6 rfl rfl 3 (by decide) (va_Nw.use rfl (hw.2.2.2 _ kX_Tr_68).2) (fun _ h => h) rfl d_XTr_several_1 ?_
  refine lv_aload_n hx hb d_XTr_several_4 rfl (lv_at hl 1 rfl) ?_
  refine va_getN (v := .int (xF u0 6)) hx hb hts iX_In hown hw.2.1 hw.1 6 rfl rfl 2 (by decide) (va_Nw.use rfl (hw.2.2.2 _ kX_Tr_25).2) (fun _ h => h) rfl d_XTr_several_5 ?_
  refine lv_isub hx hb d_XTr_several_8 ?_
  refine lv_bipush (v := (15 : Int32)) hx hb d_XTr_several_9 (by decide) ?_
  refine lv_iand hx hb d_XTr_several_11 ?_
  refine lv_iconst (v := (1 : Int32)) hx hb d_XTr_several_12 (by decide) ?_
  refine lv_iadd hx hb d_XTr_several_13 ?_
  refine lv_topi (fun x_1 ex_1 => ?_)
  have hf := hf.trans (nm_eq ex_1)
  refine lv_istore_n (lv' := [(2, .int x_1), (0, .ref (a 8)), (1, .ref (a 6))]) hx hb d_XTr_several_14 rfl hl (by decide) rfl (fun ls hl => ?_)
  refine lv_aload_n hx hb d_XTr_several_15 rfl (lv_at hl 2 rfl) ?_
  refine va_getN (v := .int (xF u0 9)) hx hb hts iX_In hown hw.2.1 hw.1 6 rfl rfl 5 (by decide) (va_Nw.use rfl (hw.2.2.2 _ kX_Tr_28).2) (fun _ h => h) rfl d_XTr_several_16 ?_
  refine lv_iconst (v := (3 : Int32)) hx hb d_XTr_several_19 (by decide) ?_
  refine lv_iand hx hb d_XTr_several_20 ?_
  refine lv_if_eq (tgt := 27) hx hb d_XTr_several_21 (by decide) (fun c_2 => ?_) (fun c_2 => ?_)
  · have hf := hf.trans (if_pos c_2)
    refine lv_aload_n hx hb d_XTr_several_27 rfl (lv_at hl 1 rfl) ?_
    refine va_get (v := .ref (a 1)) hx hb hts iX_Tr hown hw.2.1 hw.1 8 rfl rfl 0 (by decide) (hts _ kX_Tr_9) (fun _ h => h) rfl d_XTr_several_28 ?_
    refine va_getN (v := .ref (a 2)) hx hb hts iX_St hown hw.2.1 hw.1 1 rfl rfl 0 (by decide) (va_Nw.use rfl (hw.2.2.2 _ kX_Tr_44).2) (fun _ h => h) rfl d_XTr_several_31 ?_
    refine lv_aload_n hx hb d_XTr_several_34 rfl (lv_at hl 2 rfl) ?_
    refine va_getN (v := .int (xF u0 9)) hx hb hts iX_In hown hw.2.1 hw.1 6 rfl rfl 5 (by decide) (va_Nw.use rfl (hw.2.2.2 _ kX_Tr_28).2) (fun _ h => h) rfl d_XTr_several_35 ?_
    refine lv_iconst (v := (4 : Int32)) hx hb d_XTr_several_38 (by decide) ?_
    refine lv_iload_n hx hb d_XTr_several_39 rfl (lv_at hl 0 rfl) ?_
    refine lv_imul hx hb d_XTr_several_40 ?_
    refine z_rz (z_runV (As := [.int (xF u0 9), .int ((4 : Int32) * x_1)]) (rest := []) ⟨hx, hb, hml, hown, hts⟩ (c_XMe_holds l D a k u0 (xF u0 9) ((4 : Int32) * x_1)) (qX_Tr_61 hts (by decide)) hw 2 rfl rfl hl.1 rfl (lv_room (Nat.le_of_ble_eq_true rfl)) d_XTr_several_41 hcs) (fun z_3 ez_3 => ?_)
    have hf := hf.trans (nm_eq ez_3)
    refine lv_if_ne (tgt := 49) hx hb d_XTr_several_44 (by decide) (fun c_4 => ?_) (fun c_4 => ?_)
    · have hf := hf.trans (if_neg c_4)
      refine lv_iconst (v := (0 : Int32)) hx hb d_XTr_several_49 (by decide) ?_
      refine lv_istore_n (lv' := [(3, .int (0 : Int32)), (2, .int x_1), (0, .ref (a 8)), (1, .ref (a 6))]) hx hb d_XTr_several_50 rfl hl (by decide) rfl (fun ls hl => ?_)
      refine lp_cut (fun (n_8 : Nat) (L_7 : Int32 → XS → Int32 × XS) => ∀ (x_5 : Int32) (u_6 : XS), (Int32.toInt x_1 - Int32.toInt x_5).toNat < n_8 → ∀ (H : Heap) (locs : List Loc), zW D clX (tyX k) nwX (xW a k) A st u_6 H → va_S A st.heap H locs → ∀ (ls : Array Slot), lv_has ls 5 [(0, .ref (a 8)), (1, .ref (a 6)), (2, .int x_1), (3, .int x_5)] → F = L_7 x_5 u_6 → W p l e rm_XTr_several st m args below meth c H locs 0 0 Q (F0 m 51 ls [])) ?_ ?_ ((Int32.toInt x_1 - Int32.toInt (0 : Int32)).toNat + 1) (0 : Int32) u0 (Nat.lt_succ_self _) _ _ hw hS _ (lv_sub hl [2, 3, 1, 0] rfl) hf
      · intro x_5 u_6 hn; exact absurd hn (Nat.not_lt_zero _)
      · intro n_8 L_7 hL_7 x_5 u_6 hn H locs hw hS ls hl hf
        unfold g_XTr_several_51 at hf
        refine lv_iload_n hx hb d_XTr_several_51 rfl (lv_at hl 3 rfl) ?_
        refine lv_iload_n hx hb d_XTr_several_52 rfl (lv_at hl 2 rfl) ?_
        refine lv_icmp_ge (tgt := 142) hx hb d_XTr_several_53 (by decide) (fun c_9 => ?_) (fun c_9 => ?_)
        · have hf := hf.trans (if_pos c_9)
          refine lv_iconst (v := (0 : Int32)) hx hb d_XTr_several_142 (by decide) ?_
          exact hret (0 : Int32) _ _ _ _ _ d_XTr_several_143 hw hS hf
        · have hf := hf.trans (if_neg c_9)
          refine lv_aload_n hx hb d_XTr_several_56 rfl (lv_at hl 1 rfl) ?_
          refine va_getN (v := .int (xF u_6 6)) hx hb hts iX_In hown hw.2.1 hw.1 6 rfl rfl 2 (by decide) (va_Nw.use rfl (hw.2.2.2 _ kX_Tr_25).2) (fun _ h => h) rfl d_XTr_several_57 ?_
          refine lv_iload_n hx hb d_XTr_several_60 rfl (lv_at hl 3 rfl) ?_
          refine lv_iadd hx hb d_XTr_several_61 ?_
          refine lv_bipush (v := (15 : Int32)) hx hb d_XTr_several_62 (by decide) ?_
          refine lv_iand hx hb d_XTr_several_64 ?_
          refine lv_topi (fun x_10 ex_10 => ?_)
          have hf := hf.trans (nm_eq ex_10)
          refine lv_istore (lv' := [(4, .int x_10), (0, .ref (a 8)), (1, .ref (a 6)), (2, .int x_1), (3, .int x_5)]) hx hb d_XTr_several_65 hl (by decide) rfl (fun ls hl => ?_)
          refine lv_aload_n hx hb d_XTr_several_67 rfl (lv_at hl 2 rfl) ?_
          refine va_getN (v := .int (xF u_6 4)) hx hb hts iX_In hown hw.2.1 hw.1 6 rfl rfl 0 (by decide) (va_Nw.use rfl (hw.2.2.2 _ kX_Tr_15).2) (fun _ h => h) rfl d_XTr_several_68 ?_
          refine lv_sipush (v := (144 : Int32)) hx hb d_XTr_several_71 (by decide) ?_
          refine jn_cut hf (fun (K_12 : XS → Int32 × XS) => ∀ (u_11 : XS), ∀ (H : Heap) (locs : List Loc), zW D clX (tyX k) nwX (xW a k) A st u_11 H → va_S A st.heap H locs → ∀ (ls : Array Slot), lv_has ls 5 [(0, .ref (a 8)), (1, .ref (a 6)), (2, .int x_1), (3, .int x_5)] → F = K_12 u_11 → W p l e rm_XTr_several st m args below meth c H locs 0 0 Q (F0 m 136 ls [])) ?_ ?_
          · intro u_11 H locs hw hS ls hl hf
            obtain ⟨x_13, ex_13⟩ : ∃ y : Int32, y = x_5 + (1 : Int32) := ⟨_, rfl⟩
            have hf := hf.trans (nm_eq ex_13)
            refine lv_iinc (v := x_13) (lv' := [(3, .int x_13), (0, .ref (a 8)), (1, .ref (a 6)), (2, .int x_1)]) hx hb d_XTr_several_136 hl (k := 3) rfl (by rw [ex_13]; rfl) (by decide) rfl (fun ls hl => ?_)
            refine lv_goto (tgt := 51) hx hb d_XTr_several_139 (by decide) ?_
            exact hL_7 x_13 u_11 (mu_up c_9 ex_13 hn) _ _ hw hS _ (lv_sub hl [1, 2, 3, 0] rfl) hf
          · intro K_12 hK_12 hf
            refine lv_icmp_ne (tgt := 109) hx hb d_XTr_several_74 (by decide) (fun c_14 => ?_) (fun c_14 => ?_)
            · have hf := hf.trans (if_neg c_14)
              refine lv_aload_n hx hb d_XTr_several_109 rfl (lv_at hl 1 rfl) ?_
              refine va_get (v := .ref (a 1)) hx hb hts iX_Tr hown hw.2.1 hw.1 8 rfl rfl 0 (by decide) (hts _ kX_Tr_9) (fun _ h => h) rfl d_XTr_several_110 ?_
              refine lv_iload hx hb d_XTr_several_113 (lv_at hl 0 rfl) ?_
              refine lv_aload_n hx hb d_XTr_several_115 rfl (lv_at hl 1 rfl) ?_
              refine va_get (v := .ref (a 1)) hx hb hts iX_Tr hown hw.2.1 hw.1 8 rfl rfl 0 (by decide) (hts _ kX_Tr_9) (fun _ h => h) rfl d_XTr_several_116 ?_
              refine va_getN (v := .ref (a 2)) hx hb hts iX_St hown hw.2.1 hw.1 1 rfl rfl 0 (by decide) (va_Nw.use rfl (hw.2.2.2 _ kX_Tr_44).2) (fun _ h => h) rfl d_XTr_several_119 ?_
              refine lv_aload_n hx hb d_XTr_several_122 rfl (lv_at hl 2 rfl) ?_
              refine va_getN (v := .int (xF u_6 9)) hx hb hts iX_In hown hw.2.1 hw.1 6 rfl rfl 5 (by decide) (va_Nw.use rfl (hw.2.2.2 _ kX_Tr_28).2) (fun _ h => h) rfl d_XTr_several_123 ?_
              refine lv_iconst (v := (4 : Int32)) hx hb d_XTr_several_126 (by decide) ?_
              refine lv_iload_n hx hb d_XTr_several_127 rfl (lv_at hl 4 rfl) ?_
              refine lv_imul hx hb d_XTr_several_128 ?_
              refine lv_iadd hx hb d_XTr_several_129 ?_
              refine z_ri (z_runV (As := [.int ((xF u_6 9) + ((4 : Int32) * x_5))]) (rest := [.int x_10, .ref (a 1)]) ⟨hx, hb, hml, hown, hts⟩ (c_XMe_word l D a k u_6 ((xF u_6 9) + ((4 : Int32) * x_5))) (qX_Tr_71 hts (by decide)) hw 2 rfl rfl hl.1 rfl (lv_room (Nat.le_of_ble_eq_true rfl)) d_XTr_several_130 hcs) (fun x_15 ex_15 => ?_)
              have hf := hf.trans (nm_eq ex_15)
              refine z_wv (z_runV (As := [.int x_10, .int x_15]) (rest := []) ⟨hx, hb, hml, hown, hts⟩ (c_XSt_put l D a k u_6 x_10 x_15) (qX_Tr_31 hts (by decide)) hw 1 rfl rfl hl.1 rfl (lv_room (Nat.le_of_ble_eq_true rfl)) d_XTr_several_133 hcs) hw hS (fun u_16 H locs eu_16 hw hS => ?_)
              have hf := hf.trans (nm_eq eu_16)
              exact hK_12 u_16 _ _ hw hS _ (lv_sub hl [1, 2, 3, 4] rfl) hf
            · have hf := hf.trans (if_pos c_14)
              refine lv_aload_n hx hb d_XTr_several_77 rfl (lv_at hl 1 rfl) ?_
              refine va_get (v := .ref (a 1)) hx hb hts iX_Tr hown hw.2.1 hw.1 8 rfl rfl 0 (by decide) (hts _ kX_Tr_9) (fun _ h => h) rfl d_XTr_several_78 ?_
              refine va_getN (v := .ref (a 2)) hx hb hts iX_St hown hw.2.1 hw.1 1 rfl rfl 0 (by decide) (va_Nw.use rfl (hw.2.2.2 _ kX_Tr_44).2) (fun _ h => h) rfl d_XTr_several_81 ?_
              refine lv_aload_n hx hb d_XTr_several_84 rfl (lv_at hl 2 rfl) ?_
              refine va_getN (v := .int (xF u_6 9)) hx hb hts iX_In hown hw.2.1 hw.1 6 rfl rfl 5 (by decide) (va_Nw.use rfl (hw.2.2.2 _ kX_Tr_28).2) (fun _ h => h) rfl d_XTr_several_85 ?_
              refine lv_iconst (v := (4 : Int32)) hx hb d_XTr_several_88 (by decide) ?_
              refine lv_iload_n hx hb d_XTr_several_89 rfl (lv_at hl 4 rfl) ?_
              refine lv_imul hx hb d_XTr_several_90 ?_
              refine lv_iadd hx hb d_XTr_several_91 ?_
              refine lv_iconst (v := (4 : Int32)) hx hb d_XTr_several_92 (by decide) ?_
              refine lv_aload_n hx hb d_XTr_several_93 rfl (lv_at hl 1 rfl) ?_
              refine va_get (v := .ref (a 1)) hx hb hts iX_Tr hown hw.2.1 hw.1 8 rfl rfl 0 (by decide) (hts _ kX_Tr_9) (fun _ h => h) rfl d_XTr_several_94 ?_
              refine lv_iload hx hb d_XTr_several_97 (lv_at hl 0 rfl) ?_
              refine z_ri (z_runV (As := [.int x_10]) (rest := [.int (4 : Int32), .int ((xF u_6 9) + ((4 : Int32) * x_5)), .ref (a 2)]) ⟨hx, hb, hml, hown, hts⟩ (c_XSt_value l D a k u_6 x_10) (qX_Tr_54 hts (by decide)) hw 1 rfl rfl hl.1 rfl (lv_room (Nat.le_of_ble_eq_true rfl)) d_XTr_several_99 hcs) (fun x_17 ex_17 => ?_)
              have hf := hf.trans (nm_eq ex_17)
              refine lv_i2l (v := Int32.toInt64 x_17) hx hb d_XTr_several_102 rfl ?_
              refine z_wv (z_runV (As := [.int ((xF u_6 9) + ((4 : Int32) * x_5)), .int (4 : Int32), .long (Int32.toInt64 x_17)]) (rest := []) ⟨hx, hb, hml, hown, hts⟩ (c_XMe_store l D a k u_6 ((xF u_6 9) + ((4 : Int32) * x_5)) (4 : Int32) (Int32.toInt64 x_17)) (qX_Tr_58 hts (by decide)) hw 2 rfl rfl hl.1 rfl (lv_room (Nat.le_of_ble_eq_true rfl)) d_XTr_several_103 hcs) hw hS (fun u_18 H locs eu_18 hw hS => ?_)
              have hf := hf.trans (nm_eq eu_18)
              refine lv_goto (tgt := 136) hx hb d_XTr_several_106 (by decide) ?_
              exact hK_12 u_18 _ _ hw hS _ (lv_sub hl [1, 2, 3, 4] rfl) hf
    · have hf := hf.trans (if_pos c_4)
      refine lv_iconst (v := (5 : Int32)) hx hb d_XTr_several_47 (by decide) ?_
      exact hret (5 : Int32) _ _ _ _ _ d_XTr_several_48 hw hS hf
  · have hf := hf.trans (if_neg c_2)
    refine lv_bipush (v := (6 : Int32)) hx hb d_XTr_several_24 (by decide) ?_
    exact hret (6 : Int32) _ _ _ _ _ d_XTr_several_26 hw hS hf
def f_XTr_perform (u0 : XS)  : Int32 × XS := nm (xF u0 4) (fun (x_1 : Int32) => if x_1 = (64 : Int32) then pr (f_XTr_store u0 (2 : Int32)) (fun (x_4 : Int32) (u_3 : XS) => (x_4, u_3)) else if x_1 = (65 : Int32) then nm (f_XSt_put u0 (xF u0 6) (xF u0 9)) (fun (u_6 : XS) => ((0 : Int32), u_6)) else if x_1 = (66 : Int32) then pr (f_XTr_store u0 (1 : Int32)) (fun (x_9 : Int32) (u_8 : XS) => (x_9, u_8)) else if x_1 = (67 : Int32) then pr (f_XTr_insert u0) (fun (x_12 : Int32) (u_11 : XS) => (x_12, u_11)) else if x_1 = (80 : Int32) then pr (f_XTr_store u0 (4 : Int32)) (fun (x_15 : Int32) (u_14 : XS) => (x_15, u_14)) else pr (f_XTr_several u0) (fun (x_17 : Int32) (u_16 : XS) => (x_17, u_16)))
set_option maxHeartbeats 4000000 in
set_option maxRecDepth 100000 in
theorem c_XTr_perform (l : Launch) (D : va_G) (a : Nat → Nat) (k : Nat → ClassId) (u0 : XS)  : zMi l y_XTr_perform w_XTr_perform rm_XTr_perform D clX (tyX k) nwX (xW a k) [.ref (a 8), .ref (a 6)] u0 (f_XTr_perform u0) := by
  generalize hF : f_XTr_perform u0 = F
  have hf := hF.symm
  unfold f_XTr_perform at hf
  refine zMi_of (cc := b_XTr_perform) (maxL := 2) (own := RX_Tr) (by decide) rfl rfl (Nat.le_of_ble_eq_true rfl) ?_
  intro p e R st m args below meth c A H locs Q ls hR hx hb hml hown hts hw hS hret hl
  subst hR
  have hcs : 0 ≤ (rm_XTr_perform).cells ∧ 0 ≤ (rm_XTr_perform).slots := ⟨Nat.zero_le _, Nat.zero_le _⟩
  have hl : lv_has ls 2 [(0, .ref (a 8)), (1, .ref (a 6))] := hl
  refine lv_aload_n hx hb d_XTr_perform_0 rfl (lv_at hl 1 rfl) ?_
  refine va_getN (v := .int (xF u0 4)) hx hb hts iX_In hown hw.2.1 hw.1 6 rfl rfl 0 (by decide) (va_Nw.use rfl (hw.2.2.2 _ kX_Tr_15).2) (fun _ h => h) rfl d_XTr_perform_1 ?_
  refine lv_topi (fun x_1 ex_1 => ?_)
  have hf := hf.trans (nm_eq ex_1)
  by_cases c_2 : x_1 = (64 : Int32)
  · have hf := hf.trans (if_pos c_2)
    refine lv_lookup (off := 52) (tgt := 56) hx hb d_XTr_perform_4 (by decide +kernel) (by rw [c_2]; decide +kernel) (by decide) ?_
    refine lv_aload_n hx hb d_XTr_perform_56 rfl (lv_at hl 0 rfl) ?_
    refine lv_aload_n hx hb d_XTr_perform_57 rfl (lv_at hl 1 rfl) ?_
    refine lv_iconst (v := (2 : Int32)) hx hb d_XTr_perform_58 (by decide) ?_
    refine z_wi (z_runV (As := [.ref (a 6), .int (2 : Int32)]) (rest := []) ⟨hx, hb, hml, hown, hts⟩ (c_XTr_store l D a k u0 (2 : Int32)) (qX_Tr_21 hts (by decide)) hw 8 rfl rfl hl.1 rfl (lv_room (Nat.le_of_ble_eq_true rfl)) d_XTr_perform_59 hcs) hw hS (fun x_4 u_3 H locs ex_4 hw hS => ?_)
    have hf := hf.trans (pr_eq ex_4)
    exact hret x_4 _ _ _ _ _ d_XTr_perform_62 hw hS hf
  have hf := hf.trans (if_neg c_2)
  by_cases c_5 : x_1 = (65 : Int32)
  · have hf := hf.trans (if_pos c_5)
    refine lv_lookup (off := 59) (tgt := 63) hx hb d_XTr_perform_4 (by decide +kernel) (by rw [c_5]; decide +kernel) (by decide) ?_
    refine lv_aload_n hx hb d_XTr_perform_63 rfl (lv_at hl 0 rfl) ?_
    refine va_get (v := .ref (a 1)) hx hb hts iX_Tr hown hw.2.1 hw.1 8 rfl rfl 0 (by decide) (hts _ kX_Tr_9) (fun _ h => h) rfl d_XTr_perform_64 ?_
    refine lv_aload_n hx hb d_XTr_perform_67 rfl (lv_at hl 1 rfl) ?_
    refine va_getN (v := .int (xF u0 6)) hx hb hts iX_In hown hw.2.1 hw.1 6 rfl rfl 2 (by decide) (va_Nw.use rfl (hw.2.2.2 _ kX_Tr_25).2) (fun _ h => h) rfl d_XTr_perform_68 ?_
    refine lv_aload_n hx hb d_XTr_perform_71 rfl (lv_at hl 1 rfl) ?_
    refine va_getN (v := .int (xF u0 9)) hx hb hts iX_In hown hw.2.1 hw.1 6 rfl rfl 5 (by decide) (va_Nw.use rfl (hw.2.2.2 _ kX_Tr_28).2) (fun _ h => h) rfl d_XTr_perform_72 ?_
    refine z_wv (z_runV (As := [.int (xF u0 6), .int (xF u0 9)]) (rest := []) ⟨hx, hb, hml, hown, hts⟩ (c_XSt_put l D a k u0 (xF u0 6) (xF u0 9)) (qX_Tr_31 hts (by decide)) hw 1 rfl rfl hl.1 rfl (lv_room (Nat.le_of_ble_eq_true rfl)) d_XTr_perform_75 hcs) hw hS (fun u_6 H locs eu_6 hw hS => ?_)
    have hf := hf.trans (nm_eq eu_6)
    refine lv_iconst (v := (0 : Int32)) hx hb d_XTr_perform_78 (by decide) ?_
    exact hret (0 : Int32) _ _ _ _ _ d_XTr_perform_79 hw hS hf
  have hf := hf.trans (if_neg c_5)
  by_cases c_7 : x_1 = (66 : Int32)
  · have hf := hf.trans (if_pos c_7)
    refine lv_lookup (off := 76) (tgt := 80) hx hb d_XTr_perform_4 (by decide +kernel) (by rw [c_7]; decide +kernel) (by decide) ?_
    refine lv_aload_n hx hb d_XTr_perform_80 rfl (lv_at hl 0 rfl) ?_
    refine lv_aload_n hx hb d_XTr_perform_81 rfl (lv_at hl 1 rfl) ?_
    refine lv_iconst (v := (1 : Int32)) hx hb d_XTr_perform_82 (by decide) ?_
    refine z_wi (z_runV (As := [.ref (a 6), .int (1 : Int32)]) (rest := []) ⟨hx, hb, hml, hown, hts⟩ (c_XTr_store l D a k u0 (1 : Int32)) (qX_Tr_21 hts (by decide)) hw 8 rfl rfl hl.1 rfl (lv_room (Nat.le_of_ble_eq_true rfl)) d_XTr_perform_83 hcs) hw hS (fun x_9 u_8 H locs ex_9 hw hS => ?_)
    have hf := hf.trans (pr_eq ex_9)
    exact hret x_9 _ _ _ _ _ d_XTr_perform_86 hw hS hf
  have hf := hf.trans (if_neg c_7)
  by_cases c_10 : x_1 = (67 : Int32)
  · have hf := hf.trans (if_pos c_10)
    refine lv_lookup (off := 83) (tgt := 87) hx hb d_XTr_perform_4 (by decide +kernel) (by rw [c_10]; decide +kernel) (by decide) ?_
    refine lv_aload_n hx hb d_XTr_perform_87 rfl (lv_at hl 0 rfl) ?_
    refine lv_aload_n hx hb d_XTr_perform_88 rfl (lv_at hl 1 rfl) ?_
    refine z_wi (z_runV (As := [.ref (a 6)]) (rest := []) ⟨hx, hb, hml, hown, hts⟩ (c_XTr_insert l D a k u0) (qX_Tr_37 hts (by decide)) hw 8 rfl rfl hl.1 rfl (lv_room (Nat.le_of_ble_eq_true rfl)) d_XTr_perform_89 hcs) hw hS (fun x_12 u_11 H locs ex_12 hw hS => ?_)
    have hf := hf.trans (pr_eq ex_12)
    exact hret x_12 _ _ _ _ _ d_XTr_perform_92 hw hS hf
  have hf := hf.trans (if_neg c_10)
  by_cases c_13 : x_1 = (80 : Int32)
  · have hf := hf.trans (if_pos c_13)
    refine lv_lookup (off := 89) (tgt := 93) hx hb d_XTr_perform_4 (by decide +kernel) (by rw [c_13]; decide +kernel) (by decide) ?_
    refine lv_aload_n hx hb d_XTr_perform_93 rfl (lv_at hl 0 rfl) ?_
    refine lv_aload_n hx hb d_XTr_perform_94 rfl (lv_at hl 1 rfl) ?_
    refine lv_iconst (v := (4 : Int32)) hx hb d_XTr_perform_95 (by decide) ?_
    refine z_wi (z_runV (As := [.ref (a 6), .int (4 : Int32)]) (rest := []) ⟨hx, hb, hml, hown, hts⟩ (c_XTr_store l D a k u0 (4 : Int32)) (qX_Tr_21 hts (by decide)) hw 8 rfl rfl hl.1 rfl (lv_room (Nat.le_of_ble_eq_true rfl)) d_XTr_perform_96 hcs) hw hS (fun x_15 u_14 H locs ex_15 hw hS => ?_)
    have hf := hf.trans (pr_eq ex_15)
    exact hret x_15 _ _ _ _ _ d_XTr_perform_99 hw hS hf
  have hf := hf.trans (if_neg c_13)
  refine lv_lookup (off := 96) (tgt := 100) hx hb d_XTr_perform_4 (by decide +kernel) (by rw [lv_osw c_2 (by decide +kernel), lv_osw c_5 (by decide +kernel), lv_osw c_7 (by decide +kernel), lv_osw c_10 (by decide +kernel), lv_osw c_13 (by decide +kernel)]; rfl) (by decide) ?_
  refine lv_aload_n hx hb d_XTr_perform_100 rfl (lv_at hl 0 rfl) ?_
  refine lv_aload_n hx hb d_XTr_perform_101 rfl (lv_at hl 1 rfl) ?_
  refine z_wi (z_runV (As := [.ref (a 6)]) (rest := []) ⟨hx, hb, hml, hown, hts⟩ (c_XTr_several l D a k u0) (qX_Tr_41 hts (by decide)) hw 8 rfl rfl hl.1 rfl (lv_room (Nat.le_of_ble_eq_true rfl)) d_XTr_perform_102 hcs) hw hS (fun x_17 u_16 H locs ex_17 hw hS => ?_)
  have hf := hf.trans (pr_eq ex_17)
  exact hret x_17 _ _ _ _ _ d_XTr_perform_105 hw hS hf
