def f_XAr_withHalf (u0 : XS)  : Int32 × XS := nm (f_XMe_faultOf u0 (xF u0 9) (2 : Int32)) (fun (x_1 : Int32) => if x_1 = (0 : Int32) then nm (f_XMe_half u0 (xF u0 9)) (fun (x_3 : Int32) => if (xF u0 4) = (76 : Int32) then nm (f_XSt_value u0 (xF u0 6)) (fun (x_7 : Int32) => nm (f_XSt_put u0 (xF u0 6) (x_7 * x_3)) (fun (u_8 : XS) => ((0 : Int32), u_8))) else pr (f_XAr_apply u0 ((xF u0 4) - (48 : Int32)) (xF u0 6) x_3) (fun (x_6 : Int32) (u_5 : XS) => (x_6, u_5))) else (x_1, u0))
set_option maxHeartbeats 4000000 in
set_option maxRecDepth 100000 in
theorem c_XAr_withHalf (l : Launch) (D : va_G) (a : Nat → Nat) (k : Nat → ClassId) (u0 : XS)  : zMi l y_XAr_withHalf w_XAr_withHalf rm_XAr_withHalf D clX (tyX k) nwX (xW a k) [.ref (a 7), .ref (a 6)] u0 (f_XAr_withHalf u0) := by
  generalize hF : f_XAr_withHalf u0 = F
  have hf := hF.symm
  unfold f_XAr_withHalf at hf
  refine zMi_of (cc := b_XAr_withHalf) (maxL := 4) (own := RX_Ar) (by decide) rfl rfl (Nat.le_of_ble_eq_true rfl) ?_
  intro p e R st m args below meth c A H locs Q ls hR hx hb hml hown hts hw hS hret hl
  subst hR
  have hcs : 0 ≤ (rm_XAr_withHalf).cells ∧ 0 ≤ (rm_XAr_withHalf).slots := ⟨Nat.zero_le _, Nat.zero_le _⟩
  have hl : lv_has ls 4 [(0, .ref (a 7)), (1, .ref (a 6))] := hl
  refine lv_aload_n hx hb d_XAr_withHalf_0 rfl (lv_at hl 0 rfl) ?_
  refine va_get (v := .ref (a 1)) hx hb hts iX_Ar hown hw.2.1 hw.1 7 rfl rfl 0 (by decide) (hts _ kX_Ar_9) (fun _ h => h) rfl d_XAr_withHalf_1 ?_
  refine va_getN (v := .ref (a 2)) hx hb hts iX_St hown hw.2.1 hw.1 1 rfl rfl 0 (by decide) (va_Nw.use rfl (hw.2.2.2 _ kX_Ar_41).2) (fun _ h => h) rfl d_XAr_withHalf_4 ?_
  refine lv_aload_n hx hb d_XAr_withHalf_7 rfl (lv_at hl 1 rfl) ?_
  refine va_getN (v := .int (xF u0 9)) hx hb hts iX_In hown hw.2.1 hw.1 6 rfl rfl 5 (by decide) (va_Nw.use rfl (hw.2.2.2 _ kX_Ar_45).2) (fun _ h => h) rfl d_XAr_withHalf_8 ?_
  refine lv_iconst (v := (2 : Int32)) hx hb d_XAr_withHalf_11 (by decide) ?_
  refine z_ri (z_runV (As := [.int (xF u0 9), .int (2 : Int32)]) (rest := []) ⟨hx, hb, hml, hown, hts⟩ (c_XMe_faultOf l D a k u0 (xF u0 9) (2 : Int32)) (qX_Ar_48 hts (by decide)) hw 2 rfl rfl hl.1 rfl (lv_room (Nat.le_of_ble_eq_true rfl)) d_XAr_withHalf_12 hcs) (fun x_1 ex_1 => ?_)
  have hf := hf.trans (nm_eq ex_1)
  refine lv_istore_n (lv' := [(2, .int x_1), (0, .ref (a 7)), (1, .ref (a 6))]) hx hb d_XAr_withHalf_15 rfl hl (by decide) rfl (fun ls hl => ?_)
  refine lv_iload_n hx hb d_XAr_withHalf_16 rfl (lv_at hl 0 rfl) ?_
  refine lv_if_eq (tgt := 22) hx hb d_XAr_withHalf_17 (by decide) (fun c_2 => ?_) (fun c_2 => ?_)
  · have hf := hf.trans (if_pos c_2)
    refine lv_aload_n hx hb d_XAr_withHalf_22 rfl (lv_at hl 1 rfl) ?_
    refine va_get (v := .ref (a 1)) hx hb hts iX_Ar hown hw.2.1 hw.1 7 rfl rfl 0 (by decide) (hts _ kX_Ar_9) (fun _ h => h) rfl d_XAr_withHalf_23 ?_
    refine va_getN (v := .ref (a 2)) hx hb hts iX_St hown hw.2.1 hw.1 1 rfl rfl 0 (by decide) (va_Nw.use rfl (hw.2.2.2 _ kX_Ar_41).2) (fun _ h => h) rfl d_XAr_withHalf_26 ?_
    refine lv_aload_n hx hb d_XAr_withHalf_29 rfl (lv_at hl 2 rfl) ?_
    refine va_getN (v := .int (xF u0 9)) hx hb hts iX_In hown hw.2.1 hw.1 6 rfl rfl 5 (by decide) (va_Nw.use rfl (hw.2.2.2 _ kX_Ar_45).2) (fun _ h => h) rfl d_XAr_withHalf_30 ?_
    refine z_ri (z_runV (As := [.int (xF u0 9)]) (rest := []) ⟨hx, hb, hml, hown, hts⟩ (c_XMe_half l D a k u0 (xF u0 9)) (qX_Ar_57 hts (by decide)) hw 2 rfl rfl hl.1 rfl (lv_room (Nat.le_of_ble_eq_true rfl)) d_XAr_withHalf_33 hcs) (fun x_3 ex_3 => ?_)
    have hf := hf.trans (nm_eq ex_3)
    refine lv_istore_n (lv' := [(3, .int x_3), (2, .int x_1), (0, .ref (a 7)), (1, .ref (a 6))]) hx hb d_XAr_withHalf_36 rfl hl (by decide) rfl (fun ls hl => ?_)
    refine lv_aload_n hx hb d_XAr_withHalf_37 rfl (lv_at hl 3 rfl) ?_
    refine va_getN (v := .int (xF u0 4)) hx hb hts iX_In hown hw.2.1 hw.1 6 rfl rfl 0 (by decide) (va_Nw.use rfl (hw.2.2.2 _ kX_Ar_15).2) (fun _ h => h) rfl d_XAr_withHalf_38 ?_
    refine lv_bipush (v := (76 : Int32)) hx hb d_XAr_withHalf_41 (by decide) ?_
    refine lv_icmp_ne (tgt := 72) hx hb d_XAr_withHalf_43 (by decide) (fun c_4 => ?_) (fun c_4 => ?_)
    · have hf := hf.trans (if_neg c_4)
      refine lv_aload_n hx hb d_XAr_withHalf_72 rfl (lv_at hl 2 rfl) ?_
      refine lv_aload_n hx hb d_XAr_withHalf_73 rfl (lv_at hl 3 rfl) ?_
      refine va_getN (v := .int (xF u0 4)) hx hb hts iX_In hown hw.2.1 hw.1 6 rfl rfl 0 (by decide) (va_Nw.use rfl (hw.2.2.2 _ kX_Ar_15).2) (fun _ h => h) rfl d_XAr_withHalf_74 ?_
      refine lv_bipush (v := (48 : Int32)) hx hb d_XAr_withHalf_77 (by decide) ?_
      refine lv_isub hx hb d_XAr_withHalf_79 ?_
      refine lv_aload_n hx hb d_XAr_withHalf_80 rfl (lv_at hl 3 rfl) ?_
      refine va_getN (v := .int (xF u0 6)) hx hb hts iX_In hown hw.2.1 hw.1 6 rfl rfl 2 (by decide) (va_Nw.use rfl (hw.2.2.2 _ kX_Ar_21).2) (fun _ h => h) rfl d_XAr_withHalf_81 ?_
      refine lv_iload_n hx hb d_XAr_withHalf_84 rfl (lv_at hl 0 rfl) ?_
      refine z_wi (z_runV (As := [.int ((xF u0 4) - (48 : Int32)), .int (xF u0 6), .int x_3]) (rest := []) ⟨hx, hb, hml, hown, hts⟩ (c_XAr_apply l D a k u0 ((xF u0 4) - (48 : Int32)) (xF u0 6) x_3) (qX_Ar_37 hts (by decide)) hw 7 rfl rfl hl.1 rfl (lv_room (Nat.le_of_ble_eq_true rfl)) d_XAr_withHalf_85 hcs) hw hS (fun x_6 u_5 H locs ex_6 hw hS => ?_)
      have hf := hf.trans (pr_eq ex_6)
      exact hret x_6 _ _ _ _ _ d_XAr_withHalf_88 hw hS hf
    · have hf := hf.trans (if_pos c_4)
      refine lv_aload_n hx hb d_XAr_withHalf_46 rfl (lv_at hl 2 rfl) ?_
      refine va_get (v := .ref (a 1)) hx hb hts iX_Ar hown hw.2.1 hw.1 7 rfl rfl 0 (by decide) (hts _ kX_Ar_9) (fun _ h => h) rfl d_XAr_withHalf_47 ?_
      refine lv_aload_n hx hb d_XAr_withHalf_50 rfl (lv_at hl 3 rfl) ?_
      refine va_getN (v := .int (xF u0 6)) hx hb hts iX_In hown hw.2.1 hw.1 6 rfl rfl 2 (by decide) (va_Nw.use rfl (hw.2.2.2 _ kX_Ar_21).2) (fun _ h => h) rfl d_XAr_withHalf_51 ?_
      refine lv_aload_n hx hb d_XAr_withHalf_54 rfl (lv_at hl 2 rfl) ?_
      refine va_get (v := .ref (a 1)) hx hb hts iX_Ar hown hw.2.1 hw.1 7 rfl rfl 0 (by decide) (hts _ kX_Ar_9) (fun _ h => h) rfl d_XAr_withHalf_55 ?_
      refine lv_aload_n hx hb d_XAr_withHalf_58 rfl (lv_at hl 3 rfl) ?_
      refine va_getN (v := .int (xF u0 6)) hx hb hts iX_In hown hw.2.1 hw.1 6 rfl rfl 2 (by decide) (va_Nw.use rfl (hw.2.2.2 _ kX_Ar_21).2) (fun _ h => h) rfl d_XAr_withHalf_59 ?_
      refine z_ri (z_runV (As := [.int (xF u0 6)]) (rest := [.int (xF u0 6), .ref (a 1)]) ⟨hx, hb, hml, hown, hts⟩ (c_XSt_value l D a k u0 (xF u0 6)) (qX_Ar_31 hts (by decide)) hw 1 rfl rfl hl.1 rfl (lv_room (Nat.le_of_ble_eq_true rfl)) d_XAr_withHalf_62 hcs) (fun x_7 ex_7 => ?_)
      have hf := hf.trans (nm_eq ex_7)
      refine lv_iload_n hx hb d_XAr_withHalf_65 rfl (lv_at hl 0 rfl) ?_
      refine lv_imul hx hb d_XAr_withHalf_66 ?_
      refine z_wv (z_runV (As := [.int (xF u0 6), .int (x_7 * x_3)]) (rest := []) ⟨hx, hb, hml, hown, hts⟩ (c_XSt_put l D a k u0 (xF u0 6) (x_7 * x_3)) (qX_Ar_60 hts (by decide)) hw 1 rfl rfl hl.1 rfl (lv_room (Nat.le_of_ble_eq_true rfl)) d_XAr_withHalf_67 hcs) hw hS (fun u_8 H locs eu_8 hw hS => ?_)
      have hf := hf.trans (nm_eq eu_8)
      refine lv_iconst (v := (0 : Int32)) hx hb d_XAr_withHalf_70 (by decide) ?_
      exact hret (0 : Int32) _ _ _ _ _ d_XAr_withHalf_71 hw hS hf
  · have hf := hf.trans (if_neg c_2)
    refine lv_iload_n hx hb d_XAr_withHalf_20 rfl (lv_at hl 0 rfl) ?_
    exact hret x_1 _ _ _ _ _ d_XAr_withHalf_21 hw hS hf
def g_XAr_shiftLeftBelowSign_21 (x2 : Int32) (K_5 : Int32 → Int32 → Int32 × XS) (x_2 : Int32) (L_14 : Int32 → Int32 → Int32 → Int32 × XS) : Int32 → Int32 → Int32 → Int32 × XS := fun x_11 x_12 x_13 => if x2 ≤ x_13 then K_5 x_11 x_12 else nm (x_11 <<< ((1 : Int32) &&& 31)) (fun (x_17 : Int32) => jn (fun (K_19 : Bool → Int32 × XS) => jn (fun (K_22 : Int32 × XS) => if x_12 = (0 : Int32) then if (x_17 &&& (-2147483648 : Int32)) = x_2 then K_19 false else K_22 else K_22) (K_19 true)) (fun (z_18 : Bool) => nm ((x_17 &&& (2147483647 : Int32)) ||| x_2) (fun (x_20 : Int32) => nm (x_13 + (1 : Int32)) (fun (x_21 : Int32) => L_14 x_20 (bI z_18) x_21))))
def f_XAr_shiftLeftBelowSign (u0 : XS) (x1 : Int32) (x2 : Int32) : Int32 × XS := nm (f_XSt_value u0 x1) (fun (x_1 : Int32) => nm (x_1 &&& (-2147483648 : Int32)) (fun (x_2 : Int32) => jn (fun (K_5 : Int32 → Int32 → Int32 × XS) => lpN ((Int32.toInt x2 - Int32.toInt (0 : Int32)).toNat + 1) (g_XAr_shiftLeftBelowSign_21 x2 K_5 x_2) (fun _ _ _ => default) x_1 (0 : Int32) (0 : Int32)) (fun (x_3 : Int32) (x_4 : Int32) => nm (f_XSt_put u0 x1 x_3) (fun (u_6 : XS) => nm (f_XSt_conditionBySign u_6 (Int32.toInt64 x_3)) (fun (u_7 : XS) => if x_4 = (0 : Int32) then ((0 : Int32), u_7) else pr (f_XSt_fixedOverflow u_7) (fun (x_10 : Int32) (u_9 : XS) => (x_10, u_9)))))))
set_option maxHeartbeats 4000000 in
set_option maxRecDepth 100000 in
theorem c_XAr_shiftLeftBelowSign (l : Launch) (D : va_G) (a : Nat → Nat) (k : Nat → ClassId) (u0 : XS) (x1 : Int32) (x2 : Int32) : zMi l y_XAr_shiftLeftBelowSign w_XAr_shiftLeftBelowSign rm_XAr_shiftLeftBelowSign D clX (tyX k) nwX (xW a k) [.ref (a 7), .int x1, .int x2] u0 (f_XAr_shiftLeftBelowSign u0 x1 x2) := by
  generalize hF : f_XAr_shiftLeftBelowSign u0 x1 x2 = F
  have hf := hF.symm
  unfold f_XAr_shiftLeftBelowSign at hf
  refine zMi_of (cc := b_XAr_shiftLeftBelowSign) (maxL := 8) (own := RX_Ar) (by decide) rfl rfl (Nat.le_of_ble_eq_true rfl) ?_
  intro p e R st m args below meth c A H locs Q ls hR hx hb hml hown hts hw hS hret hl
  subst hR
  have hcs : 0 ≤ (rm_XAr_shiftLeftBelowSign).cells ∧ 0 ≤ (rm_XAr_shiftLeftBelowSign).slots := ⟨Nat.zero_le _, Nat.zero_le _⟩
  have hl : lv_has ls 8 [(0, .ref (a 7)), (1, .int x1), (2, .int x2)] := hl
  refine lv_aload_n hx hb d_XAr_shiftLeftBelowSign_0 rfl (lv_at hl 0 rfl) ?_
  refine va_get (v := .ref (a 1)) hx hb hts iX_Ar hown hw.2.1 hw.1 7 rfl rfl 0 (by decide) (hts _ kX_Ar_9) (fun _ h => h) rfl d_XAr_shiftLeftBelowSign_1 ?_
  refine lv_iload_n hx hb d_XAr_shiftLeftBelowSign_4 rfl (lv_at hl 1 rfl) ?_
  refine z_ri (z_runV (As := [.int x1]) (rest := []) ⟨hx, hb, hml, hown, hts⟩ (c_XSt_value l D a k u0 x1) (qX_Ar_31 hts (by decide)) hw 1 rfl rfl hl.1 rfl (lv_room (Nat.le_of_ble_eq_true rfl)) d_XAr_shiftLeftBelowSign_5 hcs) (fun x_1 ex_1 => ?_)
  have hf := hf.trans (nm_eq ex_1)
  refine lv_istore_n (lv' := [(3, .int x_1), (0, .ref (a 7)), (1, .int x1), (2, .int x2)]) hx hb d_XAr_shiftLeftBelowSign_8 rfl hl (by decide) rfl (fun ls hl => ?_)
  refine lv_iload_n hx hb d_XAr_shiftLeftBelowSign_9 rfl (lv_at hl 0 rfl) ?_
  refine lv_ldc (v := (-2147483648 : Int32)) hx hb hown (hts _ kX_Ar_113) d_XAr_shiftLeftBelowSign_10 ?_
  refine lv_iand hx hb d_XAr_shiftLeftBelowSign_12 ?_
  refine lv_topi (fun x_2 ex_2 => ?_)
  have hf := hf.trans (nm_eq ex_2)
  refine lv_istore (lv' := [(4, .int x_2), (3, .int x_1), (0, .ref (a 7)), (1, .int x1), (2, .int x2)]) hx hb d_XAr_shiftLeftBelowSign_13 hl (by decide) rfl (fun ls hl => ?_)
  refine lv_iconst (v := (0 : Int32)) hx hb d_XAr_shiftLeftBelowSign_15 (by decide) ?_
  refine lv_istore (lv' := [(5, .int (0 : Int32)), (4, .int x_2), (3, .int x_1), (0, .ref (a 7)), (1, .int x1), (2, .int x2)]) hx hb d_XAr_shiftLeftBelowSign_16 hl (by decide) rfl (fun ls hl => ?_)
  refine lv_iconst (v := (0 : Int32)) hx hb d_XAr_shiftLeftBelowSign_18 (by decide) ?_
  refine lv_istore (lv' := [(6, .int (0 : Int32)), (5, .int (0 : Int32)), (4, .int x_2), (3, .int x_1), (0, .ref (a 7)), (1, .int x1), (2, .int x2)]) hx hb d_XAr_shiftLeftBelowSign_19 hl (by decide) rfl (fun ls hl => ?_)
  refine jn_cut hf (fun (K_5 : Int32 → Int32 → Int32 × XS) => ∀ (x_3 : Int32) (x_4 : Int32), ∀ (ls : Array Slot), lv_has ls 8 [(0, .ref (a 7)), (1, .int x1), (3, .int x_3), (5, .int x_4)] → F = K_5 x_3 x_4 → W p l e rm_XAr_shiftLeftBelowSign st m args below meth c H locs 0 0 Q (F0 m 69 ls [])) ?_ ?_
  · intro x_3 x_4 ls hl hf
    refine lv_aload_n hx hb d_XAr_shiftLeftBelowSign_69 rfl (lv_at hl 0 rfl) ?_
    refine va_get (v := .ref (a 1)) hx hb hts iX_Ar hown hw.2.1 hw.1 7 rfl rfl 0 (by decide) (hts _ kX_Ar_9) (fun _ h => h) rfl d_XAr_shiftLeftBelowSign_70 ?_
    refine lv_iload_n hx hb d_XAr_shiftLeftBelowSign_73 rfl (lv_at hl 1 rfl) ?_
    refine lv_iload_n hx hb d_XAr_shiftLeftBelowSign_74 rfl (lv_at hl 2 rfl) ?_
    refine z_wv (z_runV (As := [.int x1, .int x_3]) (rest := []) ⟨hx, hb, hml, hown, hts⟩ (c_XSt_put l D a k u0 x1 x_3) (qX_Ar_60 hts (by decide)) hw 1 rfl rfl hl.1 rfl (lv_room (Nat.le_of_ble_eq_true rfl)) d_XAr_shiftLeftBelowSign_75 hcs) hw hS (fun u_6 H locs eu_6 hw hS => ?_)
    have hf := hf.trans (nm_eq eu_6)
    refine lv_aload_n hx hb d_XAr_shiftLeftBelowSign_78 rfl (lv_at hl 0 rfl) ?_
    refine va_get (v := .ref (a 1)) hx hb hts iX_Ar hown hw.2.1 hw.1 7 rfl rfl 0 (by decide) (hts _ kX_Ar_9) (fun _ h => h) rfl d_XAr_shiftLeftBelowSign_79 ?_
    refine lv_iload_n hx hb d_XAr_shiftLeftBelowSign_82 rfl (lv_at hl 2 rfl) ?_
    refine lv_i2l (v := Int32.toInt64 x_3) hx hb d_XAr_shiftLeftBelowSign_83 rfl ?_
    refine z_wv (z_runV (As := [.long (Int32.toInt64 x_3)]) (rest := []) ⟨hx, hb, hml, hown, hts⟩ (c_XSt_conditionBySign l D a k u_6 (Int32.toInt64 x_3)) (qX_Ar_98 hts (by decide)) hw 1 rfl rfl hl.1 rfl (lv_room (Nat.le_of_ble_eq_true rfl)) d_XAr_shiftLeftBelowSign_84 hcs) hw hS (fun u_7 H locs eu_7 hw hS => ?_)
    have hf := hf.trans (nm_eq eu_7)
    refine lv_iload hx hb d_XAr_shiftLeftBelowSign_87 (lv_at hl 3 rfl) ?_
    refine lv_if_eq (tgt := 102) hx hb d_XAr_shiftLeftBelowSign_89 (by decide) (fun c_8 => ?_) (fun c_8 => ?_)
    · have hf := hf.trans (if_pos c_8)
      refine lv_iconst (v := (0 : Int32)) hx hb d_XAr_shiftLeftBelowSign_102 (by decide) ?_
      exact hret (0 : Int32) _ _ _ _ _ d_XAr_shiftLeftBelowSign_103 hw hS hf
    · have hf := hf.trans (if_neg c_8)
      refine lv_aload_n hx hb d_XAr_shiftLeftBelowSign_92 rfl (lv_at hl 0 rfl) ?_
      refine va_get (v := .ref (a 1)) hx hb hts iX_Ar hown hw.2.1 hw.1 7 rfl rfl 0 (by decide) (hts _ kX_Ar_9) (fun _ h => h) rfl d_XAr_shiftLeftBelowSign_93 ?_
      refine z_wi (z_runV (As := []) (rest := []) ⟨hx, hb, hml, hown, hts⟩ (c_XSt_fixedOverflow l D a k u_7) (qX_Ar_106 hts (by decide)) hw 1 rfl rfl hl.1 rfl (lv_room (Nat.le_of_ble_eq_true rfl)) d_XAr_shiftLeftBelowSign_96 hcs) hw hS (fun x_10 u_9 H locs ex_10 hw hS => ?_)
      have hf := hf.trans (pr_eq ex_10)
      refine lv_goto (tgt := 103) hx hb d_XAr_shiftLeftBelowSign_99 (by decide) ?_
      exact hret x_10 _ _ _ _ _ d_XAr_shiftLeftBelowSign_103 hw hS hf
  · intro K_5 hK_5 hf
    refine lp_cut (fun (n_15 : Nat) (L_14 : Int32 → Int32 → Int32 → Int32 × XS) => ∀ (x_11 : Int32) (x_12 : Int32) (x_13 : Int32), (Int32.toInt x2 - Int32.toInt x_13).toNat < n_15 → ∀ (ls : Array Slot), lv_has ls 8 [(0, .ref (a 7)), (1, .int x1), (2, .int x2), (3, .int x_11), (4, .int x_2), (5, .int x_12), (6, .int x_13)] → F = L_14 x_11 x_12 x_13 → W p l e rm_XAr_shiftLeftBelowSign st m args below meth c H locs 0 0 Q (F0 m 21 ls [])) ?_ ?_ ((Int32.toInt x2 - Int32.toInt (0 : Int32)).toNat + 1) x_1 (0 : Int32) (0 : Int32) (Nat.lt_succ_self _) _ (lv_sub hl [4, 5, 6, 3, 2, 1, 0] rfl) hf
    · intro x_11 x_12 x_13 hn; exact absurd hn (Nat.not_lt_zero _)
    · intro n_15 L_14 hL_14 x_11 x_12 x_13 hn ls hl hf
      unfold g_XAr_shiftLeftBelowSign_21 at hf
      refine lv_iload hx hb d_XAr_shiftLeftBelowSign_21 (lv_at hl 6 rfl) ?_
      refine lv_iload_n hx hb d_XAr_shiftLeftBelowSign_23 rfl (lv_at hl 2 rfl) ?_
      refine lv_icmp_ge (tgt := 69) hx hb d_XAr_shiftLeftBelowSign_24 (by decide) (fun c_16 => ?_) (fun c_16 => ?_)
      · have hf := hf.trans (if_pos c_16)
        exact hK_5 x_11 x_12 _ (lv_sub hl [0, 1, 3, 5] rfl) hf
      · have hf := hf.trans (if_neg c_16)
        refine lv_iload_n hx hb d_XAr_shiftLeftBelowSign_27 rfl (lv_at hl 3 rfl) ?_
        refine lv_iconst (v := (1 : Int32)) hx hb d_XAr_shiftLeftBelowSign_28 (by decide) ?_
        refine lv_ishl hx hb d_XAr_shiftLeftBelowSign_29 ?_
        refine lv_topi (fun x_17 ex_17 => ?_)
        have hf := hf.trans (nm_eq ex_17)
        refine lv_istore (lv' := [(7, .int x_17), (0, .ref (a 7)), (1, .int x1), (2, .int x2), (3, .int x_11), (4, .int x_2), (5, .int x_12), (6, .int x_13)]) hx hb d_XAr_shiftLeftBelowSign_30 hl (by decide) rfl (fun ls hl => ?_)
        refine lv_iload hx hb d_XAr_shiftLeftBelowSign_32 (lv_at hl 6 rfl) ?_
        refine jn_cut hf (fun (K_19 : Bool → Int32 × XS) => ∀ (z_18 : Bool), ∀ (ls : Array Slot), lv_has ls 8 [(0, .ref (a 7)), (1, .int x1), (2, .int x2), (4, .int x_2), (6, .int x_13), (7, .int x_17)] → F = K_19 z_18 → W p l e rm_XAr_shiftLeftBelowSign st m args below meth c H locs 0 0 Q (F0 m 52 ls [.int (bI z_18)])) ?_ ?_
        · intro z_18 ls hl hf
          refine lv_istore (lv' := [(5, .int (bI z_18)), (0, .ref (a 7)), (1, .int x1), (2, .int x2), (4, .int x_2), (6, .int x_13), (7, .int x_17)]) hx hb d_XAr_shiftLeftBelowSign_52 hl (by decide) rfl (fun ls hl => ?_)
          refine lv_iload hx hb d_XAr_shiftLeftBelowSign_54 (lv_at hl 6 rfl) ?_
          refine lv_ldc (v := (2147483647 : Int32)) hx hb hown (hts _ kX_Ar_114) d_XAr_shiftLeftBelowSign_56 ?_
          refine lv_iand hx hb d_XAr_shiftLeftBelowSign_58 ?_
          refine lv_iload hx hb d_XAr_shiftLeftBelowSign_59 (lv_at hl 4 rfl) ?_
          refine lv_ior hx hb d_XAr_shiftLeftBelowSign_61 ?_
          refine lv_topi (fun x_20 ex_20 => ?_)
          have hf := hf.trans (nm_eq ex_20)
          refine lv_istore_n (lv' := [(3, .int x_20), (5, .int (bI z_18)), (0, .ref (a 7)), (1, .int x1), (2, .int x2), (4, .int x_2), (6, .int x_13), (7, .int x_17)]) hx hb d_XAr_shiftLeftBelowSign_62 rfl hl (by decide) rfl (fun ls hl => ?_)
          obtain ⟨x_21, ex_21⟩ : ∃ y : Int32, y = x_13 + (1 : Int32) := ⟨_, rfl⟩
          have hf := hf.trans (nm_eq ex_21)
          refine lv_iinc (v := x_21) (lv' := [(6, .int x_21), (3, .int x_20), (5, .int (bI z_18)), (0, .ref (a 7)), (1, .int x1), (2, .int x2), (4, .int x_2), (7, .int x_17)]) hx hb d_XAr_shiftLeftBelowSign_63 hl (k := 6) rfl (by rw [ex_21]; rfl) (by decide) rfl (fun ls hl => ?_)
          refine lv_goto (tgt := 21) hx hb d_XAr_shiftLeftBelowSign_66 (by decide) ?_
          exact hL_14 x_20 (bI z_18) x_21 (mu_up c_16 ex_21 hn) _ (lv_sub hl [3, 4, 5, 1, 6, 2, 0] rfl) hf
        · intro K_19 hK_19 hf
          refine jn_cut hf (fun (K_22 : Int32 × XS) => ∀ (ls : Array Slot), lv_has ls 8 [(0, .ref (a 7)), (1, .int x1), (2, .int x2), (4, .int x_2), (6, .int x_13), (7, .int x_17)] → F = K_22 → W p l e rm_XAr_shiftLeftBelowSign st m args below meth c H locs 0 0 Q (F0 m 47 ls [])) ?_ ?_
          · intro ls hl hf
            refine lv_iconst (v := (1 : Int32)) hx hb d_XAr_shiftLeftBelowSign_47 (by decide) ?_
            refine lv_goto (tgt := 52) hx hb d_XAr_shiftLeftBelowSign_48 (by decide) ?_
            exact hK_19 true _ (lv_sub hl [0, 1, 2, 3, 4, 5] rfl) hf
          · intro K_22 hK_22 hf
            refine lv_if_ne (tgt := 47) hx hb d_XAr_shiftLeftBelowSign_34 (by decide) (fun c_23 => ?_) (fun c_23 => ?_)
            · have hf := hf.trans (if_neg c_23)
              exact hK_22 _ (lv_sub hl [1, 2, 3, 5, 7, 0] rfl) hf
            · have hf := hf.trans (if_pos c_23)
              refine lv_iload hx hb d_XAr_shiftLeftBelowSign_37 (lv_at hl 0 rfl) ?_
              refine lv_ldc (v := (-2147483648 : Int32)) hx hb hown (hts _ kX_Ar_113) d_XAr_shiftLeftBelowSign_39 ?_
              refine lv_iand hx hb d_XAr_shiftLeftBelowSign_41 ?_
              refine lv_iload hx hb d_XAr_shiftLeftBelowSign_42 (lv_at hl 5 rfl) ?_
              refine lv_icmp_eq (tgt := 51) hx hb d_XAr_shiftLeftBelowSign_44 (by decide) (fun c_24 => ?_) (fun c_24 => ?_)
              · have hf := hf.trans (if_pos c_24)
                refine lv_iconst (v := (0 : Int32)) hx hb d_XAr_shiftLeftBelowSign_51 (by decide) ?_
                exact hK_19 false _ (lv_sub hl [1, 2, 3, 5, 7, 0] rfl) hf
              · have hf := hf.trans (if_neg c_24)
                exact hK_22 _ (lv_sub hl [1, 2, 3, 5, 7, 0] rfl) hf
def f_XAr_shift (u0 : XS)  : Int32 × XS := nm ((xF u0 9) &&& (63 : Int32)) (fun (x_1 : Int32) => nm (f_XSt_value u0 (xF u0 6)) (fun (x_2 : Int32) => nm (xF u0 4) (fun (x_3 : Int32) => if x_3 = (136 : Int32) then pr (f_XAr_load u0 (xF u0 6) (Int64.toInt32 ((Int64.toUInt64 ((Int32.toInt64 x_2) &&& (4294967295 : Int64)) >>> ((Int32.toInt64 x_1).toUInt64 &&& Int64.toUInt64 63)).toInt64))) (fun (x_6 : Int32) (u_5 : XS) => (x_6, u_5)) else if x_3 = (137 : Int32) then pr (f_XAr_load u0 (xF u0 6) (Int64.toInt32 (((Int32.toInt64 x_2) &&& (4294967295 : Int64)) <<< (Int32.toInt64 x_1 &&& 63)))) (fun (x_9 : Int32) (u_8 : XS) => (x_9, u_8)) else if x_3 = (138 : Int32) then pr (f_XAr_putSigned u0 (xF u0 6) ((Int32.toInt64 x_2) >>> (Int32.toInt64 x_1 &&& 63))) (fun (x_12 : Int32) (u_11 : XS) => (x_12, u_11)) else pr (f_XAr_shiftLeftBelowSign u0 (xF u0 6) x_1) (fun (x_14 : Int32) (u_13 : XS) => (x_14, u_13)))))
set_option maxHeartbeats 4000000 in
set_option maxRecDepth 100000 in
theorem c_XAr_shift (l : Launch) (D : va_G) (a : Nat → Nat) (k : Nat → ClassId) (u0 : XS)  : zMi l y_XAr_shift w_XAr_shift rm_XAr_shift D clX (tyX k) nwX (xW a k) [.ref (a 7), .ref (a 6)] u0 (f_XAr_shift u0) := by
  generalize hF : f_XAr_shift u0 = F
  have hf := hF.symm
  unfold f_XAr_shift at hf
  refine zMi_of (cc := b_XAr_shift) (maxL := 4) (own := RX_Ar) (by decide) rfl rfl (Nat.le_of_ble_eq_true rfl) ?_
  intro p e R st m args below meth c A H locs Q ls hR hx hb hml hown hts hw hS hret hl
  subst hR
  have hcs : 0 ≤ (rm_XAr_shift).cells ∧ 0 ≤ (rm_XAr_shift).slots := ⟨Nat.zero_le _, Nat.zero_le _⟩
  have hl : lv_has ls 4 [(0, .ref (a 7)), (1, .ref (a 6))] := hl
  refine lv_aload_n hx hb d_XAr_shift_0 rfl (lv_at hl 1 rfl) ?_
  refine va_getN (v := .int (xF u0 9)) hx hb hts iX_In hown hw.2.1 hw.1 6 rfl rfl 5 (by decide) (va_Nw.use rfl (hw.2.2.2 _ kX_Ar_45).2) (fun _ h => h) rfl d_XAr_shift_1 ?_
  refine lv_bipush (v := (63 : Int32)) hx hb d_XAr_shift_4 (by decide) ?_
  refine lv_iand hx hb d_XAr_shift_6 ?_
  refine lv_topi (fun x_1 ex_1 => ?_)
  have hf := hf.trans (nm_eq ex_1)
  refine lv_istore_n (lv' := [(2, .int x_1), (0, .ref (a 7)), (1, .ref (a 6))]) hx hb d_XAr_shift_7 rfl hl (by decide) rfl (fun ls hl => ?_)
  refine lv_aload_n hx hb d_XAr_shift_8 rfl (lv_at hl 1 rfl) ?_
  refine va_get (v := .ref (a 1)) hx hb hts iX_Ar hown hw.2.1 hw.1 7 rfl rfl 0 (by decide) (hts _ kX_Ar_9) (fun _ h => h) rfl d_XAr_shift_9 ?_
  refine lv_aload_n hx hb d_XAr_shift_12 rfl (lv_at hl 2 rfl) ?_
  refine va_getN (v := .int (xF u0 6)) hx hb hts iX_In hown hw.2.1 hw.1 6 rfl rfl 2 (by decide) (va_Nw.use rfl (hw.2.2.2 _ kX_Ar_21).2) (fun _ h => h) rfl d_XAr_shift_13 ?_
  refine z_ri (z_runV (As := [.int (xF u0 6)]) (rest := []) ⟨hx, hb, hml, hown, hts⟩ (c_XSt_value l D a k u0 (xF u0 6)) (qX_Ar_31 hts (by decide)) hw 1 rfl rfl hl.1 rfl (lv_room (Nat.le_of_ble_eq_true rfl)) d_XAr_shift_16 hcs) (fun x_2 ex_2 => ?_)
  have hf := hf.trans (nm_eq ex_2)
  refine lv_istore_n (lv' := [(3, .int x_2), (2, .int x_1), (0, .ref (a 7)), (1, .ref (a 6))]) hx hb d_XAr_shift_19 rfl hl (by decide) rfl (fun ls hl => ?_)
  refine lv_aload_n hx hb d_XAr_shift_20 rfl (lv_at hl 3 rfl) ?_
  refine va_getN (v := .int (xF u0 4)) hx hb hts iX_In hown hw.2.1 hw.1 6 rfl rfl 0 (by decide) (va_Nw.use rfl (hw.2.2.2 _ kX_Ar_15).2) (fun _ h => h) rfl d_XAr_shift_21 ?_
  refine lv_topi (fun x_3 ex_3 => ?_)
  have hf := hf.trans (nm_eq ex_3)
  by_cases c_4 : x_3 = (136 : Int32)
  · have hf := hf.trans (if_pos c_4)
    refine lv_tableIn (off := 28) (tgt := 52) hx hb d_XAr_shift_24 (by rw [c_4]; decide +kernel) (by rw [c_4]; decide +kernel) (by rw [c_4]; decide +kernel) (by decide) ?_
    refine lv_aload_n hx hb d_XAr_shift_52 rfl (lv_at hl 2 rfl) ?_
    refine lv_aload_n hx hb d_XAr_shift_53 rfl (lv_at hl 3 rfl) ?_
    refine va_getN (v := .int (xF u0 6)) hx hb hts iX_In hown hw.2.1 hw.1 6 rfl rfl 2 (by decide) (va_Nw.use rfl (hw.2.2.2 _ kX_Ar_21).2) (fun _ h => h) rfl d_XAr_shift_54 ?_
    refine lv_iload_n hx hb d_XAr_shift_57 rfl (lv_at hl 0 rfl) ?_
    refine lv_i2l (v := Int32.toInt64 x_2) hx hb d_XAr_shift_58 rfl ?_
    refine lv_ldc2 (v := (4294967295 : Int64)) hx hb hown (hts _ kX_Ar_64) d_XAr_shift_59 ?_
    refine lv_land hx hb d_XAr_shift_62 ?_
    refine lv_iload_n hx hb d_XAr_shift_63 rfl (lv_at hl 1 rfl) ?_
    refine lv_lushr (v := (Int64.toUInt64 ((Int32.toInt64 x_2) &&& (4294967295 : Int64)) >>> ((Int32.toInt64 x_1).toUInt64 &&& Int64.toUInt64 63)).toInt64) hx hb d_XAr_shift_64 rfl ?_
    refine lv_l2i (v := Int64.toInt32 ((Int64.toUInt64 ((Int32.toInt64 x_2) &&& (4294967295 : Int64)) >>> ((Int32.toInt64 x_1).toUInt64 &&& Int64.toUInt64 63)).toInt64)) hx hb d_XAr_shift_65 rfl ?_
    refine z_wi (z_runV (As := [.int (xF u0 6), .int (Int64.toInt32 ((Int64.toUInt64 ((Int32.toInt64 x_2) &&& (4294967295 : Int64)) >>> ((Int32.toInt64 x_1).toUInt64 &&& Int64.toUInt64 63)).toInt64))]) (rest := []) ⟨hx, hb, hml, hown, hts⟩ (c_XAr_load l D a k u0 (xF u0 6) (Int64.toInt32 ((Int64.toUInt64 ((Int32.toInt64 x_2) &&& (4294967295 : Int64)) >>> ((Int32.toInt64 x_1).toUInt64 &&& Int64.toUInt64 63)).toInt64))) (qX_Ar_66 hts (by decide)) hw 7 rfl rfl hl.1 rfl (lv_room (Nat.le_of_ble_eq_true rfl)) d_XAr_shift_66 hcs) hw hS (fun x_6 u_5 H locs ex_6 hw hS => ?_)
    have hf := hf.trans (pr_eq ex_6)
    exact hret x_6 _ _ _ _ _ d_XAr_shift_69 hw hS hf
  have hf := hf.trans (if_neg c_4)
  by_cases c_7 : x_3 = (137 : Int32)
  · have hf := hf.trans (if_pos c_7)
    refine lv_tableIn (off := 46) (tgt := 70) hx hb d_XAr_shift_24 (by rw [c_7]; decide +kernel) (by rw [c_7]; decide +kernel) (by rw [c_7]; decide +kernel) (by decide) ?_
    refine lv_aload_n hx hb d_XAr_shift_70 rfl (lv_at hl 2 rfl) ?_
    refine lv_aload_n hx hb d_XAr_shift_71 rfl (lv_at hl 3 rfl) ?_
    refine va_getN (v := .int (xF u0 6)) hx hb hts iX_In hown hw.2.1 hw.1 6 rfl rfl 2 (by decide) (va_Nw.use rfl (hw.2.2.2 _ kX_Ar_21).2) (fun _ h => h) rfl d_XAr_shift_72 ?_
    refine lv_iload_n hx hb d_XAr_shift_75 rfl (lv_at hl 0 rfl) ?_
    refine lv_i2l (v := Int32.toInt64 x_2) hx hb d_XAr_shift_76 rfl ?_
    refine lv_ldc2 (v := (4294967295 : Int64)) hx hb hown (hts _ kX_Ar_64) d_XAr_shift_77 ?_
    refine lv_land hx hb d_XAr_shift_80 ?_
    refine lv_iload_n hx hb d_XAr_shift_81 rfl (lv_at hl 1 rfl) ?_
    refine lv_lshl (v := ((Int32.toInt64 x_2) &&& (4294967295 : Int64)) <<< (Int32.toInt64 x_1 &&& 63)) hx hb d_XAr_shift_82 rfl ?_
    refine lv_l2i (v := Int64.toInt32 (((Int32.toInt64 x_2) &&& (4294967295 : Int64)) <<< (Int32.toInt64 x_1 &&& 63))) hx hb d_XAr_shift_83 rfl ?_
    refine z_wi (z_runV (As := [.int (xF u0 6), .int (Int64.toInt32 (((Int32.toInt64 x_2) &&& (4294967295 : Int64)) <<< (Int32.toInt64 x_1 &&& 63)))]) (rest := []) ⟨hx, hb, hml, hown, hts⟩ (c_XAr_load l D a k u0 (xF u0 6) (Int64.toInt32 (((Int32.toInt64 x_2) &&& (4294967295 : Int64)) <<< (Int32.toInt64 x_1 &&& 63)))) (qX_Ar_66 hts (by decide)) hw 7 rfl rfl hl.1 rfl (lv_room (Nat.le_of_ble_eq_true rfl)) d_XAr_shift_84 hcs) hw hS (fun x_9 u_8 H locs ex_9 hw hS => ?_)
    have hf := hf.trans (pr_eq ex_9)
    exact hret x_9 _ _ _ _ _ d_XAr_shift_87 hw hS hf
  have hf := hf.trans (if_neg c_7)
  by_cases c_10 : x_3 = (138 : Int32)
  · have hf := hf.trans (if_pos c_10)
    refine lv_tableIn (off := 64) (tgt := 88) hx hb d_XAr_shift_24 (by rw [c_10]; decide +kernel) (by rw [c_10]; decide +kernel) (by rw [c_10]; decide +kernel) (by decide) ?_
    refine lv_aload_n hx hb d_XAr_shift_88 rfl (lv_at hl 2 rfl) ?_
    refine lv_aload_n hx hb d_XAr_shift_89 rfl (lv_at hl 3 rfl) ?_
    refine va_getN (v := .int (xF u0 6)) hx hb hts iX_In hown hw.2.1 hw.1 6 rfl rfl 2 (by decide) (va_Nw.use rfl (hw.2.2.2 _ kX_Ar_21).2) (fun _ h => h) rfl d_XAr_shift_90 ?_
    refine lv_iload_n hx hb d_XAr_shift_93 rfl (lv_at hl 0 rfl) ?_
    refine lv_i2l (v := Int32.toInt64 x_2) hx hb d_XAr_shift_94 rfl ?_
    refine lv_iload_n hx hb d_XAr_shift_95 rfl (lv_at hl 1 rfl) ?_
    refine lv_lshr (v := (Int32.toInt64 x_2) >>> (Int32.toInt64 x_1 &&& 63)) hx hb d_XAr_shift_96 rfl ?_
    refine z_wi (z_runV (As := [.int (xF u0 6), .long ((Int32.toInt64 x_2) >>> (Int32.toInt64 x_1 &&& 63))]) (rest := []) ⟨hx, hb, hml, hown, hts⟩ (c_XAr_putSigned l D a k u0 (xF u0 6) ((Int32.toInt64 x_2) >>> (Int32.toInt64 x_1 &&& 63))) (qX_Ar_69 hts (by decide)) hw 7 rfl rfl hl.1 rfl (lv_room (Nat.le_of_ble_eq_true rfl)) d_XAr_shift_97 hcs) hw hS (fun x_12 u_11 H locs ex_12 hw hS => ?_)
    have hf := hf.trans (pr_eq ex_12)
    exact hret x_12 _ _ _ _ _ d_XAr_shift_100 hw hS hf
  have hf := hf.trans (if_neg c_10)
  refine lv_tableOut (tgt := 101) hx hb d_XAr_shift_24 (by have := lv_neT c_4 (a := 136) (by decide +kernel); have := lv_neT c_7 (a := 137) (by decide +kernel); have := lv_neT c_10 (a := 138) (by decide +kernel); omega) (by decide) ?_
  refine lv_aload_n hx hb d_XAr_shift_101 rfl (lv_at hl 2 rfl) ?_
  refine lv_aload_n hx hb d_XAr_shift_102 rfl (lv_at hl 3 rfl) ?_
  refine va_getN (v := .int (xF u0 6)) hx hb hts iX_In hown hw.2.1 hw.1 6 rfl rfl 2 (by decide) (va_Nw.use rfl (hw.2.2.2 _ kX_Ar_21).2) (fun _ h => h) rfl d_XAr_shift_103 ?_
  refine lv_iload_n hx hb d_XAr_shift_106 rfl (lv_at hl 1 rfl) ?_
  refine z_wi (z_runV (As := [.int (xF u0 6), .int x_1]) (rest := []) ⟨hx, hb, hml, hown, hts⟩ (c_XAr_shiftLeftBelowSign l D a k u0 (xF u0 6) x_1) (qX_Ar_73 hts (by decide)) hw 7 rfl rfl hl.1 rfl (lv_room (Nat.le_of_ble_eq_true rfl)) d_XAr_shift_107 hcs) hw hS (fun x_14 u_13 H locs ex_14 hw hS => ?_)
  have hf := hf.trans (pr_eq ex_14)
  exact hret x_14 _ _ _ _ _ d_XAr_shift_110 hw hS hf
