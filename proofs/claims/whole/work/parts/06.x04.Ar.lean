def f_XAr_putSigned (u0 : XS) (x1 : Int32) (y2 : Int64) : Int32 × XS := nm (Int64.toInt32 y2) (fun (x_1 : Int32) => nm (f_XSt_put u0 x1 x_1) (fun (u_2 : XS) => nm (f_XSt_conditionBySign u_2 (Int32.toInt64 x_1)) (fun (u_3 : XS) => if (Int32.toInt64 x_1) = y2 then ((0 : Int32), u_3) else pr (f_XSt_fixedOverflow u_3) (fun (x_6 : Int32) (u_5 : XS) => (x_6, u_5)))))
set_option maxHeartbeats 4000000 in
set_option maxRecDepth 100000 in
theorem c_XAr_putSigned (l : Launch) (D : va_G) (a : Nat → Nat) (k : Nat → ClassId) (u0 : XS) (x1 : Int32) (y2 : Int64) : zMi l y_XAr_putSigned w_XAr_putSigned rm_XAr_putSigned D clX (tyX k) nwX (xW a k) [.ref (a 7), .int x1, .long y2] u0 (f_XAr_putSigned u0 x1 y2) := by
  generalize hF : f_XAr_putSigned u0 x1 y2 = F
  have hf := hF.symm
  unfold f_XAr_putSigned at hf
  refine zMi_of (cc := b_XAr_putSigned) (maxL := 5) (own := RX_Ar) (by decide) rfl rfl (Nat.le_of_ble_eq_true rfl) ?_
  intro p e R st m args below meth c A H locs Q ls hR hx hb hml hown hts hw hS hret hl
  subst hR
  have hcs : 0 ≤ (rm_XAr_putSigned).cells ∧ 0 ≤ (rm_XAr_putSigned).slots := ⟨Nat.zero_le _, Nat.zero_le _⟩
  have hl : lv_has ls 5 [(0, .ref (a 7)), (1, .int x1), (2, .long y2)] := hl
  refine lv_lload_n hx hb d_XAr_putSigned_0 rfl (lv_at hl 2 rfl) ?_
  refine lv_l2i (v := Int64.toInt32 y2) hx hb d_XAr_putSigned_1 rfl ?_
  refine lv_topi (fun x_1 ex_1 => ?_)
  have hf := hf.trans (nm_eq ex_1)
  refine lv_istore (lv' := [(4, .int x_1), (0, .ref (a 7)), (1, .int x1), (2, .long y2)]) hx hb d_XAr_putSigned_2 hl (by decide) rfl (fun ls hl => ?_)
  refine lv_aload_n hx hb d_XAr_putSigned_4 rfl (lv_at hl 1 rfl) ?_
  refine va_get (v := .ref (a 1)) hx hb hts iX_Ar hown hw.2.1 hw.1 7 rfl rfl 0 (by decide) (hts _ kX_Ar_9) (fun _ h => h) rfl d_XAr_putSigned_5 ?_
  refine lv_iload_n hx hb d_XAr_putSigned_8 rfl (lv_at hl 2 rfl) ?_
  refine lv_iload hx hb d_XAr_putSigned_9 (lv_at hl 0 rfl) ?_
  refine z_wv (z_runV (As := [.int x1, .int x_1]) (rest := []) ⟨hx, hb, hml, hown, hts⟩ (c_XSt_put l D a k u0 x1 x_1) (qX_Ar_60 hts (by decide)) hw 1 rfl rfl hl.1 rfl (lv_room (Nat.le_of_ble_eq_true rfl)) d_XAr_putSigned_11 hcs) hw hS (fun u_2 H locs eu_2 hw hS => ?_)
  have hf := hf.trans (nm_eq eu_2)
  refine lv_aload_n hx hb d_XAr_putSigned_14 rfl (lv_at hl 1 rfl) ?_
  refine va_get (v := .ref (a 1)) hx hb hts iX_Ar hown hw.2.1 hw.1 7 rfl rfl 0 (by decide) (hts _ kX_Ar_9) (fun _ h => h) rfl d_XAr_putSigned_15 ?_
  refine lv_iload hx hb d_XAr_putSigned_18 (lv_at hl 0 rfl) ?_
  refine lv_i2l (v := Int32.toInt64 x_1) hx hb d_XAr_putSigned_20 rfl ?_
  refine z_wv (z_runV (As := [.long (Int32.toInt64 x_1)]) (rest := []) ⟨hx, hb, hml, hown, hts⟩ (c_XSt_conditionBySign l D a k u_2 (Int32.toInt64 x_1)) (qX_Ar_98 hts (by decide)) hw 1 rfl rfl hl.1 rfl (lv_room (Nat.le_of_ble_eq_true rfl)) d_XAr_putSigned_21 hcs) hw hS (fun u_3 H locs eu_3 hw hS => ?_)
  have hf := hf.trans (nm_eq eu_3)
  refine lv_iload hx hb d_XAr_putSigned_24 (lv_at hl 0 rfl) ?_
  refine lv_i2l (v := Int32.toInt64 x_1) hx hb d_XAr_putSigned_26 rfl ?_
  refine lv_lload_n hx hb d_XAr_putSigned_27 rfl (lv_at hl 3 rfl) ?_
  refine z_lcmp_ne (tgt := 36) hx hb d_XAr_putSigned_28 d_XAr_putSigned_29 (by decide) (fun c_4 => ?_) (fun c_4 => ?_)
  · have hf := hf.trans (if_neg c_4)
    refine lv_aload_n hx hb d_XAr_putSigned_36 rfl (lv_at hl 1 rfl) ?_
    refine va_get (v := .ref (a 1)) hx hb hts iX_Ar hown hw.2.1 hw.1 7 rfl rfl 0 (by decide) (hts _ kX_Ar_9) (fun _ h => h) rfl d_XAr_putSigned_37 ?_
    refine z_wi (z_runV (As := []) (rest := []) ⟨hx, hb, hml, hown, hts⟩ (c_XSt_fixedOverflow l D a k u_3) (qX_Ar_106 hts (by decide)) hw 1 rfl rfl hl.1 rfl (lv_room (Nat.le_of_ble_eq_true rfl)) d_XAr_putSigned_40 hcs) hw hS (fun x_6 u_5 H locs ex_6 hw hS => ?_)
    have hf := hf.trans (pr_eq ex_6)
    exact hret x_6 _ _ _ _ _ d_XAr_putSigned_43 hw hS hf
  · have hf := hf.trans (if_pos c_4)
    refine lv_iconst (v := (0 : Int32)) hx hb d_XAr_putSigned_32 (by decide) ?_
    refine lv_goto (tgt := 43) hx hb d_XAr_putSigned_33 (by decide) ?_
    exact hret (0 : Int32) _ _ _ _ _ d_XAr_putSigned_43 hw hS hf
