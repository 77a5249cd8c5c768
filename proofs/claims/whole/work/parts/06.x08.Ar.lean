def f_XAr_withWord (u0 : XS)  : Int32 × XS := nm ((xF u0 4) - (64 : Int32)) (fun (x_1 : Int32) => nm (f_XAr_lacksPair u0 x_1 (xF u0 6)) (fun (z_2 : Bool) => if (bI z_2) = (0 : Int32) then nm (f_XMe_faultOf u0 (xF u0 9) (4 : Int32)) (fun (x_4 : Int32) => if x_4 = (0 : Int32) then nm (f_XMe_word u0 (xF u0 9)) (fun (x_6 : Int32) => pr (f_XAr_apply u0 x_1 (xF u0 6) x_6) (fun (x_8 : Int32) (u_7 : XS) => (x_8, u_7))) else (x_4, u0)) else ((6 : Int32), u0)))
set_option maxHeartbeats 4000000 in
set_option maxRecDepth 100000 in
theorem c_XAr_withWord (l : Launch) (D : va_G) (a : Nat → Nat) (k : Nat → ClassId) (u0 : XS)  : zMi l y_XAr_withWord w_XAr_withWord rm_XAr_withWord D clX (tyX k) nwX (xW a k) [.ref (a 7), .ref (a 6)] u0 (f_XAr_withWord u0) := by
  generalize hF : f_XAr_withWord u0 = F
  have hf := hF.symm
  unfold f_XAr_withWord at hf
  refine zMi_of (cc := b_XAr_withWord) (maxL := 4) (own := RX_Ar) (by decide) rfl rfl (Nat.le_of_ble_eq_true rfl) ?_
  intro p e R st m args below meth c A H locs Q ls hR hx hb hml hown hts hw hS hret hl
  subst hR
  have hcs : 0 ≤ (rm_XAr_withWord).cells ∧ 0 ≤ (rm_XAr_withWord).slots := ⟨Nat.zero_le _, Nat.zero_le _⟩
  have hl : lv_has ls 4 [(0, .ref (a 7)), (1, .ref (a 6))] := hl
  refine lv_aload_n hx hb d_XAr_withWord_0 rfl (lv_at hl 1 rfl) ?_
  refine va_getN (v := .int (xF u0 4)) hx hb hts iX_In hown hw.2.1 hw.1 6 rfl rfl 0 (by decide) (va_Nw.use rfl (hw.2.2.2 _ kX_Ar_15).2) (fun _ h => h) rfl d_XAr_withWord_1 ?_
  refine lv_bipush (v := (64 : Int32)) hx hb d_XAr_withWord_4 (by decide) ?_
  refine lv_isub hx hb d_XAr_withWord_6 ?_
  refine lv_topi (fun x_1 ex_1 => ?_)
  have hf := hf.trans (nm_eq ex_1)
  refine lv_istore_n (lv' := [(2, .int x_1), (0, .ref (a 7)), (1, .ref (a 6))]) hx hb d_XAr_withWord_7 rfl hl (by decide) rfl (fun ls hl => ?_)
  refine lv_iload_n hx hb d_XAr_withWord_8 rfl (lv_at hl 0 rfl) ?_
  refine lv_aload_n hx hb d_XAr_withWord_9 rfl (lv_at hl 2 rfl) ?_
  refine va_getN (v := .int (xF u0 6)) hx hb hts iX_In hown hw.2.1 hw.1 6 rfl rfl 2 (by decide) (va_Nw.use rfl (hw.2.2.2 _ kX_Ar_21).2) (fun _ h => h) rfl d_XAr_withWord_10 ?_
  refine z_rz (z_runS (As := [.int x_1, .int (xF u0 6)]) (rest := []) ⟨hx, hb, hml, hown, hts⟩ (c_XAr_lacksPair l D a k u0 x_1 (xF u0 6)) (qX_Ar_24 hts (by decide)) hw  hl.1 rfl (lv_room (Nat.le_of_ble_eq_true rfl)) d_XAr_withWord_13 hcs) (fun z_2 ez_2 => ?_)
  have hf := hf.trans (nm_eq ez_2)
  refine lv_if_eq (tgt := 22) hx hb d_XAr_withWord_16 (by decide) (fun c_3 => ?_) (fun c_3 => ?_)
  · have hf := hf.trans (if_pos c_3)
    refine lv_aload_n hx hb d_XAr_withWord_22 rfl (lv_at hl 1 rfl) ?_
    refine va_get (v := .ref (a 1)) hx hb hts iX_Ar hown hw.2.1 hw.1 7 rfl rfl 0 (by decide) (hts _ kX_Ar_9) (fun _ h => h) rfl d_XAr_withWord_23 ?_
    refine va_getN (v := .ref (a 2)) hx hb hts iX_St hown hw.2.1 hw.1 1 rfl rfl 0 (by decide) (va_Nw.use rfl (hw.2.2.2 _ kX_Ar_41).2) (fun _ h => h) rfl d_XAr_withWord_26 ?_
    refine lv_aload_n hx hb d_XAr_withWord_29 rfl (lv_at hl 2 rfl) ?_
    refine va_getN (v := .int (xF u0 9)) hx hb hts iX_In hown hw.2.1 hw.1 6 rfl rfl 5 (by decide) (va_Nw.use rfl (hw.2.2.2 _ kX_Ar_45).2) (fun _ h => h) rfl d_XAr_withWord_30 ?_
    refine lv_iconst (v := (4 : Int32)) hx hb d_XAr_withWord_33 (by decide) ?_
    refine z_ri (z_runV (As := [.int (xF u0 9), .int (4 : Int32)]) (rest := []) ⟨hx, hb, hml, hown, hts⟩ (c_XMe_faultOf l D a k u0 (xF u0 9) (4 : Int32)) (qX_Ar_48 hts (by decide)) hw 2 rfl rfl hl.1 rfl (lv_room (Nat.le_of_ble_eq_true rfl)) d_XAr_withWord_34 hcs) (fun x_4 ex_4 => ?_)
    have hf := hf.trans (nm_eq ex_4)
    refine lv_istore_n (lv' := [(3, .int x_4), (2, .int x_1), (0, .ref (a 7)), (1, .ref (a 6))]) hx hb d_XAr_withWord_37 rfl hl (by decide) rfl (fun ls hl => ?_)
    refine lv_iload_n hx hb d_XAr_withWord_38 rfl (lv_at hl 0 rfl) ?_
    refine lv_if_eq (tgt := 46) hx hb d_XAr_withWord_39 (by decide) (fun c_5 => ?_) (fun c_5 => ?_)
    · have hf := hf.trans (if_pos c_5)
      refine lv_aload_n hx hb d_XAr_withWord_46 rfl (lv_at hl 2 rfl) ?_
      refine lv_iload_n hx hb d_XAr_withWord_47 rfl (lv_at hl 1 rfl) ?_
      refine lv_aload_n hx hb d_XAr_withWord_48 rfl (lv_at hl 3 rfl) ?_
      refine va_getN (v := .int (xF u0 6)) hx hb hts iX_In hown hw.2.1 hw.1 6 rfl rfl 2 (by decide) (va_Nw.use rfl (hw.2.2.2 _ kX_Ar_21).2) (fun _ h => h) rfl d_XAr_withWord_49 ?_
      refine lv_aload_n hx hb d_XAr_withWord_52 rfl (lv_at hl 2 rfl) ?_
      refine va_get (v := .ref (a 1)) hx hb hts iX_Ar hown hw.2.1 hw.1 7 rfl rfl 0 (by decide) (hts _ kX_Ar_9) (fun _ h => h) rfl d_XAr_withWord_53 ?_
      refine va_getN (v := .ref (a 2)) hx hb hts iX_St hown hw.2.1 hw.1 1 rfl rfl 0 (by decide) (va_Nw.use rfl (hw.2.2.2 _ kX_Ar_41).2) (fun _ h => h) rfl d_XAr_withWord_56 ?_
      refine lv_aload_n hx hb d_XAr_withWord_59 rfl (lv_at hl 3 rfl) ?_
      refine va_getN (v := .int (xF u0 9)) hx hb hts iX_In hown hw.2.1 hw.1 6 rfl rfl 5 (by decide) (va_Nw.use rfl (hw.2.2.2 _ kX_Ar_45).2) (fun _ h => h) rfl d_XAr_withWord_60 ?_
      refine z_ri (z_runV (As := [.int (xF u0 9)]) (rest := [.int (xF u0 6), .int x_1, .ref (a 7)]) ⟨hx, hb, hml, hown, hts⟩ (c_XMe_word l D a k u0 (xF u0 9)) (qX_Ar_54 hts (by decide)) hw 2 rfl rfl hl.1 rfl (lv_room (Nat.le_of_ble_eq_true rfl)) d_XAr_withWord_63 hcs) (fun x_6 ex_6 => ?_)
      have hf := hf.trans (nm_eq ex_6)
      refine z_wi (z_runV (As := [.int x_1, .int (xF u0 6), .int x_6]) (rest := []) ⟨hx, hb, hml, hown, hts⟩ (c_XAr_apply l D a k u0 x_1 (xF u0 6) x_6) (qX_Ar_37 hts (by decide)) hw 7 rfl rfl hl.1 rfl (lv_room (Nat.le_of_ble_eq_true rfl)) d_XAr_withWord_66 hcs) hw hS (fun x_8 u_7 H locs ex_8 hw hS => ?_)
      have hf := hf.trans (pr_eq ex_8)
      exact hret x_8 _ _ _ _ _ d_XAr_withWord_69 hw hS hf
    · have hf := hf.trans (if_neg c_5)
      refine lv_iload_n hx hb d_XAr_withWord_42 rfl (lv_at hl 0 rfl) ?_
      refine lv_goto (tgt := 69) hx hb d_XAr_withWord_43 (by decide) ?_
      exact hret x_4 _ _ _ _ _ d_XAr_withWord_69 hw hS hf
  · have hf := hf.trans (if_neg c_3)
    refine lv_bipush (v := (6 : Int32)) hx hb d_XAr_withWord_19 (by decide) ?_
    exact hret (6 : Int32) _ _ _ _ _ d_XAr_withWord_21 hw hS hf
