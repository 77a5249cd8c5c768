def f_XSt_decimalOverflow (u0 : XS)  : Int32 × XS := nm (xsF u0 1 (3 : Int32)) (fun (u_1 : XS) => if ((xF u_1 2) &&& (2 : Int32)) = (0 : Int32) then ((0 : Int32), u_1) else ((10 : Int32), u_1))
set_option maxHeartbeats 4000000 in
set_option maxRecDepth 100000 in
theorem c_XSt_decimalOverflow (l : Launch) (D : va_G) (a : Nat → Nat) (k : Nat → ClassId) (u0 : XS)  : zMi l y_XSt_decimalOverflow w_XSt_decimalOverflow rm_XSt_decimalOverflow D clX (tyX k) nwX (xW a k) [.ref (a 1)] u0 (f_XSt_decimalOverflow u0) := by
  generalize hF : f_XSt_decimalOverflow u0 = F
  have hf := hF.symm
  unfold f_XSt_decimalOverflow at hf
  refine zMi_of (cc := b_XSt_decimalOverflow) (maxL := 1) (own := RX_St) (by decide) rfl rfl (Nat.le_of_ble_eq_true rfl) ?_
  intro p e R st m args below meth c A H locs Q ls hR hx hb hml hown hts hw hS hret hl
  subst hR
  have hcs : 0 ≤ (rm_XSt_decimalOverflow).cells ∧ 0 ≤ (rm_XSt_decimalOverflow).slots := ⟨Nat.zero_le _, Nat.zero_le _⟩
  have hl : lv_has ls 1 [(0, .ref (a 1))] := hl
  refine lv_aload_n hx hb d_XSt_decimalOverflow_0 rfl (lv_at hl 0 rfl) ?_
  refine lv_iconst (v := (3 : Int32)) hx hb d_XSt_decimalOverflow_1 (by decide) ?_
  refine z_put (u' := xsF u0 1 (3 : Int32)) hx hb hts iX_St tX_St tX_St_ok nX_St hown hw hS 1 rfl rfl 3 (by decide) (hts _ kX_St_26) (fun _ h => h) rfl rfl (Nat.le_of_ble_eq_true rfl) rfl d_XSt_decimalOverflow_2 (fun u_1 H locs eu_1 hw hS => ?_)
  have hf := hf.trans (nm_eq eu_1)
  refine lv_aload_n hx hb d_XSt_decimalOverflow_5 rfl (lv_at hl 0 rfl) ?_
  refine va_get (v := .int (xF u_1 2)) hx hb hts iX_St hown hw.2.1 hw.1 1 rfl rfl 4 (by decide) (hts _ kX_St_29) (fun _ h => h) rfl d_XSt_decimalOverflow_6 ?_
  refine lv_iconst (v := (2 : Int32)) hx hb d_XSt_decimalOverflow_9 (by decide) ?_
  refine lv_iand hx hb d_XSt_decimalOverflow_10 ?_
  refine lv_if_eq (tgt := 19) hx hb d_XSt_decimalOverflow_11 (by decide) (fun c_2 => ?_) (fun c_2 => ?_)
  · have hf := hf.trans (if_pos c_2)
    refine lv_iconst (v := (0 : Int32)) hx hb d_XSt_decimalOverflow_19 (by decide) ?_
    exact hret (0 : Int32) _ _ _ _ _ d_XSt_decimalOverflow_20 hw hS hf
  · have hf := hf.trans (if_neg c_2)
    refine lv_bipush (v := (10 : Int32)) hx hb d_XSt_decimalOverflow_14 (by decide) ?_
    refine lv_goto (tgt := 20) hx hb d_XSt_decimalOverflow_16 (by decide) ?_
    exact hret (10 : Int32) _ _ _ _ _ d_XSt_decimalOverflow_20 hw hS hf
