def f_XSt_conditionByBits (u0 : XS) (x1 : Int32) : XS := if x1 = (0 : Int32) then nm (xsF u0 1 (0 : Int32)) (fun (u_3 : XS) => u_3) else nm (xsF u0 1 (1 : Int32)) (fun (u_2 : XS) => u_2)
set_option maxHeartbeats 4000000 in
set_option maxRecDepth 100000 in
theorem c_XSt_conditionByBits (l : Launch) (D : va_G) (a : Nat → Nat) (k : Nat → ClassId) (u0 : XS) (x1 : Int32) : zMv l y_XSt_conditionByBits w_XSt_conditionByBits rm_XSt_conditionByBits D clX (tyX k) nwX (xW a k) [.ref (a 1), .int x1] u0 (f_XSt_conditionByBits u0 x1) := by
  generalize hF : f_XSt_conditionByBits u0 x1 = F
  have hf := hF.symm
  unfold f_XSt_conditionByBits at hf
  refine zMv_of (cc := b_XSt_conditionByBits) (maxL := 2) (own := RX_St) (by decide) rfl rfl (Nat.le_of_ble_eq_true rfl) ?_
  intro p e R st m args below meth c A H locs Q ls hR hx hb hml hown hts hw hS hret hl
  subst hR
  have hcs : 0 ≤ (rm_XSt_conditionByBits).cells ∧ 0 ≤ (rm_XSt_conditionByBits).slots := ⟨Nat.zero_le _, Nat.zero_le _⟩
  have hl : lv_has ls 2 [(0, .ref (a 1)), (1, .int x1)] := hl
  refine lv_aload_n hx hb d_XSt_conditionByBits_0 rfl (lv_at hl 0 rfl) ?_
  refine lv_iload_n hx hb d_XSt_conditionByBits_1 rfl (lv_at hl 1 rfl) ?_
  refine lv_if_ne (tgt := 9) hx hb d_XSt_conditionByBits_2 (by decide) (fun c_1 => ?_) (fun c_1 => ?_)
  · have hf := hf.trans (if_neg c_1)
    refine lv_iconst (v := (1 : Int32)) hx hb d_XSt_conditionByBits_9 (by decide) ?_
    refine z_put (u' := xsF u0 1 (1 : Int32)) hx hb hts iX_St tX_St tX_St_ok nX_St hown hw hS 1 rfl rfl 3 (by decide) (hts _ kX_St_26) (fun _ h => h) rfl rfl (Nat.le_of_ble_eq_true rfl) rfl d_XSt_conditionByBits_10 (fun u_2 H locs eu_2 hw hS => ?_)
    have hf := hf.trans (nm_eq eu_2)
    exact hret _ _ _ _ _ d_XSt_conditionByBits_13 hw hS hf
  · have hf := hf.trans (if_pos c_1)
    refine lv_iconst (v := (0 : Int32)) hx hb d_XSt_conditionByBits_5 (by decide) ?_
    refine lv_goto (tgt := 10) hx hb d_XSt_conditionByBits_6 (by decide) ?_
    refine z_put (u' := xsF u0 1 (0 : Int32)) hx hb hts iX_St tX_St tX_St_ok nX_St hown hw hS 1 rfl rfl 3 (by decide) (hts _ kX_St_26) (fun _ h => h) rfl rfl (Nat.le_of_ble_eq_true rfl) rfl d_XSt_conditionByBits_10 (fun u_3 H locs eu_3 hw hS => ?_)
    have hf := hf.trans (nm_eq eu_3)
    exact hret _ _ _ _ _ d_XSt_conditionByBits_13 hw hS hf
