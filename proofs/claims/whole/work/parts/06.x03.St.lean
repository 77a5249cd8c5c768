def f_XSt_value (u0 : XS) (x1 : Int32) : Int32 := (xR u0 (Int32.toNatClampNeg (x1 &&& (15 : Int32))))
set_option maxHeartbeats 4000000 in
set_option maxRecDepth 100000 in
theorem c_XSt_value (l : Launch) (D : va_G) (a : Nat → Nat) (k : Nat → ClassId) (u0 : XS) (x1 : Int32) : zRi l y_XSt_value w_XSt_value rm_XSt_value D clX (tyX k) nwX (xW a k) [.ref (a 1), .int x1] u0 (f_XSt_value u0 x1) := by
  generalize hF : f_XSt_value u0 x1 = F
  have hf := hF.symm
  unfold f_XSt_value at hf
  refine zRi_of (cc := b_XSt_value) (maxL := 2) (own := RX_St) (by decide) rfl rfl (Nat.le_of_ble_eq_true rfl) ?_
  intro p e R st m args below meth c H locs Q ls hR hx hb hml hown hts hw hret hl
  subst hR
  have hcs : 0 ≤ (rm_XSt_value).cells ∧ 0 ≤ (rm_XSt_value).slots := ⟨Nat.zero_le _, Nat.zero_le _⟩
  have hl : lv_has ls 2 [(0, .ref (a 1)), (1, .int x1)] := hl
  refine lv_aload_n hx hb d_XSt_value_0 rfl (lv_at hl 0 rfl) ?_
  refine va_get (v := .ref (a 4)) hx hb hts iX_St hown hw.2.1 hw.1 1 rfl rfl 1 (by decide) (hts _ kX_St_18) (fun _ h => h) rfl d_XSt_value_1 ?_
  refine lv_iload_n hx hb d_XSt_value_4 rfl (lv_at hl 1 rfl) ?_
  refine lv_bipush (v := (15 : Int32)) hx hb d_XSt_value_5 (by decide) ?_
  refine lv_iand hx hb d_XSt_value_7 ?_
  refine va_iald hx hb hw.2.1 hw.1 4 1 rfl rfl (z_in15 _) d_XSt_value_8 ?_
  exact hret (xR u0 (Int32.toNatClampNeg (x1 &&& (15 : Int32)))) _ _ d_XSt_value_9 hf
def f_XSt_put (u0 : XS) (x1 : Int32) (x2 : Int32) : XS := nm (xsR u0 (Int32.toNatClampNeg (x1 &&& (15 : Int32))) x2) (fun (u_1 : XS) => u_1)
set_option maxHeartbeats 4000000 in
set_option maxRecDepth 100000 in
theorem c_XSt_put (l : Launch) (D : va_G) (a : Nat → Nat) (k : Nat → ClassId) (u0 : XS) (x1 : Int32) (x2 : Int32) : zMv l y_XSt_put w_XSt_put rm_XSt_put D clX (tyX k) nwX (xW a k) [.ref (a 1), .int x1, .int x2] u0 (f_XSt_put u0 x1 x2) := by
  generalize hF : f_XSt_put u0 x1 x2 = F
  have hf := hF.symm
  unfold f_XSt_put at hf
  refine zMv_of (cc := b_XSt_put) (maxL := 3) (own := RX_St) (by decide) rfl rfl (Nat.le_of_ble_eq_true rfl) ?_
  intro p e R st m args below meth c A H locs Q ls hR hx hb hml hown hts hw hS hret hl
  subst hR
  have hcs : 0 ≤ (rm_XSt_put).cells ∧ 0 ≤ (rm_XSt_put).slots := ⟨Nat.zero_le _, Nat.zero_le _⟩
  have hl : lv_has ls 3 [(0, .ref (a 1)), (1, .int x1), (2, .int x2)] := hl
  refine lv_aload_n hx hb d_XSt_put_0 rfl (lv_at hl 0 rfl) ?_
  refine va_get (v := .ref (a 4)) hx hb hts iX_St hown hw.2.1 hw.1 1 rfl rfl 1 (by decide) (hts _ kX_St_18) (fun _ h => h) rfl d_XSt_put_1 ?_
  refine lv_iload_n hx hb d_XSt_put_4 rfl (lv_at hl 1 rfl) ?_
  refine lv_bipush (v := (15 : Int32)) hx hb d_XSt_put_5 (by decide) ?_
  refine lv_iand hx hb d_XSt_put_7 ?_
  refine lv_iload_n hx hb d_XSt_put_8 rfl (lv_at hl 2 rfl) ?_
  refine z_iast (u' := xsR u0 (Int32.toNatClampNeg (x1 &&& (15 : Int32))) x2) hx hb hw hS 4 1 rfl rfl (z_in15 _) rfl d_XSt_put_9 (fun u_1 H locs eu_1 hw hS => ?_)
  have hf := hf.trans (nm_eq eu_1)
  exact hret _ _ _ _ _ d_XSt_put_10 hw hS hf
def f_XSt_conditionBySign (u0 : XS) (y1 : Int64) : XS := if y1 = (0 : Int64) then nm (xsF u0 1 (0 : Int32)) (fun (u_5 : XS) => u_5) else if (0 : Int64) ≤ y1 then nm (xsF u0 1 (2 : Int32)) (fun (u_3 : XS) => u_3) else nm (xsF u0 1 (1 : Int32)) (fun (u_4 : XS) => u_4)
set_option maxHeartbeats 4000000 in
set_option maxRecDepth 100000 in
theorem c_XSt_conditionBySign (l : Launch) (D : va_G) (a : Nat → Nat) (k : Nat → ClassId) (u0 : XS) (y1 : Int64) : zMv l y_XSt_conditionBySign w_XSt_conditionBySign rm_XSt_conditionBySign D clX (tyX k) nwX (xW a k) [.ref (a 1), .long y1] u0 (f_XSt_conditionBySign u0 y1) := by
  generalize hF : f_XSt_conditionBySign u0 y1 = F
  have hf := hF.symm
  unfold f_XSt_conditionBySign at hf
  refine zMv_of (cc := b_XSt_conditionBySign) (maxL := 3) (own := RX_St) (by decide) rfl rfl (Nat.le_of_ble_eq_true rfl) ?_
  intro p e R st m args below meth c A H locs Q ls hR hx hb hml hown hts hw hS hret hl
  subst hR
  have hcs : 0 ≤ (rm_XSt_conditionBySign).cells ∧ 0 ≤ (rm_XSt_conditionBySign).slots := ⟨Nat.zero_le _, Nat.zero_le _⟩
  have hl : lv_has ls 3 [(0, .ref (a 1)), (1, .long y1)] := hl
  refine lv_aload_n hx hb d_XSt_conditionBySign_0 rfl (lv_at hl 0 rfl) ?_
  refine lv_lload_n hx hb d_XSt_conditionBySign_1 rfl (lv_at hl 1 rfl) ?_
  refine lv_lconst (v := 0) hx hb d_XSt_conditionBySign_2 (by decide) ?_
  refine z_lcmp_ne (tgt := 11) hx hb d_XSt_conditionBySign_3 d_XSt_conditionBySign_4 (by decide) (fun c_1 => ?_) (fun c_1 => ?_)
  · have hf := hf.trans (if_neg c_1)
    refine lv_lload_n hx hb d_XSt_conditionBySign_11 rfl (lv_at hl 1 rfl) ?_
    refine lv_lconst (v := 0) hx hb d_XSt_conditionBySign_12 (by decide) ?_
    refine z_lcmp_ge (tgt := 21) hx hb d_XSt_conditionBySign_13 d_XSt_conditionBySign_14 (by decide) (fun c_2 => ?_) (fun c_2 => ?_)
    · have hf := hf.trans (if_pos c_2)
      refine lv_iconst (v := (2 : Int32)) hx hb d_XSt_conditionBySign_21 (by decide) ?_
      refine z_put (u' := xsF u0 1 (2 : Int32)) hx hb hts iX_St tX_St tX_St_ok nX_St hown hw hS 1 rfl rfl 3 (by decide) (hts _ kX_St_26) (fun _ h => h) rfl rfl (Nat.le_of_ble_eq_true rfl) rfl d_XSt_conditionBySign_22 (fun u_3 H locs eu_3 hw hS => ?_)
      have hf := hf.trans (nm_eq eu_3)
      exact hret _ _ _ _ _ d_XSt_conditionBySign_25 hw hS hf
    · have hf := hf.trans (if_neg c_2)
      refine lv_iconst (v := (1 : Int32)) hx hb d_XSt_conditionBySign_17 (by decide) ?_
      refine lv_goto (tgt := 22) hx hb d_XSt_conditionBySign_18 (by decide) ?_
      refine z_put (u' := xsF u0 1 (1 : Int32)) hx hb hts iX_St tX_St tX_St_ok nX_St hown hw hS 1 rfl rfl 3 (by decide) (hts _ kX_St_26) (fun _ h => h) rfl rfl (Nat.le_of_ble_eq_true rfl) rfl d_XSt_conditionBySign_22 (fun u_4 H locs eu_4 hw hS => ?_)
      have hf := hf.trans (nm_eq eu_4)
      exact hret _ _ _ _ _ d_XSt_conditionBySign_25 hw hS hf
  · have hf := hf.trans (if_pos c_1)
    refine lv_iconst (v := (0 : Int32)) hx hb d_XSt_conditionBySign_7 (by decide) ?_
    refine lv_goto (tgt := 22) hx hb d_XSt_conditionBySign_8 (by decide) ?_
    refine z_put (u' := xsF u0 1 (0 : Int32)) hx hb hts iX_St tX_St tX_St_ok nX_St hown hw hS 1 rfl rfl 3 (by decide) (hts _ kX_St_26) (fun _ h => h) rfl rfl (Nat.le_of_ble_eq_true rfl) rfl d_XSt_conditionBySign_22 (fun u_5 H locs eu_5 hw hS => ?_)
    have hf := hf.trans (nm_eq eu_5)
    exact hret _ _ _ _ _ d_XSt_conditionBySign_25 hw hS hf
def f_XSt_fixedOverflow (u0 : XS)  : Int32 × XS := nm (xsF u0 1 (3 : Int32)) (fun (u_1 : XS) => if ((xF u_1 2) &&& (1 : Int32)) = (0 : Int32) then ((0 : Int32), u_1) else ((8 : Int32), u_1))
set_option maxHeartbeats 4000000 in
set_option maxRecDepth 100000 in
theorem c_XSt_fixedOverflow (l : Launch) (D : va_G) (a : Nat → Nat) (k : Nat → ClassId) (u0 : XS)  : zMi l y_XSt_fixedOverflow w_XSt_fixedOverflow rm_XSt_fixedOverflow D clX (tyX k) nwX (xW a k) [.ref (a 1)] u0 (f_XSt_fixedOverflow u0) := by
  generalize hF : f_XSt_fixedOverflow u0 = F
  have hf := hF.symm
  unfold f_XSt_fixedOverflow at hf
  refine zMi_of (cc := b_XSt_fixedOverflow) (maxL := 1) (own := RX_St) (by decide) rfl rfl (Nat.le_of_ble_eq_true rfl) ?_
  intro p e R st m args below meth c A H locs Q ls hR hx hb hml hown hts hw hS hret hl
  subst hR
  have hcs : 0 ≤ (rm_XSt_fixedOverflow).cells ∧ 0 ≤ (rm_XSt_fixedOverflow).slots := ⟨Nat.zero_le _, Nat.zero_le _⟩
  have hl : lv_has ls 1 [(0, .ref (a 1))] := hl
  refine lv_aload_n hx hb d_XSt_fixedOverflow_0 rfl (lv_at hl 0 rfl) ?_
  refine lv_iconst (v := (3 : Int32)) hx hb d_XSt_fixedOverflow_1 (by decide) ?_
  refine z_put (u' := xsF u0 1 (3 : Int32)) hx hb hts iX_St tX_St tX_St_ok nX_St hown hw hS 1 rfl rfl 3 (by decide) (hts _ kX_St_26) (fun _ h => h) rfl rfl (Nat.le_of_ble_eq_true rfl) rfl d_XSt_fixedOverflow_2 (fun u_1 H locs eu_1 hw hS => ?_)
  have hf := hf.trans (nm_eq eu_1)
  refine lv_aload_n hx hb d_XSt_fixedOverflow_5 rfl (lv_at hl 0 rfl) ?_
  refine va_get (v := .int (xF u_1 2)) hx hb hts iX_St hown hw.2.1 hw.1 1 rfl rfl 4 (by decide) (hts _ kX_St_29) (fun _ h => h) rfl d_XSt_fixedOverflow_6 ?_
  refine lv_iconst (v := (1 : Int32)) hx hb d_XSt_fixedOverflow_9 (by decide) ?_
  refine lv_iand hx hb d_XSt_fixedOverflow_10 ?_
  refine lv_if_eq (tgt := 19) hx hb d_XSt_fixedOverflow_11 (by decide) (fun c_2 => ?_) (fun c_2 => ?_)
  · have hf := hf.trans (if_pos c_2)
    refine lv_iconst (v := (0 : Int32)) hx hb d_XSt_fixedOverflow_19 (by decide) ?_
    exact hret (0 : Int32) _ _ _ _ _ d_XSt_fixedOverflow_20 hw hS hf
  · have hf := hf.trans (if_neg c_2)
    refine lv_bipush (v := (8 : Int32)) hx hb d_XSt_fixedOverflow_14 (by decide) ?_
    refine lv_goto (tgt := 20) hx hb d_XSt_fixedOverflow_16 (by decide) ?_
    exact hret (8 : Int32) _ _ _ _ _ d_XSt_fixedOverflow_20 hw hS hf
