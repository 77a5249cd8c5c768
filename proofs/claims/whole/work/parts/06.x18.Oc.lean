def f_XOc_testBits (u0 : XS) (x1 : Int32) (x2 : Int32) : XS := nm (x1 &&& x2) (fun (x_1 : Int32) => if x_1 = (0 : Int32) then nm (xsF u0 1 (0 : Int32)) (fun (u_6 : XS) => u_6) else if x_1 = x2 then nm (xsF u0 1 (3 : Int32)) (fun (u_5 : XS) => u_5) else nm (xsF u0 1 (1 : Int32)) (fun (u_4 : XS) => u_4))
set_option maxHeartbeats 4000000 in
set_option maxRecDepth 100000 in
theorem c_XOc_testBits (l : Launch) (D : va_G) (a : Nat → Nat) (k : Nat → ClassId) (u0 : XS) (x1 : Int32) (x2 : Int32) : zMv l y_XOc_testBits w_XOc_testBits rm_XOc_testBits D clX (tyX k) nwX (xW a k) [.ref (a 10), .int x1, .int x2] u0 (f_XOc_testBits u0 x1 x2) := by
  generalize hF : f_XOc_testBits u0 x1 x2 = F
  have hf := hF.symm
  unfold f_XOc_testBits at hf
  refine zMv_of (cc := b_XOc_testBits) (maxL := 4) (own := RX_Oc) (by decide) rfl rfl (Nat.le_of_ble_eq_true rfl) ?_
  intro p e R st m args below meth c A H locs Q ls hR hx hb hml hown hts hw hS hret hl
  subst hR
  have hcs : 0 ≤ (rm_XOc_testBits).cells ∧ 0 ≤ (rm_XOc_testBits).slots := ⟨Nat.zero_le _, Nat.zero_le _⟩
  have hl : lv_has ls 4 [(0, .ref (a 10)), (1, .int x1), (2, .int x2)] := hl
  refine lv_iload_n hx hb d_XOc_testBits_0 rfl (lv_at hl 1 rfl) ?_
  refine lv_iload_n hx hb d_XOc_testBits_1 rfl (lv_at hl 2 rfl) ?_
  refine lv_iand hx hb d_XOc_testBits_2 ?_
  refine lv_topi (fun x_1 ex_1 => ?_)
  have hf := hf.trans (nm_eq ex_1)
  refine lv_istore_n (lv' := [(3, .int x_1), (0, .ref (a 10)), (1, .int x1), (2, .int x2)]) hx hb d_XOc_testBits_3 rfl hl (by decide) rfl (fun ls hl => ?_)
  refine lv_aload_n hx hb d_XOc_testBits_4 rfl (lv_at hl 1 rfl) ?_
  refine va_get (v := .ref (a 1)) hx hb hts iX_Oc hown hw.2.1 hw.1 10 rfl rfl 0 (by decide) (hts _ kX_Oc_9) (fun _ h => h) rfl d_XOc_testBits_5 ?_
  refine lv_iload_n hx hb d_XOc_testBits_8 rfl (lv_at hl 0 rfl) ?_
  refine lv_if_ne (tgt := 16) hx hb d_XOc_testBits_9 (by decide) (fun c_2 => ?_) (fun c_2 => ?_)
  · have hf := hf.trans (if_neg c_2)
    refine lv_iload_n hx hb d_XOc_testBits_16 rfl (lv_at hl 0 rfl) ?_
    refine lv_iload_n hx hb d_XOc_testBits_17 rfl (lv_at hl 3 rfl) ?_
    refine lv_icmp_ne (tgt := 25) hx hb d_XOc_testBits_18 (by decide) (fun c_3 => ?_) (fun c_3 => ?_)
    · have hf := hf.trans (if_neg c_3)
      refine lv_iconst (v := (1 : Int32)) hx hb d_XOc_testBits_25 (by decide) ?_
      refine z_putN (u' := xsF u0 1 (1 : Int32)) hx hb hts iX_St tX_St tX_St_ok nX_St hown hw hS 1 rfl rfl 3 (by decide) (va_Nw.use rfl (hw.2.2.2 _ kX_Oc_72).2) (fun _ h => h) rfl rfl (Nat.le_of_ble_eq_true rfl) rfl d_XOc_testBits_26 (fun u_4 H locs eu_4 hw hS => ?_)
      have hf := hf.trans (nm_eq eu_4)
      exact hret _ _ _ _ _ d_XOc_testBits_29 hw hS hf
    · have hf := hf.trans (if_pos c_3)
      refine lv_iconst (v := (3 : Int32)) hx hb d_XOc_testBits_21 (by decide) ?_
      refine lv_goto (tgt := 26) hx hb d_XOc_testBits_22 (by decide) ?_
      refine z_putN (u' := xsF u0 1 (3 : Int32)) hx hb hts iX_St tX_St tX_St_ok nX_St hown hw hS 1 rfl rfl 3 (by decide) (va_Nw.use rfl (hw.2.2.2 _ kX_Oc_72).2) (fun _ h => h) rfl rfl (Nat.le_of_ble_eq_true rfl) rfl d_XOc_testBits_26 (fun u_5 H locs eu_5 hw hS => ?_)
      have hf := hf.trans (nm_eq eu_5)
      exact hret _ _ _ _ _ d_XOc_testBits_29 hw hS hf
  · have hf := hf.trans (if_pos c_2)
    refine lv_iconst (v := (0 : Int32)) hx hb d_XOc_testBits_12 (by decide) ?_
    refine lv_goto (tgt := 26) hx hb d_XOc_testBits_13 (by decide) ?_
    refine z_putN (u' := xsF u0 1 (0 : Int32)) hx hb hts iX_St tX_St tX_St_ok nX_St hown hw hS 1 rfl rfl 3 (by decide) (va_Nw.use rfl (hw.2.2.2 _ kX_Oc_72).2) (fun _ h => h) rfl rfl (Nat.le_of_ble_eq_true rfl) rfl d_XOc_testBits_26 (fun u_6 H locs eu_6 hw hS => ?_)
    have hf := hf.trans (nm_eq eu_6)
    exact hret _ _ _ _ _ d_XOc_testBits_29 hw hS hf
def f_XOc_putBits (u0 : XS) (x1 : Int32) (x2 : Int32) : Int32 × XS := nm (f_XMe_put u0 x1 x2) (fun (u_1 : XS) => nm (f_XSt_conditionByBits u_1 x2) (fun (u_2 : XS) => ((0 : Int32), u_2)))
set_option maxHeartbeats 4000000 in
set_option maxRecDepth 100000 in
theorem c_XOc_putBits (l : Launch) (D : va_G) (a : Nat → Nat) (k : Nat → ClassId) (u0 : XS) (x1 : Int32) (x2 : Int32) : zMi l y_XOc_putBits w_XOc_putBits rm_XOc_putBits D clX (tyX k) nwX (xW a k) [.ref (a 10), .int x1, .int x2] u0 (f_XOc_putBits u0 x1 x2) := by
  generalize hF : f_XOc_putBits u0 x1 x2 = F
  have hf := hF.symm
  unfold f_XOc_putBits at hf
  refine zMi_of (cc := b_XOc_putBits) (maxL := 3) (own := RX_Oc) (by decide) rfl rfl (Nat.le_of_ble_eq_true rfl) ?_
  intro p e R st m args below meth c A H locs Q ls hR hx hb hml hown hts hw hS hret hl
  subst hR
  have hcs : 0 ≤ (rm_XOc_putBits).cells ∧ 0 ≤ (rm_XOc_putBits).slots := ⟨Nat.zero_le _, Nat.zero_le _⟩
  have hl : lv_has ls 3 [(0, .ref (a 10)), (1, .int x1), (2, .int x2)] := hl
  refine lv_aload_n hx hb d_XOc_putBits_0 rfl (lv_at hl 0 rfl) ?_
  refine va_get (v := .ref (a 2)) hx hb hts iX_Oc hown hw.2.1 hw.1 10 rfl rfl 1 (by decide) (hts _ kX_Oc_21) (fun _ h => h) rfl d_XOc_putBits_1 ?_
  refine lv_iload_n hx hb d_XOc_putBits_4 rfl (lv_at hl 1 rfl) ?_
  refine lv_iload_n hx hb d_XOc_putBits_5 rfl (lv_at hl 2 rfl) ?_
  refine z_wv (z_runV (As := [.int x1, .int x2]) (rest := []) ⟨hx, hb, hml, hown, hts⟩ (c_XMe_put l D a k u0 x1 x2) (qX_Oc_48 hts (by decide)) hw 2 rfl rfl hl.1 rfl (lv_room (Nat.le_of_ble_eq_true rfl)) d_XOc_putBits_6 hcs) hw hS (fun u_1 H locs eu_1 hw hS => ?_)
  have hf := hf.trans (nm_eq eu_1)
  refine lv_aload_n hx hb d_XOc_putBits_9 rfl (lv_at hl 0 rfl) ?_
  refine va_get (v := .ref (a 1)) hx hb hts iX_Oc hown hw.2.1 hw.1 10 rfl rfl 0 (by decide) (hts _ kX_Oc_9) (fun _ h => h) rfl d_XOc_putBits_10 ?_
  refine lv_iload_n hx hb d_XOc_putBits_13 rfl (lv_at hl 2 rfl) ?_
  refine z_wv (z_runV (As := [.int x2]) (rest := []) ⟨hx, hb, hml, hown, hts⟩ (c_XSt_conditionByBits l D a k u_1 x2) (qX_Oc_75 hts (by decide)) hw 1 rfl rfl hl.1 rfl (lv_room (Nat.le_of_ble_eq_true rfl)) d_XOc_putBits_14 hcs) hw hS (fun u_2 H locs eu_2 hw hS => ?_)
  have hf := hf.trans (nm_eq eu_2)
  refine lv_iconst (v := (0 : Int32)) hx hb d_XOc_putBits_17 (by decide) ?_
  exact hret (0 : Int32) _ _ _ _ _ d_XOc_putBits_18 hw hS hf
def f_XOc_withImmediate (u0 : XS)  : Int32 × XS := nm (f_XMe_holds u0 (xF u0 8) (1 : Int32)) (fun (z_1 : Bool) => if (bI z_1) = (0 : Int32) then ((5 : Int32), u0) else nm (f_XMe_get u0 (xF u0 8)) (fun (x_3 : Int32) => nm (xF u0 4) (fun (x_4 : Int32) => jn (fun (K_5 : Int32 × XS) => if x_4 = (145 : Int32) then nm (f_XOc_testBits u0 x_3 (xF u0 5)) (fun (u_9 : XS) => ((0 : Int32), u_9)) else if x_4 = (146 : Int32) then nm (f_XMe_put u0 (xF u0 8) (xF u0 5)) (fun (u_11 : XS) => ((0 : Int32), u_11)) else if x_4 = (148 : Int32) then pr (f_XOc_putBits u0 (xF u0 8) (x_3 &&& (xF u0 5))) (fun (x_15 : Int32) (u_14 : XS) => (x_15, u_14)) else if x_4 = (149 : Int32) then nm (f_XSt_conditionBySign u0 (Int32.toInt64 (x_3 - (xF u0 5)))) (fun (u_17 : XS) => ((0 : Int32), u_17)) else if x_4 = (150 : Int32) then pr (f_XOc_putBits u0 (xF u0 8) (x_3 ||| (xF u0 5))) (fun (x_20 : Int32) (u_19 : XS) => (x_20, u_19)) else K_5) (pr (f_XOc_putBits u0 (xF u0 8) (x_3 ^^^ (xF u0 5))) (fun (x_7 : Int32) (u_6 : XS) => (x_7, u_6))))))
set_option maxHeartbeats 4000000 in
set_option maxRecDepth 100000 in
theorem c_XOc_withImmediate (l : Launch) (D : va_G) (a : Nat → Nat) (k : Nat → ClassId) (u0 : XS)  : zMi l y_XOc_withImmediate w_XOc_withImmediate rm_XOc_withImmediate D clX (tyX k) nwX (xW a k) [.ref (a 10), .ref (a 6)] u0 (f_XOc_withImmediate u0) := by
  generalize hF : f_XOc_withImmediate u0 = F
  have hf := hF.symm
  unfold f_XOc_withImmediate at hf
  refine zMi_of (cc := b_XOc_withImmediate) (maxL := 3) (own := RX_Oc) (by decide) rfl rfl (Nat.le_of_ble_eq_true rfl) ?_
  intro p e R st m args below meth c A H locs Q ls hR hx hb hml hown hts hw hS hret hl
  subst hR
  have hcs : 0 ≤ (rm_XOc_withImmediate).cells ∧ 0 ≤ (rm_XOc_withImmediate).slots := ⟨Nat.zero_le _, Nat.zero_le _⟩
  have hl : lv_has ls 3 [(0, .ref (a 10)), (1, .ref (a 6))] := hl
  refine lv_aload_n hx hb d_XOc_withImmediate_0 rfl (lv_at hl 0 rfl) ?_
  refine va_get (v := .ref (a 2)) hx hb hts iX_Oc hown hw.2.1 hw.1 10 rfl rfl 1 (by decide) (hts _ kX_Oc_21) (fun _ h => h) rfl d_XOc_withImmediate_1 ?_
  refine lv_aload_n hx hb d_XOc_withImmediate_4 rfl (lv_at hl 1 rfl) ?_
  refine va_getN (v := .int (xF u0 8)) hx hb hts iX_In hown hw.2.1 hw.1 6 rfl rfl 4 (by decide) (va_Nw.use rfl (hw.2.2.2 _ kX_Oc_22).2) (fun _ h => h) rfl d_XOc_withImmediate_5 ?_
  refine lv_iconst (v := (1 : Int32)) hx hb d_XOc_withImmediate_8 (by decide) ?_
  refine z_rz (z_runV (As := [.int (xF u0 8), .int (1 : Int32)]) (rest := []) ⟨hx, hb, hml, hown, hts⟩ (c_XMe_holds l D a k u0 (xF u0 8) (1 : Int32)) (qX_Oc_28 hts (by decide)) hw 2 rfl rfl hl.1 rfl (lv_room (Nat.le_of_ble_eq_true rfl)) d_XOc_withImmediate_9 hcs) (fun z_1 ez_1 => ?_)
  have hf := hf.trans (nm_eq ez_1)
  refine lv_if_ne (tgt := 17) hx hb d_XOc_withImmediate_12 (by decide) (fun c_2 => ?_) (fun c_2 => ?_)
  · have hf := hf.trans (if_neg c_2)
    refine lv_aload_n hx hb d_XOc_withImmediate_17 rfl (lv_at hl 0 rfl) ?_
    refine va_get (v := .ref (a 2)) hx hb hts iX_Oc hown hw.2.1 hw.1 10 rfl rfl 1 (by decide) (hts _ kX_Oc_21) (fun _ h => h) rfl d_XOc_withImmediate_18 ?_
    refine lv_aload_n hx hb d_XOc_withImmediate_21 rfl (lv_at hl 1 rfl) ?_
    refine va_getN (v := .int (xF u0 8)) hx hb hts iX_In hown hw.2.1 hw.1 6 rfl rfl 4 (by decide) (va_Nw.use rfl (hw.2.2.2 _ kX_Oc_22).2) (fun _ h => h) rfl d_XOc_withImmediate_22 ?_
    refine z_ri (z_runV (As := [.int (xF u0 8)]) (rest := []) ⟨hx, hb, hml, hown, hts⟩ (c_XMe_get l D a k u0 (xF u0 8)) (qX_Oc_34 hts (by decide)) hw 2 rfl rfl hl.1 rfl (lv_room (Nat.le_of_ble_eq_true rfl)) d_XOc_withImmediate_25 hcs) (fun x_3 ex_3 => ?_)
    have hf := hf.trans (nm_eq ex_3)
    refine lv_istore_n (lv' := [(2, .int x_3), (0, .ref (a 10)), (1, .ref (a 6))]) hx hb d_XOc_withImmediate_28 rfl hl (by decide) rfl (fun ls hl => ?_)
    refine lv_aload_n hx hb d_XOc_withImmediate_29 rfl (lv_at hl 2 rfl) ?_
    refine va_getN (v := .int (xF u0 4)) hx hb hts iX_In hown hw.2.1 hw.1 6 rfl rfl 0 (by decide) (va_Nw.use rfl (hw.2.2.2 _ kX_Oc_38).2) (fun _ h => h) rfl d_XOc_withImmediate_30 ?_
    refine lv_topi (fun x_4 ex_4 => ?_)
    have hf := hf.trans (nm_eq ex_4)
    refine jn_cut hf (fun (K_5 : Int32 × XS) => ∀ (ls : Array Slot), lv_has ls 3 [(0, .ref (a 10)), (1, .ref (a 6)), (2, .int x_3)] → F = K_5 → W p l e rm_XOc_withImmediate st m args below meth c H locs 0 0 Q (F0 m 146 ls [])) ?_ ?_
    · intro ls hl hf
      refine lv_aload_n hx hb d_XOc_withImmediate_146 rfl (lv_at hl 0 rfl) ?_
      refine lv_aload_n hx hb d_XOc_withImmediate_147 rfl (lv_at hl 1 rfl) ?_
      refine va_getN (v := .int (xF u0 8)) hx hb hts iX_In hown hw.2.1 hw.1 6 rfl rfl 4 (by decide) (va_Nw.use rfl (hw.2.2.2 _ kX_Oc_22).2) (fun _ h => h) rfl d_XOc_withImmediate_148 ?_
      refine lv_iload_n hx hb d_XOc_withImmediate_151 rfl (lv_at hl 2 rfl) ?_
      refine lv_aload_n hx hb d_XOc_withImmediate_152 rfl (lv_at hl 1 rfl) ?_
      refine va_getN (v := .int (xF u0 5)) hx hb hts iX_In hown hw.2.1 hw.1 6 rfl rfl 1 (by decide) (va_Nw.use rfl (hw.2.2.2 _ kX_Oc_41).2) (fun _ h => h) rfl d_XOc_withImmediate_153 ?_
      refine lv_ixor hx hb d_XOc_withImmediate_156 ?_
      refine z_wi (z_runV (As := [.int (xF u0 8), .int (x_3 ^^^ (xF u0 5))]) (rest := []) ⟨hx, hb, hml, hown, hts⟩ (c_XOc_putBits l D a k u0 (xF u0 8) (x_3 ^^^ (xF u0 5))) (qX_Oc_51 hts (by decide)) hw 10 rfl rfl hl.1 rfl (lv_room (Nat.le_of_ble_eq_true rfl)) d_XOc_withImmediate_157 hcs) hw hS (fun x_7 u_6 H locs ex_7 hw hS => ?_)
      have hf := hf.trans (pr_eq ex_7)
      exact hret x_7 _ _ _ _ _ d_XOc_withImmediate_160 hw hS hf
    · intro K_5 hK_5 hf
      by_cases c_8 : x_4 = (145 : Int32)
      · have hf := hf.trans (if_pos c_8)
        refine lv_tableIn (off := 39) (tgt := 72) hx hb d_XOc_withImmediate_33 (by rw [c_8]; decide +kernel) (by rw [c_8]; decide +kernel) (by rw [c_8]; decide +kernel) (by decide) ?_
        refine lv_aload_n hx hb d_XOc_withImmediate_72 rfl (lv_at hl 1 rfl) ?_
        refine lv_iload_n hx hb d_XOc_withImmediate_73 rfl (lv_at hl 0 rfl) ?_
        refine lv_aload_n hx hb d_XOc_withImmediate_74 rfl (lv_at hl 2 rfl) ?_
        refine va_getN (v := .int (xF u0 5)) hx hb hts iX_In hown hw.2.1 hw.1 6 rfl rfl 1 (by decide) (va_Nw.use rfl (hw.2.2.2 _ kX_Oc_41).2) (fun _ h => h) rfl d_XOc_withImmediate_75 ?_
        refine z_wv (z_runV (As := [.int x_3, .int (xF u0 5)]) (rest := []) ⟨hx, hb, hml, hown, hts⟩ (c_XOc_testBits l D a k u0 x_3 (xF u0 5)) (qX_Oc_44 hts (by decide)) hw 10 rfl rfl hl.1 rfl (lv_room (Nat.le_of_ble_eq_true rfl)) d_XOc_withImmediate_78 hcs) hw hS (fun u_9 H locs eu_9 hw hS => ?_)
        have hf := hf.trans (nm_eq eu_9)
        refine lv_iconst (v := (0 : Int32)) hx hb d_XOc_withImmediate_81 (by decide) ?_
        exact hret (0 : Int32) _ _ _ _ _ d_XOc_withImmediate_82 hw hS hf
      have hf := hf.trans (if_neg c_8)
      by_cases c_10 : x_4 = (146 : Int32)
      · have hf := hf.trans (if_pos c_10)
        refine lv_tableIn (off := 50) (tgt := 83) hx hb d_XOc_withImmediate_33 (by rw [c_10]; decide +kernel) (by rw [c_10]; decide +kernel) (by rw [c_10]; decide +kernel) (by decide) ?_
        refine lv_aload_n hx hb d_XOc_withImmediate_83 rfl (lv_at hl 1 rfl) ?_
        refine va_get (v := .ref (a 2)) hx hb hts iX_Oc hown hw.2.1 hw.1 10 rfl rfl 1 (by decide) (hts _ kX_Oc_21) (fun _ h => h) rfl d_XOc_withImmediate_84 ?_
        refine lv_aload_n hx hb d_XOc_withImmediate_87 rfl (lv_at hl 2 rfl) ?_
        refine va_getN (v := .int (xF u0 8)) hx hb hts iX_In hown hw.2.1 hw.1 6 rfl rfl 4 (by decide) (va_Nw.use rfl (hw.2.2.2 _ kX_Oc_22).2) (fun _ h => h) rfl d_XOc_withImmediate_88 ?_
        refine lv_aload_n hx hb d_XOc_withImmediate_91 rfl (lv_at hl 2 rfl) ?_
        refine va_getN (v := .int (xF u0 5)) hx hb hts iX_In hown hw.2.1 hw.1 6 rfl rfl 1 (by decide) (va_Nw.use rfl (hw.2.2.2 _ kX_Oc_41).2) (fun _ h => h) rfl d_XOc_withImmediate_92 ?_
        refine z_wv (z_runV (As := [.int (xF u0 8), .int (xF u0 5)]) (rest := []) ⟨hx, hb, hml, hown, hts⟩ (c_XMe_put l D a k u0 (xF u0 8) (xF u0 5)) (qX_Oc_48 hts (by decide)) hw 2 rfl rfl hl.1 rfl (lv_room (Nat.le_of_ble_eq_true rfl)) d_XOc_withImmediate_95 hcs) hw hS (fun u_11 H locs eu_11 hw hS => ?_)
        have hf := hf.trans (nm_eq eu_11)
        refine lv_iconst (v := (0 : Int32)) hx hb d_XOc_withImmediate_98 (by decide) ?_
        exact hret (0 : Int32) _ _ _ _ _ d_XOc_withImmediate_99 hw hS hf
      have hf := hf.trans (if_neg c_10)
      by_cases c_12 : x_4 = (147 : Int32)
      · have hf := hf.trans (if_neg (by rw [c_12]; decide))
        have hf := hf.trans (if_neg (by rw [c_12]; decide))
        have hf := hf.trans (if_neg (by rw [c_12]; decide))
        refine lv_tableIn (off := 113) (tgt := 146) hx hb d_XOc_withImmediate_33 (by rw [c_12]; decide +kernel) (by rw [c_12]; decide +kernel) (by rw [c_12]; decide +kernel) (by decide) ?_
        exact hK_5 _ (lv_sub hl [1, 2, 0] rfl) hf
      by_cases c_13 : x_4 = (148 : Int32)
      · have hf := hf.trans (if_pos c_13)
        refine lv_tableIn (off := 67) (tgt := 100) hx hb d_XOc_withImmediate_33 (by rw [c_13]; decide +kernel) (by rw [c_13]; decide +kernel) (by rw [c_13]; decide +kernel) (by decide) ?_
        refine lv_aload_n hx hb d_XOc_withImmediate_100 rfl (lv_at hl 1 rfl) ?_
        refine lv_aload_n hx hb d_XOc_withImmediate_101 rfl (lv_at hl 2 rfl) ?_
        refine va_getN (v := .int (xF u0 8)) hx hb hts iX_In hown hw.2.1 hw.1 6 rfl rfl 4 (by decide) (va_Nw.use rfl (hw.2.2.2 _ kX_Oc_22).2) (fun _ h => h) rfl d_XOc_withImmediate_102 ?_
        refine lv_iload_n hx hb d_XOc_withImmediate_105 rfl (lv_at hl 0 rfl) ?_
        refine lv_aload_n hx hb d_XOc_withImmediate_106 rfl (lv_at hl 2 rfl) ?_
        refine va_getN (v := .int (xF u0 5)) hx hb hts iX_In hown hw.2.1 hw.1 6 rfl rfl 1 (by decide) (va_Nw.use rfl (hw.2.2.2 _ kX_Oc_41).2) (fun _ h => h) rfl d_XOc_withImmediate_107 ?_
        refine lv_iand hx hb d_XOc_withImmediate_110 ?_
        refine z_wi (z_runV (As := [.int (xF u0 8), .int (x_3 &&& (xF u0 5))]) (rest := []) ⟨hx, hb, hml, hown, hts⟩ (c_XOc_putBits l D a k u0 (xF u0 8) (x_3 &&& (xF u0 5))) (qX_Oc_51 hts (by decide)) hw 10 rfl rfl hl.1 rfl (lv_room (Nat.le_of_ble_eq_true rfl)) d_XOc_withImmediate_111 hcs) hw hS (fun x_15 u_14 H locs ex_15 hw hS => ?_)
        have hf := hf.trans (pr_eq ex_15)
        exact hret x_15 _ _ _ _ _ d_XOc_withImmediate_114 hw hS hf
      have hf := hf.trans (if_neg c_13)
      by_cases c_16 : x_4 = (149 : Int32)
      · have hf := hf.trans (if_pos c_16)
        refine lv_tableIn (off := 82) (tgt := 115) hx hb d_XOc_withImmediate_33 (by rw [c_16]; decide +kernel) (by rw [c_16]; decide +kernel) (by rw [c_16]; decide +kernel) (by decide) ?_
        refine lv_aload_n hx hb d_XOc_withImmediate_115 rfl (lv_at hl 1 rfl) ?_
        refine va_get (v := .ref (a 1)) hx hb hts iX_Oc hown hw.2.1 hw.1 10 rfl rfl 0 (by decide) (hts _ kX_Oc_9) (fun _ h => h) rfl d_XOc_withImmediate_116 ?_
        refine lv_iload_n hx hb d_XOc_withImmediate_119 rfl (lv_at hl 0 rfl) ?_
        refine lv_aload_n hx hb d_XOc_withImmediate_120 rfl (lv_at hl 2 rfl) ?_
        refine va_getN (v := .int (xF u0 5)) hx hb hts iX_In hown hw.2.1 hw.1 6 rfl rfl 1 (by decide) (va_Nw.use rfl (hw.2.2.2 _ kX_Oc_41).2) (fun _ h => h) rfl d_XOc_withImmediate_121 ?_
        refine lv_isub hx hb d_XOc_withImmediate_124 ?_
        refine lv_i2l (v := Int32.toInt64 (x_3 - (xF u0 5))) hx hb d_XOc_withImmediate_125 rfl ?_
        refine z_wv (z_runV (As := [.long (Int32.toInt64 (x_3 - (xF u0 5)))]) (rest := []) ⟨hx, hb, hml, hown, hts⟩ (c_XSt_conditionBySign l D a k u0 (Int32.toInt64 (x_3 - (xF u0 5)))) (qX_Oc_55 hts (by decide)) hw 1 rfl rfl hl.1 rfl (lv_room (Nat.le_of_ble_eq_true rfl)) d_XOc_withImmediate_126 hcs) hw hS (fun u_17 H locs eu_17 hw hS => ?_)
        have hf := hf.trans (nm_eq eu_17)
        refine lv_iconst (v := (0 : Int32)) hx hb d_XOc_withImmediate_129 (by decide) ?_
        exact hret (0 : Int32) _ _ _ _ _ d_XOc_withImmediate_130 hw hS hf
      have hf := hf.trans (if_neg c_16)
      by_cases c_18 : x_4 = (150 : Int32)
      · have hf := hf.trans (if_pos c_18)
        refine lv_tableIn (off := 98) (tgt := 131) hx hb d_XOc_withImmediate_33 (by rw [c_18]; decide +kernel) (by rw [c_18]; decide +kernel) (by rw [c_18]; decide +kernel) (by decide) ?_
        refine lv_aload_n hx hb d_XOc_withImmediate_131 rfl (lv_at hl 1 rfl) ?_
        refine lv_aload_n hx hb d_XOc_withImmediate_132 rfl (lv_at hl 2 rfl) ?_
        refine va_getN (v := .int (xF u0 8)) hx hb hts iX_In hown hw.2.1 hw.1 6 rfl rfl 4 (by decide) (va_Nw.use rfl (hw.2.2.2 _ kX_Oc_22).2) (fun _ h => h) rfl d_XOc_withImmediate_133 ?_
        refine lv_iload_n hx hb d_XOc_withImmediate_136 rfl (lv_at hl 0 rfl) ?_
        refine lv_aload_n hx hb d_XOc_withImmediate_137 rfl (lv_at hl 2 rfl) ?_
        refine va_getN (v := .int (xF u0 5)) hx hb hts iX_In hown hw.2.1 hw.1 6 rfl rfl 1 (by decide) (va_Nw.use rfl (hw.2.2.2 _ kX_Oc_41).2) (fun _ h => h) rfl d_XOc_withImmediate_138 ?_
        refine lv_ior hx hb d_XOc_withImmediate_141 ?_
        refine z_wi (z_runV (As := [.int (xF u0 8), .int (x_3 ||| (xF u0 5))]) (rest := []) ⟨hx, hb, hml, hown, hts⟩ (c_XOc_putBits l D a k u0 (xF u0 8) (x_3 ||| (xF u0 5))) (qX_Oc_51 hts (by decide)) hw 10 rfl rfl hl.1 rfl (lv_room (Nat.le_of_ble_eq_true rfl)) d_XOc_withImmediate_142 hcs) hw hS (fun x_20 u_19 H locs ex_20 hw hS => ?_)
        have hf := hf.trans (pr_eq ex_20)
        exact hret x_20 _ _ _ _ _ d_XOc_withImmediate_145 hw hS hf
      have hf := hf.trans (if_neg c_18)
      refine lv_tableOut (tgt := 146) hx hb d_XOc_withImmediate_33 (by have := lv_neT c_8 (a := 145) (by decide +kernel); have := lv_neT c_10 (a := 146) (by decide +kernel); have := lv_neT c_12 (a := 147) (by decide +kernel); have := lv_neT c_13 (a := 148) (by decide +kernel); have := lv_neT c_16 (a := 149) (by decide +kernel); have := lv_neT c_18 (a := 150) (by decide +kernel); omega) (by decide) ?_
      exact hK_5 _ (lv_sub hl [1, 2, 0] rfl) hf
  · have hf := hf.trans (if_pos c_2)
    refine lv_iconst (v := (5 : Int32)) hx hb d_XOc_withImmediate_15 (by decide) ?_
    exact hret (5 : Int32) _ _ _ _ _ d_XOc_withImmediate_16 hw hS hf
def f_XOc_entry (u0 : XS) (x2 : Int32) : Int32 := nm (f_XMe_get u0 ((xF u0 8) + x2)) (fun (x_1 : Int32) => (((xF u0 9) + x_1) &&& (16777215 : Int32)))
set_option maxHeartbeats 4000000 in
set_option maxRecDepth 100000 in
theorem c_XOc_entry (l : Launch) (D : va_G) (a : Nat → Nat) (k : Nat → ClassId) (u0 : XS) (x2 : Int32) : zRi l y_XOc_entry w_XOc_entry rm_XOc_entry D clX (tyX k) nwX (xW a k) [.ref (a 10), .ref (a 6), .int x2] u0 (f_XOc_entry u0 x2) := by
  generalize hF : f_XOc_entry u0 x2 = F
  have hf := hF.symm
  unfold f_XOc_entry at hf
  refine zRi_of (cc := b_XOc_entry) (maxL := 3) (own := RX_Oc) (by decide) rfl rfl (Nat.le_of_ble_eq_true rfl) ?_
  intro p e R st m args below meth c H locs Q ls hR hx hb hml hown hts hw hret hl
  subst hR
  have hcs : 0 ≤ (rm_XOc_entry).cells ∧ 0 ≤ (rm_XOc_entry).slots := ⟨Nat.zero_le _, Nat.zero_le _⟩
  have hl : lv_has ls 3 [(0, .ref (a 10)), (1, .ref (a 6)), (2, .int x2)] := hl
  refine lv_aload_n hx hb d_XOc_entry_0 rfl (lv_at hl 1 rfl) ?_
  refine va_getN (v := .int (xF u0 9)) hx hb hts iX_In hown hw.2.1 hw.1 6 rfl rfl 5 (by decide) (va_Nw.use rfl (hw.2.2.2 _ kX_Oc_63).2) (fun _ h => h) rfl d_XOc_entry_1 ?_
  refine lv_aload_n hx hb d_XOc_entry_4 rfl (lv_at hl 0 rfl) ?_
  refine va_get (v := .ref (a 2)) hx hb hts iX_Oc hown hw.2.1 hw.1 10 rfl rfl 1 (by decide) (hts _ kX_Oc_21) (fun _ h => h) rfl d_XOc_entry_5 ?_
  refine lv_aload_n hx hb d_XOc_entry_8 rfl (lv_at hl 1 rfl) ?_
  refine va_getN (v := .int (xF u0 8)) hx hb hts iX_In hown hw.2.1 hw.1 6 rfl rfl 4 (by decide) (va_Nw.use rfl (hw.2.2.2 _ kX_Oc_22).2) (fun _ h => h) rfl d_XOc_entry_9 ?_
  refine lv_iload_n hx hb d_XOc_entry_12 rfl (lv_at hl 2 rfl) ?_
  refine lv_iadd hx hb d_XOc_entry_13 ?_
  refine z_ri (z_runV (As := [.int ((xF u0 8) + x2)]) (rest := [.int (xF u0 9)]) ⟨hx, hb, hml, hown, hts⟩ (c_XMe_get l D a k u0 ((xF u0 8) + x2)) (qX_Oc_34 hts (by decide)) hw 2 rfl rfl hl.1 rfl (lv_room (Nat.le_of_ble_eq_true rfl)) d_XOc_entry_14 hcs) (fun x_1 ex_1 => ?_)
  have hf := hf.trans (nm_eq ex_1)
  refine lv_iadd hx hb d_XOc_entry_17 ?_
  refine lv_ldc (v := (16777215 : Int32)) hx hb hown (hts _ kX_Oc_86) d_XOc_entry_18 ?_
  refine lv_iand hx hb d_XOc_entry_20 ?_
  exact hret (((xF u0 9) + x_1) &&& (16777215 : Int32)) _ _ d_XOc_entry_21 hf
def g_XOc_translate_34 (x2 : Int32) (L_4 : Int32 → XS → Int32 × XS) : Int32 → XS → Int32 × XS := fun x_2 u_3 => if x2 ≤ x_2 then ((0 : Int32), u_3) else nm (f_XOc_entry u_3 x_2) (fun (x_7 : Int32) => nm (f_XMe_get u_3 x_7) (fun (x_8 : Int32) => nm (f_XMe_put u_3 ((xF u_3 8) + x_2) x_8) (fun (u_9 : XS) => nm (x_2 + (1 : Int32)) (fun (x_10 : Int32) => L_4 x_10 u_9))))
def g_XOc_translate_2 (x2 : Int32) (K_1 : Int32 × XS) (u0 : XS) (L_12 : Int32 → Int32 × XS) : Int32 → Int32 × XS := fun x_11 => if x2 ≤ x_11 then K_1 else nm (f_XOc_entry u0 x_11) (fun (x_15 : Int32) => nm (f_XMe_holds u0 x_15 (1 : Int32)) (fun (z_16 : Bool) => if (bI z_16) = (0 : Int32) then ((5 : Int32), u0) else nm (x_11 + (1 : Int32)) (fun (x_18 : Int32) => L_12 x_18)))
def f_XOc_translate (u0 : XS) (x2 : Int32) : Int32 × XS := jn (fun (K_1 : Int32 × XS) => lpN ((Int32.toInt x2 - Int32.toInt (0 : Int32)).toNat + 1) (g_XOc_translate_2 x2 K_1 u0) (fun _ => default) (0 : Int32)) (lpN ((Int32.toInt x2 - Int32.toInt (0 : Int32)).toNat + 1) (g_XOc_translate_34 x2) (fun _ _ => default) (0 : Int32) u0)
set_option maxHeartbeats 4000000 in
set_option maxRecDepth 100000 in
theorem c_XOc_translate (l : Launch) (D : va_G) (a : Nat → Nat) (k : Nat → ClassId) (u0 : XS) (x2 : Int32) : zMi l y_XOc_translate w_XOc_translate rm_XOc_translate D clX (tyX k) nwX (xW a k) [.ref (a 10), .ref (a 6), .int x2] u0 (f_XOc_translate u0 x2) := by
  generalize hF : f_XOc_translate u0 x2 = F
  have hf := hF.symm
  unfold f_XOc_translate at hf
  refine zMi_of (cc := b_XOc_translate) (maxL := 4) (own := RX_Oc) (by decide) rfl rfl (Nat.le_of_ble_eq_true rfl) ?_
  intro p e R st m args below meth c A H locs Q ls hR hx hb hml hown hts hw hS hret hl
  subst hR
  have hcs : 0 ≤ (rm_XOc_translate).cells ∧ 0 ≤ (rm_XOc_translate).slots := ⟨Nat.zero_le _, Nat.zero_le _⟩
  have hl : lv_has ls 4 [(0, .ref (a 10)), (1, .ref (a 6)), (2, .int x2)] := hl
  refine lv_iconst (v := (0 : Int32)) hx hb d_XOc_translate_0 (by decide) ?_
  refine lv_istore_n (lv' := [(3, .int (0 : Int32)), (0, .ref (a 10)), (1, .ref (a 6)), (2, .int x2)]) hx hb d_XOc_translate_1 rfl hl (by decide) rfl (fun ls hl => ?_)
  refine jn_cut hf (fun (K_1 : Int32 × XS) => ∀ (ls : Array Slot), lv_has ls 4 [(0, .ref (a 10)), (1, .ref (a 6)), (2, .int x2)] → F = K_1 → W p l e rm_XOc_translate st m args below meth c H locs 0 0 Q (F0 m 32 ls [])) ?_ ?_
  · intro ls hl hf
    refine lv_iconst (v := (0 : Int32)) hx hb d_XOc_translate_32 (by decide) ?_
    refine lv_istore_n (lv' := [(3, .int (0 : Int32)), (0, .ref (a 10)), (1, .ref (a 6)), (2, .int x2)]) hx hb d_XOc_translate_33 rfl hl (by decide) rfl (fun ls hl => ?_)
    refine lp_cut (fun (n_5 : Nat) (L_4 : Int32 → XS → Int32 × XS) => ∀ (x_2 : Int32) (u_3 : XS), (Int32.toInt x2 - Int32.toInt x_2).toNat < n_5 → ∀ (H : Heap) (locs : List Loc), zW D clX (tyX k) nwX (xW a k) A st u_3 H → va_S A st.heap H locs → ∀ (ls : Array Slot), lv_has ls 4 [(0, .ref (a 10)), (1, .ref (a 6)), (2, .int x2), (3, .int x_2)] → F = L_4 x_2 u_3 → W p l e rm_XOc_translate st m args below meth c H locs 0 0 Q (F0 m 34 ls [])) ?_ ?_ ((Int32.toInt x2 - Int32.toInt (0 : Int32)).toNat + 1) (0 : Int32) u0 (Nat.lt_succ_self _) _ _ hw hS _ (lv_sub hl [1, 2, 3, 0] rfl) hf
    · intro x_2 u_3 hn; exact absurd hn (Nat.not_lt_zero _)
    · intro n_5 L_4 hL_4 x_2 u_3 hn H locs hw hS ls hl hf
      unfold g_XOc_translate_34 at hf
      refine lv_iload_n hx hb d_XOc_translate_34 rfl (lv_at hl 3 rfl) ?_
      refine lv_iload_n hx hb d_XOc_translate_35 rfl (lv_at hl 2 rfl) ?_
      refine lv_icmp_ge (tgt := 71) hx hb d_XOc_translate_36 (by decide) (fun c_6 => ?_) (fun c_6 => ?_)
      · have hf := hf.trans (if_pos c_6)
        refine lv_iconst (v := (0 : Int32)) hx hb d_XOc_translate_71 (by decide) ?_
        exact hret (0 : Int32) _ _ _ _ _ d_XOc_translate_72 hw hS hf
      · have hf := hf.trans (if_neg c_6)
        refine lv_aload_n hx hb d_XOc_translate_39 rfl (lv_at hl 0 rfl) ?_
        refine va_get (v := .ref (a 2)) hx hb hts iX_Oc hown hw.2.1 hw.1 10 rfl rfl 1 (by decide) (hts _ kX_Oc_21) (fun _ h => h) rfl d_XOc_translate_40 ?_
        refine lv_aload_n hx hb d_XOc_translate_43 rfl (lv_at hl 1 rfl) ?_
        refine va_getN (v := .int (xF u_3 8)) hx hb hts iX_In hown hw.2.1 hw.1 6 rfl rfl 4 (by decide) (va_Nw.use rfl (hw.2.2.2 _ kX_Oc_22).2) (fun _ h => h) rfl d_XOc_translate_44 ?_
        refine lv_iload_n hx hb d_XOc_translate_47 rfl (lv_at hl 3 rfl) ?_
        refine lv_iadd hx hb d_XOc_translate_48 ?_
        refine lv_aload_n hx hb d_XOc_translate_49 rfl (lv_at hl 0 rfl) ?_
        refine va_get (v := .ref (a 2)) hx hb hts iX_Oc hown hw.2.1 hw.1 10 rfl rfl 1 (by decide) (hts _ kX_Oc_21) (fun _ h => h) rfl d_XOc_translate_50 ?_
        refine lv_aload_n hx hb d_XOc_translate_53 rfl (lv_at hl 0 rfl) ?_
        refine lv_aload_n hx hb d_XOc_translate_54 rfl (lv_at hl 1 rfl) ?_
        refine lv_iload_n hx hb d_XOc_translate_55 rfl (lv_at hl 3 rfl) ?_
        refine z_ri (z_runV (As := [.ref (a 6), .int x_2]) (rest := [.ref (a 2), .int ((xF u_3 8) + x_2), .ref (a 2)]) ⟨hx, hb, hml, hown, hts⟩ (c_XOc_entry l D a k u_3 x_2) (qX_Oc_83 hts (by decide)) hw 10 rfl rfl hl.1 rfl (lv_room (Nat.le_of_ble_eq_true rfl)) d_XOc_translate_56 hcs) (fun x_7 ex_7 => ?_)
        have hf := hf.trans (nm_eq ex_7)
        refine z_ri (z_runV (As := [.int x_7]) (rest := [.int ((xF u_3 8) + x_2), .ref (a 2)]) ⟨hx, hb, hml, hown, hts⟩ (c_XMe_get l D a k u_3 x_7) (qX_Oc_34 hts (by decide)) hw 2 rfl rfl hl.1 rfl (lv_room (Nat.le_of_ble_eq_true rfl)) d_XOc_translate_59 hcs) (fun x_8 ex_8 => ?_)
        have hf := hf.trans (nm_eq ex_8)
        refine z_wv (z_runV (As := [.int ((xF u_3 8) + x_2), .int x_8]) (rest := []) ⟨hx, hb, hml, hown, hts⟩ (c_XMe_put l D a k u_3 ((xF u_3 8) + x_2) x_8) (qX_Oc_48 hts (by decide)) hw 2 rfl rfl hl.1 rfl (lv_room (Nat.le_of_ble_eq_true rfl)) d_XOc_translate_62 hcs) hw hS (fun u_9 H locs eu_9 hw hS => ?_)
        have hf := hf.trans (nm_eq eu_9)
        obtain ⟨x_10, ex_10⟩ : ∃ y : Int32, y = x_2 + (1 : Int32) := ⟨_, rfl⟩
        have hf := hf.trans (nm_eq ex_10)
        refine lv_iinc (v := x_10) (lv' := [(3, .int x_10), (0, .ref (a 10)), (1, .ref (a 6)), (2, .int x2)]) hx hb d_XOc_translate_65 hl (k := 3) rfl (by rw [ex_10]; rfl) (by decide) rfl (fun ls hl => ?_)
        refine lv_goto (tgt := 34) hx hb d_XOc_translate_68 (by decide) ?_
        exact hL_4 x_10 u_9 (mu_up c_6 ex_10 hn) _ _ hw hS _ (lv_sub hl [1, 2, 3, 0] rfl) hf
  · intro K_1 hK_1 hf
    refine lp_cut (fun (n_13 : Nat) (L_12 : Int32 → Int32 × XS) => ∀ (x_11 : Int32), (Int32.toInt x2 - Int32.toInt x_11).toNat < n_13 → ∀ (ls : Array Slot), lv_has ls 4 [(0, .ref (a 10)), (1, .ref (a 6)), (2, .int x2), (3, .int x_11)] → F = L_12 x_11 → W p l e rm_XOc_translate st m args below meth c H locs 0 0 Q (F0 m 2 ls [])) ?_ ?_ ((Int32.toInt x2 - Int32.toInt (0 : Int32)).toNat + 1) (0 : Int32) (Nat.lt_succ_self _) _ (lv_sub hl [1, 2, 3, 0] rfl) hf
    · intro x_11 hn; exact absurd hn (Nat.not_lt_zero _)
    · intro n_13 L_12 hL_12 x_11 hn ls hl hf
      unfold g_XOc_translate_2 at hf
      refine lv_iload_n hx hb d_XOc_translate_2 rfl (lv_at hl 3 rfl) ?_
      refine lv_iload_n hx hb d_XOc_translate_3 rfl (lv_at hl 2 rfl) ?_
      refine lv_icmp_ge (tgt := 32) hx hb d_XOc_translate_4 (by decide) (fun c_14 => ?_) (fun c_14 => ?_)
      · have hf := hf.trans (if_pos c_14)
        exact hK_1 _ (lv_sub hl [0, 1, 2] rfl) hf
      · have hf := hf.trans (if_neg c_14)
        refine lv_aload_n hx hb d_XOc_translate_7 rfl (lv_at hl 0 rfl) ?_
        refine va_get (v := .ref (a 2)) hx hb hts iX_Oc hown hw.2.1 hw.1 10 rfl rfl 1 (by decide) (hts _ kX_Oc_21) (fun _ h => h) rfl d_XOc_translate_8 ?_
        refine lv_aload_n hx hb d_XOc_translate_11 rfl (lv_at hl 0 rfl) ?_
        refine lv_aload_n hx hb d_XOc_translate_12 rfl (lv_at hl 1 rfl) ?_
        refine lv_iload_n hx hb d_XOc_translate_13 rfl (lv_at hl 3 rfl) ?_
        refine z_ri (z_runV (As := [.ref (a 6), .int x_11]) (rest := [.ref (a 2)]) ⟨hx, hb, hml, hown, hts⟩ (c_XOc_entry l D a k u0 x_11) (qX_Oc_83 hts (by decide)) hw 10 rfl rfl hl.1 rfl (lv_room (Nat.le_of_ble_eq_true rfl)) d_XOc_translate_14 hcs) (fun x_15 ex_15 => ?_)
        have hf := hf.trans (nm_eq ex_15)
        refine lv_iconst (v := (1 : Int32)) hx hb d_XOc_translate_17 (by decide) ?_
        refine z_rz (z_runV (As := [.int x_15, .int (1 : Int32)]) (rest := []) ⟨hx, hb, hml, hown, hts⟩ (c_XMe_holds l D a k u0 x_15 (1 : Int32)) (qX_Oc_28 hts (by decide)) hw 2 rfl rfl hl.1 rfl (lv_room (Nat.le_of_ble_eq_true rfl)) d_XOc_translate_18 hcs) (fun z_16 ez_16 => ?_)
        have hf := hf.trans (nm_eq ez_16)
        refine lv_if_ne (tgt := 26) hx hb d_XOc_translate_21 (by decide) (fun c_17 => ?_) (fun c_17 => ?_)
        · have hf := hf.trans (if_neg c_17)
          obtain ⟨x_18, ex_18⟩ : ∃ y : Int32, y = x_11 + (1 : Int32) := ⟨_, rfl⟩
          have hf := hf.trans (nm_eq ex_18)
          refine lv_iinc (v := x_18) (lv' := [(3, .int x_18), (0, .ref (a 10)), (1, .ref (a 6)), (2, .int x2)]) hx hb d_XOc_translate_26 hl (k := 3) rfl (by rw [ex_18]; rfl) (by decide) rfl (fun ls hl => ?_)
          refine lv_goto (tgt := 2) hx hb d_XOc_translate_29 (by decide) ?_
          exact hL_12 x_18 (mu_up c_14 ex_18 hn) _ (lv_sub hl [1, 2, 3, 0] rfl) hf
        · have hf := hf.trans (if_pos c_17)
          refine lv_iconst (v := (5 : Int32)) hx hb d_XOc_translate_24 (by decide) ?_
          exact hret (5 : Int32) _ _ _ _ _ d_XOc_translate_25 hw hS hf
def g_XOc_compare_5 (x2 : Int32) (K_2 : Int32 → Int32 × XS) (u0 : XS) (L_6 : Int32 → Int32 → Int32 × XS) : Int32 → Int32 → Int32 × XS := fun x_4 x_5 => if x2 ≤ x_5 then K_2 x_4 else if x_4 = (0 : Int32) then nm (f_XMe_get u0 ((xF u0 8) + x_5)) (fun (x_10 : Int32) => nm (f_XMe_get u0 ((xF u0 9) + x_5)) (fun (x_11 : Int32) => nm (x_10 - x_11) (fun (x_12 : Int32) => nm (x_5 + (1 : Int32)) (fun (x_13 : Int32) => L_6 x_12 x_13)))) else K_2 x_4
def f_XOc_compare (u0 : XS) (x2 : Int32) : Int32 × XS := jn (fun (K_2 : Int32 → Int32 × XS) => lpN ((Int32.toInt x2 - Int32.toInt (0 : Int32)).toNat + 1) (g_XOc_compare_5 x2 K_2 u0) (fun _ _ => default) (0 : Int32) (0 : Int32)) (fun (x_1 : Int32) => nm (f_XSt_conditionBySign u0 (Int32.toInt64 x_1)) (fun (u_3 : XS) => ((0 : Int32), u_3)))
set_option maxHeartbeats 4000000 in
set_option maxRecDepth 100000 in
theorem c_XOc_compare (l : Launch) (D : va_G) (a : Nat → Nat) (k : Nat → ClassId) (u0 : XS) (x2 : Int32) : zMi l y_XOc_compare w_XOc_compare rm_XOc_compare D clX (tyX k) nwX (xW a k) [.ref (a 10), .ref (a 6), .int x2] u0 (f_XOc_compare u0 x2) := by
  generalize hF : f_XOc_compare u0 x2 = F
  have hf := hF.symm
  unfold f_XOc_compare at hf
  refine zMi_of (cc := b_XOc_compare) (maxL := 5) (own := RX_Oc) (by decide) rfl rfl (Nat.le_of_ble_eq_true rfl) ?_
  intro p e R st m args below meth c A H locs Q ls hR hx hb hml hown hts hw hS hret hl
  subst hR
  have hcs : 0 ≤ (rm_XOc_compare).cells ∧ 0 ≤ (rm_XOc_compare).slots := ⟨Nat.zero_le _, Nat.zero_le _⟩
  have hl : lv_has ls 5 [(0, .ref (a 10)), (1, .ref (a 6)), (2, .int x2)] := hl
  refine lv_iconst (v := (0 : Int32)) hx hb d_XOc_compare_0 (by decide) ?_
  refine lv_istore_n (lv' := [(3, .int (0 : Int32)), (0, .ref (a 10)), (1, .ref (a 6)), (2, .int x2)]) hx hb d_XOc_compare_1 rfl hl (by decide) rfl (fun ls hl => ?_)
  refine lv_iconst (v := (0 : Int32)) hx hb d_XOc_compare_2 (by decide) ?_
  refine lv_istore (lv' := [(4, .int (0 : Int32)), (3, .int (0 : Int32)), (0, .ref (a 10)), (1, .ref (a 6)), (2, .int x2)]) hx hb d_XOc_compare_3 hl (by decide) rfl (fun ls hl => ?_)
  refine jn_cut hf (fun (K_2 : Int32 → Int32 × XS) => ∀ (x_1 : Int32), ∀ (ls : Array Slot), lv_has ls 5 [(0, .ref (a 10)), (3, .int x_1)] → F = K_2 x_1 → W p l e rm_XOc_compare st m args below meth c H locs 0 0 Q (F0 m 51 ls [])) ?_ ?_
  · intro x_1 ls hl hf
    refine lv_aload_n hx hb d_XOc_compare_51 rfl (lv_at hl 0 rfl) ?_
    refine va_get (v := .ref (a 1)) hx hb hts iX_Oc hown hw.2.1 hw.1 10 rfl rfl 0 (by decide) (hts _ kX_Oc_9) (fun _ h => h) rfl d_XOc_compare_52 ?_
    refine lv_iload_n hx hb d_XOc_compare_55 rfl (lv_at hl 1 rfl) ?_
    refine lv_i2l (v := Int32.toInt64 x_1) hx hb d_XOc_compare_56 rfl ?_
    refine z_wv (z_runV (As := [.long (Int32.toInt64 x_1)]) (rest := []) ⟨hx, hb, hml, hown, hts⟩ (c_XSt_conditionBySign l D a k u0 (Int32.toInt64 x_1)) (qX_Oc_55 hts (by decide)) hw 1 rfl rfl hl.1 rfl (lv_room (Nat.le_of_ble_eq_true rfl)) d_XOc_compare_57 hcs) hw hS (fun u_3 H locs eu_3 hw hS => ?_)
    have hf := hf.trans (nm_eq eu_3)
    refine lv_iconst (v := (0 : Int32)) hx hb d_XOc_compare_60 (by decide) ?_
    exact hret (0 : Int32) _ _ _ _ _ d_XOc_compare_61 hw hS hf
  · intro K_2 hK_2 hf
    refine lp_cut (fun (n_7 : Nat) (L_6 : Int32 → Int32 → Int32 × XS) => ∀ (x_4 : Int32) (x_5 : Int32), (Int32.toInt x2 - Int32.toInt x_5).toNat < n_7 → ∀ (ls : Array Slot), lv_has ls 5 [(0, .ref (a 10)), (1, .ref (a 6)), (2, .int x2), (3, .int x_4), (4, .int x_5)] → F = L_6 x_4 x_5 → W p l e rm_XOc_compare st m args below meth c H locs 0 0 Q (F0 m 5 ls [])) ?_ ?_ ((Int32.toInt x2 - Int32.toInt (0 : Int32)).toNat + 1) (0 : Int32) (0 : Int32) (Nat.lt_succ_self _) _ (lv_sub hl [2, 3, 4, 1, 0] rfl) hf
    · intro x_4 x_5 hn; exact absurd hn (Nat.not_lt_zero _)
    · intro n_7 L_6 hL_6 x_4 x_5 hn ls hl hf
      unfold g_XOc_compare_5 at hf
      refine lv_iload hx hb d_XOc_compare_5 (lv_at hl 4 rfl) ?_
      refine lv_iload_n hx hb d_XOc_compare_7 rfl (lv_at hl 2 rfl) ?_
      refine lv_icmp_ge (tgt := 51) hx hb d_XOc_compare_8 (by decide) (fun c_8 => ?_) (fun c_8 => ?_)
      · have hf := hf.trans (if_pos c_8)
        exact hK_2 x_4 _ (lv_sub hl [0, 3] rfl) hf
      · have hf := hf.trans (if_neg c_8)
        refine lv_iload_n hx hb d_XOc_compare_11 rfl (lv_at hl 3 rfl) ?_
        refine lv_if_ne (tgt := 51) hx hb d_XOc_compare_12 (by decide) (fun c_9 => ?_) (fun c_9 => ?_)
        · have hf := hf.trans (if_neg c_9)
          exact hK_2 x_4 _ (lv_sub hl [0, 3] rfl) hf
        · have hf := hf.trans (if_pos c_9)
          refine lv_aload_n hx hb d_XOc_compare_15 rfl (lv_at hl 0 rfl) ?_
          refine va_get (v := .ref (a 2)) hx hb hts iX_Oc hown hw.2.1 hw.1 10 rfl rfl 1 (by decide) (hts _ kX_Oc_21) (fun _ h => h) rfl d_XOc_compare_16 ?_
          refine lv_aload_n hx hb d_XOc_compare_19 rfl (lv_at hl 1 rfl) ?_
          refine va_getN (v := .int (xF u0 8)) hx hb hts iX_In hown hw.2.1 hw.1 6 rfl rfl 4 (by decide) (va_Nw.use rfl (hw.2.2.2 _ kX_Oc_22).2) (fun _ h => h) rfl d_XOc_compare_20 ?_
          refine lv_iload hx hb d_XOc_compare_23 (lv_at hl 4 rfl) ?_
          refine lv_iadd hx hb d_XOc_compare_25 ?_
          refine z_ri (z_runV (As := [.int ((xF u0 8) + x_5)]) (rest := []) ⟨hx, hb, hml, hown, hts⟩ (c_XMe_get l D a k u0 ((xF u0 8) + x_5)) (qX_Oc_34 hts (by decide)) hw 2 rfl rfl hl.1 rfl (lv_room (Nat.le_of_ble_eq_true rfl)) d_XOc_compare_26 hcs) (fun x_10 ex_10 => ?_)
          have hf := hf.trans (nm_eq ex_10)
          refine lv_aload_n hx hb d_XOc_compare_29 rfl (lv_at hl 0 rfl) ?_
          refine va_get (v := .ref (a 2)) hx hb hts iX_Oc hown hw.2.1 hw.1 10 rfl rfl 1 (by decide) (hts _ kX_Oc_21) (fun _ h => h) rfl d_XOc_compare_30 ?_
          refine lv_aload_n hx hb d_XOc_compare_33 rfl (lv_at hl 1 rfl) ?_
          refine va_getN (v := .int (xF u0 9)) hx hb hts iX_In hown hw.2.1 hw.1 6 rfl rfl 5 (by decide) (va_Nw.use rfl (hw.2.2.2 _ kX_Oc_63).2) (fun _ h => h) rfl d_XOc_compare_34 ?_
          refine lv_iload hx hb d_XOc_compare_37 (lv_at hl 4 rfl) ?_
          refine lv_iadd hx hb d_XOc_compare_39 ?_
          refine z_ri (z_runV (As := [.int ((xF u0 9) + x_5)]) (rest := [.int x_10]) ⟨hx, hb, hml, hown, hts⟩ (c_XMe_get l D a k u0 ((xF u0 9) + x_5)) (qX_Oc_34 hts (by decide)) hw 2 rfl rfl hl.1 rfl (lv_room (Nat.le_of_ble_eq_true rfl)) d_XOc_compare_40 hcs) (fun x_11 ex_11 => ?_)
          have hf := hf.trans (nm_eq ex_11)
          refine lv_isub hx hb d_XOc_compare_43 ?_
          refine lv_topi (fun x_12 ex_12 => ?_)
          have hf := hf.trans (nm_eq ex_12)
          refine lv_istore_n (lv' := [(3, .int x_12), (0, .ref (a 10)), (1, .ref (a 6)), (2, .int x2), (4, .int x_5)]) hx hb d_XOc_compare_44 rfl hl (by decide) rfl (fun ls hl => ?_)
          obtain ⟨x_13, ex_13⟩ : ∃ y : Int32, y = x_5 + (1 : Int32) := ⟨_, rfl⟩
          have hf := hf.trans (nm_eq ex_13)
          refine lv_iinc (v := x_13) (lv' := [(4, .int x_13), (3, .int x_12), (0, .ref (a 10)), (1, .ref (a 6)), (2, .int x2)]) hx hb d_XOc_compare_45 hl (k := 4) rfl (by rw [ex_13]; rfl) (by decide) rfl (fun ls hl => ?_)
          refine lv_goto (tgt := 5) hx hb d_XOc_compare_48 (by decide) ?_
          exact hL_6 x_12 x_13 (mu_up c_8 ex_13 hn) _ (lv_sub hl [2, 3, 4, 1, 0] rfl) hf
def f_XOc_join (u0 : XS) (x0 : Int32) (x1 : Int32) (x2 : Int32) : Int32 := if x0 = (209 : Int32) then ((x1 &&& (240 : Int32)) ||| (x2 &&& (15 : Int32))) else if x0 = (211 : Int32) then ((x1 &&& (15 : Int32)) ||| (x2 &&& (240 : Int32))) else if x0 = (212 : Int32) then (x1 &&& x2) else if x0 = (214 : Int32) then (x1 ||| x2) else if x0 = (215 : Int32) then (x1 ^^^ x2) else x2
set_option maxHeartbeats 4000000 in
set_option maxRecDepth 100000 in
theorem c_XOc_join (l : Launch) (D : va_G) (a : Nat → Nat) (k : Nat → ClassId) (u0 : XS) (x0 : Int32) (x1 : Int32) (x2 : Int32) : zRi l y_XOc_join w_XOc_join rm_XOc_join D clX (tyX k) nwX (xW a k) [.int x0, .int x1, .int x2] u0 (f_XOc_join u0 x0 x1 x2) := by
  generalize hF : f_XOc_join u0 x0 x1 x2 = F
  have hf := hF.symm
  unfold f_XOc_join at hf
  refine zRi_of (cc := b_XOc_join) (maxL := 3) (own := RX_Oc) (by decide) rfl rfl (Nat.le_of_ble_eq_true rfl) ?_
  intro p e R st m args below meth c H locs Q ls hR hx hb hml hown hts hw hret hl
  subst hR
  have hcs : 0 ≤ (rm_XOc_join).cells ∧ 0 ≤ (rm_XOc_join).slots := ⟨Nat.zero_le _, Nat.zero_le _⟩
  have hl : lv_has ls 3 [(0, .int x0), (1, .int x1), (2, .int x2)] := hl
  refine lv_iload_n hx hb d_XOc_join_0 rfl (lv_at hl 0 rfl) ?_
  by_cases c_1 : x0 = (209 : Int32)
  · have hf := hf.trans (if_pos c_1)
    refine lv_tableIn (off := 43) (tgt := 44) hx hb d_XOc_join_1 (by rw [c_1]; decide +kernel) (by rw [c_1]; decide +kernel) (by rw [c_1]; decide +kernel) (by decide) ?_
    refine lv_iload_n hx hb d_XOc_join_44 rfl (lv_at hl 1 rfl) ?_
    refine lv_sipush (v := (240 : Int32)) hx hb d_XOc_join_45 (by decide) ?_
    refine lv_iand hx hb d_XOc_join_48 ?_
    refine lv_iload_n hx hb d_XOc_join_49 rfl (lv_at hl 2 rfl) ?_
    refine lv_bipush (v := (15 : Int32)) hx hb d_XOc_join_50 (by decide) ?_
    refine lv_iand hx hb d_XOc_join_52 ?_
    refine lv_ior hx hb d_XOc_join_53 ?_
    exact hret ((x1 &&& (240 : Int32)) ||| (x2 &&& (15 : Int32))) _ _ d_XOc_join_54 hf
  have hf := hf.trans (if_neg c_1)
  by_cases c_2 : x0 = (210 : Int32)
  · have hf := hf.trans (if_neg (by rw [c_2]; decide))
    have hf := hf.trans (if_neg (by rw [c_2]; decide))
    have hf := hf.trans (if_neg (by rw [c_2]; decide))
    have hf := hf.trans (if_neg (by rw [c_2]; decide))
    refine lv_tableIn (off := 77) (tgt := 78) hx hb d_XOc_join_1 (by rw [c_2]; decide +kernel) (by rw [c_2]; decide +kernel) (by rw [c_2]; decide +kernel) (by decide) ?_
    refine lv_iload_n hx hb d_XOc_join_78 rfl (lv_at hl 2 rfl) ?_
    exact hret x2 _ _ d_XOc_join_79 hf
  by_cases c_3 : x0 = (211 : Int32)
  · have hf := hf.trans (if_pos c_3)
    refine lv_tableIn (off := 54) (tgt := 55) hx hb d_XOc_join_1 (by rw [c_3]; decide +kernel) (by rw [c_3]; decide +kernel) (by rw [c_3]; decide +kernel) (by decide) ?_
    refine lv_iload_n hx hb d_XOc_join_55 rfl (lv_at hl 1 rfl) ?_
    refine lv_bipush (v := (15 : Int32)) hx hb d_XOc_join_56 (by decide) ?_
    refine lv_iand hx hb d_XOc_join_58 ?_
    refine lv_iload_n hx hb d_XOc_join_59 rfl (lv_at hl 2 rfl) ?_
    refine lv_sipush (v := (240 : Int32)) hx hb d_XOc_join_60 (by decide) ?_
    refine lv_iand hx hb d_XOc_join_63 ?_
    refine lv_ior hx hb d_XOc_join_64 ?_
    exact hret ((x1 &&& (15 : Int32)) ||| (x2 &&& (240 : Int32))) _ _ d_XOc_join_65 hf
  have hf := hf.trans (if_neg c_3)
  by_cases c_4 : x0 = (212 : Int32)
  · have hf := hf.trans (if_pos c_4)
    refine lv_tableIn (off := 65) (tgt := 66) hx hb d_XOc_join_1 (by rw [c_4]; decide +kernel) (by rw [c_4]; decide +kernel) (by rw [c_4]; decide +kernel) (by decide) ?_
    refine lv_iload_n hx hb d_XOc_join_66 rfl (lv_at hl 1 rfl) ?_
    refine lv_iload_n hx hb d_XOc_join_67 rfl (lv_at hl 2 rfl) ?_
    refine lv_iand hx hb d_XOc_join_68 ?_
    exact hret (x1 &&& x2) _ _ d_XOc_join_69 hf
  have hf := hf.trans (if_neg c_4)
  by_cases c_5 : x0 = (213 : Int32)
  · have hf := hf.trans (if_neg (by rw [c_5]; decide))
    have hf := hf.trans (if_neg (by rw [c_5]; decide))
    refine lv_tableIn (off := 77) (tgt := 78) hx hb d_XOc_join_1 (by rw [c_5]; decide +kernel) (by rw [c_5]; decide +kernel) (by rw [c_5]; decide +kernel) (by decide) ?_
    refine lv_iload_n hx hb d_XOc_join_78 rfl (lv_at hl 2 rfl) ?_
    exact hret x2 _ _ d_XOc_join_79 hf
  by_cases c_6 : x0 = (214 : Int32)
  · have hf := hf.trans (if_pos c_6)
    refine lv_tableIn (off := 69) (tgt := 70) hx hb d_XOc_join_1 (by rw [c_6]; decide +kernel) (by rw [c_6]; decide +kernel) (by rw [c_6]; decide +kernel) (by decide) ?_
    refine lv_iload_n hx hb d_XOc_join_70 rfl (lv_at hl 1 rfl) ?_
    refine lv_iload_n hx hb d_XOc_join_71 rfl (lv_at hl 2 rfl) ?_
    refine lv_ior hx hb d_XOc_join_72 ?_
    exact hret (x1 ||| x2) _ _ d_XOc_join_73 hf
  have hf := hf.trans (if_neg c_6)
  by_cases c_7 : x0 = (215 : Int32)
  · have hf := hf.trans (if_pos c_7)
    refine lv_tableIn (off := 73) (tgt := 74) hx hb d_XOc_join_1 (by rw [c_7]; decide +kernel) (by rw [c_7]; decide +kernel) (by rw [c_7]; decide +kernel) (by decide) ?_
    refine lv_iload_n hx hb d_XOc_join_74 rfl (lv_at hl 1 rfl) ?_
    refine lv_iload_n hx hb d_XOc_join_75 rfl (lv_at hl 2 rfl) ?_
    refine lv_ixor hx hb d_XOc_join_76 ?_
    exact hret (x1 ^^^ x2) _ _ d_XOc_join_77 hf
  have hf := hf.trans (if_neg c_7)
  refine lv_tableOut (tgt := 78) hx hb d_XOc_join_1 (by have := lv_neT c_1 (a := 209) (by decide +kernel); have := lv_neT c_2 (a := 210) (by decide +kernel); have := lv_neT c_3 (a := 211) (by decide +kernel); have := lv_neT c_4 (a := 212) (by decide +kernel); have := lv_neT c_5 (a := 213) (by decide +kernel); have := lv_neT c_6 (a := 214) (by decide +kernel); have := lv_neT c_7 (a := 215) (by decide +kernel); omega) (by decide) ?_
  refine lv_iload_n hx hb d_XOc_join_78 rfl (lv_at hl 2 rfl) ?_
  exact hret x2 _ _ d_XOc_join_79 hf
def g_XOc_rewrite_5 (x2 : Int32) (K_3 : Int32 → XS → Int32 × XS) (L_9 : Int32 → Int32 → XS → Int32 × XS) : Int32 → Int32 → XS → Int32 × XS := fun x_6 x_7 u_8 => if x2 ≤ x_7 then K_3 x_6 u_8 else nm (f_XMe_get u_8 ((xF u_8 8) + x_7)) (fun (x_12 : Int32) => nm (f_XMe_get u_8 ((xF u_8 9) + x_7)) (fun (x_13 : Int32) => nm (f_XOc_join u_8 (xF u_8 4) x_12 x_13) (fun (x_14 : Int32) => nm (f_XMe_put u_8 ((xF u_8 8) + x_7) x_14) (fun (u_15 : XS) => nm (x_6 ||| x_14) (fun (x_16 : Int32) => nm (x_7 + (1 : Int32)) (fun (x_17 : Int32) => L_9 x_16 x_17 u_15))))))
def f_XOc_rewrite (u0 : XS) (x2 : Int32) : Int32 × XS := jn (fun (K_3 : Int32 → XS → Int32 × XS) => lpN ((Int32.toInt x2 - Int32.toInt (0 : Int32)).toNat + 1) (g_XOc_rewrite_5 x2 K_3) (fun _ _ _ => default) (0 : Int32) (0 : Int32) u0) (fun (x_1 : Int32) (u_2 : XS) => if (xF u_2 4) < (212 : Int32) then ((0 : Int32), u_2) else nm (f_XSt_conditionByBits u_2 x_1) (fun (u_5 : XS) => ((0 : Int32), u_5)))
set_option maxHeartbeats 4000000 in
set_option maxRecDepth 100000 in
theorem c_XOc_rewrite (l : Launch) (D : va_G) (a : Nat → Nat) (k : Nat → ClassId) (u0 : XS) (x2 : Int32) : zMi l y_XOc_rewrite w_XOc_rewrite rm_XOc_rewrite D clX (tyX k) nwX (xW a k) [.ref (a 10), .ref (a 6), .int x2] u0 (f_XOc_rewrite u0 x2) := by
  generalize hF : f_XOc_rewrite u0 x2 = F
  have hf := hF.symm
  unfold f_XOc_rewrite at hf
  refine zMi_of (cc := b_XOc_rewrite) (maxL := 6) (own := RX_Oc) (by decide) rfl rfl (Nat.le_of_ble_eq_true rfl) ?_
  intro p e R st m args below meth c A H locs Q ls hR hx hb hml hown hts hw hS hret hl
  subst hR
  have hcs : 0 ≤ (rm_XOc_rewrite).cells ∧ 0 ≤ (rm_XOc_rewrite).slots := ⟨Nat.zero_le _, Nat.zero_le _⟩
  have hl : lv_has ls 6 [(0, .ref (a 10)), (1, .ref (a 6)), (2, .int x2)] := hl
  refine lv_iconst (v := (0 : Int32)) hx hb d_XOc_rewrite_0 (by decide) ?_
  refine lv_istore_n (lv' := [(3, .int (0 : Int32)), (0, .ref (a 10)), (1, .ref (a 6)), (2, .int x2)]) hx hb d_XOc_rewrite_1 rfl hl (by decide) rfl (fun ls hl => ?_)
  refine lv_iconst (v := (0 : Int32)) hx hb d_XOc_rewrite_2 (by decide) ?_
  refine lv_istore (lv' := [(4, .int (0 : Int32)), (3, .int (0 : Int32)), (0, .ref (a 10)), (1, .ref (a 6)), (2, .int x2)]) hx hb d_XOc_rewrite_3 hl (by decide) rfl (fun ls hl => ?_)
  refine jn_cut hf (fun (K_3 : Int32 → XS → Int32 × XS) => ∀ (x_1 : Int32) (u_2 : XS), ∀ (H : Heap) (locs : List Loc), zW D clX (tyX k) nwX (xW a k) A st u_2 H → va_S A st.heap H locs → ∀ (ls : Array Slot), lv_has ls 6 [(0, .ref (a 10)), (1, .ref (a 6)), (3, .int x_1)] → F = K_3 x_1 u_2 → W p l e rm_XOc_rewrite st m args below meth c H locs 0 0 Q (F0 m 75 ls [])) ?_ ?_
  · intro x_1 u_2 H locs hw hS ls hl hf
    refine lv_aload_n hx hb d_XOc_rewrite_75 rfl (lv_at hl 1 rfl) ?_
    refine va_getN (v := .int (xF u_2 4)) hx hb hts iX_In hown hw.2.1 hw.1 6 rfl rfl 0 (by decide) (va_Nw.use rfl (hw.2.2.2 _ kX_Oc_38).2) (fun _ h => h) rfl d_XOc_rewrite_76 ?_
    refine lv_sipush (v := (212 : Int32)) hx hb d_XOc_rewrite_79 (by decide) ?_
    refine lv_icmp_lt (tgt := 93) hx hb d_XOc_rewrite_82 (by decide) (fun c_4 => ?_) (fun c_4 => ?_)
    · have hf := hf.trans (if_pos c_4)
      refine lv_iconst (v := (0 : Int32)) hx hb d_XOc_rewrite_93 (by decide) ?_
      exact hret (0 : Int32) _ _ _ _ _ d_XOc_rewrite_94 hw hS hf
    · have hf := hf.trans (if_neg c_4)
      refine lv_aload_n hx hb d_XOc_rewrite_85 rfl (lv_at hl 0 rfl) ?_
      refine va_get (v := .ref (a 1)) hx hb hts iX_Oc hown hw.2.1 hw.1 10 rfl rfl 0 (by decide) (hts _ kX_Oc_9) (fun _ h => h) rfl d_XOc_rewrite_86 ?_
      refine lv_iload_n hx hb d_XOc_rewrite_89 rfl (lv_at hl 2 rfl) ?_
      refine z_wv (z_runV (As := [.int x_1]) (rest := []) ⟨hx, hb, hml, hown, hts⟩ (c_XSt_conditionByBits l D a k u_2 x_1) (qX_Oc_75 hts (by decide)) hw 1 rfl rfl hl.1 rfl (lv_room (Nat.le_of_ble_eq_true rfl)) d_XOc_rewrite_90 hcs) hw hS (fun u_5 H locs eu_5 hw hS => ?_)
      have hf := hf.trans (nm_eq eu_5)
      refine lv_iconst (v := (0 : Int32)) hx hb d_XOc_rewrite_93 (by decide) ?_
      exact hret (0 : Int32) _ _ _ _ _ d_XOc_rewrite_94 hw hS hf
  · intro K_3 hK_3 hf
    refine lp_cut (fun (n_10 : Nat) (L_9 : Int32 → Int32 → XS → Int32 × XS) => ∀ (x_6 : Int32) (x_7 : Int32) (u_8 : XS), (Int32.toInt x2 - Int32.toInt x_7).toNat < n_10 → ∀ (H : Heap) (locs : List Loc), zW D clX (tyX k) nwX (xW a k) A st u_8 H → va_S A st.heap H locs → ∀ (ls : Array Slot), lv_has ls 6 [(0, .ref (a 10)), (1, .ref (a 6)), (2, .int x2), (3, .int x_6), (4, .int x_7)] → F = L_9 x_6 x_7 u_8 → W p l e rm_XOc_rewrite st m args below meth c H locs 0 0 Q (F0 m 5 ls [])) ?_ ?_ ((Int32.toInt x2 - Int32.toInt (0 : Int32)).toNat + 1) (0 : Int32) (0 : Int32) u0 (Nat.lt_succ_self _) _ _ hw hS _ (lv_sub hl [2, 3, 4, 1, 0] rfl) hf
    · intro x_6 x_7 u_8 hn; exact absurd hn (Nat.not_lt_zero _)
    · intro n_10 L_9 hL_9 x_6 x_7 u_8 hn H locs hw hS ls hl hf
      unfold g_XOc_rewrite_5 at hf
      refine lv_iload hx hb d_XOc_rewrite_5 (lv_at hl 4 rfl) ?_
      refine lv_iload_n hx hb d_XOc_rewrite_7 rfl (lv_at hl 2 rfl) ?_
      refine lv_icmp_ge (tgt := 75) hx hb d_XOc_rewrite_8 (by decide) (fun c_11 => ?_) (fun c_11 => ?_)
      · have hf := hf.trans (if_pos c_11)
        exact hK_3 x_6 u_8 _ _ hw hS _ (lv_sub hl [0, 1, 3] rfl) hf
      · have hf := hf.trans (if_neg c_11)
        refine lv_aload_n hx hb d_XOc_rewrite_11 rfl (lv_at hl 1 rfl) ?_
        refine va_getN (v := .int (xF u_8 4)) hx hb hts iX_In hown hw.2.1 hw.1 6 rfl rfl 0 (by decide) (va_Nw.use rfl (hw.2.2.2 _ kX_Oc_38).2) (fun _ h => h) rfl d_XOc_rewrite_12 ?_
        refine lv_aload_n hx hb d_XOc_rewrite_15 rfl (lv_at hl 0 rfl) ?_
        refine va_get (v := .ref (a 2)) hx hb hts iX_Oc hown hw.2.1 hw.1 10 rfl rfl 1 (by decide) (hts _ kX_Oc_21) (fun _ h => h) rfl d_XOc_rewrite_16 ?_
        refine lv_aload_n hx hb d_XOc_rewrite_19 rfl (lv_at hl 1 rfl) ?_
        refine va_getN (v := .int (xF u_8 8)) hx hb hts iX_In hown hw.2.1 hw.1 6 rfl rfl 4 (by decide) (va_Nw.use rfl (hw.2.2.2 _ kX_Oc_22).2) (fun _ h => h) rfl d_XOc_rewrite_20 ?_
        refine lv_iload hx hb d_XOc_rewrite_23 (lv_at hl 4 rfl) ?_
        refine lv_iadd hx hb d_XOc_rewrite_25 ?_
        refine z_ri (z_runV (As := [.int ((xF u_8 8) + x_7)]) (rest := [.int (xF u_8 4)]) ⟨hx, hb, hml, hown, hts⟩ (c_XMe_get l D a k u_8 ((xF u_8 8) + x_7)) (qX_Oc_34 hts (by decide)) hw 2 rfl rfl hl.1 rfl (lv_room (Nat.le_of_ble_eq_true rfl)) d_XOc_rewrite_26 hcs) (fun x_12 ex_12 => ?_)
        have hf := hf.trans (nm_eq ex_12)
        refine lv_aload_n hx hb d_XOc_rewrite_29 rfl (lv_at hl 0 rfl) ?_
        refine va_get (v := .ref (a 2)) hx hb hts iX_Oc hown hw.2.1 hw.1 10 rfl rfl 1 (by decide) (hts _ kX_Oc_21) (fun _ h => h) rfl d_XOc_rewrite_30 ?_
        refine lv_aload_n hx hb d_XOc_rewrite_33 rfl (lv_at hl 1 rfl) ?_
        refine va_getN (v := .int (xF u_8 9)) hx hb hts iX_In hown hw.2.1 hw.1 6 rfl rfl 5 (by decide) (va_Nw.use rfl (hw.2.2.2 _ kX_Oc_63).2) (fun _ h => h) rfl d_XOc_rewrite_34 ?_
        refine lv_iload hx hb d_XOc_rewrite_37 (lv_at hl 4 rfl) ?_
        refine lv_iadd hx hb d_XOc_rewrite_39 ?_
        refine z_ri (z_runV (As := [.int ((xF u_8 9) + x_7)]) (rest := [.int x_12, .int (xF u_8 4)]) ⟨hx, hb, hml, hown, hts⟩ (c_XMe_get l D a k u_8 ((xF u_8 9) + x_7)) (qX_Oc_34 hts (by decide)) hw 2 rfl rfl hl.1 rfl (lv_room (Nat.le_of_ble_eq_true rfl)) d_XOc_rewrite_40 hcs) (fun x_13 ex_13 => ?_)
        have hf := hf.trans (nm_eq ex_13)
        refine z_ri (z_runS (As := [.int (xF u_8 4), .int x_12, .int x_13]) (rest := []) ⟨hx, hb, hml, hown, hts⟩ (c_XOc_join l D a k u_8 (xF u_8 4) x_12 x_13) (qX_Oc_79 hts (by decide)) hw  hl.1 rfl (lv_room (Nat.le_of_ble_eq_true rfl)) d_XOc_rewrite_43 hcs) (fun x_14 ex_14 => ?_)
        have hf := hf.trans (nm_eq ex_14)
        refine lv_istore (lv' := [(5, .int x_14), (0, .ref (a 10)), (1, .ref (a 6)), (2, .int x2), (3, .int x_6), (4, .int x_7)]) hx hb d_XOc_rewrite_46 hl (by decide) rfl (fun ls hl => ?_)
        refine lv_aload_n hx hb d_XOc_rewrite_48 rfl (lv_at hl 1 rfl) ?_
        refine va_get (v := .ref (a 2)) hx hb hts iX_Oc hown hw.2.1 hw.1 10 rfl rfl 1 (by decide) (hts _ kX_Oc_21) (fun _ h => h) rfl d_XOc_rewrite_49 ?_
        refine lv_aload_n hx hb d_XOc_rewrite_52 rfl (lv_at hl 2 rfl) ?_
        refine va_getN (v := .int (xF u_8 8)) hx hb hts iX_In hown hw.2.1 hw.1 6 rfl rfl 4 (by decide) (va_Nw.use rfl (hw.2.2.2 _ kX_Oc_22).2) (fun _ h => h) rfl d_XOc_rewrite_53 ?_
        refine lv_iload hx hb d_XOc_rewrite_56 (lv_at hl 5 rfl) ?_
        refine lv_iadd hx hb d_XOc_rewrite_58 ?_
        refine lv_iload hx hb d_XOc_rewrite_59 (lv_at hl 0 rfl) ?_
        refine z_wv (z_runV (As := [.int ((xF u_8 8) + x_7), .int x_14]) (rest := []) ⟨hx, hb, hml, hown, hts⟩ (c_XMe_put l D a k u_8 ((xF u_8 8) + x_7) x_14) (qX_Oc_48 hts (by decide)) hw 2 rfl rfl hl.1 rfl (lv_room (Nat.le_of_ble_eq_true rfl)) d_XOc_rewrite_61 hcs) hw hS (fun u_15 H locs eu_15 hw hS => ?_)
        have hf := hf.trans (nm_eq eu_15)
        refine lv_iload_n hx hb d_XOc_rewrite_64 rfl (lv_at hl 4 rfl) ?_
        refine lv_iload hx hb d_XOc_rewrite_65 (lv_at hl 0 rfl) ?_
        refine lv_ior hx hb d_XOc_rewrite_67 ?_
        refine lv_topi (fun x_16 ex_16 => ?_)
        have hf := hf.trans (nm_eq ex_16)
        refine lv_istore_n (lv' := [(3, .int x_16), (5, .int x_14), (0, .ref (a 10)), (1, .ref (a 6)), (2, .int x2), (4, .int x_7)]) hx hb d_XOc_rewrite_68 rfl hl (by decide) rfl (fun ls hl => ?_)
        obtain ⟨x_17, ex_17⟩ : ∃ y : Int32, y = x_7 + (1 : Int32) := ⟨_, rfl⟩
        have hf := hf.trans (nm_eq ex_17)
        refine lv_iinc (v := x_17) (lv' := [(4, .int x_17), (3, .int x_16), (5, .int x_14), (0, .ref (a 10)), (1, .ref (a 6)), (2, .int x2)]) hx hb d_XOc_rewrite_69 hl (k := 5) rfl (by rw [ex_17]; rfl) (by decide) rfl (fun ls hl => ?_)
        refine lv_goto (tgt := 5) hx hb d_XOc_rewrite_72 (by decide) ?_
        exact hL_9 x_16 x_17 u_15 (mu_up c_11 ex_17 hn) _ _ hw hS _ (lv_sub hl [3, 4, 5, 1, 0] rfl) hf
def f_XOc_withField (u0 : XS)  : Int32 × XS := nm ((xF u0 5) + (1 : Int32)) (fun (x_1 : Int32) => nm (f_XMe_holds u0 (xF u0 8) x_1) (fun (z_2 : Bool) => if (bI z_2) = (0 : Int32) then ((5 : Int32), u0) else if (xF u0 4) = (220 : Int32) then pr (f_XOc_translate u0 x_1) (fun (x_13 : Int32) (u_12 : XS) => (x_13, u_12)) else nm (f_XMe_holds u0 (xF u0 9) x_1) (fun (z_5 : Bool) => if (bI z_5) = (0 : Int32) then ((5 : Int32), u0) else if (xF u0 4) = (213 : Int32) then pr (f_XOc_compare u0 x_1) (fun (x_11 : Int32) (u_10 : XS) => (x_11, u_10)) else pr (f_XOc_rewrite u0 x_1) (fun (x_9 : Int32) (u_8 : XS) => (x_9, u_8)))))
set_option maxHeartbeats 4000000 in
set_option maxRecDepth 100000 in
theorem c_XOc_withField (l : Launch) (D : va_G) (a : Nat → Nat) (k : Nat → ClassId) (u0 : XS)  : zMi l y_XOc_withField w_XOc_withField rm_XOc_withField D clX (tyX k) nwX (xW a k) [.ref (a 10), .ref (a 6)] u0 (f_XOc_withField u0) := by
  generalize hF : f_XOc_withField u0 = F
  have hf := hF.symm
  unfold f_XOc_withField at hf
  refine zMi_of (cc := b_XOc_withField) (maxL := 3) (own := RX_Oc) (by decide) rfl rfl (Nat.le_of_ble_eq_true rfl) ?_
  intro p e R st m args below meth c A H locs Q ls hR hx hb hml hown hts hw hS hret hl
  subst hR
  have hcs : 0 ≤ (rm_XOc_withField).cells ∧ 0 ≤ (rm_XOc_withField).slots := ⟨Nat.zero_le _, Nat.zero_le _⟩
  have hl : lv_has ls 3 [(0, .ref (a 10)), (1, .ref (a 6))] := hl
  refine lv_aload_n hx hb d_XOc_withField_0 rfl (lv_at hl 1 rfl) ?_
  refine va_getN (v := .int (xF u0 5)) hx hb hts iX_In hown hw.2.1 hw.1 6 rfl rfl 1 (by decide) (va_Nw.use rfl (hw.2.2.2 _ kX_Oc_41).2) (fun _ h => h) rfl d_XOc_withField_1 ?_
  refine lv_iconst (v := (1 : Int32)) hx hb d_XOc_withField_4 (by decide) ?_
  refine lv_iadd hx hb d_XOc_withField_5 ?_
  refine lv_topi (fun x_1 ex_1 => ?_)
  have hf := hf.trans (nm_eq ex_1)
  refine lv_istore_n (lv' := [(2, .int x_1), (0, .ref (a 10)), (1, .ref (a 6))]) hx hb d_XOc_withField_6 rfl hl (by decide) rfl (fun ls hl => ?_)
  refine lv_aload_n hx hb d_XOc_withField_7 rfl (lv_at hl 1 rfl) ?_
  refine va_get (v := .ref (a 2)) hx hb hts iX_Oc hown hw.2.1 hw.1 10 rfl rfl 1 (by decide) (hts _ kX_Oc_21) (fun _ h => h) rfl d_XOc_withField_8 ?_
  refine lv_aload_n hx hb d_XOc_withField_11 rfl (lv_at hl 2 rfl) ?_
  refine va_getN (v := .int (xF u0 8)) hx hb hts iX_In hown hw.2.1 hw.1 6 rfl rfl 4 (by decide) (va_Nw.use rfl (hw.2.2.2 _ kX_Oc_22).2) (fun _ h => h) rfl d_XOc_withField_12 ?_
  refine lv_iload_n hx hb d_XOc_withField_15 rfl (lv_at hl 0 rfl) ?_
  refine z_rz (z_runV (As := [.int (xF u0 8), .int x_1]) (rest := []) ⟨hx, hb, hml, hown, hts⟩ (c_XMe_holds l D a k u0 (xF u0 8) x_1) (qX_Oc_28 hts (by decide)) hw 2 rfl rfl hl.1 rfl (lv_room (Nat.le_of_ble_eq_true rfl)) d_XOc_withField_16 hcs) (fun z_2 ez_2 => ?_)
  have hf := hf.trans (nm_eq ez_2)
  refine lv_if_ne (tgt := 24) hx hb d_XOc_withField_19 (by decide) (fun c_3 => ?_) (fun c_3 => ?_)
  · have hf := hf.trans (if_neg c_3)
    refine lv_aload_n hx hb d_XOc_withField_24 rfl (lv_at hl 2 rfl) ?_
    refine va_getN (v := .int (xF u0 4)) hx hb hts iX_In hown hw.2.1 hw.1 6 rfl rfl 0 (by decide) (va_Nw.use rfl (hw.2.2.2 _ kX_Oc_38).2) (fun _ h => h) rfl d_XOc_withField_25 ?_
    refine lv_sipush (v := (220 : Int32)) hx hb d_XOc_withField_28 (by decide) ?_
    refine lv_icmp_ne (tgt := 41) hx hb d_XOc_withField_31 (by decide) (fun c_4 => ?_) (fun c_4 => ?_)
    · have hf := hf.trans (if_neg c_4)
      refine lv_aload_n hx hb d_XOc_withField_41 rfl (lv_at hl 1 rfl) ?_
      refine va_get (v := .ref (a 2)) hx hb hts iX_Oc hown hw.2.1 hw.1 10 rfl rfl 1 (by decide) (hts _ kX_Oc_21) (fun _ h => h) rfl d_XOc_withField_42 ?_
      refine lv_aload_n hx hb d_XOc_withField_45 rfl (lv_at hl 2 rfl) ?_
      refine va_getN (v := .int (xF u0 9)) hx hb hts iX_In hown hw.2.1 hw.1 6 rfl rfl 5 (by decide) (va_Nw.use rfl (hw.2.2.2 _ kX_Oc_63).2) (fun _ h => h) rfl d_XOc_withField_46 ?_
      refine lv_iload_n hx hb d_XOc_withField_49 rfl (lv_at hl 0 rfl) ?_
      refine z_rz (z_runV (As := [.int (xF u0 9), .int x_1]) (rest := []) ⟨hx, hb, hml, hown, hts⟩ (c_XMe_holds l D a k u0 (xF u0 9) x_1) (qX_Oc_28 hts (by decide)) hw 2 rfl rfl hl.1 rfl (lv_room (Nat.le_of_ble_eq_true rfl)) d_XOc_withField_50 hcs) (fun z_5 ez_5 => ?_)
      have hf := hf.trans (nm_eq ez_5)
      refine lv_if_ne (tgt := 58) hx hb d_XOc_withField_53 (by decide) (fun c_6 => ?_) (fun c_6 => ?_)
      · have hf := hf.trans (if_neg c_6)
        refine lv_aload_n hx hb d_XOc_withField_58 rfl (lv_at hl 2 rfl) ?_
        refine va_getN (v := .int (xF u0 4)) hx hb hts iX_In hown hw.2.1 hw.1 6 rfl rfl 0 (by decide) (va_Nw.use rfl (hw.2.2.2 _ kX_Oc_38).2) (fun _ h => h) rfl d_XOc_withField_59 ?_
        refine lv_sipush (v := (213 : Int32)) hx hb d_XOc_withField_62 (by decide) ?_
        refine lv_icmp_ne (tgt := 77) hx hb d_XOc_withField_65 (by decide) (fun c_7 => ?_) (fun c_7 => ?_)
        · have hf := hf.trans (if_neg c_7)
          refine lv_aload_n hx hb d_XOc_withField_77 rfl (lv_at hl 1 rfl) ?_
          refine lv_aload_n hx hb d_XOc_withField_78 rfl (lv_at hl 2 rfl) ?_
          refine lv_iload_n hx hb d_XOc_withField_79 rfl (lv_at hl 0 rfl) ?_
          refine z_wi (z_runV (As := [.ref (a 6), .int x_1]) (rest := []) ⟨hx, hb, hml, hown, hts⟩ (c_XOc_rewrite l D a k u0 x_1) (qX_Oc_69 hts (by decide)) hw 10 rfl rfl hl.1 rfl (lv_room (Nat.le_of_ble_eq_true rfl)) d_XOc_withField_80 hcs) hw hS (fun x_9 u_8 H locs ex_9 hw hS => ?_)
          have hf := hf.trans (pr_eq ex_9)
          exact hret x_9 _ _ _ _ _ d_XOc_withField_83 hw hS hf
        · have hf := hf.trans (if_pos c_7)
          refine lv_aload_n hx hb d_XOc_withField_68 rfl (lv_at hl 1 rfl) ?_
          refine lv_aload_n hx hb d_XOc_withField_69 rfl (lv_at hl 2 rfl) ?_
          refine lv_iload_n hx hb d_XOc_withField_70 rfl (lv_at hl 0 rfl) ?_
          refine z_wi (z_runV (As := [.ref (a 6), .int x_1]) (rest := []) ⟨hx, hb, hml, hown, hts⟩ (c_XOc_compare l D a k u0 x_1) (qX_Oc_66 hts (by decide)) hw 10 rfl rfl hl.1 rfl (lv_room (Nat.le_of_ble_eq_true rfl)) d_XOc_withField_71 hcs) hw hS (fun x_11 u_10 H locs ex_11 hw hS => ?_)
          have hf := hf.trans (pr_eq ex_11)
          refine lv_goto (tgt := 83) hx hb d_XOc_withField_74 (by decide) ?_
          exact hret x_11 _ _ _ _ _ d_XOc_withField_83 hw hS hf
      · have hf := hf.trans (if_pos c_6)
        refine lv_iconst (v := (5 : Int32)) hx hb d_XOc_withField_56 (by decide) ?_
        exact hret (5 : Int32) _ _ _ _ _ d_XOc_withField_57 hw hS hf
    · have hf := hf.trans (if_pos c_4)
      refine lv_aload_n hx hb d_XOc_withField_34 rfl (lv_at hl 1 rfl) ?_
      refine lv_aload_n hx hb d_XOc_withField_35 rfl (lv_at hl 2 rfl) ?_
      refine lv_iload_n hx hb d_XOc_withField_36 rfl (lv_at hl 0 rfl) ?_
      refine z_wi (z_runV (As := [.ref (a 6), .int x_1]) (rest := []) ⟨hx, hb, hml, hown, hts⟩ (c_XOc_translate l D a k u0 x_1) (qX_Oc_59 hts (by decide)) hw 10 rfl rfl hl.1 rfl (lv_room (Nat.le_of_ble_eq_true rfl)) d_XOc_withField_37 hcs) hw hS (fun x_13 u_12 H locs ex_13 hw hS => ?_)
      have hf := hf.trans (pr_eq ex_13)
      exact hret x_13 _ _ _ _ _ d_XOc_withField_40 hw hS hf
  · have hf := hf.trans (if_pos c_3)
    refine lv_iconst (v := (5 : Int32)) hx hb d_XOc_withField_22 (by decide) ?_
    exact hret (5 : Int32) _ _ _ _ _ d_XOc_withField_23 hw hS hf
