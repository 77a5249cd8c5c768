def f_XBr_isAboveAfterStep (u0 : XS)  : Bool × XS := nm (f_XSt_value u0 ((xF u0 7) ||| (1 : Int32))) (fun (x_1 : Int32) => nm (f_XSt_value u0 (xF u0 6)) (fun (x_2 : Int32) => nm (f_XSt_value u0 (xF u0 7)) (fun (x_3 : Int32) => nm (x_2 + x_3) (fun (x_4 : Int32) => nm (f_XSt_put u0 (xF u0 6) x_4) (fun (u_5 : XS) => if x_4 ≤ x_1 then (false, u_5) else (true, u_5))))))
set_option maxHeartbeats 4000000 in
set_option maxRecDepth 100000 in
theorem c_XBr_isAboveAfterStep (l : Launch) (D : va_G) (a : Nat → Nat) (k : Nat → ClassId) (u0 : XS)  : zMz l y_XBr_isAboveAfterStep w_XBr_isAboveAfterStep rm_XBr_isAboveAfterStep D clX (tyX k) nwX (xW a k) [.ref (a 9), .ref (a 6)] u0 (f_XBr_isAboveAfterStep u0) := by
  generalize hF : f_XBr_isAboveAfterStep u0 = F
  have hf := hF.symm
  unfold f_XBr_isAboveAfterStep at hf
  refine zMz_of (cc := b_XBr_isAboveAfterStep) (maxL := 4) (own := RX_Br) (by decide) rfl rfl (Nat.le_of_ble_eq_true rfl) ?_
  intro p e R st m args below meth c A H locs Q ls hR hx hb hml hown hts hw hS hret hl
  subst hR
  have hcs : 0 ≤ (rm_XBr_isAboveAfterStep).cells ∧ 0 ≤ (rm_XBr_isAboveAfterStep).slots := ⟨Nat.zero_le _, Nat.zero_le _⟩
  have hl : lv_has ls 4 [(0, .ref (a 9)), (1, .ref (a 6))] := hl
  refine lv_aload_n hx hb d_XBr_isAboveAfterStep_0 rfl (lv_at hl 0 rfl) ?_
  refine va_get (v := .ref (a 1)) hx hb hts iX_Br hown hw.2.1 hw.1 9 rfl rfl 0 (by decide) (hts _ kX_Br_9) (fun _ h => h) rfl d_XBr_isAboveAfterStep_1 ?_
  refine lv_aload_n hx hb d_XBr_isAboveAfterStep_4 rfl (lv_at hl 1 rfl) ?_
  refine va_getN (v := .int (xF u0 7)) hx hb hts iX_In hown hw.2.1 hw.1 6 rfl rfl 3 (by decide) (va_Nw.use rfl (hw.2.2.2 _ kX_Br_21).2) (fun _ h => h) rfl d_XBr_isAboveAfterStep_5 ?_
  refine lv_iconst (v := (1 : Int32)) hx hb d_XBr_isAboveAfterStep_8 (by decide) ?_
  refine lv_ior hx hb d_XBr_isAboveAfterStep_9 ?_
  refine z_ri (z_runV (As := [.int ((xF u0 7) ||| (1 : Int32))]) (rest := []) ⟨hx, hb, hml, hown, hts⟩ (c_XSt_value l D a k u0 ((xF u0 7) ||| (1 : Int32))) (qX_Br_24 hts (by decide)) hw 1 rfl rfl hl.1 rfl (lv_room (Nat.le_of_ble_eq_true rfl)) d_XBr_isAboveAfterStep_10 hcs) (fun x_1 ex_1 => ?_)
  have hf := hf.trans (nm_eq ex_1)
  refine lv_istore_n (lv' := [(2, .int x_1), (0, .ref (a 9)), (1, .ref (a 6))]) hx hb d_XBr_isAboveAfterStep_13 rfl hl (by decide) rfl (fun ls hl => ?_)
  refine lv_aload_n hx hb d_XBr_isAboveAfterStep_14 rfl (lv_at hl 1 rfl) ?_
  refine va_get (v := .ref (a 1)) hx hb hts iX_Br hown hw.2.1 hw.1 9 rfl rfl 0 (by decide) (hts _ kX_Br_9) (fun _ h => h) rfl d_XBr_isAboveAfterStep_15 ?_
  refine lv_aload_n hx hb d_XBr_isAboveAfterStep_18 rfl (lv_at hl 2 rfl) ?_
  refine va_getN (v := .int (xF u0 6)) hx hb hts iX_In hown hw.2.1 hw.1 6 rfl rfl 2 (by decide) (va_Nw.use rfl (hw.2.2.2 _ kX_Br_41).2) (fun _ h => h) rfl d_XBr_isAboveAfterStep_19 ?_
  refine z_ri (z_runV (As := [.int (xF u0 6)]) (rest := []) ⟨hx, hb, hml, hown, hts⟩ (c_XSt_value l D a k u0 (xF u0 6)) (qX_Br_24 hts (by decide)) hw 1 rfl rfl hl.1 rfl (lv_room (Nat.le_of_ble_eq_true rfl)) d_XBr_isAboveAfterStep_22 hcs) (fun x_2 ex_2 => ?_)
  have hf := hf.trans (nm_eq ex_2)
  refine lv_aload_n hx hb d_XBr_isAboveAfterStep_25 rfl (lv_at hl 1 rfl) ?_
  refine va_get (v := .ref (a 1)) hx hb hts iX_Br hown hw.2.1 hw.1 9 rfl rfl 0 (by decide) (hts _ kX_Br_9) (fun _ h => h) rfl d_XBr_isAboveAfterStep_26 ?_
  refine lv_aload_n hx hb d_XBr_isAboveAfterStep_29 rfl (lv_at hl 2 rfl) ?_
  refine va_getN (v := .int (xF u0 7)) hx hb hts iX_In hown hw.2.1 hw.1 6 rfl rfl 3 (by decide) (va_Nw.use rfl (hw.2.2.2 _ kX_Br_21).2) (fun _ h => h) rfl d_XBr_isAboveAfterStep_30 ?_
  refine z_ri (z_runV (As := [.int (xF u0 7)]) (rest := [.int x_2]) ⟨hx, hb, hml, hown, hts⟩ (c_XSt_value l D a k u0 (xF u0 7)) (qX_Br_24 hts (by decide)) hw 1 rfl rfl hl.1 rfl (lv_room (Nat.le_of_ble_eq_true rfl)) d_XBr_isAboveAfterStep_33 hcs) (fun x_3 ex_3 => ?_)
  have hf := hf.trans (nm_eq ex_3)
  refine lv_iadd hx hb d_XBr_isAboveAfterStep_36 ?_
  refine lv_topi (fun x_4 ex_4 => ?_)
  have hf := hf.trans (nm_eq ex_4)
  refine lv_istore_n (lv' := [(3, .int x_4), (2, .int x_1), (0, .ref (a 9)), (1, .ref (a 6))]) hx hb d_XBr_isAboveAfterStep_37 rfl hl (by decide) rfl (fun ls hl => ?_)
  refine lv_aload_n hx hb d_XBr_isAboveAfterStep_38 rfl (lv_at hl 2 rfl) ?_
  refine va_get (v := .ref (a 1)) hx hb hts iX_Br hown hw.2.1 hw.1 9 rfl rfl 0 (by decide) (hts _ kX_Br_9) (fun _ h => h) rfl d_XBr_isAboveAfterStep_39 ?_
  refine lv_aload_n hx hb d_XBr_isAboveAfterStep_42 rfl (lv_at hl 3 rfl) ?_
  refine va_getN (v := .int (xF u0 6)) hx hb hts iX_In hown hw.2.1 hw.1 6 rfl rfl 2 (by decide) (va_Nw.use rfl (hw.2.2.2 _ kX_Br_41).2) (fun _ h => h) rfl d_XBr_isAboveAfterStep_43 ?_
  refine lv_iload_n hx hb d_XBr_isAboveAfterStep_46 rfl (lv_at hl 0 rfl) ?_
  refine z_wv (z_runV (As := [.int (xF u0 6), .int x_4]) (rest := []) ⟨hx, hb, hml, hown, hts⟩ (c_XSt_put l D a k u0 (xF u0 6) x_4) (qX_Br_47 hts (by decide)) hw 1 rfl rfl hl.1 rfl (lv_room (Nat.le_of_ble_eq_true rfl)) d_XBr_isAboveAfterStep_47 hcs) hw hS (fun u_5 H locs eu_5 hw hS => ?_)
  have hf := hf.trans (nm_eq eu_5)
  refine lv_iload_n hx hb d_XBr_isAboveAfterStep_50 rfl (lv_at hl 0 rfl) ?_
  refine lv_iload_n hx hb d_XBr_isAboveAfterStep_51 rfl (lv_at hl 1 rfl) ?_
  refine lv_icmp_le (tgt := 59) hx hb d_XBr_isAboveAfterStep_52 (by decide) (fun c_6 => ?_) (fun c_6 => ?_)
  · have hf := hf.trans (if_pos c_6)
    refine lv_iconst (v := (0 : Int32)) hx hb d_XBr_isAboveAfterStep_59 (by decide) ?_
    exact hret false _ _ _ _ _ d_XBr_isAboveAfterStep_60 hw hS hf
  · have hf := hf.trans (if_neg c_6)
    refine lv_iconst (v := (1 : Int32)) hx hb d_XBr_isAboveAfterStep_55 (by decide) ?_
    refine lv_goto (tgt := 60) hx hb d_XBr_isAboveAfterStep_56 (by decide) ?_
    exact hret true _ _ _ _ _ d_XBr_isAboveAfterStep_60 hw hS hf
def f_XBr_decide (u0 : XS)  : Bool × XS := nm (xF u0 4) (fun (x_1 : Int32) => jn (fun (K_2 : Bool × XS) => jn (fun (K_4 : Bool × XS) => jn (fun (K_9 : Bool × XS) => if x_1 = (5 : Int32) then K_9 else if x_1 = (6 : Int32) then K_4 else if x_1 = (7 : Int32) then K_2 else if x_1 = (69 : Int32) then K_9 else if x_1 = (70 : Int32) then K_4 else if x_1 = (71 : Int32) then K_2 else pr (f_XBr_isAboveAfterStep u0) (fun (z_18 : Bool) (u_17 : XS) => if (xF u_17 4) = (134 : Int32) then if (bI z_18) = (1 : Int32) then (true, u_17) else (false, u_17) else if (bI z_18) = (0 : Int32) then (true, u_17) else (false, u_17))) (nm (f_XSt_put u0 (xF u0 6) (xF u0 10)) (fun (u_10 : XS) => (true, u_10)))) (nm (f_XSt_value u0 (xF u0 6)) (fun (x_5 : Int32) => nm (f_XSt_put u0 (xF u0 6) (x_5 - (1 : Int32))) (fun (u_6 : XS) => nm (f_XSt_value u_6 (xF u_6 6)) (fun (x_7 : Int32) => if x_7 = (0 : Int32) then (false, u_6) else (true, u_6)))))) (if ((xF u0 6) &&& ((8 : Int32) >>> ((xF u0 1) &&& 31))) = (0 : Int32) then (false, u0) else (true, u0)))
set_option maxHeartbeats 4000000 in
set_option maxRecDepth 100000 in
theorem c_XBr_decide (l : Launch) (D : va_G) (a : Nat → Nat) (k : Nat → ClassId) (u0 : XS)  : zMz l y_XBr_decide w_XBr_decide rm_XBr_decide D clX (tyX k) nwX (xW a k) [.ref (a 9), .ref (a 6)] u0 (f_XBr_decide u0) := by
  generalize hF : f_XBr_decide u0 = F
  have hf := hF.symm
  unfold f_XBr_decide at hf
  refine zMz_of (cc := b_XBr_decide) (maxL := 2) (own := RX_Br) (by decide) rfl rfl (Nat.le_of_ble_eq_true rfl) ?_
  intro p e R st m args below meth c A H locs Q ls hR hx hb hml hown hts hw hS hret hl
  subst hR
  have hcs : 0 ≤ (rm_XBr_decide).cells ∧ 0 ≤ (rm_XBr_decide).slots := ⟨Nat.zero_le _, Nat.zero_le _⟩
  have hl : lv_has ls 2 [(0, .ref (a 9)), (1, .ref (a 6))] := hl
  refine lv_aload_n hx hb d_XBr_decide_0 rfl (lv_at hl 1 rfl) ?_
  refine va_getN (v := .int (xF u0 4)) hx hb hts iX_In hown hw.2.1 hw.1 6 rfl rfl 0 (by decide) (va_Nw.use rfl (hw.2.2.2 _ kX_Br_15).2) (fun _ h => h) rfl d_XBr_decide_1 ?_
  refine lv_topi (fun x_1 ex_1 => ?_)
  have hf := hf.trans (nm_eq ex_1)
  refine jn_cut hf (fun (K_2 : Bool × XS) => ∀ (ls : Array Slot), lv_has ls 2 [(0, .ref (a 9)), (1, .ref (a 6))] → F = K_2 → W p l e rm_XBr_decide st m args below meth c H locs 0 0 Q (F0 m 125 ls [])) ?_ ?_
  · intro ls hl hf
    refine lv_aload_n hx hb d_XBr_decide_125 rfl (lv_at hl 1 rfl) ?_
    refine va_getN (v := .int (xF u0 6)) hx hb hts iX_In hown hw.2.1 hw.1 6 rfl rfl 2 (by decide) (va_Nw.use rfl (hw.2.2.2 _ kX_Br_41).2) (fun _ h => h) rfl d_XBr_decide_126 ?_
    refine lv_bipush (v := (8 : Int32)) hx hb d_XBr_decide_129 (by decide) ?_
    refine lv_aload_n hx hb d_XBr_decide_131 rfl (lv_at hl 0 rfl) ?_
    refine va_get (v := .ref (a 1)) hx hb hts iX_Br hown hw.2.1 hw.1 9 rfl rfl 0 (by decide) (hts _ kX_Br_9) (fun _ h => h) rfl d_XBr_decide_132 ?_
    refine va_getN (v := .int (xF u0 1)) hx hb hts iX_St hown hw.2.1 hw.1 1 rfl rfl 3 (by decide) (va_Nw.use rfl (hw.2.2.2 _ kX_Br_51).2) (fun _ h => h) rfl d_XBr_decide_135 ?_
    refine lv_ishr hx hb d_XBr_decide_138 ?_
    refine lv_iand hx hb d_XBr_decide_139 ?_
    refine lv_if_eq (tgt := 147) hx hb d_XBr_decide_140 (by decide) (fun c_3 => ?_) (fun c_3 => ?_)
    · have hf := hf.trans (if_pos c_3)
      refine lv_iconst (v := (0 : Int32)) hx hb d_XBr_decide_147 (by decide) ?_
      exact hret false _ _ _ _ _ d_XBr_decide_148 hw hS hf
    · have hf := hf.trans (if_neg c_3)
      refine lv_iconst (v := (1 : Int32)) hx hb d_XBr_decide_143 (by decide) ?_
      refine lv_goto (tgt := 148) hx hb d_XBr_decide_144 (by decide) ?_
      exact hret true _ _ _ _ _ d_XBr_decide_148 hw hS hf
  · intro K_2 hK_2 hf
    refine jn_cut hf (fun (K_4 : Bool × XS) => ∀ (ls : Array Slot), lv_has ls 2 [(0, .ref (a 9)), (1, .ref (a 6))] → F = K_4 → W p l e rm_XBr_decide st m args below meth c H locs 0 0 Q (F0 m 81 ls [])) ?_ ?_
    · intro ls hl hf
      refine lv_aload_n hx hb d_XBr_decide_81 rfl (lv_at hl 0 rfl) ?_
      refine va_get (v := .ref (a 1)) hx hb hts iX_Br hown hw.2.1 hw.1 9 rfl rfl 0 (by decide) (hts _ kX_Br_9) (fun _ h => h) rfl d_XBr_decide_82 ?_
      refine lv_aload_n hx hb d_XBr_decide_85 rfl (lv_at hl 1 rfl) ?_
      refine va_getN (v := .int (xF u0 6)) hx hb hts iX_In hown hw.2.1 hw.1 6 rfl rfl 2 (by decide) (va_Nw.use rfl (hw.2.2.2 _ kX_Br_41).2) (fun _ h => h) rfl d_XBr_decide_86 ?_
      refine lv_aload_n hx hb d_XBr_decide_89 rfl (lv_at hl 0 rfl) ?_
      refine va_get (v := .ref (a 1)) hx hb hts iX_Br hown hw.2.1 hw.1 9 rfl rfl 0 (by decide) (hts _ kX_Br_9) (fun _ h => h) rfl d_XBr_decide_90 ?_
      refine lv_aload_n hx hb d_XBr_decide_93 rfl (lv_at hl 1 rfl) ?_
      refine va_getN (v := .int (xF u0 6)) hx hb hts iX_In hown hw.2.1 hw.1 6 rfl rfl 2 (by decide) (va_Nw.use rfl (hw.2.2.2 _ kX_Br_41).2) (fun _ h => h) rfl d_XBr_decide_94 ?_
      refine z_ri (z_runV (As := [.int (xF u0 6)]) (rest := [.int (xF u0 6), .ref (a 1)]) ⟨hx, hb, hml, hown, hts⟩ (c_XSt_value l D a k u0 (xF u0 6)) (qX_Br_24 hts (by decide)) hw 1 rfl rfl hl.1 rfl (lv_room (Nat.le_of_ble_eq_true rfl)) d_XBr_decide_97 hcs) (fun x_5 ex_5 => ?_)
      have hf := hf.trans (nm_eq ex_5)
      refine lv_iconst (v := (1 : Int32)) hx hb d_XBr_decide_100 (by decide) ?_
      refine lv_isub hx hb d_XBr_decide_101 ?_
      refine z_wv (z_runV (As := [.int (xF u0 6), .int (x_5 - (1 : Int32))]) (rest := []) ⟨hx, hb, hml, hown, hts⟩ (c_XSt_put l D a k u0 (xF u0 6) (x_5 - (1 : Int32))) (qX_Br_47 hts (by decide)) hw 1 rfl rfl hl.1 rfl (lv_room (Nat.le_of_ble_eq_true rfl)) d_XBr_decide_102 hcs) hw hS (fun u_6 H locs eu_6 hw hS => ?_)
      have hf := hf.trans (nm_eq eu_6)
      refine lv_aload_n hx hb d_XBr_decide_105 rfl (lv_at hl 0 rfl) ?_
      refine va_get (v := .ref (a 1)) hx hb hts iX_Br hown hw.2.1 hw.1 9 rfl rfl 0 (by decide) (hts _ kX_Br_9) (fun _ h => h) rfl d_XBr_decide_106 ?_
      refine lv_aload_n hx hb d_XBr_decide_109 rfl (lv_at hl 1 rfl) ?_
      refine va_getN (v := .int (xF u_6 6)) hx hb hts iX_In hown hw.2.1 hw.1 6 rfl rfl 2 (by decide) (va_Nw.use rfl (hw.2.2.2 _ kX_Br_41).2) (fun _ h => h) rfl d_XBr_decide_110 ?_
      refine z_ri (z_runV (As := [.int (xF u_6 6)]) (rest := []) ⟨hx, hb, hml, hown, hts⟩ (c_XSt_value l D a k u_6 (xF u_6 6)) (qX_Br_24 hts (by decide)) hw 1 rfl rfl hl.1 rfl (lv_room (Nat.le_of_ble_eq_true rfl)) d_XBr_decide_113 hcs) (fun x_7 ex_7 => ?_)
      have hf := hf.trans (nm_eq ex_7)
      refine lv_if_eq (tgt := 123) hx hb d_XBr_decide_116 (by decide) (fun c_8 => ?_) (fun c_8 => ?_)
      · have hf := hf.trans (if_pos c_8)
        refine lv_iconst (v := (0 : Int32)) hx hb d_XBr_decide_123 (by decide) ?_
        exact hret false _ _ _ _ _ d_XBr_decide_124 hw hS hf
      · have hf := hf.trans (if_neg c_8)
        refine lv_iconst (v := (1 : Int32)) hx hb d_XBr_decide_119 (by decide) ?_
        refine lv_goto (tgt := 124) hx hb d_XBr_decide_120 (by decide) ?_
        exact hret true _ _ _ _ _ d_XBr_decide_124 hw hS hf
    · intro K_4 hK_4 hf
      refine jn_cut hf (fun (K_9 : Bool × XS) => ∀ (ls : Array Slot), lv_has ls 2 [(0, .ref (a 9)), (1, .ref (a 6))] → F = K_9 → W p l e rm_XBr_decide st m args below meth c H locs 0 0 Q (F0 m 64 ls [])) ?_ ?_
      · intro ls hl hf
        refine lv_aload_n hx hb d_XBr_decide_64 rfl (lv_at hl 0 rfl) ?_
        refine va_get (v := .ref (a 1)) hx hb hts iX_Br hown hw.2.1 hw.1 9 rfl rfl 0 (by decide) (hts _ kX_Br_9) (fun _ h => h) rfl d_XBr_decide_65 ?_
        refine lv_aload_n hx hb d_XBr_decide_68 rfl (lv_at hl 1 rfl) ?_
        refine va_getN (v := .int (xF u0 6)) hx hb hts iX_In hown hw.2.1 hw.1 6 rfl rfl 2 (by decide) (va_Nw.use rfl (hw.2.2.2 _ kX_Br_41).2) (fun _ h => h) rfl d_XBr_decide_69 ?_
        refine lv_aload_n hx hb d_XBr_decide_72 rfl (lv_at hl 1 rfl) ?_
        refine va_getN (v := .int (xF u0 10)) hx hb hts iX_In hown hw.2.1 hw.1 6 rfl rfl 6 (by decide) (va_Nw.use rfl (hw.2.2.2 _ kX_Br_44).2) (fun _ h => h) rfl d_XBr_decide_73 ?_
        refine z_wv (z_runV (As := [.int (xF u0 6), .int (xF u0 10)]) (rest := []) ⟨hx, hb, hml, hown, hts⟩ (c_XSt_put l D a k u0 (xF u0 6) (xF u0 10)) (qX_Br_47 hts (by decide)) hw 1 rfl rfl hl.1 rfl (lv_room (Nat.le_of_ble_eq_true rfl)) d_XBr_decide_76 hcs) hw hS (fun u_10 H locs eu_10 hw hS => ?_)
        have hf := hf.trans (nm_eq eu_10)
        refine lv_iconst (v := (1 : Int32)) hx hb d_XBr_decide_79 (by decide) ?_
        exact hret true _ _ _ _ _ d_XBr_decide_80 hw hS hf
      · intro K_9 hK_9 hf
        by_cases c_11 : x_1 = (5 : Int32)
        · have hf := hf.trans (if_pos c_11)
          refine lv_lookup (off := 60) (tgt := 64) hx hb d_XBr_decide_4 (by decide +kernel) (by rw [c_11]; decide +kernel) (by decide) ?_
          exact hK_9 _ (lv_sub hl [0, 1] rfl) hf
        have hf := hf.trans (if_neg c_11)
        by_cases c_12 : x_1 = (6 : Int32)
        · have hf := hf.trans (if_pos c_12)
          refine lv_lookup (off := 77) (tgt := 81) hx hb d_XBr_decide_4 (by decide +kernel) (by rw [c_12]; decide +kernel) (by decide) ?_
          exact hK_4 _ (lv_sub hl [0, 1] rfl) hf
        have hf := hf.trans (if_neg c_12)
        by_cases c_13 : x_1 = (7 : Int32)
        · have hf := hf.trans (if_pos c_13)
          refine lv_lookup (off := 121) (tgt := 125) hx hb d_XBr_decide_4 (by decide +kernel) (by rw [c_13]; decide +kernel) (by decide) ?_
          exact hK_2 _ (lv_sub hl [0, 1] rfl) hf
        have hf := hf.trans (if_neg c_13)
        by_cases c_14 : x_1 = (69 : Int32)
        · have hf := hf.trans (if_pos c_14)
          refine lv_lookup (off := 60) (tgt := 64) hx hb d_XBr_decide_4 (by decide +kernel) (by rw [c_14]; decide +kernel) (by decide) ?_
          exact hK_9 _ (lv_sub hl [0, 1] rfl) hf
        have hf := hf.trans (if_neg c_14)
        by_cases c_15 : x_1 = (70 : Int32)
        · have hf := hf.trans (if_pos c_15)
          refine lv_lookup (off := 77) (tgt := 81) hx hb d_XBr_decide_4 (by decide +kernel) (by rw [c_15]; decide +kernel) (by decide) ?_
          exact hK_4 _ (lv_sub hl [0, 1] rfl) hf
        have hf := hf.trans (if_neg c_15)
        by_cases c_16 : x_1 = (71 : Int32)
        · have hf := hf.trans (if_pos c_16)
          refine lv_lookup (off := 121) (tgt := 125) hx hb d_XBr_decide_4 (by decide +kernel) (by rw [c_16]; decide +kernel) (by decide) ?_
          exact hK_2 _ (lv_sub hl [0, 1] rfl) hf
        have hf := hf.trans (if_neg c_16)
        refine lv_lookup (off := 145) (tgt := 149) hx hb d_XBr_decide_4 (by decide +kernel) (by rw [lv_osw c_11 (by decide +kernel), lv_osw c_12 (by decide +kernel), lv_osw c_13 (by decide +kernel), lv_osw c_14 (by decide +kernel), lv_osw c_15 (by decide +kernel), lv_osw c_16 (by decide +kernel)]; rfl) (by decide) ?_
        refine lv_aload_n hx hb d_XBr_decide_149 rfl (lv_at hl 0 rfl) ?_
        refine lv_aload_n hx hb d_XBr_decide_150 rfl (lv_at hl 1 rfl) ?_
        refine z_wz (z_runV (As := [.ref (a 6)]) (rest := []) ⟨hx, hb, hml, hown, hts⟩ (c_XBr_isAboveAfterStep l D a k u0) (qX_Br_54 hts (by decide)) hw 9 rfl rfl hl.1 rfl (lv_room (Nat.le_of_ble_eq_true rfl)) d_XBr_decide_151 hcs) hw hS (fun z_18 u_17 H locs ez_18 hw hS => ?_)
        have hf := hf.trans (pr_eq ez_18)
        refine lv_aload_n hx hb d_XBr_decide_154 rfl (lv_at hl 1 rfl) ?_
        refine va_getN (v := .int (xF u_17 4)) hx hb hts iX_In hown hw.2.1 hw.1 6 rfl rfl 0 (by decide) (va_Nw.use rfl (hw.2.2.2 _ kX_Br_15).2) (fun _ h => h) rfl d_XBr_decide_155 ?_
        refine lv_sipush (v := (134 : Int32)) hx hb d_XBr_decide_158 (by decide) ?_
        refine lv_icmp_ne (tgt := 168) hx hb d_XBr_decide_161 (by decide) (fun c_19 => ?_) (fun c_19 => ?_)
        · have hf := hf.trans (if_neg c_19)
          refine lv_iconst (v := (0 : Int32)) hx hb d_XBr_decide_168 (by decide) ?_
          refine lv_icmp_ne (tgt := 176) hx hb d_XBr_decide_169 (by decide) (fun c_20 => ?_) (fun c_20 => ?_)
          · have hf := hf.trans (if_neg c_20)
            refine lv_iconst (v := (0 : Int32)) hx hb d_XBr_decide_176 (by decide) ?_
            exact hret false _ _ _ _ _ d_XBr_decide_177 hw hS hf
          · have hf := hf.trans (if_pos c_20)
            refine lv_iconst (v := (1 : Int32)) hx hb d_XBr_decide_172 (by decide) ?_
            refine lv_goto (tgt := 177) hx hb d_XBr_decide_173 (by decide) ?_
            exact hret true _ _ _ _ _ d_XBr_decide_177 hw hS hf
        · have hf := hf.trans (if_pos c_19)
          refine lv_iconst (v := (1 : Int32)) hx hb d_XBr_decide_164 (by decide) ?_
          refine lv_goto (tgt := 169) hx hb d_XBr_decide_165 (by decide) ?_
          refine lv_icmp_ne (tgt := 176) hx hb d_XBr_decide_169 (by decide) (fun c_21 => ?_) (fun c_21 => ?_)
          · have hf := hf.trans (if_neg c_21)
            refine lv_iconst (v := (0 : Int32)) hx hb d_XBr_decide_176 (by decide) ?_
            exact hret false _ _ _ _ _ d_XBr_decide_177 hw hS hf
          · have hf := hf.trans (if_pos c_21)
            refine lv_iconst (v := (1 : Int32)) hx hb d_XBr_decide_172 (by decide) ?_
            refine lv_goto (tgt := 177) hx hb d_XBr_decide_173 (by decide) ?_
            exact hret true _ _ _ _ _ d_XBr_decide_177 hw hS hf
def f_XBr_perform (u0 : XS)  : Int32 × XS := jn (fun (K_2 : Bool → Int32 × XS) => if (64 : Int32) ≤ (xF u0 4) then K_2 false else K_2 true) (fun (z_1 : Bool) => jn (fun (K_4 : Int32 → Int32 × XS) => if (bI z_1) = (0 : Int32) then K_4 (xF u0 9) else nm (f_XSt_value u0 (xF u0 7)) (fun (x_13 : Int32) => K_4 (x_13 &&& (16777215 : Int32)))) (fun (x_3 : Int32) => pr (f_XBr_decide u0) (fun (z_6 : Bool) (u_5 : XS) => if (bI z_6) = (0 : Int32) then ((0 : Int32), u_5) else if (bI z_1) = (0 : Int32) then nm (xsF u_5 0 x_3) (fun (u_9 : XS) => ((0 : Int32), u_9)) else if (xF u_5 7) = (0 : Int32) then ((0 : Int32), u_5) else nm (xsF u_5 0 x_3) (fun (u_11 : XS) => ((0 : Int32), u_11)))))
set_option maxHeartbeats 4000000 in
set_option maxRecDepth 100000 in
theorem c_XBr_perform (l : Launch) (D : va_G) (a : Nat → Nat) (k : Nat → ClassId) (u0 : XS)  : zMi l y_XBr_perform w_XBr_perform rm_XBr_perform D clX (tyX k) nwX (xW a k) [.ref (a 9), .ref (a 6)] u0 (f_XBr_perform u0) := by
  generalize hF : f_XBr_perform u0 = F
  have hf := hF.symm
  unfold f_XBr_perform at hf
  refine zMi_of (cc := b_XBr_perform) (maxL := 5) (own := RX_Br) (by decide) rfl rfl (Nat.le_of_ble_eq_true rfl) ?_
  intro p e R st m args below meth c A H locs Q ls hR hx hb hml hown hts hw hS hret hl
  subst hR
  have hcs : 0 ≤ (rm_XBr_perform).cells ∧ 0 ≤ (rm_XBr_perform).slots := ⟨Nat.zero_le _, Nat.zero_le _⟩
  have hl : lv_has ls 5 [(0, .ref (a 9)), (1, .ref (a 6))] := hl
  refine lv_aload_n hx hb d_XBr_perform_0 rfl (lv_at hl 1 rfl) ?_
  refine va_getN (v := .int (xF u0 4)) hx hb hts iX_In hown hw.2.1 hw.1 6 rfl rfl 0 (by decide) (va_Nw.use rfl (hw.2.2.2 _ kX_Br_15).2) (fun _ h => h) rfl d_XBr_perform_1 ?_
  refine lv_bipush (v := (64 : Int32)) hx hb d_XBr_perform_4 (by decide) ?_
  refine jn_cut hf (fun (K_2 : Bool → Int32 × XS) => ∀ (z_1 : Bool), ∀ (ls : Array Slot), lv_has ls 5 [(0, .ref (a 9)), (1, .ref (a 6))] → F = K_2 z_1 → W p l e rm_XBr_perform st m args below meth c H locs 0 0 Q (F0 m 14 ls [.int (bI z_1)])) ?_ ?_
  · intro z_1 ls hl hf
    refine lv_istore_n (lv' := [(2, .int (bI z_1)), (0, .ref (a 9)), (1, .ref (a 6))]) hx hb d_XBr_perform_14 rfl hl (by decide) rfl (fun ls hl => ?_)
    refine lv_iload_n hx hb d_XBr_perform_15 rfl (lv_at hl 0 rfl) ?_
    refine jn_cut hf (fun (K_4 : Int32 → Int32 × XS) => ∀ (x_3 : Int32), ∀ (ls : Array Slot), lv_has ls 5 [(0, .ref (a 9)), (1, .ref (a 6)), (2, .int (bI z_1))] → F = K_4 x_3 → W p l e rm_XBr_perform st m args below meth c H locs 0 0 Q (F0 m 40 ls [.int x_3])) ?_ ?_
    · intro x_3 ls hl hf
      refine lv_istore_n (lv' := [(3, .int x_3), (0, .ref (a 9)), (1, .ref (a 6)), (2, .int (bI z_1))]) hx hb d_XBr_perform_40 rfl hl (by decide) rfl (fun ls hl => ?_)
      refine lv_aload_n hx hb d_XBr_perform_41 rfl (lv_at hl 1 rfl) ?_
      refine lv_aload_n hx hb d_XBr_perform_42 rfl (lv_at hl 2 rfl) ?_
      refine z_wz (z_runV (As := [.ref (a 6)]) (rest := []) ⟨hx, hb, hml, hown, hts⟩ (c_XBr_decide l D a k u0) (qX_Br_34 hts (by decide)) hw 9 rfl rfl hl.1 rfl (lv_room (Nat.le_of_ble_eq_true rfl)) d_XBr_perform_43 hcs) hw hS (fun z_6 u_5 H locs ez_6 hw hS => ?_)
      have hf := hf.trans (pr_eq ez_6)
      refine lv_istore (lv' := [(4, .int (bI z_6)), (3, .int x_3), (0, .ref (a 9)), (1, .ref (a 6)), (2, .int (bI z_1))]) hx hb d_XBr_perform_46 hl (by decide) rfl (fun ls hl => ?_)
      refine lv_iload hx hb d_XBr_perform_48 (lv_at hl 0 rfl) ?_
      refine lv_if_eq (tgt := 72) hx hb d_XBr_perform_50 (by decide) (fun c_7 => ?_) (fun c_7 => ?_)
      · have hf := hf.trans (if_pos c_7)
        refine lv_iconst (v := (0 : Int32)) hx hb d_XBr_perform_72 (by decide) ?_
        exact hret (0 : Int32) _ _ _ _ _ d_XBr_perform_73 hw hS hf
      · have hf := hf.trans (if_neg c_7)
        refine lv_iload_n hx hb d_XBr_perform_53 rfl (lv_at hl 4 rfl) ?_
        refine lv_if_eq (tgt := 64) hx hb d_XBr_perform_54 (by decide) (fun c_8 => ?_) (fun c_8 => ?_)
        · have hf := hf.trans (if_pos c_8)
          refine lv_aload_n hx hb d_XBr_perform_64 rfl (lv_at hl 2 rfl) ?_
          refine va_get (v := .ref (a 1)) hx hb hts iX_Br hown hw.2.1 hw.1 9 rfl rfl 0 (by decide) (hts _ kX_Br_9) (fun _ h => h) rfl d_XBr_perform_65 ?_
          refine lv_iload_n hx hb d_XBr_perform_68 rfl (lv_at hl 1 rfl) ?_
          refine z_putN (u' := xsF u_5 0 x_3) hx hb hts iX_St tX_St tX_St_ok nX_St hown hw hS 1 rfl rfl 2 (by decide) (va_Nw.use rfl (hw.2.2.2 _ kX_Br_38).2) (fun _ h => h) rfl rfl (Nat.le_of_ble_eq_true rfl) rfl d_XBr_perform_69 (fun u_9 H locs eu_9 hw hS => ?_)
          have hf := hf.trans (nm_eq eu_9)
          refine lv_iconst (v := (0 : Int32)) hx hb d_XBr_perform_72 (by decide) ?_
          exact hret (0 : Int32) _ _ _ _ _ d_XBr_perform_73 hw hS hf
        · have hf := hf.trans (if_neg c_8)
          refine lv_aload_n hx hb d_XBr_perform_57 rfl (lv_at hl 3 rfl) ?_
          refine va_getN (v := .int (xF u_5 7)) hx hb hts iX_In hown hw.2.1 hw.1 6 rfl rfl 3 (by decide) (va_Nw.use rfl (hw.2.2.2 _ kX_Br_21).2) (fun _ h => h) rfl d_XBr_perform_58 ?_
          refine lv_if_eq (tgt := 72) hx hb d_XBr_perform_61 (by decide) (fun c_10 => ?_) (fun c_10 => ?_)
          · have hf := hf.trans (if_pos c_10)
            refine lv_iconst (v := (0 : Int32)) hx hb d_XBr_perform_72 (by decide) ?_
            exact hret (0 : Int32) _ _ _ _ _ d_XBr_perform_73 hw hS hf
          · have hf := hf.trans (if_neg c_10)
            refine lv_aload_n hx hb d_XBr_perform_64 rfl (lv_at hl 2 rfl) ?_
            refine va_get (v := .ref (a 1)) hx hb hts iX_Br hown hw.2.1 hw.1 9 rfl rfl 0 (by decide) (hts _ kX_Br_9) (fun _ h => h) rfl d_XBr_perform_65 ?_
            refine lv_iload_n hx hb d_XBr_perform_68 rfl (lv_at hl 1 rfl) ?_
            refine z_putN (u' := xsF u_5 0 x_3) hx hb hts iX_St tX_St tX_St_ok nX_St hown hw hS 1 rfl rfl 2 (by decide) (va_Nw.use rfl (hw.2.2.2 _ kX_Br_38).2) (fun _ h => h) rfl rfl (Nat.le_of_ble_eq_true rfl) rfl d_XBr_perform_69 (fun u_11 H locs eu_11 hw hS => ?_)
            have hf := hf.trans (nm_eq eu_11)
            refine lv_iconst (v := (0 : Int32)) hx hb d_XBr_perform_72 (by decide) ?_
            exact hret (0 : Int32) _ _ _ _ _ d_XBr_perform_73 hw hS hf
    · intro K_4 hK_4 hf
      refine lv_if_eq (tgt := 36) hx hb d_XBr_perform_16 (by decide) (fun c_12 => ?_) (fun c_12 => ?_)
      · have hf := hf.trans (if_pos c_12)
        refine lv_aload_n hx hb d_XBr_perform_36 rfl (lv_at hl 2 rfl) ?_
        refine va_getN (v := .int (xF u0 9)) hx hb hts iX_In hown hw.2.1 hw.1 6 rfl rfl 5 (by decide) (va_Nw.use rfl (hw.2.2.2 _ kX_Br_31).2) (fun _ h => h) rfl d_XBr_perform_37 ?_
        exact hK_4 (xF u0 9) _ (lv_sub hl [1, 2, 0] rfl) hf
      · have hf := hf.trans (if_neg c_12)
        refine lv_aload_n hx hb d_XBr_perform_19 rfl (lv_at hl 1 rfl) ?_
        refine va_get (v := .ref (a 1)) hx hb hts iX_Br hown hw.2.1 hw.1 9 rfl rfl 0 (by decide) (hts _ kX_Br_9) (fun _ h => h) rfl d_XBr_perform_20 ?_
        refine lv_aload_n hx hb d_XBr_perform_23 rfl (lv_at hl 2 rfl) ?_
        refine va_getN (v := .int (xF u0 7)) hx hb hts iX_In hown hw.2.1 hw.1 6 rfl rfl 3 (by decide) (va_Nw.use rfl (hw.2.2.2 _ kX_Br_21).2) (fun _ h => h) rfl d_XBr_perform_24 ?_
        refine z_ri (z_runV (As := [.int (xF u0 7)]) (rest := []) ⟨hx, hb, hml, hown, hts⟩ (c_XSt_value l D a k u0 (xF u0 7)) (qX_Br_24 hts (by decide)) hw 1 rfl rfl hl.1 rfl (lv_room (Nat.le_of_ble_eq_true rfl)) d_XBr_perform_27 hcs) (fun x_13 ex_13 => ?_)
        have hf := hf.trans (nm_eq ex_13)
        refine lv_ldc (v := (16777215 : Int32)) hx hb hown (hts _ kX_Br_30) d_XBr_perform_30 ?_
        refine lv_iand hx hb d_XBr_perform_32 ?_
        refine lv_goto (tgt := 40) hx hb d_XBr_perform_33 (by decide) ?_
        exact hK_4 (x_13 &&& (16777215 : Int32)) _ (lv_sub hl [1, 2, 0] rfl) hf
  · intro K_2 hK_2 hf
    refine lv_icmp_ge (tgt := 13) hx hb d_XBr_perform_6 (by decide) (fun c_14 => ?_) (fun c_14 => ?_)
    · have hf := hf.trans (if_pos c_14)
      refine lv_iconst (v := (0 : Int32)) hx hb d_XBr_perform_13 (by decide) ?_
      exact hK_2 false _ (lv_sub hl [0, 1] rfl) hf
    · have hf := hf.trans (if_neg c_14)
      refine lv_iconst (v := (1 : Int32)) hx hb d_XBr_perform_9 (by decide) ?_
      refine lv_goto (tgt := 14) hx hb d_XBr_perform_10 (by decide) ?_
      exact hK_2 true _ (lv_sub hl [0, 1] rfl) hf
