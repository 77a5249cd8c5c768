def f_XIn_place (u0 : XS) (x1 : Int32) : Int32 := nm (f_XMe_get u0 x1) (fun (x_1 : Int32) => nm (x_1 >>> ((4 : Int32) &&& 31)) (fun (x_2 : Int32) => nm (f_XMe_get u0 x1) (fun (x_3 : Int32) => nm (f_XMe_get u0 (x1 + (1 : Int32))) (fun (x_4 : Int32) => nm (((x_3 &&& (15 : Int32)) * (256 : Int32)) + x_4) (fun (x_5 : Int32) => if x_2 = (0 : Int32) then x_5 else nm (f_XSt_value u0 x_2) (fun (x_7 : Int32) => (x_5 + x_7)))))))
set_option maxHeartbeats 4000000 in
set_option maxRecDepth 100000 in
theorem c_XIn_place (l : Launch) (D : va_G) (a : Nat → Nat) (k : Nat → ClassId) (u0 : XS) (x1 : Int32) : zRi l y_XIn_place w_XIn_place rm_XIn_place D clX (tyX k) nwX (xW a k) [.ref (a 1), .int x1] u0 (f_XIn_place u0 x1) := by
  generalize hF : f_XIn_place u0 x1 = F
  have hf := hF.symm
  unfold f_XIn_place at hf
  refine zRi_of (cc := b_XIn_place) (maxL := 4) (own := RX_In) (by decide) rfl rfl (Nat.le_of_ble_eq_true rfl) ?_
  intro p e R st m args below meth c H locs Q ls hR hx hb hml hown hts hw hret hl
  subst hR
  have hcs : 0 ≤ (rm_XIn_place).cells ∧ 0 ≤ (rm_XIn_place).slots := ⟨Nat.zero_le _, Nat.zero_le _⟩
  have hl : lv_has ls 4 [(0, .ref (a 1)), (1, .int x1)] := hl
  refine lv_aload_n hx hb d_XIn_place_0 rfl (lv_at hl 0 rfl) ?_
  refine va_getN (v := .ref (a 2)) hx hb hts iX_St hown hw.2.1 hw.1 1 rfl rfl 0 (by decide) (va_Nw.use rfl (hw.2.2.2 _ kX_In_15).2) (fun _ h => h) rfl d_XIn_place_1 ?_
  refine lv_iload_n hx hb d_XIn_place_4 rfl (lv_at hl 1 rfl) ?_
  refine z_ri (z_runV (As := [.int x1]) (rest := []) ⟨hx, hb, hml, hown, hts⟩ (c_XMe_get l D a k u0 x1) (qX_In_25 hts (by decide)) hw 2 rfl rfl hl.1 rfl (lv_room (Nat.le_of_ble_eq_true rfl)) d_XIn_place_5 hcs) (fun x_1 ex_1 => ?_)
  have hf := hf.trans (nm_eq ex_1)
  refine lv_iconst (v := (4 : Int32)) hx hb d_XIn_place_8 (by decide) ?_
  refine lv_ishr hx hb d_XIn_place_9 ?_
  refine lv_topi (fun x_2 ex_2 => ?_)
  have hf := hf.trans (nm_eq ex_2)
  refine lv_istore_n (lv' := [(2, .int x_2), (0, .ref (a 1)), (1, .int x1)]) hx hb d_XIn_place_10 rfl hl (by decide) rfl (fun ls hl => ?_)
  refine lv_aload_n hx hb d_XIn_place_11 rfl (lv_at hl 1 rfl) ?_
  refine va_getN (v := .ref (a 2)) hx hb hts iX_St hown hw.2.1 hw.1 1 rfl rfl 0 (by decide) (va_Nw.use rfl (hw.2.2.2 _ kX_In_15).2) (fun _ h => h) rfl d_XIn_place_12 ?_
  refine lv_iload_n hx hb d_XIn_place_15 rfl (lv_at hl 2 rfl) ?_
  refine z_ri (z_runV (As := [.int x1]) (rest := []) ⟨hx, hb, hml, hown, hts⟩ (c_XMe_get l D a k u0 x1) (qX_In_25 hts (by decide)) hw 2 rfl rfl hl.1 rfl (lv_room (Nat.le_of_ble_eq_true rfl)) d_XIn_place_16 hcs) (fun x_3 ex_3 => ?_)
  have hf := hf.trans (nm_eq ex_3)
  refine lv_bipush (v := (15 : Int32)) hx hb d_XIn_place_19 (by decide) ?_
  refine lv_iand hx hb d_XIn_place_21 ?_
  refine lv_sipush (v := (256 : Int32)) hx hb d_XIn_place_22 (by decide) ?_
  refine lv_imul hx hb d_XIn_place_25 ?_
  refine lv_aload_n hx hb d_XIn_place_26 rfl (lv_at hl 1 rfl) ?_
  refine va_getN (v := .ref (a 2)) hx hb hts iX_St hown hw.2.1 hw.1 1 rfl rfl 0 (by decide) (va_Nw.use rfl (hw.2.2.2 _ kX_In_15).2) (fun _ h => h) rfl d_XIn_place_27 ?_
  refine lv_iload_n hx hb d_XIn_place_30 rfl (lv_at hl 2 rfl) ?_
  refine lv_iconst (v := (1 : Int32)) hx hb d_XIn_place_31 (by decide) ?_
  refine lv_iadd hx hb d_XIn_place_32 ?_
  refine z_ri (z_runV (As := [.int (x1 + (1 : Int32))]) (rest := [.int ((x_3 &&& (15 : Int32)) * (256 : Int32))]) ⟨hx, hb, hml, hown, hts⟩ (c_XMe_get l D a k u0 (x1 + (1 : Int32))) (qX_In_25 hts (by decide)) hw 2 rfl rfl hl.1 rfl (lv_room (Nat.le_of_ble_eq_true rfl)) d_XIn_place_33 hcs) (fun x_4 ex_4 => ?_)
  have hf := hf.trans (nm_eq ex_4)
  refine lv_iadd hx hb d_XIn_place_36 ?_
  refine lv_topi (fun x_5 ex_5 => ?_)
  have hf := hf.trans (nm_eq ex_5)
  refine lv_istore_n (lv' := [(3, .int x_5), (2, .int x_2), (0, .ref (a 1)), (1, .int x1)]) hx hb d_XIn_place_37 rfl hl (by decide) rfl (fun ls hl => ?_)
  refine lv_iload_n hx hb d_XIn_place_38 rfl (lv_at hl 1 rfl) ?_
  refine lv_if_ne (tgt := 46) hx hb d_XIn_place_39 (by decide) (fun c_6 => ?_) (fun c_6 => ?_)
  · have hf := hf.trans (if_neg c_6)
    refine lv_iload_n hx hb d_XIn_place_46 rfl (lv_at hl 0 rfl) ?_
    refine lv_aload_n hx hb d_XIn_place_47 rfl (lv_at hl 2 rfl) ?_
    refine lv_iload_n hx hb d_XIn_place_48 rfl (lv_at hl 1 rfl) ?_
    refine z_ri (z_runV (As := [.int x_2]) (rest := [.int x_5]) ⟨hx, hb, hml, hown, hts⟩ (c_XSt_value l D a k u0 x_2) (qX_In_50 hts (by decide)) hw 1 rfl rfl hl.1 rfl (lv_room (Nat.le_of_ble_eq_true rfl)) d_XIn_place_49 hcs) (fun x_7 ex_7 => ?_)
    have hf := hf.trans (nm_eq ex_7)
    refine lv_iadd hx hb d_XIn_place_52 ?_
    exact hret (x_5 + x_7) _ _ d_XIn_place_53 hf
  · have hf := hf.trans (if_pos c_6)
    refine lv_iload_n hx hb d_XIn_place_42 rfl (lv_at hl 0 rfl) ?_
    refine lv_goto (tgt := 53) hx hb d_XIn_place_43 (by decide) ?_
    exact hret x_5 _ _ d_XIn_place_53 hf
def f_XIn_findAddresses (u0 : XS) (x2 : Int32) : XS := jn (fun (K_2 : Int32 → XS) => jn (fun (K_9 : XS) => if (128 : Int32) ≤ (xF u0 4) then K_9 else if (xF u0 7) = (0 : Int32) then K_9 else nm (f_XSt_value u0 (xF u0 7)) (fun (x_12 : Int32) => K_2 x_12)) (K_2 (0 : Int32))) (fun (x_1 : Int32) => nm (f_XIn_place u0 (x2 + (2 : Int32))) (fun (x_3 : Int32) => nm (xsF u0 8 ((x_3 + x_1) &&& (16777215 : Int32))) (fun (u_4 : XS) => if (192 : Int32) ≤ (xF u_4 4) then nm (f_XIn_place u_4 (x2 + (4 : Int32))) (fun (x_6 : Int32) => nm (xsF u_4 9 (x_6 &&& (16777215 : Int32))) (fun (u_7 : XS) => u_7)) else nm (xsF u_4 9 (xF u_4 8)) (fun (u_8 : XS) => u_8))))
set_option maxHeartbeats 4000000 in
set_option maxRecDepth 100000 in
theorem c_XIn_findAddresses (l : Launch) (D : va_G) (a : Nat → Nat) (k : Nat → ClassId) (u0 : XS) (x2 : Int32) : zMv l y_XIn_findAddresses w_XIn_findAddresses rm_XIn_findAddresses D clX (tyX k) nwX (xW a k) [.ref (a 6), .ref (a 1), .int x2] u0 (f_XIn_findAddresses u0 x2) := by
  generalize hF : f_XIn_findAddresses u0 x2 = F
  have hf := hF.symm
  unfold f_XIn_findAddresses at hf
  refine zMv_of (cc := b_XIn_findAddresses) (maxL := 4) (own := RX_In) (by decide) rfl rfl (Nat.le_of_ble_eq_true rfl) ?_
  intro p e R st m args below meth c A H locs Q ls hR hx hb hml hown hts hw hS hret hl
  subst hR
  have hcs : 0 ≤ (rm_XIn_findAddresses).cells ∧ 0 ≤ (rm_XIn_findAddresses).slots := ⟨Nat.zero_le _, Nat.zero_le _⟩
  have hl : lv_has ls 4 [(0, .ref (a 6)), (1, .ref (a 1)), (2, .int x2)] := hl
  refine lv_aload_n hx hb d_XIn_findAddresses_0 rfl (lv_at hl 0 rfl) ?_
  refine va_get (v := .int (xF u0 4)) hx hb hts iX_In hown hw.2.1 hw.1 6 rfl rfl 0 (by decide) (hts _ kX_In_29) (fun _ h => h) rfl d_XIn_findAddresses_1 ?_
  refine lv_sipush (v := (128 : Int32)) hx hb d_XIn_findAddresses_4 (by decide) ?_
  refine jn_cut hf (fun (K_2 : Int32 → XS) => ∀ (x_1 : Int32), ∀ (ls : Array Slot), lv_has ls 4 [(0, .ref (a 6)), (1, .ref (a 1)), (2, .int x2)] → F = K_2 x_1 → W p l e rm_XIn_findAddresses st m args below meth c H locs 0 0 Q (F0 m 29 ls [.int x_1])) ?_ ?_
  · intro x_1 ls hl hf
    refine lv_istore_n (lv' := [(3, .int x_1), (0, .ref (a 6)), (1, .ref (a 1)), (2, .int x2)]) hx hb d_XIn_findAddresses_29 rfl hl (by decide) rfl (fun ls hl => ?_)
    refine lv_aload_n hx hb d_XIn_findAddresses_30 rfl (lv_at hl 1 rfl) ?_
    refine lv_aload_n hx hb d_XIn_findAddresses_31 rfl (lv_at hl 2 rfl) ?_
    refine lv_iload_n hx hb d_XIn_findAddresses_32 rfl (lv_at hl 3 rfl) ?_
    refine lv_iconst (v := (2 : Int32)) hx hb d_XIn_findAddresses_33 (by decide) ?_
    refine lv_iadd hx hb d_XIn_findAddresses_34 ?_
    refine z_ri (z_runS (As := [.ref (a 1), .int (x2 + (2 : Int32))]) (rest := [.ref (a 6)]) ⟨hx, hb, hml, hown, hts⟩ (c_XIn_place l D a k u0 (x2 + (2 : Int32))) (qX_In_53 hts (by decide)) hw  hl.1 rfl (lv_room (Nat.le_of_ble_eq_true rfl)) d_XIn_findAddresses_35 hcs) (fun x_3 ex_3 => ?_)
    have hf := hf.trans (nm_eq ex_3)
    refine lv_iload_n hx hb d_XIn_findAddresses_38 rfl (lv_at hl 0 rfl) ?_
    refine lv_iadd hx hb d_XIn_findAddresses_39 ?_
    refine lv_ldc (v := (16777215 : Int32)) hx hb hown (hts _ kX_In_57) d_XIn_findAddresses_40 ?_
    refine lv_iand hx hb d_XIn_findAddresses_42 ?_
    refine z_put (u' := xsF u0 8 ((x_3 + x_1) &&& (16777215 : Int32))) hx hb hts iX_In tX_In tX_In_ok nX_In hown hw hS 6 rfl rfl 4 (by decide) (hts _ kX_In_58) (fun _ h => h) rfl rfl (Nat.le_of_ble_eq_true rfl) rfl d_XIn_findAddresses_43 (fun u_4 H locs eu_4 hw hS => ?_)
    have hf := hf.trans (nm_eq eu_4)
    refine lv_aload_n hx hb d_XIn_findAddresses_46 rfl (lv_at hl 1 rfl) ?_
    refine lv_aload_n hx hb d_XIn_findAddresses_47 rfl (lv_at hl 1 rfl) ?_
    refine va_get (v := .int (xF u_4 4)) hx hb hts iX_In hown hw.2.1 hw.1 6 rfl rfl 0 (by decide) (hts _ kX_In_29) (fun _ h => h) rfl d_XIn_findAddresses_48 ?_
    refine lv_sipush (v := (192 : Int32)) hx hb d_XIn_findAddresses_51 (by decide) ?_
    refine lv_icmp_ge (tgt := 64) hx hb d_XIn_findAddresses_54 (by decide) (fun c_5 => ?_) (fun c_5 => ?_)
    · have hf := hf.trans (if_pos c_5)
      refine lv_aload_n hx hb d_XIn_findAddresses_64 rfl (lv_at hl 2 rfl) ?_
      refine lv_iload_n hx hb d_XIn_findAddresses_65 rfl (lv_at hl 3 rfl) ?_
      refine lv_iconst (v := (4 : Int32)) hx hb d_XIn_findAddresses_66 (by decide) ?_
      refine lv_iadd hx hb d_XIn_findAddresses_67 ?_
      refine z_ri (z_runS (As := [.ref (a 1), .int (x2 + (4 : Int32))]) (rest := [.ref (a 6)]) ⟨hx, hb, hml, hown, hts⟩ (c_XIn_place l D a k u_4 (x2 + (4 : Int32))) (qX_In_53 hts (by decide)) hw  hl.1 rfl (lv_room (Nat.le_of_ble_eq_true rfl)) d_XIn_findAddresses_68 hcs) (fun x_6 ex_6 => ?_)
      have hf := hf.trans (nm_eq ex_6)
      refine lv_ldc (v := (16777215 : Int32)) hx hb hown (hts _ kX_In_57) d_XIn_findAddresses_71 ?_
      refine lv_iand hx hb d_XIn_findAddresses_73 ?_
      refine z_put (u' := xsF u_4 9 (x_6 &&& (16777215 : Int32))) hx hb hts iX_In tX_In tX_In_ok nX_In hown hw hS 6 rfl rfl 5 (by decide) (hts _ kX_In_61) (fun _ h => h) rfl rfl (Nat.le_of_ble_eq_true rfl) rfl d_XIn_findAddresses_74 (fun u_7 H locs eu_7 hw hS => ?_)
      have hf := hf.trans (nm_eq eu_7)
      exact hret _ _ _ _ _ d_XIn_findAddresses_77 hw hS hf
    · have hf := hf.trans (if_neg c_5)
      refine lv_aload_n hx hb d_XIn_findAddresses_57 rfl (lv_at hl 1 rfl) ?_
      refine va_get (v := .int (xF u_4 8)) hx hb hts iX_In hown hw.2.1 hw.1 6 rfl rfl 4 (by decide) (hts _ kX_In_58) (fun _ h => h) rfl d_XIn_findAddresses_58 ?_
      refine lv_goto (tgt := 74) hx hb d_XIn_findAddresses_61 (by decide) ?_
      refine z_put (u' := xsF u_4 9 (xF u_4 8)) hx hb hts iX_In tX_In tX_In_ok nX_In hown hw hS 6 rfl rfl 5 (by decide) (hts _ kX_In_61) (fun _ h => h) rfl rfl (Nat.le_of_ble_eq_true rfl) rfl d_XIn_findAddresses_74 (fun u_8 H locs eu_8 hw hS => ?_)
      have hf := hf.trans (nm_eq eu_8)
      exact hret _ _ _ _ _ d_XIn_findAddresses_77 hw hS hf
  · intro K_2 hK_2 hf
    refine jn_cut hf (fun (K_9 : XS) => ∀ (ls : Array Slot), lv_has ls 4 [(0, .ref (a 6)), (1, .ref (a 1)), (2, .int x2)] → F = K_9 → W p l e rm_XIn_findAddresses st m args below meth c H locs 0 0 Q (F0 m 28 ls [])) ?_ ?_
    · intro ls hl hf
      refine lv_iconst (v := (0 : Int32)) hx hb d_XIn_findAddresses_28 (by decide) ?_
      exact hK_2 (0 : Int32) _ (lv_sub hl [0, 1, 2] rfl) hf
    · intro K_9 hK_9 hf
      refine lv_icmp_ge (tgt := 28) hx hb d_XIn_findAddresses_7 (by decide) (fun c_10 => ?_) (fun c_10 => ?_)
      · have hf := hf.trans (if_pos c_10)
        exact hK_9 _ (lv_sub hl [0, 1, 2] rfl) hf
      · have hf := hf.trans (if_neg c_10)
        refine lv_aload_n hx hb d_XIn_findAddresses_10 rfl (lv_at hl 0 rfl) ?_
        refine va_get (v := .int (xF u0 7)) hx hb hts iX_In hown hw.2.1 hw.1 6 rfl rfl 3 (by decide) (hts _ kX_In_40) (fun _ h => h) rfl d_XIn_findAddresses_11 ?_
        refine lv_if_eq (tgt := 28) hx hb d_XIn_findAddresses_14 (by decide) (fun c_11 => ?_) (fun c_11 => ?_)
        · have hf := hf.trans (if_pos c_11)
          exact hK_9 _ (lv_sub hl [0, 1, 2] rfl) hf
        · have hf := hf.trans (if_neg c_11)
          refine lv_aload_n hx hb d_XIn_findAddresses_17 rfl (lv_at hl 1 rfl) ?_
          refine lv_aload_n hx hb d_XIn_findAddresses_18 rfl (lv_at hl 0 rfl) ?_
          refine va_get (v := .int (xF u0 7)) hx hb hts iX_In hown hw.2.1 hw.1 6 rfl rfl 3 (by decide) (hts _ kX_In_40) (fun _ h => h) rfl d_XIn_findAddresses_19 ?_
          refine z_ri (z_runV (As := [.int (xF u0 7)]) (rest := []) ⟨hx, hb, hml, hown, hts⟩ (c_XSt_value l D a k u0 (xF u0 7)) (qX_In_50 hts (by decide)) hw 1 rfl rfl hl.1 rfl (lv_room (Nat.le_of_ble_eq_true rfl)) d_XIn_findAddresses_22 hcs) (fun x_12 ex_12 => ?_)
          have hf := hf.trans (nm_eq ex_12)
          refine lv_goto (tgt := 29) hx hb d_XIn_findAddresses_25 (by decide) ?_
          exact hK_2 x_12 _ (lv_sub hl [0, 1, 2] rfl) hf
def f_XIn_fetch (u0 : XS)  : Int32 × XS := nm (xF u0 0) (fun (x_1 : Int32) => if (x_1 &&& (1 : Int32)) = (0 : Int32) then nm (f_XMe_holds u0 x_1 (2 : Int32)) (fun (z_3 : Bool) => if (bI z_3) = (0 : Int32) then ((5 : Int32), u0) else nm (f_XMe_get u0 x_1) (fun (x_5 : Int32) => nm (xsF u0 4 x_5) (fun (u_6 : XS) => jn (fun (K_8 : Int32 → Int32 × XS) => if (64 : Int32) ≤ (xF u_6 4) then if (192 : Int32) ≤ (xF u_6 4) then K_8 (6 : Int32) else K_8 (4 : Int32) else K_8 (2 : Int32)) (fun (x_7 : Int32) => nm (f_XMe_holds u_6 x_1 x_7) (fun (z_9 : Bool) => if (bI z_9) = (0 : Int32) then ((5 : Int32), u_6) else nm (f_XMe_get u_6 (x_1 + (1 : Int32))) (fun (x_11 : Int32) => nm (xsF u_6 5 x_11) (fun (u_12 : XS) => nm (xsF u_12 6 ((xF u_12 5) >>> ((4 : Int32) &&& 31))) (fun (u_13 : XS) => nm (xsF u_13 7 ((xF u_13 5) &&& (15 : Int32))) (fun (u_14 : XS) => nm (xsF u_14 10 (x_1 + x_7)) (fun (u_15 : XS) => if x_7 ≤ (2 : Int32) then ((0 : Int32), u_15) else nm (f_XIn_findAddresses u_15 x_1) (fun (u_17 : XS) => ((0 : Int32), u_17)))))))))))) else ((6 : Int32), u0))
set_option maxHeartbeats 4000000 in
set_option maxRecDepth 100000 in
theorem c_XIn_fetch (l : Launch) (D : va_G) (a : Nat → Nat) (k : Nat → ClassId) (u0 : XS)  : zMi l y_XIn_fetch w_XIn_fetch rm_XIn_fetch D clX (tyX k) nwX (xW a k) [.ref (a 6), .ref (a 1)] u0 (f_XIn_fetch u0) := by
  generalize hF : f_XIn_fetch u0 = F
  have hf := hF.symm
  unfold f_XIn_fetch at hf
  refine zMi_of (cc := b_XIn_fetch) (maxL := 4) (own := RX_In) (by decide) rfl rfl (Nat.le_of_ble_eq_true rfl) ?_
  intro p e R st m args below meth c A H locs Q ls hR hx hb hml hown hts hw hS hret hl
  subst hR
  have hcs : 0 ≤ (rm_XIn_fetch).cells ∧ 0 ≤ (rm_XIn_fetch).slots := ⟨Nat.zero_le _, Nat.zero_le _⟩
  have hl : lv_has ls 4 [(0, .ref (a 6)), (1, .ref (a 1))] := hl
  refine lv_aload_n hx hb d_XIn_fetch_0 rfl (lv_at hl 1 rfl) ?_
  refine va_getN (v := .int (xF u0 0)) hx hb hts iX_St hown hw.2.1 hw.1 1 rfl rfl 2 (by decide) (va_Nw.use rfl (hw.2.2.2 _ kX_In_9).2) (fun _ h => h) rfl d_XIn_fetch_1 ?_
  refine lv_topi (fun x_1 ex_1 => ?_)
  have hf := hf.trans (nm_eq ex_1)
  refine lv_istore_n (lv' := [(2, .int x_1), (0, .ref (a 6)), (1, .ref (a 1))]) hx hb d_XIn_fetch_4 rfl hl (by decide) rfl (fun ls hl => ?_)
  refine lv_iload_n hx hb d_XIn_fetch_5 rfl (lv_at hl 0 rfl) ?_
  refine lv_iconst (v := (1 : Int32)) hx hb d_XIn_fetch_6 (by decide) ?_
  refine lv_iand hx hb d_XIn_fetch_7 ?_
  refine lv_if_eq (tgt := 14) hx hb d_XIn_fetch_8 (by decide) (fun c_2 => ?_) (fun c_2 => ?_)
  · have hf := hf.trans (if_pos c_2)
    refine lv_aload_n hx hb d_XIn_fetch_14 rfl (lv_at hl 2 rfl) ?_
    refine va_getN (v := .ref (a 2)) hx hb hts iX_St hown hw.2.1 hw.1 1 rfl rfl 0 (by decide) (va_Nw.use rfl (hw.2.2.2 _ kX_In_15).2) (fun _ h => h) rfl d_XIn_fetch_15 ?_
    refine lv_iload_n hx hb d_XIn_fetch_18 rfl (lv_at hl 0 rfl) ?_
    refine lv_iconst (v := (2 : Int32)) hx hb d_XIn_fetch_19 (by decide) ?_
    refine z_rz (z_runV (As := [.int x_1, .int (2 : Int32)]) (rest := []) ⟨hx, hb, hml, hown, hts⟩ (c_XMe_holds l D a k u0 x_1 (2 : Int32)) (qX_In_19 hts (by decide)) hw 2 rfl rfl hl.1 rfl (lv_room (Nat.le_of_ble_eq_true rfl)) d_XIn_fetch_20 hcs) (fun z_3 ez_3 => ?_)
    have hf := hf.trans (nm_eq ez_3)
    refine lv_if_ne (tgt := 28) hx hb d_XIn_fetch_23 (by decide) (fun c_4 => ?_) (fun c_4 => ?_)
    · have hf := hf.trans (if_neg c_4)
      refine lv_aload_n hx hb d_XIn_fetch_28 rfl (lv_at hl 1 rfl) ?_
      refine lv_aload_n hx hb d_XIn_fetch_29 rfl (lv_at hl 2 rfl) ?_
      refine va_getN (v := .ref (a 2)) hx hb hts iX_St hown hw.2.1 hw.1 1 rfl rfl 0 (by decide) (va_Nw.use rfl (hw.2.2.2 _ kX_In_15).2) (fun _ h => h) rfl d_XIn_fetch_30 ?_
      refine lv_iload_n hx hb d_XIn_fetch_33 rfl (lv_at hl 0 rfl) ?_
      refine z_ri (z_runV (As := [.int x_1]) (rest := [.ref (a 6)]) ⟨hx, hb, hml, hown, hts⟩ (c_XMe_get l D a k u0 x_1) (qX_In_25 hts (by decide)) hw 2 rfl rfl hl.1 rfl (lv_room (Nat.le_of_ble_eq_true rfl)) d_XIn_fetch_34 hcs) (fun x_5 ex_5 => ?_)
      have hf := hf.trans (nm_eq ex_5)
      refine z_put (u' := xsF u0 4 x_5) hx hb hts iX_In tX_In tX_In_ok nX_In hown hw hS 6 rfl rfl 0 (by decide) (hts _ kX_In_29) (fun _ h => h) rfl rfl (Nat.le_of_ble_eq_true rfl) rfl d_XIn_fetch_37 (fun u_6 H locs eu_6 hw hS => ?_)
      have hf := hf.trans (nm_eq eu_6)
      refine lv_aload_n hx hb d_XIn_fetch_40 rfl (lv_at hl 1 rfl) ?_
      refine va_get (v := .int (xF u_6 4)) hx hb hts iX_In hown hw.2.1 hw.1 6 rfl rfl 0 (by decide) (hts _ kX_In_29) (fun _ h => h) rfl d_XIn_fetch_41 ?_
      refine lv_bipush (v := (64 : Int32)) hx hb d_XIn_fetch_44 (by decide) ?_
      refine jn_cut hf (fun (K_8 : Int32 → Int32 × XS) => ∀ (x_7 : Int32), ∀ (ls : Array Slot), lv_has ls 4 [(0, .ref (a 6)), (1, .ref (a 1)), (2, .int x_1)] → F = K_8 x_7 → W p l e rm_XIn_fetch st m args below meth c H locs 0 0 Q (F0 m 69 ls [.int x_7])) ?_ ?_
      · intro x_7 ls hl hf
        refine lv_istore_n (lv' := [(3, .int x_7), (0, .ref (a 6)), (1, .ref (a 1)), (2, .int x_1)]) hx hb d_XIn_fetch_69 rfl hl (by decide) rfl (fun ls hl => ?_)
        refine lv_aload_n hx hb d_XIn_fetch_70 rfl (lv_at hl 2 rfl) ?_
        refine va_getN (v := .ref (a 2)) hx hb hts iX_St hown hw.2.1 hw.1 1 rfl rfl 0 (by decide) (va_Nw.use rfl (hw.2.2.2 _ kX_In_15).2) (fun _ h => h) rfl d_XIn_fetch_71 ?_
        refine lv_iload_n hx hb d_XIn_fetch_74 rfl (lv_at hl 3 rfl) ?_
        refine lv_iload_n hx hb d_XIn_fetch_75 rfl (lv_at hl 0 rfl) ?_
        refine z_rz (z_runV (As := [.int x_1, .int x_7]) (rest := []) ⟨hx, hb, hml, hown, hts⟩ (c_XMe_holds l D a k u_6 x_1 x_7) (qX_In_19 hts (by decide)) hw 2 rfl rfl hl.1 rfl (lv_room (Nat.le_of_ble_eq_true rfl)) d_XIn_fetch_76 hcs) (fun z_9 ez_9 => ?_)
        have hf := hf.trans (nm_eq ez_9)
        refine lv_if_ne (tgt := 84) hx hb d_XIn_fetch_79 (by decide) (fun c_10 => ?_) (fun c_10 => ?_)
        · have hf := hf.trans (if_neg c_10)
          refine lv_aload_n hx hb d_XIn_fetch_84 rfl (lv_at hl 1 rfl) ?_
          refine lv_aload_n hx hb d_XIn_fetch_85 rfl (lv_at hl 2 rfl) ?_
          refine va_getN (v := .ref (a 2)) hx hb hts iX_St hown hw.2.1 hw.1 1 rfl rfl 0 (by decide) (va_Nw.use rfl (hw.2.2.2 _ kX_In_15).2) (fun _ h => h) rfl d_XIn_fetch_86 ?_
          refine lv_iload_n hx hb d_XIn_fetch_89 rfl (lv_at hl 3 rfl) ?_
          refine lv_iconst (v := (1 : Int32)) hx hb d_XIn_fetch_90 (by decide) ?_
          refine lv_iadd hx hb d_XIn_fetch_91 ?_
          refine z_ri (z_runV (As := [.int (x_1 + (1 : Int32))]) (rest := [.ref (a 6)]) ⟨hx, hb, hml, hown, hts⟩ (c_XMe_get l D a k u_6 (x_1 + (1 : Int32))) (qX_In_25 hts (by decide)) hw 2 rfl rfl hl.1 rfl (lv_room (Nat.le_of_ble_eq_true rfl)) d_XIn_fetch_92 hcs) (fun x_11 ex_11 => ?_)
          have hf := hf.trans (nm_eq ex_11)
          refine z_put (u' := xsF u_6 5 x_11) hx hb hts iX_In tX_In tX_In_ok nX_In hown hw hS 6 rfl rfl 1 (by decide) (hts _ kX_In_34) (fun _ h => h) rfl rfl (Nat.le_of_ble_eq_true rfl) rfl d_XIn_fetch_95 (fun u_12 H locs eu_12 hw hS => ?_)
          have hf := hf.trans (nm_eq eu_12)
          refine lv_aload_n hx hb d_XIn_fetch_98 rfl (lv_at hl 1 rfl) ?_
          refine lv_aload_n hx hb d_XIn_fetch_99 rfl (lv_at hl 1 rfl) ?_
          refine va_get (v := .int (xF u_12 5)) hx hb hts iX_In hown hw.2.1 hw.1 6 rfl rfl 1 (by decide) (hts _ kX_In_34) (fun _ h => h) rfl d_XIn_fetch_100 ?_
          refine lv_iconst (v := (4 : Int32)) hx hb d_XIn_fetch_103 (by decide) ?_
          refine lv_ishr hx hb d_XIn_fetch_104 ?_
          refine z_put (u' := xsF u_12 6 ((xF u_12 5) >>> ((4 : Int32) &&& 31))) hx hb hts iX_In tX_In tX_In_ok nX_In hown hw hS 6 rfl rfl 2 (by decide) (hts _ kX_In_37) (fun _ h => h) rfl rfl (Nat.le_of_ble_eq_true rfl) rfl d_XIn_fetch_105 (fun u_13 H locs eu_13 hw hS => ?_)
          have hf := hf.trans (nm_eq eu_13)
          refine lv_aload_n hx hb d_XIn_fetch_108 rfl (lv_at hl 1 rfl) ?_
          refine lv_aload_n hx hb d_XIn_fetch_109 rfl (lv_at hl 1 rfl) ?_
          refine va_get (v := .int (xF u_13 5)) hx hb hts iX_In hown hw.2.1 hw.1 6 rfl rfl 1 (by decide) (hts _ kX_In_34) (fun _ h => h) rfl d_XIn_fetch_110 ?_
          refine lv_bipush (v := (15 : Int32)) hx hb d_XIn_fetch_113 (by decide) ?_
          refine lv_iand hx hb d_XIn_fetch_115 ?_
          refine z_put (u' := xsF u_13 7 ((xF u_13 5) &&& (15 : Int32))) hx hb hts iX_In tX_In tX_In_ok nX_In hown hw hS 6 rfl rfl 3 (by decide) (hts _ kX_In_40) (fun _ h => h) rfl rfl (Nat.le_of_ble_eq_true rfl) rfl d_XIn_fetch_116 (fun u_14 H locs eu_14 hw hS => ?_)
          have hf := hf.trans (nm_eq eu_14)
          refine lv_aload_n hx hb d_XIn_fetch_119 rfl (lv_at hl 1 rfl) ?_
          refine lv_iload_n hx hb d_XIn_fetch_120 rfl (lv_at hl 3 rfl) ?_
          refine lv_iload_n hx hb d_XIn_fetch_121 rfl (lv_at hl 0 rfl) ?_
          refine lv_iadd hx hb d_XIn_fetch_122 ?_
          refine z_put (u' := xsF u_14 10 (x_1 + x_7)) hx hb hts iX_In tX_In tX_In_ok nX_In hown hw hS 6 rfl rfl 6 (by decide) (hts _ kX_In_43) (fun _ h => h) rfl rfl (Nat.le_of_ble_eq_true rfl) rfl d_XIn_fetch_123 (fun u_15 H locs eu_15 hw hS => ?_)
          have hf := hf.trans (nm_eq eu_15)
          refine lv_iload_n hx hb d_XIn_fetch_126 rfl (lv_at hl 0 rfl) ?_
          refine lv_iconst (v := (2 : Int32)) hx hb d_XIn_fetch_127 (by decide) ?_
          refine lv_icmp_le (tgt := 137) hx hb d_XIn_fetch_128 (by decide) (fun c_16 => ?_) (fun c_16 => ?_)
          · have hf := hf.trans (if_pos c_16)
            refine lv_iconst (v := (0 : Int32)) hx hb d_XIn_fetch_137 (by decide) ?_
            exact hret (0 : Int32) _ _ _ _ _ d_XIn_fetch_138 hw hS hf
          · have hf := hf.trans (if_neg c_16)
            refine lv_aload_n hx hb d_XIn_fetch_131 rfl (lv_at hl 1 rfl) ?_
            refine lv_aload_n hx hb d_XIn_fetch_132 rfl (lv_at hl 2 rfl) ?_
            refine lv_iload_n hx hb d_XIn_fetch_133 rfl (lv_at hl 3 rfl) ?_
            refine z_wv (z_runV (As := [.ref (a 1), .int x_1]) (rest := []) ⟨hx, hb, hml, hown, hts⟩ (c_XIn_findAddresses l D a k u_15 x_1) (qX_In_46 hts (by decide)) hw 6 rfl rfl hl.1 rfl (lv_room (Nat.le_of_ble_eq_true rfl)) d_XIn_fetch_134 hcs) hw hS (fun u_17 H locs eu_17 hw hS => ?_)
            have hf := hf.trans (nm_eq eu_17)
            refine lv_iconst (v := (0 : Int32)) hx hb d_XIn_fetch_137 (by decide) ?_
            exact hret (0 : Int32) _ _ _ _ _ d_XIn_fetch_138 hw hS hf
        · have hf := hf.trans (if_pos c_10)
          refine lv_iconst (v := (5 : Int32)) hx hb d_XIn_fetch_82 (by decide) ?_
          exact hret (5 : Int32) _ _ _ _ _ d_XIn_fetch_83 hw hS hf
      · intro K_8 hK_8 hf
        refine lv_icmp_ge (tgt := 53) hx hb d_XIn_fetch_46 (by decide) (fun c_18 => ?_) (fun c_18 => ?_)
        · have hf := hf.trans (if_pos c_18)
          refine lv_aload_n hx hb d_XIn_fetch_53 rfl (lv_at hl 1 rfl) ?_
          refine va_get (v := .int (xF u_6 4)) hx hb hts iX_In hown hw.2.1 hw.1 6 rfl rfl 0 (by decide) (hts _ kX_In_29) (fun _ h => h) rfl d_XIn_fetch_54 ?_
          refine lv_sipush (v := (192 : Int32)) hx hb d_XIn_fetch_57 (by decide) ?_
          refine lv_icmp_ge (tgt := 67) hx hb d_XIn_fetch_60 (by decide) (fun c_19 => ?_) (fun c_19 => ?_)
          · have hf := hf.trans (if_pos c_19)
            refine lv_bipush (v := (6 : Int32)) hx hb d_XIn_fetch_67 (by decide) ?_
            exact hK_8 (6 : Int32) _ (lv_sub hl [1, 2, 0] rfl) hf
          · have hf := hf.trans (if_neg c_19)
            refine lv_iconst (v := (4 : Int32)) hx hb d_XIn_fetch_63 (by decide) ?_
            refine lv_goto (tgt := 69) hx hb d_XIn_fetch_64 (by decide) ?_
            exact hK_8 (4 : Int32) _ (lv_sub hl [1, 2, 0] rfl) hf
        · have hf := hf.trans (if_neg c_18)
          refine lv_iconst (v := (2 : Int32)) hx hb d_XIn_fetch_49 (by decide) ?_
          refine lv_goto (tgt := 69) hx hb d_XIn_fetch_50 (by decide) ?_
          exact hK_8 (2 : Int32) _ (lv_sub hl [1, 2, 0] rfl) hf
    · have hf := hf.trans (if_pos c_4)
      refine lv_iconst (v := (5 : Int32)) hx hb d_XIn_fetch_26 (by decide) ?_
      exact hret (5 : Int32) _ _ _ _ _ d_XIn_fetch_27 hw hS hf
  · have hf := hf.trans (if_neg c_2)
    refine lv_bipush (v := (6 : Int32)) hx hb d_XIn_fetch_11 (by decide) ?_
    exact hret (6 : Int32) _ _ _ _ _ d_XIn_fetch_13 hw hS hf
