set_option maxHeartbeats 4000000 in
set_option maxRecDepth 100000 in
theorem c_MMo_thrown (l : Launch) (D : va_G) (a : Nat → Nat) (k : Nat → ClassId) (u0 : MS)  (F : Int32) (hf : f_MMo_thrown u0 = some F) : zRi l y_MMo_thrown w_MMo_thrown rm_MMo_thrown D clM (tyM k) nwM (mW a k) [.ref (a 0)] u0 F := by
  have hf := hf.symm
  unfold f_MMo_thrown at hf
  refine zRi_of (cc := b_MMo_thrown) (maxL := 1) (own := RM_Mo) (by decide) rfl rfl (Nat.le_of_ble_eq_true rfl) ?_
  intro p e R st m args below meth c H locs Q ls hR hx hb hml hown hts hw hret hl
  subst hR
  have hcs : 0 ≤ (rm_MMo_thrown).cells ∧ 0 ≤ (rm_MMo_thrown).slots := ⟨Nat.zero_le _, Nat.zero_le _⟩
  have hl : lv_has ls 1 [(0, .ref (a 0))] := hl
  refine lv_aload_n hx hb d_MMo_thrown_0 rfl (lv_at hl 0 rfl) ?_
  refine va_get (v := .int (mF u0 0)) hx hb hts iM_Mo hown hw.2.1 hw.1 0 rfl rfl 8 (by decide) (hts _ kM_Mo_38) (fun _ h => h) rfl d_MMo_thrown_1 ?_
  exact hret (mF u0 0) _ _ d_MMo_thrown_4 (Option.some.inj hf)
set_option maxHeartbeats 4000000 in
set_option maxRecDepth 100000 in
theorem c_MMo_in (l : Launch) (D : va_G) (a : Nat → Nat) (k : Nat → ClassId) (u0 : MS) (y0 : Int64) (y2 : Int64) (y4 : Int64) (F : Bool) (hf : f_MMo_in u0 y0 y2 y4 = some F) : zRz l y_MMo_in w_MMo_in rm_MMo_in D clM (tyM k) nwM (mW a k) [.long y0, .long y2, .long y4] u0 F := by
  have hf := hf.symm
  unfold f_MMo_in at hf
  refine zRz_of (cc := b_MMo_in) (maxL := 6) (own := RM_Mo) (by decide) rfl rfl (Nat.le_of_ble_eq_true rfl) ?_
  intro p e R st m args below meth c H locs Q ls hR hx hb hml hown hts hw hret hl
  subst hR
  have hcs : 0 ≤ (rm_MMo_in).cells ∧ 0 ≤ (rm_MMo_in).slots := ⟨Nat.zero_le _, Nat.zero_le _⟩
  have hl : lv_has ls 6 [(0, .long y0), (2, .long y2), (4, .long y4)] := hl
  refine lv_lload_n hx hb d_MMo_in_0 rfl (lv_at hl 0 rfl) ?_
  refine lv_lload_n hx hb d_MMo_in_1 rfl (lv_at hl 1 rfl) ?_
  refine z_lcmp_lt (tgt := 17) hx hb d_MMo_in_2 d_MMo_in_3 (by decide) (fun c_1 => ?_) (fun c_1 => ?_)
  · have hf := hf.trans (if_pos c_1)
    refine lv_iconst (v := (0 : Int32)) hx hb d_MMo_in_17 (by decide) ?_
    exact hret false _ _ d_MMo_in_18 (Option.some.inj hf)
  · have hf := hf.trans (if_neg c_1)
    refine lv_lload_n hx hb d_MMo_in_6 rfl (lv_at hl 0 rfl) ?_
    refine lv_lload hx hb d_MMo_in_7 (lv_at hl 2 rfl) ?_
    refine z_lcmp_gt (tgt := 17) hx hb d_MMo_in_9 d_MMo_in_10 (by decide) (fun c_2 => ?_) (fun c_2 => ?_)
    · have hf := hf.trans (if_pos c_2)
      refine lv_iconst (v := (0 : Int32)) hx hb d_MMo_in_17 (by decide) ?_
      exact hret false _ _ d_MMo_in_18 (Option.some.inj hf)
    · have hf := hf.trans (if_neg c_2)
      refine lv_iconst (v := (1 : Int32)) hx hb d_MMo_in_13 (by decide) ?_
      refine lv_goto (tgt := 18) hx hb d_MMo_in_14 (by decide) ?_
      exact hret true _ _ d_MMo_in_18 (Option.some.inj hf)
set_option maxHeartbeats 4000000 in
set_option maxRecDepth 100000 in
theorem c_MMo_fails (l : Launch) (D : va_G) (a : Nat → Nat) (k : Nat → ClassId) (u0 : MS) (z1 : Bool) (x2 : Int32) (F : Bool × MS) (hf : f_MMo_fails u0 z1 x2 = some F) : zMz l y_MMo_fails w_MMo_fails rm_MMo_fails D clM (tyM k) nwM (mW a k) [.ref (a 0), .int (bI z1), .int x2] u0 F := by
  have hf := hf.symm
  unfold f_MMo_fails at hf
  refine zMz_of (cc := b_MMo_fails) (maxL := 3) (own := RM_Mo) (by decide) rfl rfl (Nat.le_of_ble_eq_true rfl) ?_
  intro p e R st m args below meth c A H locs Q ls hR hx hb hml hown hts hw hS hret hl
  subst hR
  have hcs : 0 ≤ (rm_MMo_fails).cells ∧ 0 ≤ (rm_MMo_fails).slots := ⟨Nat.zero_le _, Nat.zero_le _⟩
  have hl : lv_has ls 3 [(0, .ref (a 0)), (1, .int (bI z1)), (2, .int x2)] := hl
  refine lv_iload_n hx hb d_MMo_fails_0 rfl (lv_at hl 1 rfl) ?_
  refine jn_cut hf (fun (K_2 : MS → Option (Bool × MS)) => ∀ (u_1 : MS), ∀ (H : Heap) (locs : List Loc), zW D clM (tyM k) nwM (mW a k) A st u_1 H → va_S A st.heap H locs → ∀ (ls : Array Slot), lv_has ls 3 [(0, .ref (a 0))] → some F = K_2 u_1 → W p l e rm_MMo_fails st m args below meth c H locs 0 0 Q (F0 m 16 ls [])) ?_ ?_
  · intro u_1 H locs hw hS ls hl hf
    refine lv_aload_n hx hb d_MMo_fails_16 rfl (lv_at hl 0 rfl) ?_
    refine va_get (v := .int (mF u_1 0)) hx hb hts iM_Mo hown hw.2.1 hw.1 0 rfl rfl 8 (by decide) (hts _ kM_Mo_38) (fun _ h => h) rfl d_MMo_fails_17 ?_
    refine lv_if_eq (tgt := 27) hx hb d_MMo_fails_20 (by decide) (fun c_3 => ?_) (fun c_3 => ?_)
    · have hf := hf.trans (if_pos c_3)
      refine lv_iconst (v := (0 : Int32)) hx hb d_MMo_fails_27 (by decide) ?_
      exact hret false _ _ _ _ _ d_MMo_fails_28 hw hS (Option.some.inj hf)
    · have hf := hf.trans (if_neg c_3)
      refine lv_iconst (v := (1 : Int32)) hx hb d_MMo_fails_23 (by decide) ?_
      refine lv_goto (tgt := 28) hx hb d_MMo_fails_24 (by decide) ?_
      exact hret true _ _ _ _ _ d_MMo_fails_28 hw hS (Option.some.inj hf)
  · intro K_2 hK_2 hf
    refine lv_if_eq (tgt := 16) hx hb d_MMo_fails_1 (by decide) (fun c_4 => ?_) (fun c_4 => ?_)
    · have hf := hf.trans (if_pos c_4)
      exact hK_2 u0 _ _ hw hS _ (lv_sub hl [0] rfl) hf
    · have hf := hf.trans (if_neg c_4)
      refine lv_aload_n hx hb d_MMo_fails_4 rfl (lv_at hl 0 rfl) ?_
      refine va_get (v := .int (mF u0 0)) hx hb hts iM_Mo hown hw.2.1 hw.1 0 rfl rfl 8 (by decide) (hts _ kM_Mo_38) (fun _ h => h) rfl d_MMo_fails_5 ?_
      refine lv_if_ne (tgt := 16) hx hb d_MMo_fails_8 (by decide) (fun c_5 => ?_) (fun c_5 => ?_)
      · have hf := hf.trans (if_neg c_5)
        exact hK_2 u0 _ _ hw hS _ (lv_sub hl [0] rfl) hf
      · have hf := hf.trans (if_pos c_5)
        refine lv_aload_n hx hb d_MMo_fails_11 rfl (lv_at hl 0 rfl) ?_
        refine lv_iload_n hx hb d_MMo_fails_12 rfl (lv_at hl 2 rfl) ?_
        refine z_put (u' := msF u0 0 x2) hx hb hts iM_Mo tM_Mo tM_Mo_ok nM_Mo hown hw hS 0 rfl rfl 8 (by decide) (hts _ kM_Mo_38) (fun _ h => h) rfl rfl (Nat.le_of_ble_eq_true rfl) rfl d_MMo_fails_13 (fun u_6 H locs eu_6 hw hS => ?_)
        have hf := hf.trans (nm_eq eu_6)
        exact hK_2 u_6 _ _ hw hS _ (lv_sub hl [0] rfl) hf
set_option maxHeartbeats 4000000 in
set_option maxRecDepth 100000 in
theorem c_MMo_lies (l : Launch) (D : va_G) (a : Nat → Nat) (k : Nat → ClassId) (u0 : MS) (x0 : Int32) (x1 : Int32) (F : Bool) (hf : f_MMo_lies u0 x0 x1 = some F) : zRz l y_MMo_lies w_MMo_lies rm_MMo_lies D clM (tyM k) nwM (mW a k) [.int x0, .int x1] u0 F := by
  have hf := hf.symm
  unfold f_MMo_lies at hf
  refine zRz_of (cc := b_MMo_lies) (maxL := 2) (own := RM_Mo) (by decide) rfl rfl (Nat.le_of_ble_eq_true rfl) ?_
  intro p e R st m args below meth c H locs Q ls hR hx hb hml hown hts hw hret hl
  subst hR
  have hcs : 0 ≤ (rm_MMo_lies).cells ∧ 0 ≤ (rm_MMo_lies).slots := ⟨Nat.zero_le _, Nat.zero_le _⟩
  have hl : lv_has ls 2 [(0, .int x0), (1, .int x1)] := hl
  refine lv_iload_n hx hb d_MMo_lies_0 rfl (lv_at hl 0 rfl) ?_
  refine lv_i2l (v := Int32.toInt64 x0) hx hb d_MMo_lies_1 rfl ?_
  refine lv_lconst (v := 0) hx hb d_MMo_lies_2 (by decide) ?_
  refine lv_sipush (v := (1024 : Int32)) hx hb d_MMo_lies_3 (by decide) ?_
  refine lv_iload_n hx hb d_MMo_lies_6 rfl (lv_at hl 1 rfl) ?_
  refine lv_isub hx hb d_MMo_lies_7 ?_
  refine lv_i2l (v := Int32.toInt64 ((1024 : Int32) - x1)) hx hb d_MMo_lies_8 rfl ?_
  obtain ⟨z_1, ez_1, hf⟩ := bd1_inv hf
  refine z_rV (V := .int (bI z_1)) (z_runS (As := [.long (Int32.toInt64 x0), .long (0 : Int64), .long (Int32.toInt64 ((1024 : Int32) - x1))]) (rest := []) ⟨hx, hb, hml, hown, hts⟩ (c_MMo_in l D a k u0 (Int32.toInt64 x0) (0 : Int64) (Int32.toInt64 ((1024 : Int32) - x1)) z_1 ez_1) (qM_Mo_41 hts (by decide)) hw  hl.1 rfl (lv_room (Nat.le_of_ble_eq_true rfl)) d_MMo_lies_9 hcs) ?_
  exact hret z_1 _ _ d_MMo_lies_12 (Option.some.inj hf)
set_option maxHeartbeats 4000000 in
set_option maxRecDepth 100000 in
theorem c_MMo_take (l : Launch) (D : va_G) (a : Nat → Nat) (k : Nat → ClassId) (u0 : MS) (x1 : Int32) (x2 : Int32) (F : Int64) (hf : f_MMo_take u0 x1 x2 = some F) : zRl l y_MMo_take w_MMo_take rm_MMo_take D clM (tyM k) nwM (mW a k) [.ref (a 0), .int x1, .int x2] u0 F := by
  have hf := hf.symm
  unfold f_MMo_take at hf
  refine zRl_of (cc := b_MMo_take) (maxL := 6) (own := RM_Mo) (by decide) rfl rfl (Nat.le_of_ble_eq_true rfl) ?_
  intro p e R st m args below meth c H locs Q ls hR hx hb hml hown hts hw hret hl
  subst hR
  have hcs : 0 ≤ (rm_MMo_take).cells ∧ 0 ≤ (rm_MMo_take).slots := ⟨Nat.zero_le _, Nat.zero_le _⟩
  have hl : lv_has ls 6 [(0, .ref (a 0)), (1, .int x1), (2, .int x2)] := hl
  refine lv_lconst (v := 0) hx hb d_MMo_take_0 (by decide) ?_
  refine lv_lstore_n (lv' := [(3, .long (0 : Int64)), (0, .ref (a 0)), (1, .int x1), (2, .int x2)]) hx hb d_MMo_take_1 rfl hl (by decide) rfl (fun ls hl => ?_)
  refine lv_iconst (v := (0 : Int32)) hx hb d_MMo_take_2 (by decide) ?_
  refine lv_istore (lv' := [(5, .int (0 : Int32)), (3, .long (0 : Int64)), (0, .ref (a 0)), (1, .int x1), (2, .int x2)]) hx hb d_MMo_take_3 hl (by decide) rfl (fun ls hl => ?_)
  refine lp_cut (fun (_ : Nat) (L_3 : Int64 → Int32 → Option (Int64)) => ∀ (y_1 : Int64) (x_2 : Int32), ∀ (ls : Array Slot), lv_has ls 6 [(0, .ref (a 0)), (1, .int x1), (2, .int x2), (3, .long y_1), (5, .int x_2)] → some F = L_3 y_1 x_2 → W p l e rm_MMo_take st m args below meth c H locs 0 0 Q (F0 m 5 ls [])) ?_ ?_ fuelM (0 : Int64) (0 : Int32) _ (lv_sub hl [2, 3, 4, 1, 0] rfl) hf
  · intro _ _ _ _ hf; cases hf
  · intro _ L_3 hL_3 y_1 x_2 ls hl hf
    unfold g_MMo_take_5 at hf
    refine lv_iload hx hb d_MMo_take_5 (lv_at hl 4 rfl) ?_
    refine lv_iload_n hx hb d_MMo_take_7 rfl (lv_at hl 2 rfl) ?_
    refine lv_icmp_ge (tgt := 33) hx hb d_MMo_take_8 (by decide) (fun c_4 => ?_) (fun c_4 => ?_)
    · have hf := hf.trans (if_pos c_4)
      refine lv_lload_n hx hb d_MMo_take_33 rfl (lv_at hl 3 rfl) ?_
      exact hret y_1 _ _ d_MMo_take_34 (Option.some.inj hf)
    · have hf := hf.trans (if_neg c_4)
      refine lv_lload_n hx hb d_MMo_take_11 rfl (lv_at hl 3 rfl) ?_
      refine lv_bipush (v := (8 : Int32)) hx hb d_MMo_take_12 (by decide) ?_
      refine lv_lshl (v := y_1 <<< (Int32.toInt64 (8 : Int32) &&& 63)) hx hb d_MMo_take_14 rfl ?_
      refine lv_aload_n hx hb d_MMo_take_15 rfl (lv_at hl 0 rfl) ?_
      refine va_get (v := .ref (a 1)) hx hb hts iM_Mo hown hw.2.1 hw.1 0 rfl rfl 0 (by decide) (hts _ kM_Mo_7) (fun _ h => h) rfl d_MMo_take_16 ?_
      refine lv_iload_n hx hb d_MMo_take_19 rfl (lv_at hl 1 rfl) ?_
      refine lv_iload hx hb d_MMo_take_20 (lv_at hl 4 rfl) ?_
      refine lv_iadd hx hb d_MMo_take_22 ?_
      obtain ⟨i_5, hf⟩ := ckI_inv hf
      refine va_iald hx hb hw.2.1 hw.1 1 0 rfl rfl i_5 d_MMo_take_23 ?_
      refine lv_i2l (v := Int32.toInt64 (mA u0 1 (Int32.toNatClampNeg (x1 + x_2)))) hx hb d_MMo_take_24 rfl ?_
      refine lv_lor hx hb d_MMo_take_25 ?_
      refine lv_topl (fun y_6 ey_6 => ?_)
      have hf := hf.trans (nm_eq ey_6)
      refine lv_lstore_n (lv' := [(3, .long y_6), (0, .ref (a 0)), (1, .int x1), (2, .int x2), (5, .int x_2)]) hx hb d_MMo_take_26 rfl hl (by decide) rfl (fun ls hl => ?_)
      obtain ⟨x_7, ex_7⟩ : ∃ y : Int32, y = x_2 + (1 : Int32) := ⟨_, rfl⟩
      have hf := hf.trans (nm_eq ex_7)
      refine lv_iinc (v := x_7) (lv' := [(5, .int x_7), (3, .long y_6), (0, .ref (a 0)), (1, .int x1), (2, .int x2)]) hx hb d_MMo_take_27 hl (k := 4) rfl (by rw [ex_7]; rfl) (by decide) rfl (fun ls hl => ?_)
      refine lv_goto (tgt := 5) hx hb d_MMo_take_30 (by decide) ?_
      exact hL_3 y_6 x_7 _ (lv_sub hl [2, 3, 4, 1, 0] rfl) hf
set_option maxHeartbeats 4000000 in
set_option maxRecDepth 100000 in
theorem c_MMo_store (l : Launch) (D : va_G) (a : Nat → Nat) (k : Nat → ClassId) (u0 : MS) (x1 : Int32) (x2 : Int32) (y3 : Int64) (F : MS) (hf : f_MMo_store u0 x1 x2 y3 = some F) : zMv l y_MMo_store w_MMo_store rm_MMo_store D clM (tyM k) nwM (mW a k) [.ref (a 0), .int x1, .int x2, .long y3] u0 F := by
  have hf := hf.symm
  unfold f_MMo_store at hf
  refine zMv_of (cc := b_MMo_store) (maxL := 6) (own := RM_Mo) (by decide) rfl rfl (Nat.le_of_ble_eq_true rfl) ?_
  intro p e R st m args below meth c A H locs Q ls hR hx hb hml hown hts hw hS hret hl
  subst hR
  have hcs : 0 ≤ (rm_MMo_store).cells ∧ 0 ≤ (rm_MMo_store).slots := ⟨Nat.zero_le _, Nat.zero_le _⟩
  have hl : lv_has ls 6 [(0, .ref (a 0)), (1, .int x1), (2, .int x2), (3, .long y3)] := hl
  refine lv_iconst (v := (0 : Int32)) hx hb d_MMo_store_0 (by decide) ?_
  refine lv_istore (lv' := [(5, .int (0 : Int32)), (0, .ref (a 0)), (1, .int x1), (2, .int x2), (3, .long y3)]) hx hb d_MMo_store_1 hl (by decide) rfl (fun ls hl => ?_)
  refine lp_cut (fun (_ : Nat) (L_3 : Int32 → MS → Option (MS)) => ∀ (x_1 : Int32) (u_2 : MS), ∀ (H : Heap) (locs : List Loc), zW D clM (tyM k) nwM (mW a k) A st u_2 H → va_S A st.heap H locs → ∀ (ls : Array Slot), lv_has ls 6 [(0, .ref (a 0)), (1, .int x1), (2, .int x2), (3, .long y3), (5, .int x_1)] → some F = L_3 x_1 u_2 → W p l e rm_MMo_store st m args below meth c H locs 0 0 Q (F0 m 3 ls [])) ?_ ?_ fuelM (0 : Int32) u0 _ _ hw hS _ (lv_sub hl [1, 2, 3, 4, 0] rfl) hf
  · intro _ _ _ _ _ _ _ _ hf; cases hf
  · intro _ L_3 hL_3 x_1 u_2 H locs hw hS ls hl hf
    unfold g_MMo_store_3 at hf
    refine lv_iload hx hb d_MMo_store_3 (lv_at hl 4 rfl) ?_
    refine lv_iload_n hx hb d_MMo_store_5 rfl (lv_at hl 2 rfl) ?_
    refine lv_icmp_ge (tgt := 40) hx hb d_MMo_store_6 (by decide) (fun c_4 => ?_) (fun c_4 => ?_)
    · have hf := hf.trans (if_pos c_4)
      exact hret _ _ _ _ _ d_MMo_store_40 hw hS (Option.some.inj hf)
    · have hf := hf.trans (if_neg c_4)
      refine lv_aload_n hx hb d_MMo_store_9 rfl (lv_at hl 0 rfl) ?_
      refine va_get (v := .ref (a 1)) hx hb hts iM_Mo hown hw.2.1 hw.1 0 rfl rfl 0 (by decide) (hts _ kM_Mo_7) (fun _ h => h) rfl d_MMo_store_10 ?_
      refine lv_iload_n hx hb d_MMo_store_13 rfl (lv_at hl 1 rfl) ?_
      refine lv_iload hx hb d_MMo_store_14 (lv_at hl 4 rfl) ?_
      refine lv_iadd hx hb d_MMo_store_16 ?_
      refine lv_lload_n hx hb d_MMo_store_17 rfl (lv_at hl 3 rfl) ?_
      refine lv_bipush (v := (8 : Int32)) hx hb d_MMo_store_18 (by decide) ?_
      refine lv_iload_n hx hb d_MMo_store_20 rfl (lv_at hl 2 rfl) ?_
      refine lv_iconst (v := (1 : Int32)) hx hb d_MMo_store_21 (by decide) ?_
      refine lv_isub hx hb d_MMo_store_22 ?_
      refine lv_iload hx hb d_MMo_store_23 (lv_at hl 4 rfl) ?_
      refine lv_isub hx hb d_MMo_store_25 ?_
      refine lv_imul hx hb d_MMo_store_26 ?_
      refine lv_lushr (v := (Int64.toUInt64 y3 >>> ((Int32.toInt64 ((8 : Int32) * ((x2 - (1 : Int32)) - x_1))).toUInt64 &&& Int64.toUInt64 63)).toInt64) hx hb d_MMo_store_27 rfl ?_
      refine lv_ldc2 (v := (255 : Int64)) hx hb hown (hts _ kM_Mo_45) d_MMo_store_28 ?_
      refine lv_land hx hb d_MMo_store_31 ?_
      refine lv_l2i (v := Int64.toInt32 (((Int64.toUInt64 y3 >>> ((Int32.toInt64 ((8 : Int32) * ((x2 - (1 : Int32)) - x_1))).toUInt64 &&& Int64.toUInt64 63)).toInt64) &&& (255 : Int64))) hx hb d_MMo_store_32 rfl ?_
      obtain ⟨i_6, hf⟩ := ckI_inv hf
      refine z_iast (u' := msA u_2 1 (Int32.toNatClampNeg (x1 + x_1)) (Int64.toInt32 (((Int64.toUInt64 y3 >>> ((Int32.toInt64 ((8 : Int32) * ((x2 - (1 : Int32)) - x_1))).toUInt64 &&& Int64.toUInt64 63)).toInt64) &&& (255 : Int64)))) hx hb hw hS 1 0 rfl rfl i_6 rfl d_MMo_store_33 (fun u_5 H locs eu_5 hw hS => ?_)
      have hf := hf.trans (nm_eq eu_5)
      obtain ⟨x_7, ex_7⟩ : ∃ y : Int32, y = x_1 + (1 : Int32) := ⟨_, rfl⟩
      have hf := hf.trans (nm_eq ex_7)
      refine lv_iinc (v := x_7) (lv' := [(5, .int x_7), (0, .ref (a 0)), (1, .int x1), (2, .int x2), (3, .long y3)]) hx hb d_MMo_store_34 hl (k := 4) rfl (by rw [ex_7]; rfl) (by decide) rfl (fun ls hl => ?_)
      refine lv_goto (tgt := 3) hx hb d_MMo_store_37 (by decide) ?_
      exact hL_3 x_7 u_5 _ _ hw hS _ (lv_sub hl [1, 2, 3, 4, 0] rfl) hf
set_option maxHeartbeats 4000000 in
set_option maxRecDepth 100000 in
theorem c_MMo_poke (l : Launch) (D : va_G) (a : Nat → Nat) (k : Nat → ClassId) (u0 : MS) (x1 : Int32) (x2 : Int32) (y3 : Int64) (F : MS) (hf : f_MMo_poke u0 x1 x2 y3 = some F) : zMv l y_MMo_poke w_MMo_poke rm_MMo_poke D clM (tyM k) nwM (mW a k) [.ref (a 0), .int x1, .int x2, .long y3] u0 F := by
  have hf := hf.symm
  unfold f_MMo_poke at hf
  refine zMv_of (cc := b_MMo_poke) (maxL := 5) (own := RM_Mo) (by decide) rfl rfl (Nat.le_of_ble_eq_true rfl) ?_
  intro p e R st m args below meth c A H locs Q ls hR hx hb hml hown hts hw hS hret hl
  subst hR
  have hcs : 0 ≤ (rm_MMo_poke).cells ∧ 0 ≤ (rm_MMo_poke).slots := ⟨Nat.zero_le _, Nat.zero_le _⟩
  have hl : lv_has ls 5 [(0, .ref (a 0)), (1, .int x1), (2, .int x2), (3, .long y3)] := hl
  refine lv_aload_n hx hb d_MMo_poke_0 rfl (lv_at hl 0 rfl) ?_
  refine lv_iconst (v := (0 : Int32)) hx hb d_MMo_poke_1 (by decide) ?_
  refine z_put (u' := msF u0 0 (0 : Int32)) hx hb hts iM_Mo tM_Mo tM_Mo_ok nM_Mo hown hw hS 0 rfl rfl 8 (by decide) (hts _ kM_Mo_38) (fun _ h => h) rfl rfl (Nat.le_of_ble_eq_true rfl) rfl d_MMo_poke_2 (fun u_1 H locs eu_1 hw hS => ?_)
  have hf := hf.trans (nm_eq eu_1)
  refine lv_aload_n hx hb d_MMo_poke_5 rfl (lv_at hl 0 rfl) ?_
  refine lv_iload_n hx hb d_MMo_poke_6 rfl (lv_at hl 2 rfl) ?_
  refine lv_i2l (v := Int32.toInt64 x2) hx hb d_MMo_poke_7 rfl ?_
  refine lv_lconst (v := 1) hx hb d_MMo_poke_8 (by decide) ?_
  refine lv_ldc2 (v := (8 : Int64)) hx hb hown (hts _ kM_Mo_47) d_MMo_poke_9 ?_
  obtain ⟨z_2, ez_2, hf⟩ := bd1_inv hf
  refine z_rV (V := .int (bI z_2)) (z_runS (As := [.long (Int32.toInt64 x2), .long (1 : Int64), .long (8 : Int64)]) (rest := [.ref (a 0)]) ⟨hx, hb, hml, hown, hts⟩ (c_MMo_in l D a k u_1 (Int32.toInt64 x2) (1 : Int64) (8 : Int64) z_2 ez_2) (qM_Mo_41 hts (by decide)) hw  hl.1 rfl (lv_room (Nat.le_of_ble_eq_true rfl)) d_MMo_poke_12 hcs) ?_
  refine jn_cut hf (fun (K_4 : Bool → Option (MS)) => ∀ (z_3 : Bool), ∀ (ls : Array Slot), lv_has ls 5 [(0, .ref (a 0)), (1, .int x1), (2, .int x2), (3, .long y3)] → some F = K_4 z_3 → W p l e rm_MMo_poke st m args below meth c H locs 0 0 Q (F0 m 23 ls [.int (bI z_3), .ref (a 0)])) ?_ ?_
  · intro z_3 ls hl hf
    refine lv_iconst (v := (1 : Int32)) hx hb d_MMo_poke_23 (by decide) ?_
    obtain ⟨z_6, u_5, ez_6, hf⟩ := bd2_inv hf
    refine z_wz' (r := z_6) (u' := u_5) (z_runV (As := [.int (bI z_3), .int (1 : Int32)]) (rest := []) ⟨hx, hb, hml, hown, hts⟩ (c_MMo_fails l D a k u_1 z_3 (1 : Int32) (z_6, u_5) ez_6) (qM_Mo_49 hts (by decide)) hw 0 rfl rfl hl.1 rfl (lv_room (Nat.le_of_ble_eq_true rfl)) d_MMo_poke_24 hcs) hw hS (fun H locs hw hS => ?_)
    refine lv_if_ne (tgt := 51) hx hb d_MMo_poke_27 (by decide) (fun c_7 => ?_) (fun c_7 => ?_)
    · have hf := hf.trans (if_neg c_7)
      exact hret _ _ _ _ _ d_MMo_poke_51 hw hS (Option.some.inj hf)
    · have hf := hf.trans (if_pos c_7)
      refine lv_aload_n hx hb d_MMo_poke_30 rfl (lv_at hl 0 rfl) ?_
      refine lv_iload_n hx hb d_MMo_poke_31 rfl (lv_at hl 1 rfl) ?_
      refine lv_iload_n hx hb d_MMo_poke_32 rfl (lv_at hl 2 rfl) ?_
      obtain ⟨z_8, ez_8, hf⟩ := bd1_inv hf
      refine z_rV (V := .int (bI z_8)) (z_runS (As := [.int x1, .int x2]) (rest := [.ref (a 0)]) ⟨hx, hb, hml, hown, hts⟩ (c_MMo_lies l D a k u_5 x1 x2 z_8 ez_8) (qM_Mo_53 hts (by decide)) hw  hl.1 rfl (lv_room (Nat.le_of_ble_eq_true rfl)) d_MMo_poke_33 hcs) ?_
      refine jn_cut hf (fun (K_10 : Bool → Option (MS)) => ∀ (z_9 : Bool), ∀ (ls : Array Slot), lv_has ls 5 [(0, .ref (a 0)), (1, .int x1), (2, .int x2), (3, .long y3)] → some F = K_10 z_9 → W p l e rm_MMo_poke st m args below meth c H locs 0 0 Q (F0 m 44 ls [.int (bI z_9), .ref (a 0)])) ?_ ?_
      · intro z_9 ls hl hf
        refine lv_iconst (v := (2 : Int32)) hx hb d_MMo_poke_44 (by decide) ?_
        obtain ⟨z_12, u_11, ez_12, hf⟩ := bd2_inv hf
        refine z_wz' (r := z_12) (u' := u_11) (z_runV (As := [.int (bI z_9), .int (2 : Int32)]) (rest := []) ⟨hx, hb, hml, hown, hts⟩ (c_MMo_fails l D a k u_5 z_9 (2 : Int32) (z_12, u_11) ez_12) (qM_Mo_49 hts (by decide)) hw 0 rfl rfl hl.1 rfl (lv_room (Nat.le_of_ble_eq_true rfl)) d_MMo_poke_45 hcs) hw hS (fun H locs hw hS => ?_)
        refine lv_if_eq (tgt := 52) hx hb d_MMo_poke_48 (by decide) (fun c_13 => ?_) (fun c_13 => ?_)
        · have hf := hf.trans (if_pos c_13)
          refine lv_aload_n hx hb d_MMo_poke_52 rfl (lv_at hl 0 rfl) ?_
          refine lv_iload_n hx hb d_MMo_poke_53 rfl (lv_at hl 1 rfl) ?_
          refine lv_iload_n hx hb d_MMo_poke_54 rfl (lv_at hl 2 rfl) ?_
          refine lv_lload_n hx hb d_MMo_poke_55 rfl (lv_at hl 3 rfl) ?_
          obtain ⟨u_14, eu_14, hf⟩ := bd1_inv hf
          refine z_wv' (u' := u_14) (z_runV (As := [.int x1, .int x2, .long y3]) (rest := []) ⟨hx, hb, hml, hown, hts⟩ (c_MMo_store l D a k u_11 x1 x2 y3 u_14 eu_14) (qM_Mo_57 hts (by decide)) hw 0 rfl rfl hl.1 rfl (lv_room (Nat.le_of_ble_eq_true rfl)) d_MMo_poke_56 hcs) hw hS (fun H locs hw hS => ?_)
          exact hret _ _ _ _ _ d_MMo_poke_59 hw hS (Option.some.inj hf)
        · have hf := hf.trans (if_neg c_13)
          exact hret _ _ _ _ _ d_MMo_poke_51 hw hS (Option.some.inj hf)
      · intro K_10 hK_10 hf
        refine lv_if_ne (tgt := 43) hx hb d_MMo_poke_36 (by decide) (fun c_15 => ?_) (fun c_15 => ?_)
        · have hf := hf.trans (if_neg c_15)
          refine lv_iconst (v := (0 : Int32)) hx hb d_MMo_poke_43 (by decide) ?_
          exact hK_10 false _ (lv_sub hl [0, 1, 2, 3] rfl) hf
        · have hf := hf.trans (if_pos c_15)
          refine lv_iconst (v := (1 : Int32)) hx hb d_MMo_poke_39 (by decide) ?_
          refine lv_goto (tgt := 44) hx hb d_MMo_poke_40 (by decide) ?_
          exact hK_10 true _ (lv_sub hl [0, 1, 2, 3] rfl) hf
  · intro K_4 hK_4 hf
    refine lv_if_ne (tgt := 22) hx hb d_MMo_poke_15 (by decide) (fun c_16 => ?_) (fun c_16 => ?_)
    · have hf := hf.trans (if_neg c_16)
      refine lv_iconst (v := (0 : Int32)) hx hb d_MMo_poke_22 (by decide) ?_
      exact hK_4 false _ (lv_sub hl [0, 1, 2, 3] rfl) hf
    · have hf := hf.trans (if_pos c_16)
      refine lv_iconst (v := (1 : Int32)) hx hb d_MMo_poke_18 (by decide) ?_
      refine lv_goto (tgt := 23) hx hb d_MMo_poke_19 (by decide) ?_
      exact hK_4 true _ (lv_sub hl [0, 1, 2, 3] rfl) hf
set_option maxHeartbeats 4000000 in
set_option maxRecDepth 100000 in
theorem c_MMo_octet (l : Launch) (D : va_G) (a : Nat → Nat) (k : Nat → ClassId) (u0 : MS) (x1 : Int32) (F : Int32 × MS) (hf : f_MMo_octet u0 x1 = some F) : zMi l y_MMo_octet w_MMo_octet rm_MMo_octet D clM (tyM k) nwM (mW a k) [.ref (a 0), .int x1] u0 F := by
  have hf := hf.symm
  unfold f_MMo_octet at hf
  refine zMi_of (cc := b_MMo_octet) (maxL := 2) (own := RM_Mo) (by decide) rfl rfl (Nat.le_of_ble_eq_true rfl) ?_
  intro p e R st m args below meth c A H locs Q ls hR hx hb hml hown hts hw hS hret hl
  subst hR
  have hcs : 0 ≤ (rm_MMo_octet).cells ∧ 0 ≤ (rm_MMo_octet).slots := ⟨Nat.zero_le _, Nat.zero_le _⟩
  have hl : lv_has ls 2 [(0, .ref (a 0)), (1, .int x1)] := hl
  refine lv_aload_n hx hb d_MMo_octet_0 rfl (lv_at hl 0 rfl) ?_
  refine lv_iconst (v := (0 : Int32)) hx hb d_MMo_octet_1 (by decide) ?_
  refine z_put (u' := msF u0 0 (0 : Int32)) hx hb hts iM_Mo tM_Mo tM_Mo_ok nM_Mo hown hw hS 0 rfl rfl 8 (by decide) (hts _ kM_Mo_38) (fun _ h => h) rfl rfl (Nat.le_of_ble_eq_true rfl) rfl d_MMo_octet_2 (fun u_1 H locs eu_1 hw hS => ?_)
  have hf := hf.trans (nm_eq eu_1)
  refine lv_aload_n hx hb d_MMo_octet_5 rfl (lv_at hl 0 rfl) ?_
  refine lv_iload_n hx hb d_MMo_octet_6 rfl (lv_at hl 1 rfl) ?_
  refine lv_iconst (v := (1 : Int32)) hx hb d_MMo_octet_7 (by decide) ?_
  obtain ⟨z_2, ez_2, hf⟩ := bd1_inv hf
  refine z_rV (V := .int (bI z_2)) (z_runS (As := [.int x1, .int (1 : Int32)]) (rest := [.ref (a 0)]) ⟨hx, hb, hml, hown, hts⟩ (c_MMo_lies l D a k u_1 x1 (1 : Int32) z_2 ez_2) (qM_Mo_53 hts (by decide)) hw  hl.1 rfl (lv_room (Nat.le_of_ble_eq_true rfl)) d_MMo_octet_8 hcs) ?_
  refine jn_cut hf (fun (K_4 : Bool → Option (Int32 × MS)) => ∀ (z_3 : Bool), ∀ (ls : Array Slot), lv_has ls 2 [(0, .ref (a 0)), (1, .int x1)] → some F = K_4 z_3 → W p l e rm_MMo_octet st m args below meth c H locs 0 0 Q (F0 m 19 ls [.int (bI z_3), .ref (a 0)])) ?_ ?_
  · intro z_3 ls hl hf
    refine lv_iconst (v := (1 : Int32)) hx hb d_MMo_octet_19 (by decide) ?_
    obtain ⟨z_6, u_5, ez_6, hf⟩ := bd2_inv hf
    refine z_wz' (r := z_6) (u' := u_5) (z_runV (As := [.int (bI z_3), .int (1 : Int32)]) (rest := []) ⟨hx, hb, hml, hown, hts⟩ (c_MMo_fails l D a k u_1 z_3 (1 : Int32) (z_6, u_5) ez_6) (qM_Mo_49 hts (by decide)) hw 0 rfl rfl hl.1 rfl (lv_room (Nat.le_of_ble_eq_true rfl)) d_MMo_octet_20 hcs) hw hS (fun H locs hw hS => ?_)
    refine lv_if_eq (tgt := 30) hx hb d_MMo_octet_23 (by decide) (fun c_7 => ?_) (fun c_7 => ?_)
    · have hf := hf.trans (if_pos c_7)
      refine lv_aload_n hx hb d_MMo_octet_30 rfl (lv_at hl 0 rfl) ?_
      refine va_get (v := .ref (a 1)) hx hb hts iM_Mo hown hw.2.1 hw.1 0 rfl rfl 0 (by decide) (hts _ kM_Mo_7) (fun _ h => h) rfl d_MMo_octet_31 ?_
      refine lv_iload_n hx hb d_MMo_octet_34 rfl (lv_at hl 1 rfl) ?_
      obtain ⟨i_8, hf⟩ := ckI_inv hf
      refine va_iald hx hb hw.2.1 hw.1 1 0 rfl rfl i_8 d_MMo_octet_35 ?_
      exact hret (mA u_5 1 (Int32.toNatClampNeg x1)) _ _ _ _ _ d_MMo_octet_36 hw hS (Option.some.inj hf)
    · have hf := hf.trans (if_neg c_7)
      refine lv_iconst (v := (0 : Int32)) hx hb d_MMo_octet_26 (by decide) ?_
      refine lv_goto (tgt := 36) hx hb d_MMo_octet_27 (by decide) ?_
      exact hret (0 : Int32) _ _ _ _ _ d_MMo_octet_36 hw hS (Option.some.inj hf)
  · intro K_4 hK_4 hf
    refine lv_if_ne (tgt := 18) hx hb d_MMo_octet_11 (by decide) (fun c_9 => ?_) (fun c_9 => ?_)
    · have hf := hf.trans (if_neg c_9)
      refine lv_iconst (v := (0 : Int32)) hx hb d_MMo_octet_18 (by decide) ?_
      exact hK_4 false _ (lv_sub hl [0, 1] rfl) hf
    · have hf := hf.trans (if_pos c_9)
      refine lv_iconst (v := (1 : Int32)) hx hb d_MMo_octet_14 (by decide) ?_
      refine lv_goto (tgt := 19) hx hb d_MMo_octet_15 (by decide) ?_
      exact hK_4 true _ (lv_sub hl [0, 1] rfl) hf
set_option maxHeartbeats 4000000 in
set_option maxRecDepth 100000 in
theorem c_MMo_set (l : Launch) (D : va_G) (a : Nat → Nat) (k : Nat → ClassId) (u0 : MS) (x1 : Int32) (x2 : Int32) (F : Int32 × MS) (hf : f_MMo_set u0 x1 x2 = some F) : zMi l y_MMo_set w_MMo_set rm_MMo_set D clM (tyM k) nwM (mW a k) [.ref (a 0), .int x1, .int x2] u0 F := by
  have hf := hf.symm
  unfold f_MMo_set at hf
  refine zMi_of (cc := b_MMo_set) (maxL := 4) (own := RM_Mo) (by decide) rfl rfl (Nat.le_of_ble_eq_true rfl) ?_
  intro p e R st m args below meth c A H locs Q ls hR hx hb hml hown hts hw hS hret hl
  subst hR
  have hcs : 0 ≤ (rm_MMo_set).cells ∧ 0 ≤ (rm_MMo_set).slots := ⟨Nat.zero_le _, Nat.zero_le _⟩
  have hl : lv_has ls 4 [(0, .ref (a 0)), (1, .int x1), (2, .int x2)] := hl
  refine lv_aload_n hx hb d_MMo_set_0 rfl (lv_at hl 0 rfl) ?_
  refine lv_iconst (v := (0 : Int32)) hx hb d_MMo_set_1 (by decide) ?_
  refine z_put (u' := msF u0 0 (0 : Int32)) hx hb hts iM_Mo tM_Mo tM_Mo_ok nM_Mo hown hw hS 0 rfl rfl 8 (by decide) (hts _ kM_Mo_38) (fun _ h => h) rfl rfl (Nat.le_of_ble_eq_true rfl) rfl d_MMo_set_2 (fun u_1 H locs eu_1 hw hS => ?_)
  have hf := hf.trans (nm_eq eu_1)
  refine lv_aload_n hx hb d_MMo_set_5 rfl (lv_at hl 0 rfl) ?_
  refine lv_iload_n hx hb d_MMo_set_6 rfl (lv_at hl 1 rfl) ?_
  refine lv_i2l (v := Int32.toInt64 x1) hx hb d_MMo_set_7 rfl ?_
  refine lv_lconst (v := 0) hx hb d_MMo_set_8 (by decide) ?_
  refine lv_ldc2 (v := (15 : Int64)) hx hb hown (hts _ kM_Mo_61) d_MMo_set_9 ?_
  obtain ⟨z_2, ez_2, hf⟩ := bd1_inv hf
  refine z_rV (V := .int (bI z_2)) (z_runS (As := [.long (Int32.toInt64 x1), .long (0 : Int64), .long (15 : Int64)]) (rest := [.ref (a 0)]) ⟨hx, hb, hml, hown, hts⟩ (c_MMo_in l D a k u_1 (Int32.toInt64 x1) (0 : Int64) (15 : Int64) z_2 ez_2) (qM_Mo_41 hts (by decide)) hw  hl.1 rfl (lv_room (Nat.le_of_ble_eq_true rfl)) d_MMo_set_12 hcs) ?_
  refine jn_cut hf (fun (K_4 : Bool → Option (Int32 × MS)) => ∀ (z_3 : Bool), ∀ (ls : Array Slot), lv_has ls 4 [(0, .ref (a 0)), (1, .int x1), (2, .int x2)] → some F = K_4 z_3 → W p l e rm_MMo_set st m args below meth c H locs 0 0 Q (F0 m 23 ls [.int (bI z_3), .ref (a 0)])) ?_ ?_
  · intro z_3 ls hl hf
    refine lv_iconst (v := (1 : Int32)) hx hb d_MMo_set_23 (by decide) ?_
    obtain ⟨z_6, u_5, ez_6, hf⟩ := bd2_inv hf
    refine z_wz' (r := z_6) (u' := u_5) (z_runV (As := [.int (bI z_3), .int (1 : Int32)]) (rest := []) ⟨hx, hb, hml, hown, hts⟩ (c_MMo_fails l D a k u_1 z_3 (1 : Int32) (z_6, u_5) ez_6) (qM_Mo_49 hts (by decide)) hw 0 rfl rfl hl.1 rfl (lv_room (Nat.le_of_ble_eq_true rfl)) d_MMo_set_24 hcs) hw hS (fun H locs hw hS => ?_)
    refine lv_if_eq (tgt := 32) hx hb d_MMo_set_27 (by decide) (fun c_7 => ?_) (fun c_7 => ?_)
    · have hf := hf.trans (if_pos c_7)
      refine lv_aload_n hx hb d_MMo_set_32 rfl (lv_at hl 0 rfl) ?_
      refine va_get (v := .ref (a 2)) hx hb hts iM_Mo hown hw.2.1 hw.1 0 rfl rfl 1 (by decide) (hts _ kM_Mo_13) (fun _ h => h) rfl d_MMo_set_33 ?_
      refine lv_iload_n hx hb d_MMo_set_36 rfl (lv_at hl 1 rfl) ?_
      obtain ⟨i_8, hf⟩ := ckI_inv hf
      refine va_iald hx hb hw.2.1 hw.1 2 1 rfl rfl i_8 d_MMo_set_37 ?_
      refine lv_topi (fun x_9 ex_9 => ?_)
      have hf := hf.trans (nm_eq ex_9)
      refine lv_istore_n (lv' := [(3, .int x_9), (0, .ref (a 0)), (1, .int x1), (2, .int x2)]) hx hb d_MMo_set_38 rfl hl (by decide) rfl (fun ls hl => ?_)
      refine lv_aload_n hx hb d_MMo_set_39 rfl (lv_at hl 1 rfl) ?_
      refine va_get (v := .ref (a 2)) hx hb hts iM_Mo hown hw.2.1 hw.1 0 rfl rfl 1 (by decide) (hts _ kM_Mo_13) (fun _ h => h) rfl d_MMo_set_40 ?_
      refine lv_iload_n hx hb d_MMo_set_43 rfl (lv_at hl 2 rfl) ?_
      refine lv_iload_n hx hb d_MMo_set_44 rfl (lv_at hl 3 rfl) ?_
      obtain ⟨i_11, hf⟩ := ckI_inv hf
      refine z_iast (u' := msA u_5 2 (Int32.toNatClampNeg x1) x2) hx hb hw hS 2 1 rfl rfl i_11 rfl d_MMo_set_45 (fun u_10 H locs eu_10 hw hS => ?_)
      have hf := hf.trans (nm_eq eu_10)
      refine lv_iload_n hx hb d_MMo_set_46 rfl (lv_at hl 0 rfl) ?_
      exact hret x_9 _ _ _ _ _ d_MMo_set_47 hw hS (Option.some.inj hf)
    · have hf := hf.trans (if_neg c_7)
      refine lv_iconst (v := (0 : Int32)) hx hb d_MMo_set_30 (by decide) ?_
      exact hret (0 : Int32) _ _ _ _ _ d_MMo_set_31 hw hS (Option.some.inj hf)
  · intro K_4 hK_4 hf
    refine lv_if_ne (tgt := 22) hx hb d_MMo_set_15 (by decide) (fun c_12 => ?_) (fun c_12 => ?_)
    · have hf := hf.trans (if_neg c_12)
      refine lv_iconst (v := (0 : Int32)) hx hb d_MMo_set_22 (by decide) ?_
      exact hK_4 false _ (lv_sub hl [0, 1, 2] rfl) hf
    · have hf := hf.trans (if_pos c_12)
      refine lv_iconst (v := (1 : Int32)) hx hb d_MMo_set_18 (by decide) ?_
      refine lv_goto (tgt := 23) hx hb d_MMo_set_19 (by decide) ?_
      exact hK_4 true _ (lv_sub hl [0, 1, 2] rfl) hf
set_option maxHeartbeats 4000000 in
set_option maxRecDepth 100000 in
theorem c_MMo_register (l : Launch) (D : va_G) (a : Nat → Nat) (k : Nat → ClassId) (u0 : MS) (x1 : Int32) (F : Int32 × MS) (hf : f_MMo_register u0 x1 = some F) : zMi l y_MMo_register w_MMo_register rm_MMo_register D clM (tyM k) nwM (mW a k) [.ref (a 0), .int x1] u0 F := by
  have hf := hf.symm
  unfold f_MMo_register at hf
  refine zMi_of (cc := b_MMo_register) (maxL := 2) (own := RM_Mo) (by decide) rfl rfl (Nat.le_of_ble_eq_true rfl) ?_
  intro p e R st m args below meth c A H locs Q ls hR hx hb hml hown hts hw hS hret hl
  subst hR
  have hcs : 0 ≤ (rm_MMo_register).cells ∧ 0 ≤ (rm_MMo_register).slots := ⟨Nat.zero_le _, Nat.zero_le _⟩
  have hl : lv_has ls 2 [(0, .ref (a 0)), (1, .int x1)] := hl
  refine lv_aload_n hx hb d_MMo_register_0 rfl (lv_at hl 0 rfl) ?_
  refine lv_iconst (v := (0 : Int32)) hx hb d_MMo_register_1 (by decide) ?_
  refine z_put (u' := msF u0 0 (0 : Int32)) hx hb hts iM_Mo tM_Mo tM_Mo_ok nM_Mo hown hw hS 0 rfl rfl 8 (by decide) (hts _ kM_Mo_38) (fun _ h => h) rfl rfl (Nat.le_of_ble_eq_true rfl) rfl d_MMo_register_2 (fun u_1 H locs eu_1 hw hS => ?_)
  have hf := hf.trans (nm_eq eu_1)
  refine lv_aload_n hx hb d_MMo_register_5 rfl (lv_at hl 0 rfl) ?_
  refine lv_iload_n hx hb d_MMo_register_6 rfl (lv_at hl 1 rfl) ?_
  refine lv_i2l (v := Int32.toInt64 x1) hx hb d_MMo_register_7 rfl ?_
  refine lv_lconst (v := 0) hx hb d_MMo_register_8 (by decide) ?_
  refine lv_ldc2 (v := (15 : Int64)) hx hb hown (hts _ kM_Mo_61) d_MMo_register_9 ?_
  obtain ⟨z_2, ez_2, hf⟩ := bd1_inv hf
  refine z_rV (V := .int (bI z_2)) (z_runS (As := [.long (Int32.toInt64 x1), .long (0 : Int64), .long (15 : Int64)]) (rest := [.ref (a 0)]) ⟨hx, hb, hml, hown, hts⟩ (c_MMo_in l D a k u_1 (Int32.toInt64 x1) (0 : Int64) (15 : Int64) z_2 ez_2) (qM_Mo_41 hts (by decide)) hw  hl.1 rfl (lv_room (Nat.le_of_ble_eq_true rfl)) d_MMo_register_12 hcs) ?_
  refine jn_cut hf (fun (K_4 : Bool → Option (Int32 × MS)) => ∀ (z_3 : Bool), ∀ (ls : Array Slot), lv_has ls 2 [(0, .ref (a 0)), (1, .int x1)] → some F = K_4 z_3 → W p l e rm_MMo_register st m args below meth c H locs 0 0 Q (F0 m 23 ls [.int (bI z_3), .ref (a 0)])) ?_ ?_
  · intro z_3 ls hl hf
    refine lv_iconst (v := (1 : Int32)) hx hb d_MMo_register_23 (by decide) ?_
    obtain ⟨z_6, u_5, ez_6, hf⟩ := bd2_inv hf
    refine z_wz' (r := z_6) (u' := u_5) (z_runV (As := [.int (bI z_3), .int (1 : Int32)]) (rest := []) ⟨hx, hb, hml, hown, hts⟩ (c_MMo_fails l D a k u_1 z_3 (1 : Int32) (z_6, u_5) ez_6) (qM_Mo_49 hts (by decide)) hw 0 rfl rfl hl.1 rfl (lv_room (Nat.le_of_ble_eq_true rfl)) d_MMo_register_24 hcs) hw hS (fun H locs hw hS => ?_)
    refine lv_if_eq (tgt := 34) hx hb d_MMo_register_27 (by decide) (fun c_7 => ?_) (fun c_7 => ?_)
    · have hf := hf.trans (if_pos c_7)
      refine lv_aload_n hx hb d_MMo_register_34 rfl (lv_at hl 0 rfl) ?_
      refine va_get (v := .ref (a 2)) hx hb hts iM_Mo hown hw.2.1 hw.1 0 rfl rfl 1 (by decide) (hts _ kM_Mo_13) (fun _ h => h) rfl d_MMo_register_35 ?_
      refine lv_iload_n hx hb d_MMo_register_38 rfl (lv_at hl 1 rfl) ?_
      obtain ⟨i_8, hf⟩ := ckI_inv hf
      refine va_iald hx hb hw.2.1 hw.1 2 1 rfl rfl i_8 d_MMo_register_39 ?_
      exact hret (mA u_5 2 (Int32.toNatClampNeg x1)) _ _ _ _ _ d_MMo_register_40 hw hS (Option.some.inj hf)
    · have hf := hf.trans (if_neg c_7)
      refine lv_iconst (v := (0 : Int32)) hx hb d_MMo_register_30 (by decide) ?_
      refine lv_goto (tgt := 40) hx hb d_MMo_register_31 (by decide) ?_
      exact hret (0 : Int32) _ _ _ _ _ d_MMo_register_40 hw hS (Option.some.inj hf)
  · intro K_4 hK_4 hf
    refine lv_if_ne (tgt := 22) hx hb d_MMo_register_15 (by decide) (fun c_9 => ?_) (fun c_9 => ?_)
    · have hf := hf.trans (if_neg c_9)
      refine lv_iconst (v := (0 : Int32)) hx hb d_MMo_register_22 (by decide) ?_
      exact hK_4 false _ (lv_sub hl [0, 1] rfl) hf
    · have hf := hf.trans (if_pos c_9)
      refine lv_iconst (v := (1 : Int32)) hx hb d_MMo_register_18 (by decide) ?_
      refine lv_goto (tgt := 23) hx hb d_MMo_register_19 (by decide) ?_
      exact hK_4 true _ (lv_sub hl [0, 1] rfl) hf
set_option maxHeartbeats 4000000 in
set_option maxRecDepth 100000 in
theorem c_MMo_start (l : Launch) (D : va_G) (a : Nat → Nat) (k : Nat → ClassId) (u0 : MS) (x1 : Int32) (x2 : Int32) (F : MS) (hf : f_MMo_start u0 x1 x2 = some F) : zMv l y_MMo_start w_MMo_start rm_MMo_start D clM (tyM k) nwM (mW a k) [.ref (a 0), .int x1, .int x2] u0 F := by
  have hf := hf.symm
  unfold f_MMo_start at hf
  refine zMv_of (cc := b_MMo_start) (maxL := 3) (own := RM_Mo) (by decide) rfl rfl (Nat.le_of_ble_eq_true rfl) ?_
  intro p e R st m args below meth c A H locs Q ls hR hx hb hml hown hts hw hS hret hl
  subst hR
  have hcs : 0 ≤ (rm_MMo_start).cells ∧ 0 ≤ (rm_MMo_start).slots := ⟨Nat.zero_le _, Nat.zero_le _⟩
  have hl : lv_has ls 3 [(0, .ref (a 0)), (1, .int x1), (2, .int x2)] := hl
  refine lv_aload_n hx hb d_MMo_start_0 rfl (lv_at hl 0 rfl) ?_
  refine lv_iconst (v := (0 : Int32)) hx hb d_MMo_start_1 (by decide) ?_
  refine z_put (u' := msF u0 0 (0 : Int32)) hx hb hts iM_Mo tM_Mo tM_Mo_ok nM_Mo hown hw hS 0 rfl rfl 8 (by decide) (hts _ kM_Mo_38) (fun _ h => h) rfl rfl (Nat.le_of_ble_eq_true rfl) rfl d_MMo_start_2 (fun u_1 H locs eu_1 hw hS => ?_)
  have hf := hf.trans (nm_eq eu_1)
  refine lv_aload_n hx hb d_MMo_start_5 rfl (lv_at hl 0 rfl) ?_
  refine lv_iload_n hx hb d_MMo_start_6 rfl (lv_at hl 1 rfl) ?_
  refine lv_i2l (v := Int32.toInt64 x1) hx hb d_MMo_start_7 rfl ?_
  refine lv_lconst (v := 0) hx hb d_MMo_start_8 (by decide) ?_
  refine lv_ldc2 (v := (16777215 : Int64)) hx hb hown (hts _ kM_Mo_63) d_MMo_start_9 ?_
  obtain ⟨z_2, ez_2, hf⟩ := bd1_inv hf
  refine z_rV (V := .int (bI z_2)) (z_runS (As := [.long (Int32.toInt64 x1), .long (0 : Int64), .long (16777215 : Int64)]) (rest := [.ref (a 0)]) ⟨hx, hb, hml, hown, hts⟩ (c_MMo_in l D a k u_1 (Int32.toInt64 x1) (0 : Int64) (16777215 : Int64) z_2 ez_2) (qM_Mo_41 hts (by decide)) hw  hl.1 rfl (lv_room (Nat.le_of_ble_eq_true rfl)) d_MMo_start_12 hcs) ?_
  refine jn_cut hf (fun (K_4 : Bool → Option (MS)) => ∀ (z_3 : Bool), ∀ (ls : Array Slot), lv_has ls 3 [(0, .ref (a 0)), (1, .int x1), (2, .int x2)] → some F = K_4 z_3 → W p l e rm_MMo_start st m args below meth c H locs 0 0 Q (F0 m 35 ls [.int (bI z_3), .ref (a 0)])) ?_ ?_
  · intro z_3 ls hl hf
    refine lv_iconst (v := (1 : Int32)) hx hb d_MMo_start_35 (by decide) ?_
    obtain ⟨z_6, u_5, ez_6, hf⟩ := bd2_inv hf
    refine z_wz' (r := z_6) (u' := u_5) (z_runV (As := [.int (bI z_3), .int (1 : Int32)]) (rest := []) ⟨hx, hb, hml, hown, hts⟩ (c_MMo_fails l D a k u_1 z_3 (1 : Int32) (z_6, u_5) ez_6) (qM_Mo_49 hts (by decide)) hw 0 rfl rfl hl.1 rfl (lv_room (Nat.le_of_ble_eq_true rfl)) d_MMo_start_36 hcs) hw hS (fun H locs hw hS => ?_)
    refine lv_if_eq (tgt := 43) hx hb d_MMo_start_39 (by decide) (fun c_7 => ?_) (fun c_7 => ?_)
    · have hf := hf.trans (if_pos c_7)
      refine lv_aload_n hx hb d_MMo_start_43 rfl (lv_at hl 0 rfl) ?_
      refine lv_iload_n hx hb d_MMo_start_44 rfl (lv_at hl 1 rfl) ?_
      refine z_put (u' := msF u_5 2 x1) hx hb hts iM_Mo tM_Mo tM_Mo_ok nM_Mo hown hw hS 0 rfl rfl 10 (by decide) (hts _ kM_Mo_67) (fun _ h => h) rfl rfl (Nat.le_of_ble_eq_true rfl) rfl d_MMo_start_45 (fun u_8 H locs eu_8 hw hS => ?_)
      have hf := hf.trans (nm_eq eu_8)
      refine lv_aload_n hx hb d_MMo_start_48 rfl (lv_at hl 0 rfl) ?_
      refine lv_iload_n hx hb d_MMo_start_49 rfl (lv_at hl 2 rfl) ?_
      refine z_put (u' := msF u_8 3 x2) hx hb hts iM_Mo tM_Mo tM_Mo_ok nM_Mo hown hw hS 0 rfl rfl 11 (by decide) (hts _ kM_Mo_70) (fun _ h => h) rfl rfl (Nat.le_of_ble_eq_true rfl) rfl d_MMo_start_50 (fun u_9 H locs eu_9 hw hS => ?_)
      have hf := hf.trans (nm_eq eu_9)
      refine lv_aload_n hx hb d_MMo_start_53 rfl (lv_at hl 0 rfl) ?_
      refine lv_iconst (v := (0 : Int32)) hx hb d_MMo_start_54 (by decide) ?_
      refine z_put (u' := msF u_9 1 (0 : Int32)) hx hb hts iM_Mo tM_Mo tM_Mo_ok nM_Mo hown hw hS 0 rfl rfl 9 (by decide) (hts _ kM_Mo_73) (fun _ h => h) rfl rfl (Nat.le_of_ble_eq_true rfl) rfl d_MMo_start_55 (fun u_10 H locs eu_10 hw hS => ?_)
      have hf := hf.trans (nm_eq eu_10)
      refine lv_aload_n hx hb d_MMo_start_58 rfl (lv_at hl 0 rfl) ?_
      refine lv_iconst (v := (-1 : Int32)) hx hb d_MMo_start_59 (by decide) ?_
      refine z_put (u' := msF u_10 4 (-1 : Int32)) hx hb hts iM_Mo tM_Mo tM_Mo_ok nM_Mo hown hw hS 0 rfl rfl 12 (by decide) (hts _ kM_Mo_34) (fun _ h => h) rfl rfl (Nat.le_of_ble_eq_true rfl) rfl d_MMo_start_60 (fun u_11 H locs eu_11 hw hS => ?_)
      have hf := hf.trans (nm_eq eu_11)
      exact hret _ _ _ _ _ d_MMo_start_63 hw hS (Option.some.inj hf)
    · have hf := hf.trans (if_neg c_7)
      exact hret _ _ _ _ _ d_MMo_start_42 hw hS (Option.some.inj hf)
  · intro K_4 hK_4 hf
    refine jn_cut hf (fun (K_12 : Option (MS)) => ∀ (ls : Array Slot), lv_has ls 3 [(0, .ref (a 0)), (1, .int x1), (2, .int x2)] → some F = K_12 → W p l e rm_MMo_start st m args below meth c H locs 0 0 Q (F0 m 30 ls [.ref (a 0)])) ?_ ?_
    · intro ls hl hf
      refine lv_iconst (v := (1 : Int32)) hx hb d_MMo_start_30 (by decide) ?_
      refine lv_goto (tgt := 35) hx hb d_MMo_start_31 (by decide) ?_
      exact hK_4 true _ (lv_sub hl [0, 1, 2] rfl) hf
    · intro K_12 hK_12 hf
      refine lv_if_eq (tgt := 30) hx hb d_MMo_start_15 (by decide) (fun c_13 => ?_) (fun c_13 => ?_)
      · have hf := hf.trans (if_pos c_13)
        exact hK_12 _ (lv_sub hl [0, 1, 2] rfl) hf
      · have hf := hf.trans (if_neg c_13)
        refine lv_iload_n hx hb d_MMo_start_18 rfl (lv_at hl 2 rfl) ?_
        refine lv_i2l (v := Int32.toInt64 x2) hx hb d_MMo_start_19 rfl ?_
        refine lv_lconst (v := 0) hx hb d_MMo_start_20 (by decide) ?_
        refine lv_ldc2 (v := (3 : Int64)) hx hb hown (hts _ kM_Mo_65) d_MMo_start_21 ?_
        obtain ⟨z_14, ez_14, hf⟩ := bd1_inv hf
        refine z_rV (V := .int (bI z_14)) (z_runS (As := [.long (Int32.toInt64 x2), .long (0 : Int64), .long (3 : Int64)]) (rest := [.ref (a 0)]) ⟨hx, hb, hml, hown, hts⟩ (c_MMo_in l D a k u_1 (Int32.toInt64 x2) (0 : Int64) (3 : Int64) z_14 ez_14) (qM_Mo_41 hts (by decide)) hw  hl.1 rfl (lv_room (Nat.le_of_ble_eq_true rfl)) d_MMo_start_24 hcs) ?_
        refine lv_if_ne (tgt := 34) hx hb d_MMo_start_27 (by decide) (fun c_15 => ?_) (fun c_15 => ?_)
        · have hf := hf.trans (if_neg c_15)
          refine lv_iconst (v := (0 : Int32)) hx hb d_MMo_start_34 (by decide) ?_
          exact hK_4 false _ (lv_sub hl [0, 1, 2] rfl) hf
        · have hf := hf.trans (if_pos c_15)
          exact hK_12 _ (lv_sub hl [0, 1, 2] rfl) hf
set_option maxHeartbeats 4000000 in
set_option maxRecDepth 100000 in
theorem c_MMo_rr (l : Launch) (D : va_G) (a : Nat → Nat) (k : Nat → ClassId) (u0 : MS) (x1 : Int32) (x2 : Int32) (x3 : Int32) (x4 : Int32) (F : Int32 × MS) (hf : f_MMo_rr u0 x1 x2 x3 x4 = some F) : zMi l y_MMo_rr w_MMo_rr rm_MMo_rr D clM (tyM k) nwM (mW a k) [.ref (a 0), .int x1, .int x2, .int x3, .int x4] u0 F := by
  have hf := hf.symm
  unfold f_MMo_rr at hf
  refine zMi_of (cc := b_MMo_rr) (maxL := 5) (own := RM_Mo) (by decide) rfl rfl (Nat.le_of_ble_eq_true rfl) ?_
  intro p e R st m args below meth c A H locs Q ls hR hx hb hml hown hts hw hS hret hl
  subst hR
  have hcs : 0 ≤ (rm_MMo_rr).cells ∧ 0 ≤ (rm_MMo_rr).slots := ⟨Nat.zero_le _, Nat.zero_le _⟩
  have hl : lv_has ls 5 [(0, .ref (a 0)), (1, .int x1), (2, .int x2), (3, .int x3), (4, .int x4)] := hl
  refine lv_aload_n hx hb d_MMo_rr_0 rfl (lv_at hl 0 rfl) ?_
  refine lv_iconst (v := (0 : Int32)) hx hb d_MMo_rr_1 (by decide) ?_
  refine z_put (u' := msF u0 0 (0 : Int32)) hx hb hts iM_Mo tM_Mo tM_Mo_ok nM_Mo hown hw hS 0 rfl rfl 8 (by decide) (hts _ kM_Mo_38) (fun _ h => h) rfl rfl (Nat.le_of_ble_eq_true rfl) rfl d_MMo_rr_2 (fun u_1 H locs eu_1 hw hS => ?_)
  have hf := hf.trans (nm_eq eu_1)
  refine lv_aload_n hx hb d_MMo_rr_5 rfl (lv_at hl 0 rfl) ?_
  refine lv_iload_n hx hb d_MMo_rr_6 rfl (lv_at hl 2 rfl) ?_
  refine lv_i2l (v := Int32.toInt64 x2) hx hb d_MMo_rr_7 rfl ?_
  refine lv_lconst (v := 0) hx hb d_MMo_rr_8 (by decide) ?_
  refine lv_ldc2 (v := (63 : Int64)) hx hb hown (hts _ kM_Mo_76) d_MMo_rr_9 ?_
  obtain ⟨z_2, ez_2, hf⟩ := bd1_inv hf
  refine z_rV (V := .int (bI z_2)) (z_runS (As := [.long (Int32.toInt64 x2), .long (0 : Int64), .long (63 : Int64)]) (rest := [.ref (a 0)]) ⟨hx, hb, hml, hown, hts⟩ (c_MMo_in l D a k u_1 (Int32.toInt64 x2) (0 : Int64) (63 : Int64) z_2 ez_2) (qM_Mo_41 hts (by decide)) hw  hl.1 rfl (lv_room (Nat.le_of_ble_eq_true rfl)) d_MMo_rr_12 hcs) ?_
  refine jn_cut hf (fun (K_4 : Bool → Option (Int32 × MS)) => ∀ (z_3 : Bool), ∀ (ls : Array Slot), lv_has ls 5 [(0, .ref (a 0)), (1, .int x1), (2, .int x2), (3, .int x3), (4, .int x4)] → some F = K_4 z_3 → W p l e rm_MMo_rr st m args below meth c H locs 0 0 Q (F0 m 48 ls [.int (bI z_3), .ref (a 0)])) ?_ ?_
  · intro z_3 ls hl hf
    refine lv_iconst (v := (1 : Int32)) hx hb d_MMo_rr_48 (by decide) ?_
    obtain ⟨z_6, u_5, ez_6, hf⟩ := bd2_inv hf
    refine z_wz' (r := z_6) (u' := u_5) (z_runV (As := [.int (bI z_3), .int (1 : Int32)]) (rest := []) ⟨hx, hb, hml, hown, hts⟩ (c_MMo_fails l D a k u_1 z_3 (1 : Int32) (z_6, u_5) ez_6) (qM_Mo_49 hts (by decide)) hw 0 rfl rfl hl.1 rfl (lv_room (Nat.le_of_ble_eq_true rfl)) d_MMo_rr_49 hcs) hw hS (fun H locs hw hS => ?_)
    refine lv_if_ne (tgt := 76) hx hb d_MMo_rr_52 (by decide) (fun c_7 => ?_) (fun c_7 => ?_)
    · have hf := hf.trans (if_neg c_7)
      refine lv_iconst (v := (0 : Int32)) hx hb d_MMo_rr_76 (by decide) ?_
      exact hret (0 : Int32) _ _ _ _ _ d_MMo_rr_77 hw hS (Option.some.inj hf)
    · have hf := hf.trans (if_pos c_7)
      refine lv_aload_n hx hb d_MMo_rr_55 rfl (lv_at hl 0 rfl) ?_
      refine lv_iload_n hx hb d_MMo_rr_56 rfl (lv_at hl 1 rfl) ?_
      refine lv_iconst (v := (2 : Int32)) hx hb d_MMo_rr_57 (by decide) ?_
      obtain ⟨z_8, ez_8, hf⟩ := bd1_inv hf
      refine z_rV (V := .int (bI z_8)) (z_runS (As := [.int x1, .int (2 : Int32)]) (rest := [.ref (a 0)]) ⟨hx, hb, hml, hown, hts⟩ (c_MMo_lies l D a k u_5 x1 (2 : Int32) z_8 ez_8) (qM_Mo_53 hts (by decide)) hw  hl.1 rfl (lv_room (Nat.le_of_ble_eq_true rfl)) d_MMo_rr_58 hcs) ?_
      refine jn_cut hf (fun (K_10 : Bool → Option (Int32 × MS)) => ∀ (z_9 : Bool), ∀ (ls : Array Slot), lv_has ls 5 [(0, .ref (a 0)), (1, .int x1), (2, .int x2), (3, .int x3), (4, .int x4)] → some F = K_10 z_9 → W p l e rm_MMo_rr st m args below meth c H locs 0 0 Q (F0 m 69 ls [.int (bI z_9), .ref (a 0)])) ?_ ?_
      · intro z_9 ls hl hf
        refine lv_iconst (v := (2 : Int32)) hx hb d_MMo_rr_69 (by decide) ?_
        obtain ⟨z_12, u_11, ez_12, hf⟩ := bd2_inv hf
        refine z_wz' (r := z_12) (u' := u_11) (z_runV (As := [.int (bI z_9), .int (2 : Int32)]) (rest := []) ⟨hx, hb, hml, hown, hts⟩ (c_MMo_fails l D a k u_5 z_9 (2 : Int32) (z_12, u_11) ez_12) (qM_Mo_49 hts (by decide)) hw 0 rfl rfl hl.1 rfl (lv_room (Nat.le_of_ble_eq_true rfl)) d_MMo_rr_70 hcs) hw hS (fun H locs hw hS => ?_)
        refine lv_if_eq (tgt := 78) hx hb d_MMo_rr_73 (by decide) (fun c_13 => ?_) (fun c_13 => ?_)
        · have hf := hf.trans (if_pos c_13)
          refine lv_aload_n hx hb d_MMo_rr_78 rfl (lv_at hl 0 rfl) ?_
          refine lv_iload_n hx hb d_MMo_rr_79 rfl (lv_at hl 1 rfl) ?_
          refine lv_iconst (v := (2 : Int32)) hx hb d_MMo_rr_80 (by decide) ?_
          refine lv_iload_n hx hb d_MMo_rr_81 rfl (lv_at hl 2 rfl) ?_
          refine lv_bipush (v := (8 : Int32)) hx hb d_MMo_rr_82 (by decide) ?_
          refine lv_ishl hx hb d_MMo_rr_84 ?_
          refine lv_iload_n hx hb d_MMo_rr_85 rfl (lv_at hl 3 rfl) ?_
          refine lv_iconst (v := (4 : Int32)) hx hb d_MMo_rr_86 (by decide) ?_
          refine lv_ishl hx hb d_MMo_rr_87 ?_
          refine lv_ior hx hb d_MMo_rr_88 ?_
          refine lv_iload hx hb d_MMo_rr_89 (lv_at hl 4 rfl) ?_
          refine lv_ior hx hb d_MMo_rr_91 ?_
          refine lv_i2l (v := Int32.toInt64 (((x2 <<< ((8 : Int32) &&& 31)) ||| (x3 <<< ((4 : Int32) &&& 31))) ||| x4)) hx hb d_MMo_rr_92 rfl ?_
          obtain ⟨u_14, eu_14, hf⟩ := bd1_inv hf
          refine z_wv' (u' := u_14) (z_runV (As := [.int x1, .int (2 : Int32), .long (Int32.toInt64 (((x2 <<< ((8 : Int32) &&& 31)) ||| (x3 <<< ((4 : Int32) &&& 31))) ||| x4))]) (rest := []) ⟨hx, hb, hml, hown, hts⟩ (c_MMo_store l D a k u_11 x1 (2 : Int32) (Int32.toInt64 (((x2 <<< ((8 : Int32) &&& 31)) ||| (x3 <<< ((4 : Int32) &&& 31))) ||| x4)) u_14 eu_14) (qM_Mo_57 hts (by decide)) hw 0 rfl rfl hl.1 rfl (lv_room (Nat.le_of_ble_eq_true rfl)) d_MMo_rr_93 hcs) hw hS (fun H locs hw hS => ?_)
          refine lv_iload_n hx hb d_MMo_rr_96 rfl (lv_at hl 1 rfl) ?_
          refine lv_iconst (v := (2 : Int32)) hx hb d_MMo_rr_97 (by decide) ?_
          refine lv_iadd hx hb d_MMo_rr_98 ?_
          exact hret (x1 + (2 : Int32)) _ _ _ _ _ d_MMo_rr_99 hw hS (Option.some.inj hf)
        · have hf := hf.trans (if_neg c_13)
          refine lv_iconst (v := (0 : Int32)) hx hb d_MMo_rr_76 (by decide) ?_
          exact hret (0 : Int32) _ _ _ _ _ d_MMo_rr_77 hw hS (Option.some.inj hf)
      · intro K_10 hK_10 hf
        refine lv_if_ne (tgt := 68) hx hb d_MMo_rr_61 (by decide) (fun c_15 => ?_) (fun c_15 => ?_)
        · have hf := hf.trans (if_neg c_15)
          refine lv_iconst (v := (0 : Int32)) hx hb d_MMo_rr_68 (by decide) ?_
          exact hK_10 false _ (lv_sub hl [0, 1, 2, 3, 4] rfl) hf
        · have hf := hf.trans (if_pos c_15)
          refine lv_iconst (v := (1 : Int32)) hx hb d_MMo_rr_64 (by decide) ?_
          refine lv_goto (tgt := 69) hx hb d_MMo_rr_65 (by decide) ?_
          exact hK_10 true _ (lv_sub hl [0, 1, 2, 3, 4] rfl) hf
  · intro K_4 hK_4 hf
    refine jn_cut hf (fun (K_16 : Option (Int32 × MS)) => ∀ (ls : Array Slot), lv_has ls 5 [(0, .ref (a 0)), (1, .int x1), (2, .int x2), (3, .int x3), (4, .int x4)] → some F = K_16 → W p l e rm_MMo_rr st m args below meth c H locs 0 0 Q (F0 m 43 ls [.ref (a 0)])) ?_ ?_
    · intro ls hl hf
      refine lv_iconst (v := (1 : Int32)) hx hb d_MMo_rr_43 (by decide) ?_
      refine lv_goto (tgt := 48) hx hb d_MMo_rr_44 (by decide) ?_
      exact hK_4 true _ (lv_sub hl [0, 1, 2, 3, 4] rfl) hf
    · intro K_16 hK_16 hf
      refine lv_if_eq (tgt := 43) hx hb d_MMo_rr_15 (by decide) (fun c_17 => ?_) (fun c_17 => ?_)
      · have hf := hf.trans (if_pos c_17)
        exact hK_16 _ (lv_sub hl [0, 1, 2, 3, 4] rfl) hf
      · have hf := hf.trans (if_neg c_17)
        refine lv_iload_n hx hb d_MMo_rr_18 rfl (lv_at hl 3 rfl) ?_
        refine lv_i2l (v := Int32.toInt64 x3) hx hb d_MMo_rr_19 rfl ?_
        refine lv_lconst (v := 0) hx hb d_MMo_rr_20 (by decide) ?_
        refine lv_ldc2 (v := (15 : Int64)) hx hb hown (hts _ kM_Mo_61) d_MMo_rr_21 ?_
        obtain ⟨z_18, ez_18, hf⟩ := bd1_inv hf
        refine z_rV (V := .int (bI z_18)) (z_runS (As := [.long (Int32.toInt64 x3), .long (0 : Int64), .long (15 : Int64)]) (rest := [.ref (a 0)]) ⟨hx, hb, hml, hown, hts⟩ (c_MMo_in l D a k u_1 (Int32.toInt64 x3) (0 : Int64) (15 : Int64) z_18 ez_18) (qM_Mo_41 hts (by decide)) hw  hl.1 rfl (lv_room (Nat.le_of_ble_eq_true rfl)) d_MMo_rr_24 hcs) ?_
        refine lv_if_eq (tgt := 43) hx hb d_MMo_rr_27 (by decide) (fun c_19 => ?_) (fun c_19 => ?_)
        · have hf := hf.trans (if_pos c_19)
          exact hK_16 _ (lv_sub hl [0, 1, 2, 3, 4] rfl) hf
        · have hf := hf.trans (if_neg c_19)
          refine lv_iload hx hb d_MMo_rr_30 (lv_at hl 4 rfl) ?_
          refine lv_i2l (v := Int32.toInt64 x4) hx hb d_MMo_rr_32 rfl ?_
          refine lv_lconst (v := 0) hx hb d_MMo_rr_33 (by decide) ?_
          refine lv_ldc2 (v := (15 : Int64)) hx hb hown (hts _ kM_Mo_61) d_MMo_rr_34 ?_
          obtain ⟨z_20, ez_20, hf⟩ := bd1_inv hf
          refine z_rV (V := .int (bI z_20)) (z_runS (As := [.long (Int32.toInt64 x4), .long (0 : Int64), .long (15 : Int64)]) (rest := [.ref (a 0)]) ⟨hx, hb, hml, hown, hts⟩ (c_MMo_in l D a k u_1 (Int32.toInt64 x4) (0 : Int64) (15 : Int64) z_20 ez_20) (qM_Mo_41 hts (by decide)) hw  hl.1 rfl (lv_room (Nat.le_of_ble_eq_true rfl)) d_MMo_rr_37 hcs) ?_
          refine lv_if_ne (tgt := 47) hx hb d_MMo_rr_40 (by decide) (fun c_21 => ?_) (fun c_21 => ?_)
          · have hf := hf.trans (if_neg c_21)
            refine lv_iconst (v := (0 : Int32)) hx hb d_MMo_rr_47 (by decide) ?_
            exact hK_4 false _ (lv_sub hl [0, 1, 2, 3, 4] rfl) hf
          · have hf := hf.trans (if_pos c_21)
            exact hK_16 _ (lv_sub hl [0, 1, 2, 3, 4] rfl) hf
set_option maxHeartbeats 4000000 in
set_option maxRecDepth 100000 in
theorem c_MMo_rx (l : Launch) (D : va_G) (a : Nat → Nat) (k : Nat → ClassId) (u0 : MS) (x1 : Int32) (x2 : Int32) (x3 : Int32) (x4 : Int32) (x5 : Int32) (x6 : Int32) (F : Int32 × MS) (hf : f_MMo_rx u0 x1 x2 x3 x4 x5 x6 = some F) : zMi l y_MMo_rx w_MMo_rx rm_MMo_rx D clM (tyM k) nwM (mW a k) [.ref (a 0), .int x1, .int x2, .int x3, .int x4, .int x5, .int x6] u0 F := by
  have hf := hf.symm
  unfold f_MMo_rx at hf
  refine zMi_of (cc := b_MMo_rx) (maxL := 7) (own := RM_Mo) (by decide) rfl rfl (Nat.le_of_ble_eq_true rfl) ?_
  intro p e R st m args below meth c A H locs Q ls hR hx hb hml hown hts hw hS hret hl
  subst hR
  have hcs : 0 ≤ (rm_MMo_rx).cells ∧ 0 ≤ (rm_MMo_rx).slots := ⟨Nat.zero_le _, Nat.zero_le _⟩
  have hl : lv_has ls 7 [(0, .ref (a 0)), (1, .int x1), (2, .int x2), (3, .int x3), (4, .int x4), (5, .int x5), (6, .int x6)] := hl
  refine lv_aload_n hx hb d_MMo_rx_0 rfl (lv_at hl 0 rfl) ?_
  refine lv_iconst (v := (0 : Int32)) hx hb d_MMo_rx_1 (by decide) ?_
  refine z_put (u' := msF u0 0 (0 : Int32)) hx hb hts iM_Mo tM_Mo tM_Mo_ok nM_Mo hown hw hS 0 rfl rfl 8 (by decide) (hts _ kM_Mo_38) (fun _ h => h) rfl rfl (Nat.le_of_ble_eq_true rfl) rfl d_MMo_rx_2 (fun u_1 H locs eu_1 hw hS => ?_)
  have hf := hf.trans (nm_eq eu_1)
  refine lv_aload_n hx hb d_MMo_rx_5 rfl (lv_at hl 0 rfl) ?_
  refine lv_iload_n hx hb d_MMo_rx_6 rfl (lv_at hl 2 rfl) ?_
  refine lv_i2l (v := Int32.toInt64 x2) hx hb d_MMo_rx_7 rfl ?_
  refine lv_ldc2 (v := (64 : Int64)) hx hb hown (hts _ kM_Mo_78) d_MMo_rx_8 ?_
  refine lv_ldc2 (v := (191 : Int64)) hx hb hown (hts _ kM_Mo_80) d_MMo_rx_11 ?_
  obtain ⟨z_2, ez_2, hf⟩ := bd1_inv hf
  refine z_rV (V := .int (bI z_2)) (z_runS (As := [.long (Int32.toInt64 x2), .long (64 : Int64), .long (191 : Int64)]) (rest := [.ref (a 0)]) ⟨hx, hb, hml, hown, hts⟩ (c_MMo_in l D a k u_1 (Int32.toInt64 x2) (64 : Int64) (191 : Int64) z_2 ez_2) (qM_Mo_41 hts (by decide)) hw  hl.1 rfl (lv_room (Nat.le_of_ble_eq_true rfl)) d_MMo_rx_14 hcs) ?_
  refine jn_cut hf (fun (K_4 : Bool → Option (Int32 × MS)) => ∀ (z_3 : Bool), ∀ (ls : Array Slot), lv_has ls 7 [(0, .ref (a 0)), (1, .int x1), (2, .int x2), (3, .int x3), (4, .int x4), (5, .int x5), (6, .int x6)] → some F = K_4 z_3 → W p l e rm_MMo_rx st m args below meth c H locs 0 0 Q (F0 m 76 ls [.int (bI z_3), .ref (a 0)])) ?_ ?_
  · intro z_3 ls hl hf
    refine lv_iconst (v := (1 : Int32)) hx hb d_MMo_rx_76 (by decide) ?_
    obtain ⟨z_6, u_5, ez_6, hf⟩ := bd2_inv hf
    refine z_wz' (r := z_6) (u' := u_5) (z_runV (As := [.int (bI z_3), .int (1 : Int32)]) (rest := []) ⟨hx, hb, hml, hown, hts⟩ (c_MMo_fails l D a k u_1 z_3 (1 : Int32) (z_6, u_5) ez_6) (qM_Mo_49 hts (by decide)) hw 0 rfl rfl hl.1 rfl (lv_room (Nat.le_of_ble_eq_true rfl)) d_MMo_rx_77 hcs) hw hS (fun H locs hw hS => ?_)
    refine lv_if_ne (tgt := 104) hx hb d_MMo_rx_80 (by decide) (fun c_7 => ?_) (fun c_7 => ?_)
    · have hf := hf.trans (if_neg c_7)
      refine lv_iconst (v := (0 : Int32)) hx hb d_MMo_rx_104 (by decide) ?_
      exact hret (0 : Int32) _ _ _ _ _ d_MMo_rx_105 hw hS (Option.some.inj hf)
    · have hf := hf.trans (if_pos c_7)
      refine lv_aload_n hx hb d_MMo_rx_83 rfl (lv_at hl 0 rfl) ?_
      refine lv_iload_n hx hb d_MMo_rx_84 rfl (lv_at hl 1 rfl) ?_
      refine lv_iconst (v := (4 : Int32)) hx hb d_MMo_rx_85 (by decide) ?_
      obtain ⟨z_8, ez_8, hf⟩ := bd1_inv hf
      refine z_rV (V := .int (bI z_8)) (z_runS (As := [.int x1, .int (4 : Int32)]) (rest := [.ref (a 0)]) ⟨hx, hb, hml, hown, hts⟩ (c_MMo_lies l D a k u_5 x1 (4 : Int32) z_8 ez_8) (qM_Mo_53 hts (by decide)) hw  hl.1 rfl (lv_room (Nat.le_of_ble_eq_true rfl)) d_MMo_rx_86 hcs) ?_
      refine jn_cut hf (fun (K_10 : Bool → Option (Int32 × MS)) => ∀ (z_9 : Bool), ∀ (ls : Array Slot), lv_has ls 7 [(0, .ref (a 0)), (1, .int x1), (2, .int x2), (3, .int x3), (4, .int x4), (5, .int x5), (6, .int x6)] → some F = K_10 z_9 → W p l e rm_MMo_rx st m args below meth c H locs 0 0 Q (F0 m 97 ls [.int (bI z_9), .ref (a 0)])) ?_ ?_
      · intro z_9 ls hl hf
        refine lv_iconst (v := (2 : Int32)) hx hb d_MMo_rx_97 (by decide) ?_
        obtain ⟨z_12, u_11, ez_12, hf⟩ := bd2_inv hf
        refine z_wz' (r := z_12) (u' := u_11) (z_runV (As := [.int (bI z_9), .int (2 : Int32)]) (rest := []) ⟨hx, hb, hml, hown, hts⟩ (c_MMo_fails l D a k u_5 z_9 (2 : Int32) (z_12, u_11) ez_12) (qM_Mo_49 hts (by decide)) hw 0 rfl rfl hl.1 rfl (lv_room (Nat.le_of_ble_eq_true rfl)) d_MMo_rx_98 hcs) hw hS (fun H locs hw hS => ?_)
        refine lv_if_eq (tgt := 106) hx hb d_MMo_rx_101 (by decide) (fun c_13 => ?_) (fun c_13 => ?_)
        · have hf := hf.trans (if_pos c_13)
          refine lv_aload_n hx hb d_MMo_rx_106 rfl (lv_at hl 0 rfl) ?_
          refine lv_iload_n hx hb d_MMo_rx_107 rfl (lv_at hl 1 rfl) ?_
          refine lv_iconst (v := (4 : Int32)) hx hb d_MMo_rx_108 (by decide) ?_
          refine lv_iload_n hx hb d_MMo_rx_109 rfl (lv_at hl 2 rfl) ?_
          refine lv_i2l (v := Int32.toInt64 x2) hx hb d_MMo_rx_110 rfl ?_
          refine lv_bipush (v := (24 : Int32)) hx hb d_MMo_rx_111 (by decide) ?_
          refine lv_lshl (v := (Int32.toInt64 x2) <<< (Int32.toInt64 (24 : Int32) &&& 63)) hx hb d_MMo_rx_113 rfl ?_
          refine lv_iload_n hx hb d_MMo_rx_114 rfl (lv_at hl 3 rfl) ?_
          refine lv_bipush (v := (20 : Int32)) hx hb d_MMo_rx_115 (by decide) ?_
          refine lv_ishl hx hb d_MMo_rx_117 ?_
          refine lv_i2l (v := Int32.toInt64 (x3 <<< ((20 : Int32) &&& 31))) hx hb d_MMo_rx_118 rfl ?_
          refine lv_lor hx hb d_MMo_rx_119 ?_
          refine lv_iload hx hb d_MMo_rx_120 (lv_at hl 4 rfl) ?_
          refine lv_bipush (v := (16 : Int32)) hx hb d_MMo_rx_122 (by decide) ?_
          refine lv_ishl hx hb d_MMo_rx_124 ?_
          refine lv_i2l (v := Int32.toInt64 (x4 <<< ((16 : Int32) &&& 31))) hx hb d_MMo_rx_125 rfl ?_
          refine lv_lor hx hb d_MMo_rx_126 ?_
          refine lv_iload hx hb d_MMo_rx_127 (lv_at hl 5 rfl) ?_
          refine lv_bipush (v := (12 : Int32)) hx hb d_MMo_rx_129 (by decide) ?_
          refine lv_ishl hx hb d_MMo_rx_131 ?_
          refine lv_i2l (v := Int32.toInt64 (x5 <<< ((12 : Int32) &&& 31))) hx hb d_MMo_rx_132 rfl ?_
          refine lv_lor hx hb d_MMo_rx_133 ?_
          refine lv_iload hx hb d_MMo_rx_134 (lv_at hl 6 rfl) ?_
          refine lv_i2l (v := Int32.toInt64 x6) hx hb d_MMo_rx_136 rfl ?_
          refine lv_lor hx hb d_MMo_rx_137 ?_
          obtain ⟨u_14, eu_14, hf⟩ := bd1_inv hf
          refine z_wv' (u' := u_14) (z_runV (As := [.int x1, .int (4 : Int32), .long ((((((Int32.toInt64 x2) <<< (Int32.toInt64 (24 : Int32) &&& 63)) ||| (Int32.toInt64 (x3 <<< ((20 : Int32) &&& 31)))) ||| (Int32.toInt64 (x4 <<< ((16 : Int32) &&& 31)))) ||| (Int32.toInt64 (x5 <<< ((12 : Int32) &&& 31)))) ||| (Int32.toInt64 x6))]) (rest := []) ⟨hx, hb, hml, hown, hts⟩ (c_MMo_store l D a k u_11 x1 (4 : Int32) ((((((Int32.toInt64 x2) <<< (Int32.toInt64 (24 : Int32) &&& 63)) ||| (Int32.toInt64 (x3 <<< ((20 : Int32) &&& 31)))) ||| (Int32.toInt64 (x4 <<< ((16 : Int32) &&& 31)))) ||| (Int32.toInt64 (x5 <<< ((12 : Int32) &&& 31)))) ||| (Int32.toInt64 x6)) u_14 eu_14) (qM_Mo_57 hts (by decide)) hw 0 rfl rfl hl.1 rfl (lv_room (Nat.le_of_ble_eq_true rfl)) d_MMo_rx_138 hcs) hw hS (fun H locs hw hS => ?_)
          refine lv_iload_n hx hb d_MMo_rx_141 rfl (lv_at hl 1 rfl) ?_
          refine lv_iconst (v := (4 : Int32)) hx hb d_MMo_rx_142 (by decide) ?_
          refine lv_iadd hx hb d_MMo_rx_143 ?_
          exact hret (x1 + (4 : Int32)) _ _ _ _ _ d_MMo_rx_144 hw hS (Option.some.inj hf)
        · have hf := hf.trans (if_neg c_13)
          refine lv_iconst (v := (0 : Int32)) hx hb d_MMo_rx_104 (by decide) ?_
          exact hret (0 : Int32) _ _ _ _ _ d_MMo_rx_105 hw hS (Option.some.inj hf)
      · intro K_10 hK_10 hf
        refine lv_if_ne (tgt := 96) hx hb d_MMo_rx_89 (by decide) (fun c_15 => ?_) (fun c_15 => ?_)
        · have hf := hf.trans (if_neg c_15)
          refine lv_iconst (v := (0 : Int32)) hx hb d_MMo_rx_96 (by decide) ?_
          exact hK_10 false _ (lv_sub hl [0, 1, 2, 3, 4, 5, 6] rfl) hf
        · have hf := hf.trans (if_pos c_15)
          refine lv_iconst (v := (1 : Int32)) hx hb d_MMo_rx_92 (by decide) ?_
          refine lv_goto (tgt := 97) hx hb d_MMo_rx_93 (by decide) ?_
          exact hK_10 true _ (lv_sub hl [0, 1, 2, 3, 4, 5, 6] rfl) hf
  · intro K_4 hK_4 hf
    refine jn_cut hf (fun (K_16 : Option (Int32 × MS)) => ∀ (ls : Array Slot), lv_has ls 7 [(0, .ref (a 0)), (1, .int x1), (2, .int x2), (3, .int x3), (4, .int x4), (5, .int x5), (6, .int x6)] → some F = K_16 → W p l e rm_MMo_rx st m args below meth c H locs 0 0 Q (F0 m 71 ls [.ref (a 0)])) ?_ ?_
    · intro ls hl hf
      refine lv_iconst (v := (1 : Int32)) hx hb d_MMo_rx_71 (by decide) ?_
      refine lv_goto (tgt := 76) hx hb d_MMo_rx_72 (by decide) ?_
      exact hK_4 true _ (lv_sub hl [0, 1, 2, 3, 4, 5, 6] rfl) hf
    · intro K_16 hK_16 hf
      refine lv_if_eq (tgt := 71) hx hb d_MMo_rx_17 (by decide) (fun c_17 => ?_) (fun c_17 => ?_)
      · have hf := hf.trans (if_pos c_17)
        exact hK_16 _ (lv_sub hl [0, 1, 2, 3, 4, 5, 6] rfl) hf
      · have hf := hf.trans (if_neg c_17)
        refine lv_iload_n hx hb d_MMo_rx_20 rfl (lv_at hl 3 rfl) ?_
        refine lv_i2l (v := Int32.toInt64 x3) hx hb d_MMo_rx_21 rfl ?_
        refine lv_lconst (v := 0) hx hb d_MMo_rx_22 (by decide) ?_
        refine lv_ldc2 (v := (15 : Int64)) hx hb hown (hts _ kM_Mo_61) d_MMo_rx_23 ?_
        obtain ⟨z_18, ez_18, hf⟩ := bd1_inv hf
        refine z_rV (V := .int (bI z_18)) (z_runS (As := [.long (Int32.toInt64 x3), .long (0 : Int64), .long (15 : Int64)]) (rest := [.ref (a 0)]) ⟨hx, hb, hml, hown, hts⟩ (c_MMo_in l D a k u_1 (Int32.toInt64 x3) (0 : Int64) (15 : Int64) z_18 ez_18) (qM_Mo_41 hts (by decide)) hw  hl.1 rfl (lv_room (Nat.le_of_ble_eq_true rfl)) d_MMo_rx_26 hcs) ?_
        refine lv_if_eq (tgt := 71) hx hb d_MMo_rx_29 (by decide) (fun c_19 => ?_) (fun c_19 => ?_)
        · have hf := hf.trans (if_pos c_19)
          exact hK_16 _ (lv_sub hl [0, 1, 2, 3, 4, 5, 6] rfl) hf
        · have hf := hf.trans (if_neg c_19)
          refine lv_iload hx hb d_MMo_rx_32 (lv_at hl 4 rfl) ?_
          refine lv_i2l (v := Int32.toInt64 x4) hx hb d_MMo_rx_34 rfl ?_
          refine lv_lconst (v := 0) hx hb d_MMo_rx_35 (by decide) ?_
          refine lv_ldc2 (v := (15 : Int64)) hx hb hown (hts _ kM_Mo_61) d_MMo_rx_36 ?_
          obtain ⟨z_20, ez_20, hf⟩ := bd1_inv hf
          refine z_rV (V := .int (bI z_20)) (z_runS (As := [.long (Int32.toInt64 x4), .long (0 : Int64), .long (15 : Int64)]) (rest := [.ref (a 0)]) ⟨hx, hb, hml, hown, hts⟩ (c_MMo_in l D a k u_1 (Int32.toInt64 x4) (0 : Int64) (15 : Int64) z_20 ez_20) (qM_Mo_41 hts (by decide)) hw  hl.1 rfl (lv_room (Nat.le_of_ble_eq_true rfl)) d_MMo_rx_39 hcs) ?_
          refine lv_if_eq (tgt := 71) hx hb d_MMo_rx_42 (by decide) (fun c_21 => ?_) (fun c_21 => ?_)
          · have hf := hf.trans (if_pos c_21)
            exact hK_16 _ (lv_sub hl [0, 1, 2, 3, 4, 5, 6] rfl) hf
          · have hf := hf.trans (if_neg c_21)
            refine lv_iload hx hb d_MMo_rx_45 (lv_at hl 5 rfl) ?_
            refine lv_i2l (v := Int32.toInt64 x5) hx hb d_MMo_rx_47 rfl ?_
            refine lv_lconst (v := 0) hx hb d_MMo_rx_48 (by decide) ?_
            refine lv_ldc2 (v := (15 : Int64)) hx hb hown (hts _ kM_Mo_61) d_MMo_rx_49 ?_
            obtain ⟨z_22, ez_22, hf⟩ := bd1_inv hf
            refine z_rV (V := .int (bI z_22)) (z_runS (As := [.long (Int32.toInt64 x5), .long (0 : Int64), .long (15 : Int64)]) (rest := [.ref (a 0)]) ⟨hx, hb, hml, hown, hts⟩ (c_MMo_in l D a k u_1 (Int32.toInt64 x5) (0 : Int64) (15 : Int64) z_22 ez_22) (qM_Mo_41 hts (by decide)) hw  hl.1 rfl (lv_room (Nat.le_of_ble_eq_true rfl)) d_MMo_rx_52 hcs) ?_
            refine lv_if_eq (tgt := 71) hx hb d_MMo_rx_55 (by decide) (fun c_23 => ?_) (fun c_23 => ?_)
            · have hf := hf.trans (if_pos c_23)
              exact hK_16 _ (lv_sub hl [0, 1, 2, 3, 4, 5, 6] rfl) hf
            · have hf := hf.trans (if_neg c_23)
              refine lv_iload hx hb d_MMo_rx_58 (lv_at hl 6 rfl) ?_
              refine lv_i2l (v := Int32.toInt64 x6) hx hb d_MMo_rx_60 rfl ?_
              refine lv_lconst (v := 0) hx hb d_MMo_rx_61 (by decide) ?_
              refine lv_ldc2 (v := (4095 : Int64)) hx hb hown (hts _ kM_Mo_82) d_MMo_rx_62 ?_
              obtain ⟨z_24, ez_24, hf⟩ := bd1_inv hf
              refine z_rV (V := .int (bI z_24)) (z_runS (As := [.long (Int32.toInt64 x6), .long (0 : Int64), .long (4095 : Int64)]) (rest := [.ref (a 0)]) ⟨hx, hb, hml, hown, hts⟩ (c_MMo_in l D a k u_1 (Int32.toInt64 x6) (0 : Int64) (4095 : Int64) z_24 ez_24) (qM_Mo_41 hts (by decide)) hw  hl.1 rfl (lv_room (Nat.le_of_ble_eq_true rfl)) d_MMo_rx_65 hcs) ?_
              refine lv_if_ne (tgt := 75) hx hb d_MMo_rx_68 (by decide) (fun c_25 => ?_) (fun c_25 => ?_)
              · have hf := hf.trans (if_neg c_25)
                refine lv_iconst (v := (0 : Int32)) hx hb d_MMo_rx_75 (by decide) ?_
                exact hK_4 false _ (lv_sub hl [0, 1, 2, 3, 4, 5, 6] rfl) hf
              · have hf := hf.trans (if_pos c_25)
                exact hK_16 _ (lv_sub hl [0, 1, 2, 3, 4, 5, 6] rfl) hf
