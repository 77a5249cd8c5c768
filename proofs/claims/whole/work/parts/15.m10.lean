set_option maxHeartbeats 4000000 in
set_option maxRecDepth 100000 in
theorem c_MMo_others (l : Launch) (D : va_G) (a : Nat → Nat) (k : Nat → ClassId) (u0 : MS) (x1 : Int32) (F : MS) (hf : f_MMo_others u0 x1 = some F) : zMv l y_MMo_others w_MMo_others rm_MMo_others D clM (tyM k) nwM (mW a k) [.ref (a 0), .int x1] u0 F := by
  have hf := hf.symm
  unfold f_MMo_others at hf
  refine zMv_of (cc := b_MMo_others) (maxL := 10) (own := RM_Mo) (by decide) rfl rfl (Nat.le_of_ble_eq_true rfl) ?_
  intro p e R st m args below meth c A H locs Q ls hR hx hb hml hown hts hw hS hret hl
  subst hR
  have hcs : 0 ≤ (rm_MMo_others).cells ∧ 0 ≤ (rm_MMo_others).slots := ⟨Nat.zero_le _, Nat.zero_le _⟩
  have hl : lv_has ls 10 [(0, .ref (a 0)), (1, .int x1)] := hl
  refine lv_aload_n hx hb d_MMo_others_0 rfl (lv_at hl 0 rfl) ?_
  obtain ⟨x_1, ex_1, hf⟩ := bd1_inv hf
  refine z_rV (V := .int x_1) (z_runV (As := []) (rest := []) ⟨hx, hb, hml, hown, hts⟩ (c_MMo_high l D a k u0 x_1 ex_1) (qM_Mo_163 hts (by decide)) hw 0 rfl rfl hl.1 rfl (lv_room (Nat.le_of_ble_eq_true rfl)) d_MMo_others_1 hcs) ?_
  refine lv_istore_n (lv' := [(2, .int x_1), (0, .ref (a 0)), (1, .int x1)]) hx hb d_MMo_others_4 rfl hl (by decide) rfl (fun ls hl => ?_)
  refine lv_aload_n hx hb d_MMo_others_5 rfl (lv_at hl 1 rfl) ?_
  obtain ⟨x_2, ex_2, hf⟩ := bd1_inv hf
  refine z_rV (V := .int x_2) (z_runV (As := []) (rest := []) ⟨hx, hb, hml, hown, hts⟩ (c_MMo_low l D a k u0 x_2 ex_2) (qM_Mo_159 hts (by decide)) hw 0 rfl rfl hl.1 rfl (lv_room (Nat.le_of_ble_eq_true rfl)) d_MMo_others_6 hcs) ?_
  refine lv_istore_n (lv' := [(3, .int x_2), (2, .int x_1), (0, .ref (a 0)), (1, .int x1)]) hx hb d_MMo_others_9 rfl hl (by decide) rfl (fun ls hl => ?_)
  refine lv_aload_n hx hb d_MMo_others_10 rfl (lv_at hl 2 rfl) ?_
  refine va_get (v := .int (mF u0 12)) hx hb hts iM_Mo hown hw.2.1 hw.1 0 rfl rfl 20 (by decide) (hts _ kM_Mo_152) (fun _ h => h) rfl d_MMo_others_11 ?_
  refine lv_bipush (v := (63 : Int32)) hx hb d_MMo_others_14 (by decide) ?_
  refine lv_iand hx hb d_MMo_others_16 ?_
  refine lv_topi (fun x_3 ex_3 => ?_)
  have hf := hf.trans (nm_eq ex_3)
  refine lv_istore (lv' := [(4, .int x_3), (3, .int x_2), (2, .int x_1), (0, .ref (a 0)), (1, .int x1)]) hx hb d_MMo_others_17 hl (by decide) rfl (fun ls hl => ?_)
  refine lv_aload_n hx hb d_MMo_others_19 rfl (lv_at hl 3 rfl) ?_
  refine va_get (v := .ref (a 2)) hx hb hts iM_Mo hown hw.2.1 hw.1 0 rfl rfl 1 (by decide) (hts _ kM_Mo_13) (fun _ h => h) rfl d_MMo_others_20 ?_
  refine lv_iload_n hx hb d_MMo_others_23 rfl (lv_at hl 2 rfl) ?_
  obtain ⟨i_4, hf⟩ := ckI_inv hf
  refine va_iald hx hb hw.2.1 hw.1 2 1 rfl rfl i_4 d_MMo_others_24 ?_
  refine lv_topi (fun x_5 ex_5 => ?_)
  have hf := hf.trans (nm_eq ex_5)
  refine lv_istore (lv' := [(5, .int x_5), (4, .int x_3), (3, .int x_2), (2, .int x_1), (0, .ref (a 0)), (1, .int x1)]) hx hb d_MMo_others_25 hl (by decide) rfl (fun ls hl => ?_)
  refine lv_aload_n hx hb d_MMo_others_27 rfl (lv_at hl 4 rfl) ?_
  refine lv_iload_n hx hb d_MMo_others_28 rfl (lv_at hl 5 rfl) ?_
  refine z_put (u' := msF u0 2 x1) hx hb hts iM_Mo tM_Mo tM_Mo_ok nM_Mo hown hw hS 0 rfl rfl 10 (by decide) (hts _ kM_Mo_67) (fun _ h => h) rfl rfl (Nat.le_of_ble_eq_true rfl) rfl d_MMo_others_29 (fun u_6 H locs eu_6 hw hS => ?_)
  have hf := hf.trans (nm_eq eu_6)
  refine lv_aload_n hx hb d_MMo_others_32 rfl (lv_at hl 4 rfl) ?_
  refine va_get (v := .int (mF u_6 8)) hx hb hts iM_Mo hown hw.2.1 hw.1 0 rfl rfl 16 (by decide) (hts _ kM_Mo_132) (fun _ h => h) rfl d_MMo_others_33 ?_
  refine lv_topi (fun x_7 ex_7 => ?_)
  have hf := hf.trans (nm_eq ex_7)
  refine jn_cut hf (fun (K_8 : Option (MS)) => ∀ (ls : Array Slot), lv_has ls 10 [(0, .ref (a 0)), (2, .int x_1), (3, .int x_2)] → some F = K_8 → W p l e rm_MMo_others st m args below meth c H locs 0 0 Q (F0 m 308 ls [])) ?_ ?_
  · intro ls hl hf
    refine lv_iconst (v := (0 : Int32)) hx hb d_MMo_others_308 (by decide) ?_
    refine lv_istore (lv' := [(8, .int (0 : Int32)), (0, .ref (a 0)), (2, .int x_1), (3, .int x_2)]) hx hb d_MMo_others_309 hl (by decide) rfl (fun ls hl => ?_)
    refine lp_cut (fun (_ : Nat) (L_11 : Int32 → MS → Option (MS)) => ∀ (x_9 : Int32) (u_10 : MS), ∀ (H : Heap) (locs : List Loc), zW D clM (tyM k) nwM (mW a k) A st u_10 H → va_S A st.heap H locs → ∀ (ls : Array Slot), lv_has ls 10 [(0, .ref (a 0)), (2, .int x_1), (3, .int x_2), (8, .int x_9)] → some F = L_11 x_9 u_10 → W p l e rm_MMo_others st m args below meth c H locs 0 0 Q (F0 m 311 ls [])) ?_ ?_ fuelM (0 : Int32) u_6 _ _ hw hS _ (lv_sub hl [1, 2, 3, 0] rfl) hf
    · intro _ _ _ _ _ _ _ _ hf; cases hf
    · intro _ L_11 hL_11 x_9 u_10 H locs hw hS ls hl hf
      unfold g_MMo_others_311 at hf
      refine lv_iload hx hb d_MMo_others_311 (lv_at hl 3 rfl) ?_
      refine lv_iload_n hx hb d_MMo_others_313 rfl (lv_at hl 2 rfl) ?_
      refine lv_iload_n hx hb d_MMo_others_314 rfl (lv_at hl 1 rfl) ?_
      refine lv_isub hx hb d_MMo_others_315 ?_
      refine lv_bipush (v := (16 : Int32)) hx hb d_MMo_others_316 (by decide) ?_
      refine lv_iadd hx hb d_MMo_others_318 ?_
      refine lv_bipush (v := (15 : Int32)) hx hb d_MMo_others_319 (by decide) ?_
      refine lv_iand hx hb d_MMo_others_321 ?_
      refine lv_icmp_gt (tgt := 397) hx hb d_MMo_others_322 (by decide) (fun c_12 => ?_) (fun c_12 => ?_)
      · have hf := hf.trans (if_pos c_12)
        refine lv_goto (tgt := 404) hx hb d_MMo_others_397 (by decide) ?_
        exact hret _ _ _ _ _ d_MMo_others_404 hw hS (Option.some.inj hf)
      · have hf := hf.trans (if_neg c_12)
        refine lv_iload_n hx hb d_MMo_others_325 rfl (lv_at hl 1 rfl) ?_
        refine lv_iload hx hb d_MMo_others_326 (lv_at hl 3 rfl) ?_
        refine lv_iadd hx hb d_MMo_others_328 ?_
        refine lv_bipush (v := (15 : Int32)) hx hb d_MMo_others_329 (by decide) ?_
        refine lv_iand hx hb d_MMo_others_331 ?_
        refine lv_topi (fun x_13 ex_13 => ?_)
        have hf := hf.trans (nm_eq ex_13)
        refine lv_istore (lv' := [(9, .int x_13), (0, .ref (a 0)), (2, .int x_1), (3, .int x_2), (8, .int x_9)]) hx hb d_MMo_others_332 hl (by decide) rfl (fun ls hl => ?_)
        refine lv_aload_n hx hb d_MMo_others_334 rfl (lv_at hl 1 rfl) ?_
        refine va_get (v := .int (mF u_10 8)) hx hb hts iM_Mo hown hw.2.1 hw.1 0 rfl rfl 16 (by decide) (hts _ kM_Mo_132) (fun _ h => h) rfl d_MMo_others_335 ?_
        refine lv_sipush (v := (144 : Int32)) hx hb d_MMo_others_338 (by decide) ?_
        refine jn_cut hf (fun (K_15 : MS → Option (MS)) => ∀ (u_14 : MS), ∀ (H : Heap) (locs : List Loc), zW D clM (tyM k) nwM (mW a k) A st u_14 H → va_S A st.heap H locs → ∀ (ls : Array Slot), lv_has ls 10 [(0, .ref (a 0)), (2, .int x_1), (3, .int x_2), (8, .int x_9)] → some F = K_15 u_14 → W p l e rm_MMo_others st m args below meth c H locs 0 0 Q (F0 m 391 ls [])) ?_ ?_
        · intro u_14 H locs hw hS ls hl hf
          obtain ⟨x_16, ex_16⟩ : ∃ y : Int32, y = x_9 + (1 : Int32) := ⟨_, rfl⟩
          have hf := hf.trans (nm_eq ex_16)
          refine lv_iinc (v := x_16) (lv' := [(8, .int x_16), (0, .ref (a 0)), (2, .int x_1), (3, .int x_2)]) hx hb d_MMo_others_391 hl (k := 3) rfl (by rw [ex_16]; rfl) (by decide) rfl (fun ls hl => ?_)
          refine lv_goto (tgt := 311) hx hb d_MMo_others_394 (by decide) ?_
          exact hL_11 x_16 u_14 _ _ hw hS _ (lv_sub hl [1, 2, 3, 0] rfl) hf
        · intro K_15 hK_15 hf
          refine lv_icmp_ne (tgt := 369) hx hb d_MMo_others_341 (by decide) (fun c_17 => ?_) (fun c_17 => ?_)
          · have hf := hf.trans (if_neg c_17)
            refine lv_aload_n hx hb d_MMo_others_369 rfl (lv_at hl 1 rfl) ?_
            refine va_get (v := .ref (a 2)) hx hb hts iM_Mo hown hw.2.1 hw.1 0 rfl rfl 1 (by decide) (hts _ kM_Mo_13) (fun _ h => h) rfl d_MMo_others_370 ?_
            refine lv_iload hx hb d_MMo_others_373 (lv_at hl 0 rfl) ?_
            refine lv_aload_n hx hb d_MMo_others_375 rfl (lv_at hl 1 rfl) ?_
            refine lv_aload_n hx hb d_MMo_others_376 rfl (lv_at hl 1 rfl) ?_
            refine va_get (v := .int (mF u_10 12)) hx hb hts iM_Mo hown hw.2.1 hw.1 0 rfl rfl 20 (by decide) (hts _ kM_Mo_152) (fun _ h => h) rfl d_MMo_others_377 ?_
            refine lv_iconst (v := (4 : Int32)) hx hb d_MMo_others_380 (by decide) ?_
            refine lv_iload hx hb d_MMo_others_381 (lv_at hl 4 rfl) ?_
            refine lv_imul hx hb d_MMo_others_383 ?_
            refine lv_iadd hx hb d_MMo_others_384 ?_
            refine lv_iconst (v := (4 : Int32)) hx hb d_MMo_others_385 (by decide) ?_
            obtain ⟨y_18, ey_18, hf⟩ := bd1_inv hf
            refine z_rV (V := .long y_18) (z_runV (As := [.int ((mF u_10 12) + ((4 : Int32) * x_9)), .int (4 : Int32)]) (rest := [.int x_13, .ref (a 2)]) ⟨hx, hb, hml, hown, hts⟩ (c_MMo_take l D a k u_10 ((mF u_10 12) + ((4 : Int32) * x_9)) (4 : Int32) y_18 ey_18) (qM_Mo_89 hts (by decide)) hw 0 rfl rfl hl.1 rfl (lv_room (Nat.le_of_ble_eq_true rfl)) d_MMo_others_386 hcs) ?_
            refine lv_l2i (v := Int64.toInt32 y_18) hx hb d_MMo_others_389 rfl ?_
            obtain ⟨i_20, hf⟩ := ckI_inv hf
            refine z_iast (u' := msA u_10 2 (Int32.toNatClampNeg x_13) (Int64.toInt32 y_18)) hx hb hw hS 2 1 rfl rfl i_20 rfl d_MMo_others_390 (fun u_19 H locs eu_19 hw hS => ?_)
            have hf := hf.trans (nm_eq eu_19)
            exact hK_15 u_19 _ _ hw hS _ (lv_sub hl [1, 2, 3, 4] rfl) hf
          · have hf := hf.trans (if_pos c_17)
            refine lv_aload_n hx hb d_MMo_others_344 rfl (lv_at hl 1 rfl) ?_
            refine lv_aload_n hx hb d_MMo_others_345 rfl (lv_at hl 1 rfl) ?_
            refine va_get (v := .int (mF u_10 12)) hx hb hts iM_Mo hown hw.2.1 hw.1 0 rfl rfl 20 (by decide) (hts _ kM_Mo_152) (fun _ h => h) rfl d_MMo_others_346 ?_
            refine lv_iconst (v := (4 : Int32)) hx hb d_MMo_others_349 (by decide) ?_
            refine lv_iload hx hb d_MMo_others_350 (lv_at hl 4 rfl) ?_
            refine lv_imul hx hb d_MMo_others_352 ?_
            refine lv_iadd hx hb d_MMo_others_353 ?_
            refine lv_iconst (v := (4 : Int32)) hx hb d_MMo_others_354 (by decide) ?_
            refine lv_aload_n hx hb d_MMo_others_355 rfl (lv_at hl 1 rfl) ?_
            refine va_get (v := .ref (a 2)) hx hb hts iM_Mo hown hw.2.1 hw.1 0 rfl rfl 1 (by decide) (hts _ kM_Mo_13) (fun _ h => h) rfl d_MMo_others_356 ?_
            refine lv_iload hx hb d_MMo_others_359 (lv_at hl 0 rfl) ?_
            obtain ⟨i_21, hf⟩ := ckI_inv hf
            refine va_iald hx hb hw.2.1 hw.1 2 1 rfl rfl i_21 d_MMo_others_361 ?_
            refine lv_i2l (v := Int32.toInt64 (mA u_10 2 (Int32.toNatClampNeg x_13))) hx hb d_MMo_others_362 rfl ?_
            obtain ⟨u_22, eu_22, hf⟩ := bd1_inv hf
            refine z_wv' (u' := u_22) (z_runV (As := [.int ((mF u_10 12) + ((4 : Int32) * x_9)), .int (4 : Int32), .long (Int32.toInt64 (mA u_10 2 (Int32.toNatClampNeg x_13)))]) (rest := []) ⟨hx, hb, hml, hown, hts⟩ (c_MMo_store l D a k u_10 ((mF u_10 12) + ((4 : Int32) * x_9)) (4 : Int32) (Int32.toInt64 (mA u_10 2 (Int32.toNatClampNeg x_13))) u_22 eu_22) (qM_Mo_57 hts (by decide)) hw 0 rfl rfl hl.1 rfl (lv_room (Nat.le_of_ble_eq_true rfl)) d_MMo_others_363 hcs) hw hS (fun H locs hw hS => ?_)
            refine lv_goto (tgt := 391) hx hb d_MMo_others_366 (by decide) ?_
            exact hK_15 u_22 _ _ hw hS _ (lv_sub hl [1, 2, 3, 4] rfl) hf
  · intro K_8 hK_8 hf
    refine jn_cut hf (fun (K_23 : Option (MS)) => ∀ (ls : Array Slot), lv_has ls 10 [(0, .ref (a 0)), (2, .int x_1), (3, .int x_2), (5, .int x_5)] → some F = K_23 → W p l e rm_MMo_others st m args below meth c H locs 0 0 Q (F0 m 128 ls [])) ?_ ?_
    · intro ls hl hf
      refine lv_aload_n hx hb d_MMo_others_128 rfl (lv_at hl 0 rfl) ?_
      refine va_get (v := .ref (a 2)) hx hb hts iM_Mo hown hw.2.1 hw.1 0 rfl rfl 1 (by decide) (hts _ kM_Mo_13) (fun _ h => h) rfl d_MMo_others_129 ?_
      refine lv_iload_n hx hb d_MMo_others_132 rfl (lv_at hl 2 rfl) ?_
      obtain ⟨i_24, hf⟩ := ckI_inv hf
      refine va_iald hx hb hw.2.1 hw.1 2 1 rfl rfl i_24 d_MMo_others_133 ?_
      refine lv_topi (fun x_25 ex_25 => ?_)
      have hf := hf.trans (nm_eq ex_25)
      refine lv_istore (lv' := [(6, .int x_25), (0, .ref (a 0)), (2, .int x_1), (3, .int x_2), (5, .int x_5)]) hx hb d_MMo_others_134 hl (by decide) rfl (fun ls hl => ?_)
      refine lv_aload_n hx hb d_MMo_others_136 rfl (lv_at hl 1 rfl) ?_
      refine va_get (v := .ref (a 2)) hx hb hts iM_Mo hown hw.2.1 hw.1 0 rfl rfl 1 (by decide) (hts _ kM_Mo_13) (fun _ h => h) rfl d_MMo_others_137 ?_
      refine lv_iload_n hx hb d_MMo_others_140 rfl (lv_at hl 3 rfl) ?_
      refine lv_iconst (v := (1 : Int32)) hx hb d_MMo_others_141 (by decide) ?_
      refine lv_ior hx hb d_MMo_others_142 ?_
      obtain ⟨i_26, hf⟩ := ckI_inv hf
      refine va_iald hx hb hw.2.1 hw.1 2 1 rfl rfl i_26 d_MMo_others_143 ?_
      refine lv_topi (fun x_27 ex_27 => ?_)
      have hf := hf.trans (nm_eq ex_27)
      refine lv_istore (lv' := [(7, .int x_27), (6, .int x_25), (0, .ref (a 0)), (2, .int x_1), (3, .int x_2), (5, .int x_5)]) hx hb d_MMo_others_144 hl (by decide) rfl (fun ls hl => ?_)
      refine lv_aload_n hx hb d_MMo_others_146 rfl (lv_at hl 2 rfl) ?_
      refine va_get (v := .ref (a 2)) hx hb hts iM_Mo hown hw.2.1 hw.1 0 rfl rfl 1 (by decide) (hts _ kM_Mo_13) (fun _ h => h) rfl d_MMo_others_147 ?_
      refine lv_iload_n hx hb d_MMo_others_150 rfl (lv_at hl 3 rfl) ?_
      refine lv_iload hx hb d_MMo_others_151 (lv_at hl 5 rfl) ?_
      refine lv_iload hx hb d_MMo_others_153 (lv_at hl 1 rfl) ?_
      refine lv_iadd hx hb d_MMo_others_155 ?_
      obtain ⟨i_29, hf⟩ := ckI_inv hf
      refine z_iast (u' := msA u_6 2 (Int32.toNatClampNeg x_1) (x_5 + x_25)) hx hb hw hS 2 1 rfl rfl i_29 rfl d_MMo_others_156 (fun u_28 H locs eu_28 hw hS => ?_)
      have hf := hf.trans (nm_eq eu_28)
      refine lv_aload_n hx hb d_MMo_others_157 rfl (lv_at hl 2 rfl) ?_
      refine lv_aload_n hx hb d_MMo_others_158 rfl (lv_at hl 2 rfl) ?_
      refine va_get (v := .ref (a 2)) hx hb hts iM_Mo hown hw.2.1 hw.1 0 rfl rfl 1 (by decide) (hts _ kM_Mo_13) (fun _ h => h) rfl d_MMo_others_159 ?_
      refine lv_iload_n hx hb d_MMo_others_162 rfl (lv_at hl 3 rfl) ?_
      obtain ⟨i_30, hf⟩ := ckI_inv hf
      refine va_iald hx hb hw.2.1 hw.1 2 1 rfl rfl i_30 d_MMo_others_163 ?_
      refine lv_iload hx hb d_MMo_others_164 (lv_at hl 0 rfl) ?_
      refine jn_cut hf (fun (K_32 : Bool → Option (MS)) => ∀ (z_31 : Bool), ∀ (ls : Array Slot), lv_has ls 10 [(0, .ref (a 0))] → some F = K_32 z_31 → W p l e rm_MMo_others st m args below meth c H locs 0 0 Q (F0 m 174 ls [.int (bI z_31), .ref (a 0)])) ?_ ?_
      · intro z_31 ls hl hf
        refine lv_aload_n hx hb d_MMo_others_174 rfl (lv_at hl 0 rfl) ?_
        refine va_get (v := .int (mF u_28 8)) hx hb hts iM_Mo hown hw.2.1 hw.1 0 rfl rfl 16 (by decide) (hts _ kM_Mo_132) (fun _ h => h) rfl d_MMo_others_175 ?_
        refine lv_sipush (v := (134 : Int32)) hx hb d_MMo_others_178 (by decide) ?_
        refine jn_cut hf (fun (K_34 : Bool → Option (MS)) => ∀ (z_33 : Bool), ∀ (ls : Array Slot), lv_has ls 10 [(0, .ref (a 0))] → some F = K_34 z_33 → W p l e rm_MMo_others st m args below meth c H locs 0 0 Q (F0 m 189 ls [.int (bI z_33), .int (bI z_31), .ref (a 0)])) ?_ ?_
        · intro z_33 ls hl hf
          refine lv_icmp_ne (tgt := 196) hx hb d_MMo_others_189 (by decide) (fun c_35 => ?_) (fun c_35 => ?_)
          · have hf := hf.trans (if_neg c_35)
            refine lv_iconst (v := (0 : Int32)) hx hb d_MMo_others_196 (by decide) ?_
            refine lv_aload_n hx hb d_MMo_others_197 rfl (lv_at hl 0 rfl) ?_
            refine va_get (v := .int (mF u_28 12)) hx hb hts iM_Mo hown hw.2.1 hw.1 0 rfl rfl 20 (by decide) (hts _ kM_Mo_152) (fun _ h => h) rfl d_MMo_others_198 ?_
            obtain ⟨u_36, eu_36, hf⟩ := bd1_inv hf
            refine z_wv' (u' := u_36) (z_runV (As := [.int (0 : Int32), .int (mF u_28 12)]) (rest := []) ⟨hx, hb, hml, hown, hts⟩ (c_MMo_goes l D a k u_28 false (mF u_28 12) u_36 eu_36) (qM_Mo_250 hts (by decide)) hw 0 rfl rfl hl.1 rfl (lv_room (Nat.le_of_ble_eq_true rfl)) d_MMo_others_201 hcs) hw hS (fun H locs hw hS => ?_)
            refine lv_goto (tgt := 404) hx hb d_MMo_others_204 (by decide) ?_
            exact hret _ _ _ _ _ d_MMo_others_404 hw hS (Option.some.inj hf)
          · have hf := hf.trans (if_pos c_35)
            refine lv_iconst (v := (1 : Int32)) hx hb d_MMo_others_192 (by decide) ?_
            refine lv_goto (tgt := 197) hx hb d_MMo_others_193 (by decide) ?_
            refine lv_aload_n hx hb d_MMo_others_197 rfl (lv_at hl 0 rfl) ?_
            refine va_get (v := .int (mF u_28 12)) hx hb hts iM_Mo hown hw.2.1 hw.1 0 rfl rfl 20 (by decide) (hts _ kM_Mo_152) (fun _ h => h) rfl d_MMo_others_198 ?_
            obtain ⟨u_37, eu_37, hf⟩ := bd1_inv hf
            refine z_wv' (u' := u_37) (z_runV (As := [.int (1 : Int32), .int (mF u_28 12)]) (rest := []) ⟨hx, hb, hml, hown, hts⟩ (c_MMo_goes l D a k u_28 true (mF u_28 12) u_37 eu_37) (qM_Mo_250 hts (by decide)) hw 0 rfl rfl hl.1 rfl (lv_room (Nat.le_of_ble_eq_true rfl)) d_MMo_others_201 hcs) hw hS (fun H locs hw hS => ?_)
            refine lv_goto (tgt := 404) hx hb d_MMo_others_204 (by decide) ?_
            exact hret _ _ _ _ _ d_MMo_others_404 hw hS (Option.some.inj hf)
        · intro K_34 hK_34 hf
          refine lv_icmp_ne (tgt := 188) hx hb d_MMo_others_181 (by decide) (fun c_38 => ?_) (fun c_38 => ?_)
          · have hf := hf.trans (if_neg c_38)
            refine lv_iconst (v := (0 : Int32)) hx hb d_MMo_others_188 (by decide) ?_
            exact hK_34 false _ (lv_sub hl [0] rfl) hf
          · have hf := hf.trans (if_pos c_38)
            refine lv_iconst (v := (1 : Int32)) hx hb d_MMo_others_184 (by decide) ?_
            refine lv_goto (tgt := 189) hx hb d_MMo_others_185 (by decide) ?_
            exact hK_34 true _ (lv_sub hl [0] rfl) hf
      · intro K_32 hK_32 hf
        refine lv_icmp_le (tgt := 173) hx hb d_MMo_others_166 (by decide) (fun c_39 => ?_) (fun c_39 => ?_)
        · have hf := hf.trans (if_pos c_39)
          refine lv_iconst (v := (0 : Int32)) hx hb d_MMo_others_173 (by decide) ?_
          exact hK_32 false _ (lv_sub hl [2] rfl) hf
        · have hf := hf.trans (if_neg c_39)
          refine lv_iconst (v := (1 : Int32)) hx hb d_MMo_others_169 (by decide) ?_
          refine lv_goto (tgt := 174) hx hb d_MMo_others_170 (by decide) ?_
          exact hK_32 true _ (lv_sub hl [2] rfl) hf
    · intro K_23 hK_23 hf
      by_cases c_40 : x_7 = (134 : Int32)
      · have hf := hf.trans (if_pos c_40)
        refine lv_tableIn (off := 92) (tgt := 128) hx hb d_MMo_others_36 (by rw [c_40]; decide +kernel) (by rw [c_40]; decide +kernel) (by rw [c_40]; decide +kernel) (by decide) ?_
        exact hK_23 _ (lv_sub hl [4, 3, 2, 0] rfl) hf
      have hf := hf.trans (if_neg c_40)
      by_cases c_41 : x_7 = (135 : Int32)
      · have hf := hf.trans (if_pos c_41)
        refine lv_tableIn (off := 92) (tgt := 128) hx hb d_MMo_others_36 (by rw [c_41]; decide +kernel) (by rw [c_41]; decide +kernel) (by rw [c_41]; decide +kernel) (by decide) ?_
        exact hK_23 _ (lv_sub hl [4, 3, 2, 0] rfl) hf
      have hf := hf.trans (if_neg c_41)
      by_cases c_42 : x_7 = (136 : Int32)
      · have hf := hf.trans (if_pos c_42)
        refine lv_tableIn (off := 171) (tgt := 207) hx hb d_MMo_others_36 (by rw [c_42]; decide +kernel) (by rw [c_42]; decide +kernel) (by rw [c_42]; decide +kernel) (by decide) ?_
        refine lv_aload_n hx hb d_MMo_others_207 rfl (lv_at hl 4 rfl) ?_
        refine va_get (v := .ref (a 2)) hx hb hts iM_Mo hown hw.2.1 hw.1 0 rfl rfl 1 (by decide) (hts _ kM_Mo_13) (fun _ h => h) rfl d_MMo_others_208 ?_
        refine lv_iload_n hx hb d_MMo_others_211 rfl (lv_at hl 3 rfl) ?_
        refine lv_iload hx hb d_MMo_others_212 (lv_at hl 1 rfl) ?_
        refine lv_bipush (v := (31 : Int32)) hx hb d_MMo_others_214 (by decide) ?_
        refine lv_icmp_le (tgt := 223) hx hb d_MMo_others_216 (by decide) (fun c_43 => ?_) (fun c_43 => ?_)
        · have hf := hf.trans (if_pos c_43)
          refine lv_iload hx hb d_MMo_others_223 (lv_at hl 0 rfl) ?_
          refine lv_iload hx hb d_MMo_others_225 (lv_at hl 1 rfl) ?_
          refine lv_iushr (v := (Int32.toUInt32 x_5 >>> (Int32.toUInt32 x_3 &&& Int32.toUInt32 31)).toInt32) hx hb d_MMo_others_227 rfl ?_
          obtain ⟨i_45, hf⟩ := ckI_inv hf
          refine z_iast (u' := msA u_6 2 (Int32.toNatClampNeg x_1) ((Int32.toUInt32 x_5 >>> (Int32.toUInt32 x_3 &&& Int32.toUInt32 31)).toInt32)) hx hb hw hS 2 1 rfl rfl i_45 rfl d_MMo_others_228 (fun u_44 H locs eu_44 hw hS => ?_)
          have hf := hf.trans (nm_eq eu_44)
          refine lv_goto (tgt := 404) hx hb d_MMo_others_229 (by decide) ?_
          exact hret _ _ _ _ _ d_MMo_others_404 hw hS (Option.some.inj hf)
        · have hf := hf.trans (if_neg c_43)
          refine lv_iconst (v := (0 : Int32)) hx hb d_MMo_others_219 (by decide) ?_
          refine lv_goto (tgt := 228) hx hb d_MMo_others_220 (by decide) ?_
          obtain ⟨i_47, hf⟩ := ckI_inv hf
          refine z_iast (u' := msA u_6 2 (Int32.toNatClampNeg x_1) (0 : Int32)) hx hb hw hS 2 1 rfl rfl i_47 rfl d_MMo_others_228 (fun u_46 H locs eu_46 hw hS => ?_)
          have hf := hf.trans (nm_eq eu_46)
          refine lv_goto (tgt := 404) hx hb d_MMo_others_229 (by decide) ?_
          exact hret _ _ _ _ _ d_MMo_others_404 hw hS (Option.some.inj hf)
      have hf := hf.trans (if_neg c_42)
      by_cases c_48 : x_7 = (137 : Int32)
      · have hf := hf.trans (if_pos c_48)
        refine lv_tableIn (off := 196) (tgt := 232) hx hb d_MMo_others_36 (by rw [c_48]; decide +kernel) (by rw [c_48]; decide +kernel) (by rw [c_48]; decide +kernel) (by decide) ?_
        refine lv_aload_n hx hb d_MMo_others_232 rfl (lv_at hl 4 rfl) ?_
        refine va_get (v := .ref (a 2)) hx hb hts iM_Mo hown hw.2.1 hw.1 0 rfl rfl 1 (by decide) (hts _ kM_Mo_13) (fun _ h => h) rfl d_MMo_others_233 ?_
        refine lv_iload_n hx hb d_MMo_others_236 rfl (lv_at hl 3 rfl) ?_
        refine lv_iload hx hb d_MMo_others_237 (lv_at hl 1 rfl) ?_
        refine lv_bipush (v := (31 : Int32)) hx hb d_MMo_others_239 (by decide) ?_
        refine lv_icmp_le (tgt := 248) hx hb d_MMo_others_241 (by decide) (fun c_49 => ?_) (fun c_49 => ?_)
        · have hf := hf.trans (if_pos c_49)
          refine lv_iload hx hb d_MMo_others_248 (lv_at hl 0 rfl) ?_
          refine lv_iload hx hb d_MMo_others_250 (lv_at hl 1 rfl) ?_
          refine lv_ishl hx hb d_MMo_others_252 ?_
          obtain ⟨i_51, hf⟩ := ckI_inv hf
          refine z_iast (u' := msA u_6 2 (Int32.toNatClampNeg x_1) (x_5 <<< (x_3 &&& 31))) hx hb hw hS 2 1 rfl rfl i_51 rfl d_MMo_others_253 (fun u_50 H locs eu_50 hw hS => ?_)
          have hf := hf.trans (nm_eq eu_50)
          refine lv_goto (tgt := 404) hx hb d_MMo_others_254 (by decide) ?_
          exact hret _ _ _ _ _ d_MMo_others_404 hw hS (Option.some.inj hf)
        · have hf := hf.trans (if_neg c_49)
          refine lv_iconst (v := (0 : Int32)) hx hb d_MMo_others_244 (by decide) ?_
          refine lv_goto (tgt := 253) hx hb d_MMo_others_245 (by decide) ?_
          obtain ⟨i_53, hf⟩ := ckI_inv hf
          refine z_iast (u' := msA u_6 2 (Int32.toNatClampNeg x_1) (0 : Int32)) hx hb hw hS 2 1 rfl rfl i_53 rfl d_MMo_others_253 (fun u_52 H locs eu_52 hw hS => ?_)
          have hf := hf.trans (nm_eq eu_52)
          refine lv_goto (tgt := 404) hx hb d_MMo_others_254 (by decide) ?_
          exact hret _ _ _ _ _ d_MMo_others_404 hw hS (Option.some.inj hf)
      have hf := hf.trans (if_neg c_48)
      by_cases c_54 : x_7 = (138 : Int32)
      · have hf := hf.trans (if_pos c_54)
        refine lv_tableIn (off := 221) (tgt := 257) hx hb d_MMo_others_36 (by rw [c_54]; decide +kernel) (by rw [c_54]; decide +kernel) (by rw [c_54]; decide +kernel) (by decide) ?_
        refine lv_aload_n hx hb d_MMo_others_257 rfl (lv_at hl 4 rfl) ?_
        refine va_get (v := .ref (a 2)) hx hb hts iM_Mo hown hw.2.1 hw.1 0 rfl rfl 1 (by decide) (hts _ kM_Mo_13) (fun _ h => h) rfl d_MMo_others_258 ?_
        refine lv_iload_n hx hb d_MMo_others_261 rfl (lv_at hl 3 rfl) ?_
        refine lv_iload hx hb d_MMo_others_262 (lv_at hl 0 rfl) ?_
        refine lv_iload hx hb d_MMo_others_264 (lv_at hl 1 rfl) ?_
        refine lv_bipush (v := (31 : Int32)) hx hb d_MMo_others_266 (by decide) ?_
        refine jn_cut hf (fun (K_56 : Int32 → Option (MS)) => ∀ (x_55 : Int32), ∀ (ls : Array Slot), lv_has ls 10 [(0, .ref (a 0)), (2, .int x_1)] → some F = K_56 x_55 → W p l e rm_MMo_others st m args below meth c H locs 0 0 Q (F0 m 278 ls [.int x_55, .int x_5, .int x_1, .ref (a 2)])) ?_ ?_
        · intro x_55 ls hl hf
          refine lv_ishr hx hb d_MMo_others_278 ?_
          obtain ⟨i_58, hf⟩ := ckI_inv hf
          refine z_iast (u' := msA u_6 2 (Int32.toNatClampNeg x_1) (x_5 >>> (x_55 &&& 31))) hx hb hw hS 2 1 rfl rfl i_58 rfl d_MMo_others_279 (fun u_57 H locs eu_57 hw hS => ?_)
          have hf := hf.trans (nm_eq eu_57)
          refine lv_aload_n hx hb d_MMo_others_280 rfl (lv_at hl 0 rfl) ?_
          refine lv_aload_n hx hb d_MMo_others_281 rfl (lv_at hl 0 rfl) ?_
          refine va_get (v := .ref (a 2)) hx hb hts iM_Mo hown hw.2.1 hw.1 0 rfl rfl 1 (by decide) (hts _ kM_Mo_13) (fun _ h => h) rfl d_MMo_others_282 ?_
          refine lv_iload_n hx hb d_MMo_others_285 rfl (lv_at hl 1 rfl) ?_
          obtain ⟨i_59, hf⟩ := ckI_inv hf
          refine va_iald hx hb hw.2.1 hw.1 2 1 rfl rfl i_59 d_MMo_others_286 ?_
          obtain ⟨x_60, ex_60, hf⟩ := bd1_inv hf
          refine z_rV (V := .int x_60) (z_runS (As := [.int (mA u_57 2 (Int32.toNatClampNeg x_1))]) (rest := [.ref (a 0)]) ⟨hx, hb, hml, hown, hts⟩ (c_MMo_signOf l D a k u_57 (mA u_57 2 (Int32.toNatClampNeg x_1)) x_60 ex_60) (qM_Mo_232 hts (by decide)) hw  hl.1 rfl (lv_room (Nat.le_of_ble_eq_true rfl)) d_MMo_others_287 hcs) ?_
          refine z_put (u' := msF u_57 1 x_60) hx hb hts iM_Mo tM_Mo tM_Mo_ok nM_Mo hown hw hS 0 rfl rfl 9 (by decide) (hts _ kM_Mo_73) (fun _ h => h) rfl rfl (Nat.le_of_ble_eq_true rfl) rfl d_MMo_others_290 (fun u_61 H locs eu_61 hw hS => ?_)
          have hf := hf.trans (nm_eq eu_61)
          refine lv_goto (tgt := 404) hx hb d_MMo_others_293 (by decide) ?_
          exact hret _ _ _ _ _ d_MMo_others_404 hw hS (Option.some.inj hf)
        · intro K_56 hK_56 hf
          refine lv_icmp_le (tgt := 276) hx hb d_MMo_others_268 (by decide) (fun c_62 => ?_) (fun c_62 => ?_)
          · have hf := hf.trans (if_pos c_62)
            refine lv_iload hx hb d_MMo_others_276 (lv_at hl 1 rfl) ?_
            exact hK_56 x_3 _ (lv_sub hl [4, 3] rfl) hf
          · have hf := hf.trans (if_neg c_62)
            refine lv_bipush (v := (31 : Int32)) hx hb d_MMo_others_271 (by decide) ?_
            refine lv_goto (tgt := 278) hx hb d_MMo_others_273 (by decide) ?_
            exact hK_56 (31 : Int32) _ (lv_sub hl [4, 3] rfl) hf
      have hf := hf.trans (if_neg c_54)
      by_cases c_63 : x_7 = (139 : Int32)
      · have hf := hf.trans (if_pos c_63)
        refine lv_tableIn (off := 260) (tgt := 296) hx hb d_MMo_others_36 (by rw [c_63]; decide +kernel) (by rw [c_63]; decide +kernel) (by rw [c_63]; decide +kernel) (by decide) ?_
        refine lv_aload_n hx hb d_MMo_others_296 rfl (lv_at hl 4 rfl) ?_
        refine lv_iload_n hx hb d_MMo_others_297 rfl (lv_at hl 3 rfl) ?_
        refine lv_iload hx hb d_MMo_others_298 (lv_at hl 0 rfl) ?_
        refine lv_iload hx hb d_MMo_others_300 (lv_at hl 1 rfl) ?_
        obtain ⟨u_64, eu_64, hf⟩ := bd1_inv hf
        refine z_wv' (u' := u_64) (z_runV (As := [.int x_1, .int x_5, .int x_3]) (rest := []) ⟨hx, hb, hml, hown, hts⟩ (c_MMo_left l D a k u_6 x_1 x_5 x_3 u_64 eu_64) (qM_Mo_260 hts (by decide)) hw 0 rfl rfl hl.1 rfl (lv_room (Nat.le_of_ble_eq_true rfl)) d_MMo_others_302 hcs) hw hS (fun H locs hw hS => ?_)
        refine lv_goto (tgt := 404) hx hb d_MMo_others_305 (by decide) ?_
        exact hret _ _ _ _ _ d_MMo_others_404 hw hS (Option.some.inj hf)
      have hf := hf.trans (if_neg c_63)
      by_cases c_65 : x_7 = (140 : Int32)
      · have hf := hf.trans (if_neg (by rw [c_65]; decide))
        have hf := hf.trans (if_neg (by rw [c_65]; decide))
        refine lv_tableIn (off := 364) (tgt := 400) hx hb d_MMo_others_36 (by rw [c_65]; decide +kernel) (by rw [c_65]; decide +kernel) (by rw [c_65]; decide +kernel) (by decide) ?_
        refine lv_aload_n hx hb d_MMo_others_400 rfl (lv_at hl 4 rfl) ?_
        obtain ⟨u_66, eu_66, hf⟩ := bd1_inv hf
        refine z_wv' (u' := u_66) (z_runV (As := []) (rest := []) ⟨hx, hb, hml, hown, hts⟩ (c_MMo_immediate l D a k u_6 u_66 eu_66) (qM_Mo_263 hts (by decide)) hw 0 rfl rfl hl.1 rfl (lv_room (Nat.le_of_ble_eq_true rfl)) d_MMo_others_401 hcs) hw hS (fun H locs hw hS => ?_)
        exact hret _ _ _ _ _ d_MMo_others_404 hw hS (Option.some.inj hf)
      by_cases c_67 : x_7 = (141 : Int32)
      · have hf := hf.trans (if_neg (by rw [c_67]; decide))
        have hf := hf.trans (if_neg (by rw [c_67]; decide))
        refine lv_tableIn (off := 364) (tgt := 400) hx hb d_MMo_others_36 (by rw [c_67]; decide +kernel) (by rw [c_67]; decide +kernel) (by rw [c_67]; decide +kernel) (by decide) ?_
        refine lv_aload_n hx hb d_MMo_others_400 rfl (lv_at hl 4 rfl) ?_
        obtain ⟨u_68, eu_68, hf⟩ := bd1_inv hf
        refine z_wv' (u' := u_68) (z_runV (As := []) (rest := []) ⟨hx, hb, hml, hown, hts⟩ (c_MMo_immediate l D a k u_6 u_68 eu_68) (qM_Mo_263 hts (by decide)) hw 0 rfl rfl hl.1 rfl (lv_room (Nat.le_of_ble_eq_true rfl)) d_MMo_others_401 hcs) hw hS (fun H locs hw hS => ?_)
        exact hret _ _ _ _ _ d_MMo_others_404 hw hS (Option.some.inj hf)
      by_cases c_69 : x_7 = (142 : Int32)
      · have hf := hf.trans (if_neg (by rw [c_69]; decide))
        have hf := hf.trans (if_neg (by rw [c_69]; decide))
        refine lv_tableIn (off := 364) (tgt := 400) hx hb d_MMo_others_36 (by rw [c_69]; decide +kernel) (by rw [c_69]; decide +kernel) (by rw [c_69]; decide +kernel) (by decide) ?_
        refine lv_aload_n hx hb d_MMo_others_400 rfl (lv_at hl 4 rfl) ?_
        obtain ⟨u_70, eu_70, hf⟩ := bd1_inv hf
        refine z_wv' (u' := u_70) (z_runV (As := []) (rest := []) ⟨hx, hb, hml, hown, hts⟩ (c_MMo_immediate l D a k u_6 u_70 eu_70) (qM_Mo_263 hts (by decide)) hw 0 rfl rfl hl.1 rfl (lv_room (Nat.le_of_ble_eq_true rfl)) d_MMo_others_401 hcs) hw hS (fun H locs hw hS => ?_)
        exact hret _ _ _ _ _ d_MMo_others_404 hw hS (Option.some.inj hf)
      by_cases c_71 : x_7 = (143 : Int32)
      · have hf := hf.trans (if_neg (by rw [c_71]; decide))
        have hf := hf.trans (if_neg (by rw [c_71]; decide))
        refine lv_tableIn (off := 364) (tgt := 400) hx hb d_MMo_others_36 (by rw [c_71]; decide +kernel) (by rw [c_71]; decide +kernel) (by rw [c_71]; decide +kernel) (by decide) ?_
        refine lv_aload_n hx hb d_MMo_others_400 rfl (lv_at hl 4 rfl) ?_
        obtain ⟨u_72, eu_72, hf⟩ := bd1_inv hf
        refine z_wv' (u' := u_72) (z_runV (As := []) (rest := []) ⟨hx, hb, hml, hown, hts⟩ (c_MMo_immediate l D a k u_6 u_72 eu_72) (qM_Mo_263 hts (by decide)) hw 0 rfl rfl hl.1 rfl (lv_room (Nat.le_of_ble_eq_true rfl)) d_MMo_others_401 hcs) hw hS (fun H locs hw hS => ?_)
        exact hret _ _ _ _ _ d_MMo_others_404 hw hS (Option.some.inj hf)
      by_cases c_73 : x_7 = (144 : Int32)
      · have hf := hf.trans (if_pos c_73)
        refine lv_tableIn (off := 272) (tgt := 308) hx hb d_MMo_others_36 (by rw [c_73]; decide +kernel) (by rw [c_73]; decide +kernel) (by rw [c_73]; decide +kernel) (by decide) ?_
        exact hK_8 _ (lv_sub hl [4, 3, 2] rfl) hf
      have hf := hf.trans (if_neg c_73)
      by_cases c_74 : x_7 = (145 : Int32)
      · have hf := hf.trans (if_neg (by rw [c_74]; decide))
        refine lv_tableIn (off := 364) (tgt := 400) hx hb d_MMo_others_36 (by rw [c_74]; decide +kernel) (by rw [c_74]; decide +kernel) (by rw [c_74]; decide +kernel) (by decide) ?_
        refine lv_aload_n hx hb d_MMo_others_400 rfl (lv_at hl 4 rfl) ?_
        obtain ⟨u_75, eu_75, hf⟩ := bd1_inv hf
        refine z_wv' (u' := u_75) (z_runV (As := []) (rest := []) ⟨hx, hb, hml, hown, hts⟩ (c_MMo_immediate l D a k u_6 u_75 eu_75) (qM_Mo_263 hts (by decide)) hw 0 rfl rfl hl.1 rfl (lv_room (Nat.le_of_ble_eq_true rfl)) d_MMo_others_401 hcs) hw hS (fun H locs hw hS => ?_)
        exact hret _ _ _ _ _ d_MMo_others_404 hw hS (Option.some.inj hf)
      by_cases c_76 : x_7 = (146 : Int32)
      · have hf := hf.trans (if_neg (by rw [c_76]; decide))
        refine lv_tableIn (off := 364) (tgt := 400) hx hb d_MMo_others_36 (by rw [c_76]; decide +kernel) (by rw [c_76]; decide +kernel) (by rw [c_76]; decide +kernel) (by decide) ?_
        refine lv_aload_n hx hb d_MMo_others_400 rfl (lv_at hl 4 rfl) ?_
        obtain ⟨u_77, eu_77, hf⟩ := bd1_inv hf
        refine z_wv' (u' := u_77) (z_runV (As := []) (rest := []) ⟨hx, hb, hml, hown, hts⟩ (c_MMo_immediate l D a k u_6 u_77 eu_77) (qM_Mo_263 hts (by decide)) hw 0 rfl rfl hl.1 rfl (lv_room (Nat.le_of_ble_eq_true rfl)) d_MMo_others_401 hcs) hw hS (fun H locs hw hS => ?_)
        exact hret _ _ _ _ _ d_MMo_others_404 hw hS (Option.some.inj hf)
      by_cases c_78 : x_7 = (147 : Int32)
      · have hf := hf.trans (if_neg (by rw [c_78]; decide))
        refine lv_tableIn (off := 364) (tgt := 400) hx hb d_MMo_others_36 (by rw [c_78]; decide +kernel) (by rw [c_78]; decide +kernel) (by rw [c_78]; decide +kernel) (by decide) ?_
        refine lv_aload_n hx hb d_MMo_others_400 rfl (lv_at hl 4 rfl) ?_
        obtain ⟨u_79, eu_79, hf⟩ := bd1_inv hf
        refine z_wv' (u' := u_79) (z_runV (As := []) (rest := []) ⟨hx, hb, hml, hown, hts⟩ (c_MMo_immediate l D a k u_6 u_79 eu_79) (qM_Mo_263 hts (by decide)) hw 0 rfl rfl hl.1 rfl (lv_room (Nat.le_of_ble_eq_true rfl)) d_MMo_others_401 hcs) hw hS (fun H locs hw hS => ?_)
        exact hret _ _ _ _ _ d_MMo_others_404 hw hS (Option.some.inj hf)
      by_cases c_80 : x_7 = (148 : Int32)
      · have hf := hf.trans (if_neg (by rw [c_80]; decide))
        refine lv_tableIn (off := 364) (tgt := 400) hx hb d_MMo_others_36 (by rw [c_80]; decide +kernel) (by rw [c_80]; decide +kernel) (by rw [c_80]; decide +kernel) (by decide) ?_
        refine lv_aload_n hx hb d_MMo_others_400 rfl (lv_at hl 4 rfl) ?_
        obtain ⟨u_81, eu_81, hf⟩ := bd1_inv hf
        refine z_wv' (u' := u_81) (z_runV (As := []) (rest := []) ⟨hx, hb, hml, hown, hts⟩ (c_MMo_immediate l D a k u_6 u_81 eu_81) (qM_Mo_263 hts (by decide)) hw 0 rfl rfl hl.1 rfl (lv_room (Nat.le_of_ble_eq_true rfl)) d_MMo_others_401 hcs) hw hS (fun H locs hw hS => ?_)
        exact hret _ _ _ _ _ d_MMo_others_404 hw hS (Option.some.inj hf)
      by_cases c_82 : x_7 = (149 : Int32)
      · have hf := hf.trans (if_neg (by rw [c_82]; decide))
        refine lv_tableIn (off := 364) (tgt := 400) hx hb d_MMo_others_36 (by rw [c_82]; decide +kernel) (by rw [c_82]; decide +kernel) (by rw [c_82]; decide +kernel) (by decide) ?_
        refine lv_aload_n hx hb d_MMo_others_400 rfl (lv_at hl 4 rfl) ?_
        obtain ⟨u_83, eu_83, hf⟩ := bd1_inv hf
        refine z_wv' (u' := u_83) (z_runV (As := []) (rest := []) ⟨hx, hb, hml, hown, hts⟩ (c_MMo_immediate l D a k u_6 u_83 eu_83) (qM_Mo_263 hts (by decide)) hw 0 rfl rfl hl.1 rfl (lv_room (Nat.le_of_ble_eq_true rfl)) d_MMo_others_401 hcs) hw hS (fun H locs hw hS => ?_)
        exact hret _ _ _ _ _ d_MMo_others_404 hw hS (Option.some.inj hf)
      by_cases c_84 : x_7 = (150 : Int32)
      · have hf := hf.trans (if_neg (by rw [c_84]; decide))
        refine lv_tableIn (off := 364) (tgt := 400) hx hb d_MMo_others_36 (by rw [c_84]; decide +kernel) (by rw [c_84]; decide +kernel) (by rw [c_84]; decide +kernel) (by decide) ?_
        refine lv_aload_n hx hb d_MMo_others_400 rfl (lv_at hl 4 rfl) ?_
        obtain ⟨u_85, eu_85, hf⟩ := bd1_inv hf
        refine z_wv' (u' := u_85) (z_runV (As := []) (rest := []) ⟨hx, hb, hml, hown, hts⟩ (c_MMo_immediate l D a k u_6 u_85 eu_85) (qM_Mo_263 hts (by decide)) hw 0 rfl rfl hl.1 rfl (lv_room (Nat.le_of_ble_eq_true rfl)) d_MMo_others_401 hcs) hw hS (fun H locs hw hS => ?_)
        exact hret _ _ _ _ _ d_MMo_others_404 hw hS (Option.some.inj hf)
      by_cases c_86 : x_7 = (151 : Int32)
      · have hf := hf.trans (if_neg (by rw [c_86]; decide))
        refine lv_tableIn (off := 364) (tgt := 400) hx hb d_MMo_others_36 (by rw [c_86]; decide +kernel) (by rw [c_86]; decide +kernel) (by rw [c_86]; decide +kernel) (by decide) ?_
        refine lv_aload_n hx hb d_MMo_others_400 rfl (lv_at hl 4 rfl) ?_
        obtain ⟨u_87, eu_87, hf⟩ := bd1_inv hf
        refine z_wv' (u' := u_87) (z_runV (As := []) (rest := []) ⟨hx, hb, hml, hown, hts⟩ (c_MMo_immediate l D a k u_6 u_87 eu_87) (qM_Mo_263 hts (by decide)) hw 0 rfl rfl hl.1 rfl (lv_room (Nat.le_of_ble_eq_true rfl)) d_MMo_others_401 hcs) hw hS (fun H locs hw hS => ?_)
        exact hret _ _ _ _ _ d_MMo_others_404 hw hS (Option.some.inj hf)
      by_cases c_88 : x_7 = (152 : Int32)
      · have hf := hf.trans (if_pos c_88)
        refine lv_tableIn (off := 272) (tgt := 308) hx hb d_MMo_others_36 (by rw [c_88]; decide +kernel) (by rw [c_88]; decide +kernel) (by rw [c_88]; decide +kernel) (by decide) ?_
        exact hK_8 _ (lv_sub hl [4, 3, 2] rfl) hf
      have hf := hf.trans (if_neg c_88)
      refine lv_tableOut (tgt := 400) hx hb d_MMo_others_36 (by have := lv_neT c_40 (a := 134) (by decide +kernel); have := lv_neT c_41 (a := 135) (by decide +kernel); have := lv_neT c_42 (a := 136) (by decide +kernel); have := lv_neT c_48 (a := 137) (by decide +kernel); have := lv_neT c_54 (a := 138) (by decide +kernel); have := lv_neT c_63 (a := 139) (by decide +kernel); have := lv_neT c_65 (a := 140) (by decide +kernel); have := lv_neT c_67 (a := 141) (by decide +kernel); have := lv_neT c_69 (a := 142) (by decide +kernel); have := lv_neT c_71 (a := 143) (by decide +kernel); have := lv_neT c_73 (a := 144) (by decide +kernel); have := lv_neT c_74 (a := 145) (by decide +kernel); have := lv_neT c_76 (a := 146) (by decide +kernel); have := lv_neT c_78 (a := 147) (by decide +kernel); have := lv_neT c_80 (a := 148) (by decide +kernel); have := lv_neT c_82 (a := 149) (by decide +kernel); have := lv_neT c_84 (a := 150) (by decide +kernel); have := lv_neT c_86 (a := 151) (by decide +kernel); have := lv_neT c_88 (a := 152) (by decide +kernel); omega) (by decide) ?_
      refine lv_aload_n hx hb d_MMo_others_400 rfl (lv_at hl 4 rfl) ?_
      obtain ⟨u_89, eu_89, hf⟩ := bd1_inv hf
      refine z_wv' (u' := u_89) (z_runV (As := []) (rest := []) ⟨hx, hb, hml, hown, hts⟩ (c_MMo_immediate l D a k u_6 u_89 eu_89) (qM_Mo_263 hts (by decide)) hw 0 rfl rfl hl.1 rfl (lv_room (Nat.le_of_ble_eq_true rfl)) d_MMo_others_401 hcs) hw hS (fun H locs hw hS => ?_)
      exact hret _ _ _ _ _ d_MMo_others_404 hw hS (Option.some.inj hf)
set_option maxHeartbeats 4000000 in
set_option maxRecDepth 100000 in
theorem c_MMo_acts (l : Launch) (D : va_G) (a : Nat → Nat) (k : Nat → ClassId) (u0 : MS)  (F : MS) (hf : f_MMo_acts u0 = some F) : zMv l y_MMo_acts w_MMo_acts rm_MMo_acts D clM (tyM k) nwM (mW a k) [.ref (a 0)] u0 F := by
  have hf := hf.symm
  unfold f_MMo_acts at hf
  refine zMv_of (cc := b_MMo_acts) (maxL := 2) (own := RM_Mo) (by decide) rfl rfl (Nat.le_of_ble_eq_true rfl) ?_
  intro p e R st m args below meth c A H locs Q ls hR hx hb hml hown hts hw hS hret hl
  subst hR
  have hcs : 0 ≤ (rm_MMo_acts).cells ∧ 0 ≤ (rm_MMo_acts).slots := ⟨Nat.zero_le _, Nat.zero_le _⟩
  have hl : lv_has ls 2 [(0, .ref (a 0))] := hl
  refine lv_aload_n hx hb d_MMo_acts_0 rfl (lv_at hl 0 rfl) ?_
  refine va_get (v := .int (mF u0 2)) hx hb hts iM_Mo hown hw.2.1 hw.1 0 rfl rfl 10 (by decide) (hts _ kM_Mo_67) (fun _ h => h) rfl d_MMo_acts_1 ?_
  refine lv_aload_n hx hb d_MMo_acts_4 rfl (lv_at hl 0 rfl) ?_
  refine va_get (v := .int (mF u0 9)) hx hb hts iM_Mo hown hw.2.1 hw.1 0 rfl rfl 17 (by decide) (hts _ kM_Mo_135) (fun _ h => h) rfl d_MMo_acts_5 ?_
  refine lv_iadd hx hb d_MMo_acts_8 ?_
  refine lv_ldc (v := (16777215 : Int32)) hx hb hown (hts _ kM_Mo_93) d_MMo_acts_9 ?_
  refine lv_iand hx hb d_MMo_acts_11 ?_
  refine lv_topi (fun x_1 ex_1 => ?_)
  have hf := hf.trans (nm_eq ex_1)
  refine lv_istore_n (lv' := [(1, .int x_1), (0, .ref (a 0))]) hx hb d_MMo_acts_12 rfl hl (by decide) rfl (fun ls hl => ?_)
  refine lv_aload_n hx hb d_MMo_acts_13 rfl (lv_at hl 1 rfl) ?_
  refine va_get (v := .int (mF u0 8)) hx hb hts iM_Mo hown hw.2.1 hw.1 0 rfl rfl 16 (by decide) (hts _ kM_Mo_132) (fun _ h => h) rfl d_MMo_acts_14 ?_
  refine lv_bipush (v := (64 : Int32)) hx hb d_MMo_acts_17 (by decide) ?_
  refine lv_icmp_ge (tgt := 30) hx hb d_MMo_acts_19 (by decide) (fun c_2 => ?_) (fun c_2 => ?_)
  · have hf := hf.trans (if_pos c_2)
    refine lv_aload_n hx hb d_MMo_acts_30 rfl (lv_at hl 1 rfl) ?_
    refine va_get (v := .int (mF u0 8)) hx hb hts iM_Mo hown hw.2.1 hw.1 0 rfl rfl 16 (by decide) (hts _ kM_Mo_132) (fun _ h => h) rfl d_MMo_acts_31 ?_
    refine lv_sipush (v := (128 : Int32)) hx hb d_MMo_acts_34 (by decide) ?_
    refine lv_icmp_ge (tgt := 48) hx hb d_MMo_acts_37 (by decide) (fun c_3 => ?_) (fun c_3 => ?_)
    · have hf := hf.trans (if_pos c_3)
      refine lv_aload_n hx hb d_MMo_acts_48 rfl (lv_at hl 1 rfl) ?_
      refine va_get (v := .int (mF u0 8)) hx hb hts iM_Mo hown hw.2.1 hw.1 0 rfl rfl 16 (by decide) (hts _ kM_Mo_132) (fun _ h => h) rfl d_MMo_acts_49 ?_
      refine lv_sipush (v := (192 : Int32)) hx hb d_MMo_acts_52 (by decide) ?_
      refine lv_icmp_ge (tgt := 66) hx hb d_MMo_acts_55 (by decide) (fun c_4 => ?_) (fun c_4 => ?_)
      · have hf := hf.trans (if_pos c_4)
        refine lv_aload_n hx hb d_MMo_acts_66 rfl (lv_at hl 1 rfl) ?_
        refine lv_iload_n hx hb d_MMo_acts_67 rfl (lv_at hl 0 rfl) ?_
        refine z_put (u' := msF u0 2 x_1) hx hb hts iM_Mo tM_Mo tM_Mo_ok nM_Mo hown hw hS 0 rfl rfl 10 (by decide) (hts _ kM_Mo_67) (fun _ h => h) rfl rfl (Nat.le_of_ble_eq_true rfl) rfl d_MMo_acts_68 (fun u_5 H locs eu_5 hw hS => ?_)
        have hf := hf.trans (nm_eq eu_5)
        refine lv_aload_n hx hb d_MMo_acts_71 rfl (lv_at hl 1 rfl) ?_
        refine va_get (v := .int (mF u_5 8)) hx hb hts iM_Mo hown hw.2.1 hw.1 0 rfl rfl 16 (by decide) (hts _ kM_Mo_132) (fun _ h => h) rfl d_MMo_acts_72 ?_
        refine lv_sipush (v := (240 : Int32)) hx hb d_MMo_acts_75 (by decide) ?_
        refine lv_icmp_ge (tgt := 88) hx hb d_MMo_acts_78 (by decide) (fun c_6 => ?_) (fun c_6 => ?_)
        · have hf := hf.trans (if_pos c_6)
          refine lv_aload_n hx hb d_MMo_acts_88 rfl (lv_at hl 1 rfl) ?_
          refine va_get (v := .int (mF u_5 8)) hx hb hts iM_Mo hown hw.2.1 hw.1 0 rfl rfl 16 (by decide) (hts _ kM_Mo_132) (fun _ h => h) rfl d_MMo_acts_89 ?_
          refine lv_sipush (v := (244 : Int32)) hx hb d_MMo_acts_92 (by decide) ?_
          refine lv_icmp_ge (tgt := 105) hx hb d_MMo_acts_95 (by decide) (fun c_7 => ?_) (fun c_7 => ?_)
          · have hf := hf.trans (if_pos c_7)
            refine lv_aload_n hx hb d_MMo_acts_105 rfl (lv_at hl 1 rfl) ?_
            obtain ⟨u_8, eu_8, hf⟩ := bd1_inv hf
            refine z_wv' (u' := u_8) (z_runV (As := []) (rest := []) ⟨hx, hb, hml, hown, hts⟩ (c_MMo_digits l D a k u_5 u_8 eu_8) (qM_Mo_284 hts (by decide)) hw 0 rfl rfl hl.1 rfl (lv_room (Nat.le_of_ble_eq_true rfl)) d_MMo_acts_106 hcs) hw hS (fun H locs hw hS => ?_)
            exact hret _ _ _ _ _ d_MMo_acts_109 hw hS (Option.some.inj hf)
          · have hf := hf.trans (if_neg c_7)
            refine lv_aload_n hx hb d_MMo_acts_98 rfl (lv_at hl 1 rfl) ?_
            obtain ⟨u_9, eu_9, hf⟩ := bd1_inv hf
            refine z_wv' (u' := u_9) (z_runV (As := []) (rest := []) ⟨hx, hb, hml, hown, hts⟩ (c_MMo_shifts l D a k u_5 u_9 eu_9) (qM_Mo_281 hts (by decide)) hw 0 rfl rfl hl.1 rfl (lv_room (Nat.le_of_ble_eq_true rfl)) d_MMo_acts_99 hcs) hw hS (fun H locs hw hS => ?_)
            refine lv_goto (tgt := 109) hx hb d_MMo_acts_102 (by decide) ?_
            exact hret _ _ _ _ _ d_MMo_acts_109 hw hS (Option.some.inj hf)
        · have hf := hf.trans (if_neg c_6)
          refine lv_aload_n hx hb d_MMo_acts_81 rfl (lv_at hl 1 rfl) ?_
          obtain ⟨u_10, eu_10, hf⟩ := bd1_inv hf
          refine z_wv' (u' := u_10) (z_runV (As := []) (rest := []) ⟨hx, hb, hml, hown, hts⟩ (c_MMo_octets l D a k u_5 u_10 eu_10) (qM_Mo_278 hts (by decide)) hw 0 rfl rfl hl.1 rfl (lv_room (Nat.le_of_ble_eq_true rfl)) d_MMo_acts_82 hcs) hw hS (fun H locs hw hS => ?_)
          refine lv_goto (tgt := 109) hx hb d_MMo_acts_85 (by decide) ?_
          exact hret _ _ _ _ _ d_MMo_acts_109 hw hS (Option.some.inj hf)
      · have hf := hf.trans (if_neg c_4)
        refine lv_aload_n hx hb d_MMo_acts_58 rfl (lv_at hl 1 rfl) ?_
        refine lv_iload_n hx hb d_MMo_acts_59 rfl (lv_at hl 0 rfl) ?_
        obtain ⟨u_11, eu_11, hf⟩ := bd1_inv hf
        refine z_wv' (u' := u_11) (z_runV (As := [.int x_1]) (rest := []) ⟨hx, hb, hml, hown, hts⟩ (c_MMo_others l D a k u0 x_1 u_11 eu_11) (qM_Mo_275 hts (by decide)) hw 0 rfl rfl hl.1 rfl (lv_room (Nat.le_of_ble_eq_true rfl)) d_MMo_acts_60 hcs) hw hS (fun H locs hw hS => ?_)
        refine lv_goto (tgt := 109) hx hb d_MMo_acts_63 (by decide) ?_
        exact hret _ _ _ _ _ d_MMo_acts_109 hw hS (Option.some.inj hf)
    · have hf := hf.trans (if_neg c_3)
      refine lv_aload_n hx hb d_MMo_acts_40 rfl (lv_at hl 1 rfl) ?_
      refine lv_iload_n hx hb d_MMo_acts_41 rfl (lv_at hl 0 rfl) ?_
      obtain ⟨u_12, eu_12, hf⟩ := bd1_inv hf
      refine z_wv' (u' := u_12) (z_runV (As := [.int x_1]) (rest := []) ⟨hx, hb, hml, hown, hts⟩ (c_MMo_indexed l D a k u0 x_1 u_12 eu_12) (qM_Mo_272 hts (by decide)) hw 0 rfl rfl hl.1 rfl (lv_room (Nat.le_of_ble_eq_true rfl)) d_MMo_acts_42 hcs) hw hS (fun H locs hw hS => ?_)
      refine lv_goto (tgt := 109) hx hb d_MMo_acts_45 (by decide) ?_
      exact hret _ _ _ _ _ d_MMo_acts_109 hw hS (Option.some.inj hf)
  · have hf := hf.trans (if_neg c_2)
    refine lv_aload_n hx hb d_MMo_acts_22 rfl (lv_at hl 1 rfl) ?_
    refine lv_iload_n hx hb d_MMo_acts_23 rfl (lv_at hl 0 rfl) ?_
    obtain ⟨u_13, eu_13, hf⟩ := bd1_inv hf
    refine z_wv' (u' := u_13) (z_runV (As := [.int x_1]) (rest := []) ⟨hx, hb, hml, hown, hts⟩ (c_MMo_registers l D a k u0 x_1 u_13 eu_13) (qM_Mo_268 hts (by decide)) hw 0 rfl rfl hl.1 rfl (lv_room (Nat.le_of_ble_eq_true rfl)) d_MMo_acts_24 hcs) hw hS (fun H locs hw hS => ?_)
    refine lv_goto (tgt := 109) hx hb d_MMo_acts_27 (by decide) ?_
    exact hret _ _ _ _ _ d_MMo_acts_109 hw hS (Option.some.inj hf)
set_option maxHeartbeats 4000000 in
set_option maxRecDepth 100000 in
theorem c_MMo_run (l : Launch) (D : va_G) (a : Nat → Nat) (k : Nat → ClassId) (u0 : MS) (x1 : Int32) (F : Int32 × MS) (hf : f_MMo_run u0 x1 = some F) : zMi l y_MMo_run w_MMo_run rm_MMo_run D clM (tyM k) nwM (mW a k) [.ref (a 0), .int x1] u0 F := by
  have hf := hf.symm
  unfold f_MMo_run at hf
  refine zMi_of (cc := b_MMo_run) (maxL := 3) (own := RM_Mo) (by decide) rfl rfl (Nat.le_of_ble_eq_true rfl) ?_
  intro p e R st m args below meth c A H locs Q ls hR hx hb hml hown hts hw hS hret hl
  subst hR
  have hcs : 0 ≤ (rm_MMo_run).cells ∧ 0 ≤ (rm_MMo_run).slots := ⟨Nat.zero_le _, Nat.zero_le _⟩
  have hl : lv_has ls 3 [(0, .ref (a 0)), (1, .int x1)] := hl
  refine lv_aload_n hx hb d_MMo_run_0 rfl (lv_at hl 0 rfl) ?_
  refine lv_iconst (v := (0 : Int32)) hx hb d_MMo_run_1 (by decide) ?_
  refine z_put (u' := msF u0 0 (0 : Int32)) hx hb hts iM_Mo tM_Mo tM_Mo_ok nM_Mo hown hw hS 0 rfl rfl 8 (by decide) (hts _ kM_Mo_38) (fun _ h => h) rfl rfl (Nat.le_of_ble_eq_true rfl) rfl d_MMo_run_2 (fun u_1 H locs eu_1 hw hS => ?_)
  have hf := hf.trans (nm_eq eu_1)
  refine lv_aload_n hx hb d_MMo_run_5 rfl (lv_at hl 0 rfl) ?_
  refine lv_aload_n hx hb d_MMo_run_6 rfl (lv_at hl 0 rfl) ?_
  refine va_get (v := .int (mF u_1 4)) hx hb hts iM_Mo hown hw.2.1 hw.1 0 rfl rfl 12 (by decide) (hts _ kM_Mo_34) (fun _ h => h) rfl d_MMo_run_7 ?_
  refine jn_cut hf (fun (K_3 : Bool → Option (Int32 × MS)) => ∀ (z_2 : Bool), ∀ (ls : Array Slot), lv_has ls 3 [(0, .ref (a 0)), (1, .int x1)] → some F = K_3 z_2 → W p l e rm_MMo_run st m args below meth c H locs 0 0 Q (F0 m 18 ls [.int (bI z_2), .ref (a 0)])) ?_ ?_
  · intro z_2 ls hl hf
    refine lv_iconst (v := (1 : Int32)) hx hb d_MMo_run_18 (by decide) ?_
    obtain ⟨z_5, u_4, ez_5, hf⟩ := bd2_inv hf
    refine z_wz' (r := z_5) (u' := u_4) (z_runV (As := [.int (bI z_2), .int (1 : Int32)]) (rest := []) ⟨hx, hb, hml, hown, hts⟩ (c_MMo_fails l D a k u_1 z_2 (1 : Int32) (z_5, u_4) ez_5) (qM_Mo_49 hts (by decide)) hw 0 rfl rfl hl.1 rfl (lv_room (Nat.le_of_ble_eq_true rfl)) d_MMo_run_19 hcs) hw hS (fun H locs hw hS => ?_)
    refine lv_if_ne (tgt := 50) hx hb d_MMo_run_22 (by decide) (fun c_6 => ?_) (fun c_6 => ?_)
    · have hf := hf.trans (if_neg c_6)
      refine lv_iconst (v := (0 : Int32)) hx hb d_MMo_run_50 (by decide) ?_
      exact hret (0 : Int32) _ _ _ _ _ d_MMo_run_51 hw hS (Option.some.inj hf)
    · have hf := hf.trans (if_pos c_6)
      refine lv_aload_n hx hb d_MMo_run_25 rfl (lv_at hl 0 rfl) ?_
      refine lv_iload_n hx hb d_MMo_run_26 rfl (lv_at hl 1 rfl) ?_
      refine lv_i2l (v := Int32.toInt64 x1) hx hb d_MMo_run_27 rfl ?_
      refine lv_lconst (v := 1) hx hb d_MMo_run_28 (by decide) ?_
      refine lv_ldc2 (v := (200 : Int64)) hx hb hown (hts _ kM_Mo_287) d_MMo_run_29 ?_
      obtain ⟨z_7, ez_7, hf⟩ := bd1_inv hf
      refine z_rV (V := .int (bI z_7)) (z_runS (As := [.long (Int32.toInt64 x1), .long (1 : Int64), .long (200 : Int64)]) (rest := [.ref (a 0)]) ⟨hx, hb, hml, hown, hts⟩ (c_MMo_in l D a k u_4 (Int32.toInt64 x1) (1 : Int64) (200 : Int64) z_7 ez_7) (qM_Mo_41 hts (by decide)) hw  hl.1 rfl (lv_room (Nat.le_of_ble_eq_true rfl)) d_MMo_run_32 hcs) ?_
      refine jn_cut hf (fun (K_9 : Bool → Option (Int32 × MS)) => ∀ (z_8 : Bool), ∀ (ls : Array Slot), lv_has ls 3 [(0, .ref (a 0)), (1, .int x1)] → some F = K_9 z_8 → W p l e rm_MMo_run st m args below meth c H locs 0 0 Q (F0 m 43 ls [.int (bI z_8), .ref (a 0)])) ?_ ?_
      · intro z_8 ls hl hf
        refine lv_iconst (v := (2 : Int32)) hx hb d_MMo_run_43 (by decide) ?_
        obtain ⟨z_11, u_10, ez_11, hf⟩ := bd2_inv hf
        refine z_wz' (r := z_11) (u' := u_10) (z_runV (As := [.int (bI z_8), .int (2 : Int32)]) (rest := []) ⟨hx, hb, hml, hown, hts⟩ (c_MMo_fails l D a k u_4 z_8 (2 : Int32) (z_11, u_10) ez_11) (qM_Mo_49 hts (by decide)) hw 0 rfl rfl hl.1 rfl (lv_room (Nat.le_of_ble_eq_true rfl)) d_MMo_run_44 hcs) hw hS (fun H locs hw hS => ?_)
        refine lv_if_eq (tgt := 52) hx hb d_MMo_run_47 (by decide) (fun c_12 => ?_) (fun c_12 => ?_)
        · have hf := hf.trans (if_pos c_12)
          refine lv_iconst (v := (0 : Int32)) hx hb d_MMo_run_52 (by decide) ?_
          refine lv_istore_n (lv' := [(2, .int (0 : Int32)), (0, .ref (a 0)), (1, .int x1)]) hx hb d_MMo_run_53 rfl hl (by decide) rfl (fun ls hl => ?_)
          refine jn_cut hf (fun (K_14 : MS → Option (Int32 × MS)) => ∀ (u_13 : MS), ∀ (H : Heap) (locs : List Loc), zW D clM (tyM k) nwM (mW a k) A st u_13 H → va_S A st.heap H locs → ∀ (ls : Array Slot), lv_has ls 3 [(0, .ref (a 0))] → some F = K_14 u_13 → W p l e rm_MMo_run st m args below meth c H locs 0 0 Q (F0 m 115 ls [])) ?_ ?_
          · intro u_13 H locs hw hS ls hl hf
            refine lv_aload_n hx hb d_MMo_run_115 rfl (lv_at hl 0 rfl) ?_
            refine lv_dup hx hb d_MMo_run_116 rfl ?_
            refine va_get (v := .int (mF u_13 6)) hx hb hts iM_Mo hown hw.2.1 hw.1 0 rfl rfl 14 (by decide) (hts _ kM_Mo_301) (fun _ h => h) rfl d_MMo_run_117 ?_
            refine lv_iconst (v := (1 : Int32)) hx hb d_MMo_run_120 (by decide) ?_
            refine lv_iadd hx hb d_MMo_run_121 ?_
            refine z_put (u' := msF u_13 6 ((mF u_13 6) + (1 : Int32))) hx hb hts iM_Mo tM_Mo tM_Mo_ok nM_Mo hown hw hS 0 rfl rfl 14 (by decide) (hts _ kM_Mo_301) (fun _ h => h) rfl rfl (Nat.le_of_ble_eq_true rfl) rfl d_MMo_run_122 (fun u_15 H locs eu_15 hw hS => ?_)
            have hf := hf.trans (nm_eq eu_15)
            refine lv_aload_n hx hb d_MMo_run_125 rfl (lv_at hl 0 rfl) ?_
            refine lv_aload_n hx hb d_MMo_run_126 rfl (lv_at hl 0 rfl) ?_
            refine va_get (v := .int (mF u_15 13)) hx hb hts iM_Mo hown hw.2.1 hw.1 0 rfl rfl 21 (by decide) (hts _ kM_Mo_86) (fun _ h => h) rfl d_MMo_run_127 ?_
            refine z_put (u' := msF u_15 7 (mF u_15 13)) hx hb hts iM_Mo tM_Mo tM_Mo_ok nM_Mo hown hw hS 0 rfl rfl 15 (by decide) (hts _ kM_Mo_304) (fun _ h => h) rfl rfl (Nat.le_of_ble_eq_true rfl) rfl d_MMo_run_130 (fun u_16 H locs eu_16 hw hS => ?_)
            have hf := hf.trans (nm_eq eu_16)
            refine lv_aload_n hx hb d_MMo_run_133 rfl (lv_at hl 0 rfl) ?_
            refine lv_iconst (v := (1 : Int32)) hx hb d_MMo_run_134 (by decide) ?_
            refine lv_aload_n hx hb d_MMo_run_135 rfl (lv_at hl 0 rfl) ?_
            refine va_get (v := .int (mF u_16 13)) hx hb hts iM_Mo hown hw.2.1 hw.1 0 rfl rfl 21 (by decide) (hts _ kM_Mo_86) (fun _ h => h) rfl d_MMo_run_136 ?_
            refine lv_iconst (v := (5 : Int32)) hx hb d_MMo_run_139 (by decide) ?_
            refine lv_icmp_ne (tgt := 147) hx hb d_MMo_run_140 (by decide) (fun c_17 => ?_) (fun c_17 => ?_)
            · have hf := hf.trans (if_neg c_17)
              refine lv_aload_n hx hb d_MMo_run_147 rfl (lv_at hl 0 rfl) ?_
              refine va_get (v := .int (mF u_16 13)) hx hb hts iM_Mo hown hw.2.1 hw.1 0 rfl rfl 21 (by decide) (hts _ kM_Mo_86) (fun _ h => h) rfl d_MMo_run_148 ?_
              refine lv_bipush (v := (7 : Int32)) hx hb d_MMo_run_151 (by decide) ?_
              refine lv_icmp_le (tgt := 160) hx hb d_MMo_run_153 (by decide) (fun c_18 => ?_) (fun c_18 => ?_)
              · have hf := hf.trans (if_pos c_18)
                refine lv_iconst (v := (2 : Int32)) hx hb d_MMo_run_160 (by decide) ?_
                obtain ⟨z_20, u_19, ez_20, hf⟩ := bd2_inv hf
                refine z_wz' (r := z_20) (u' := u_19) (z_runV (As := [.int (1 : Int32), .int (2 : Int32)]) (rest := []) ⟨hx, hb, hml, hown, hts⟩ (c_MMo_fails l D a k u_16 true (2 : Int32) (z_20, u_19) ez_20) (qM_Mo_49 hts (by decide)) hw 0 rfl rfl hl.1 rfl (lv_room (Nat.le_of_ble_eq_true rfl)) d_MMo_run_161 hcs) hw hS (fun H locs hw hS => ?_)
                refine lv_pop hx hb d_MMo_run_164 rfl ?_
                refine lv_iconst (v := (0 : Int32)) hx hb d_MMo_run_165 (by decide) ?_
                exact hret (0 : Int32) _ _ _ _ _ d_MMo_run_166 hw hS (Option.some.inj hf)
              · have hf := hf.trans (if_neg c_18)
                refine lv_iconst (v := (4 : Int32)) hx hb d_MMo_run_156 (by decide) ?_
                refine lv_goto (tgt := 161) hx hb d_MMo_run_157 (by decide) ?_
                obtain ⟨z_22, u_21, ez_22, hf⟩ := bd2_inv hf
                refine z_wz' (r := z_22) (u' := u_21) (z_runV (As := [.int (1 : Int32), .int (4 : Int32)]) (rest := []) ⟨hx, hb, hml, hown, hts⟩ (c_MMo_fails l D a k u_16 true (4 : Int32) (z_22, u_21) ez_22) (qM_Mo_49 hts (by decide)) hw 0 rfl rfl hl.1 rfl (lv_room (Nat.le_of_ble_eq_true rfl)) d_MMo_run_161 hcs) hw hS (fun H locs hw hS => ?_)
                refine lv_pop hx hb d_MMo_run_164 rfl ?_
                refine lv_iconst (v := (0 : Int32)) hx hb d_MMo_run_165 (by decide) ?_
                exact hret (0 : Int32) _ _ _ _ _ d_MMo_run_166 hw hS (Option.some.inj hf)
            · have hf := hf.trans (if_pos c_17)
              refine lv_iconst (v := (3 : Int32)) hx hb d_MMo_run_143 (by decide) ?_
              refine lv_goto (tgt := 161) hx hb d_MMo_run_144 (by decide) ?_
              obtain ⟨z_24, u_23, ez_24, hf⟩ := bd2_inv hf
              refine z_wz' (r := z_24) (u' := u_23) (z_runV (As := [.int (1 : Int32), .int (3 : Int32)]) (rest := []) ⟨hx, hb, hml, hown, hts⟩ (c_MMo_fails l D a k u_16 true (3 : Int32) (z_24, u_23) ez_24) (qM_Mo_49 hts (by decide)) hw 0 rfl rfl hl.1 rfl (lv_room (Nat.le_of_ble_eq_true rfl)) d_MMo_run_161 hcs) hw hS (fun H locs hw hS => ?_)
              refine lv_pop hx hb d_MMo_run_164 rfl ?_
              refine lv_iconst (v := (0 : Int32)) hx hb d_MMo_run_165 (by decide) ?_
              exact hret (0 : Int32) _ _ _ _ _ d_MMo_run_166 hw hS (Option.some.inj hf)
          · intro K_14 hK_14 hf
            refine lp_cut (fun (_ : Nat) (L_27 : Int32 → MS → Option (Int32 × MS)) => ∀ (x_25 : Int32) (u_26 : MS), ∀ (H : Heap) (locs : List Loc), zW D clM (tyM k) nwM (mW a k) A st u_26 H → va_S A st.heap H locs → ∀ (ls : Array Slot), lv_has ls 3 [(0, .ref (a 0)), (1, .int x1), (2, .int x_25)] → some F = L_27 x_25 u_26 → W p l e rm_MMo_run st m args below meth c H locs 0 0 Q (F0 m 54 ls [])) ?_ ?_ fuelM (0 : Int32) u_10 _ _ hw hS _ (lv_sub hl [1, 2, 0] rfl) hf
            · intro _ _ _ _ _ _ _ _ hf; cases hf
            · intro _ L_27 hL_27 x_25 u_26 H locs hw hS ls hl hf
              unfold g_MMo_run_54 at hf
              refine lv_iload_n hx hb d_MMo_run_54 rfl (lv_at hl 2 rfl) ?_
              refine lv_iload_n hx hb d_MMo_run_55 rfl (lv_at hl 1 rfl) ?_
              refine lv_icmp_ge (tgt := 167) hx hb d_MMo_run_56 (by decide) (fun c_28 => ?_) (fun c_28 => ?_)
              · have hf := hf.trans (if_pos c_28)
                refine lv_iload_n hx hb d_MMo_run_167 rfl (lv_at hl 2 rfl) ?_
                exact hret x_25 _ _ _ _ _ d_MMo_run_168 hw hS (Option.some.inj hf)
              · have hf := hf.trans (if_neg c_28)
                refine lv_aload_n hx hb d_MMo_run_59 rfl (lv_at hl 0 rfl) ?_
                refine va_get (v := .int (mF u_26 4)) hx hb hts iM_Mo hown hw.2.1 hw.1 0 rfl rfl 12 (by decide) (hts _ kM_Mo_34) (fun _ h => h) rfl d_MMo_run_60 ?_
                refine lv_if_ge (tgt := 167) hx hb d_MMo_run_63 (by decide) (fun c_29 => ?_) (fun c_29 => ?_)
                · have hf := hf.trans (if_pos c_29)
                  refine lv_iload_n hx hb d_MMo_run_167 rfl (lv_at hl 2 rfl) ?_
                  exact hret x_25 _ _ _ _ _ d_MMo_run_168 hw hS (Option.some.inj hf)
                · have hf := hf.trans (if_neg c_29)
                  refine lv_aload_n hx hb d_MMo_run_66 rfl (lv_at hl 0 rfl) ?_
                  obtain ⟨u_30, eu_30, hf⟩ := bd1_inv hf
                  refine z_wv' (u' := u_30) (z_runV (As := []) (rest := []) ⟨hx, hb, hml, hown, hts⟩ (c_MMo_decodes l D a k u_26 u_30 eu_30) (qM_Mo_289 hts (by decide)) hw 0 rfl rfl hl.1 rfl (lv_room (Nat.le_of_ble_eq_true rfl)) d_MMo_run_67 hcs) hw hS (fun H locs hw hS => ?_)
                  refine lv_aload_n hx hb d_MMo_run_70 rfl (lv_at hl 0 rfl) ?_
                  refine va_get (v := .int (mF u_30 13)) hx hb hts iM_Mo hown hw.2.1 hw.1 0 rfl rfl 21 (by decide) (hts _ kM_Mo_86) (fun _ h => h) rfl d_MMo_run_71 ?_
                  refine jn_cut hf (fun (K_32 : MS → Option (Int32 × MS)) => ∀ (u_31 : MS), ∀ (H : Heap) (locs : List Loc), zW D clM (tyM k) nwM (mW a k) A st u_31 H → va_S A st.heap H locs → ∀ (ls : Array Slot), lv_has ls 3 [(0, .ref (a 0)), (1, .int x1), (2, .int x_25)] → some F = K_32 u_31 → W p l e rm_MMo_run st m args below meth c H locs 0 0 Q (F0 m 81 ls [])) ?_ ?_
                  · intro u_31 H locs hw hS ls hl hf
                    refine lv_aload_n hx hb d_MMo_run_81 rfl (lv_at hl 0 rfl) ?_
                    refine va_get (v := .int (mF u_31 13)) hx hb hts iM_Mo hown hw.2.1 hw.1 0 rfl rfl 21 (by decide) (hts _ kM_Mo_86) (fun _ h => h) rfl d_MMo_run_82 ?_
                    refine jn_cut hf (fun (K_35 : Int32 → MS → Option (Int32 × MS)) => ∀ (x_33 : Int32) (u_34 : MS), ∀ (H : Heap) (locs : List Loc), zW D clM (tyM k) nwM (mW a k) A st u_34 H → va_S A st.heap H locs → ∀ (ls : Array Slot), lv_has ls 3 [(0, .ref (a 0)), (1, .int x1), (2, .int x_33)] → some F = K_35 x_33 u_34 → W p l e rm_MMo_run st m args below meth c H locs 0 0 Q (F0 m 105 ls [])) ?_ ?_
                    · intro x_33 u_34 H locs hw hS ls hl hf
                      refine lv_aload_n hx hb d_MMo_run_105 rfl (lv_at hl 0 rfl) ?_
                      refine va_get (v := .int (mF u_34 13)) hx hb hts iM_Mo hown hw.2.1 hw.1 0 rfl rfl 21 (by decide) (hts _ kM_Mo_86) (fun _ h => h) rfl d_MMo_run_106 ?_
                      refine lv_if_ne (tgt := 115) hx hb d_MMo_run_109 (by decide) (fun c_36 => ?_) (fun c_36 => ?_)
                      · have hf := hf.trans (if_neg c_36)
                        exact hK_14 u_34 _ _ hw hS _ (lv_sub hl [0] rfl) hf
                      · have hf := hf.trans (if_pos c_36)
                        refine lv_goto (tgt := 54) hx hb d_MMo_run_112 (by decide) ?_
                        exact hL_27 x_33 u_34 _ _ hw hS _ (lv_sub hl [0, 1, 2] rfl) hf
                    · intro K_35 hK_35 hf
                      refine lv_if_ne (tgt := 105) hx hb d_MMo_run_85 (by decide) (fun c_37 => ?_) (fun c_37 => ?_)
                      · have hf := hf.trans (if_neg c_37)
                        exact hK_35 x_25 u_31 _ _ hw hS _ (lv_sub hl [0, 1, 2] rfl) hf
                      · have hf := hf.trans (if_pos c_37)
                        refine lv_aload_n hx hb d_MMo_run_88 rfl (lv_at hl 0 rfl) ?_
                        obtain ⟨u_38, eu_38, hf⟩ := bd1_inv hf
                        refine z_wv' (u' := u_38) (z_runV (As := []) (rest := []) ⟨hx, hb, hml, hown, hts⟩ (c_MMo_acts l D a k u_31 u_38 eu_38) (qM_Mo_295 hts (by decide)) hw 0 rfl rfl hl.1 rfl (lv_room (Nat.le_of_ble_eq_true rfl)) d_MMo_run_89 hcs) hw hS (fun H locs hw hS => ?_)
                        refine lv_aload_n hx hb d_MMo_run_92 rfl (lv_at hl 0 rfl) ?_
                        refine lv_dup hx hb d_MMo_run_93 rfl ?_
                        refine va_get (v := .int (mF u_38 5)) hx hb hts iM_Mo hown hw.2.1 hw.1 0 rfl rfl 13 (by decide) (hts _ kM_Mo_298) (fun _ h => h) rfl d_MMo_run_94 ?_
                        refine lv_iconst (v := (1 : Int32)) hx hb d_MMo_run_97 (by decide) ?_
                        refine lv_iadd hx hb d_MMo_run_98 ?_
                        refine z_put (u' := msF u_38 5 ((mF u_38 5) + (1 : Int32))) hx hb hts iM_Mo tM_Mo tM_Mo_ok nM_Mo hown hw hS 0 rfl rfl 13 (by decide) (hts _ kM_Mo_298) (fun _ h => h) rfl rfl (Nat.le_of_ble_eq_true rfl) rfl d_MMo_run_99 (fun u_39 H locs eu_39 hw hS => ?_)
                        have hf := hf.trans (nm_eq eu_39)
                        obtain ⟨x_40, ex_40⟩ : ∃ y : Int32, y = x_25 + (1 : Int32) := ⟨_, rfl⟩
                        have hf := hf.trans (nm_eq ex_40)
                        refine lv_iinc (v := x_40) (lv' := [(2, .int x_40), (0, .ref (a 0)), (1, .int x1)]) hx hb d_MMo_run_102 hl (k := 2) rfl (by rw [ex_40]; rfl) (by decide) rfl (fun ls hl => ?_)
                        exact hK_35 x_40 u_39 _ _ hw hS _ (lv_sub hl [1, 2, 0] rfl) hf
                  · intro K_32 hK_32 hf
                    refine lv_if_ne (tgt := 81) hx hb d_MMo_run_74 (by decide) (fun c_41 => ?_) (fun c_41 => ?_)
                    · have hf := hf.trans (if_neg c_41)
                      exact hK_32 u_30 _ _ hw hS _ (lv_sub hl [0, 1, 2] rfl) hf
                    · have hf := hf.trans (if_pos c_41)
                      refine lv_aload_n hx hb d_MMo_run_77 rfl (lv_at hl 0 rfl) ?_
                      obtain ⟨u_42, eu_42, hf⟩ := bd1_inv hf
                      refine z_wv' (u' := u_42) (z_runV (As := []) (rest := []) ⟨hx, hb, hml, hown, hts⟩ (c_MMo_looks l D a k u_30 u_42 eu_42) (qM_Mo_292 hts (by decide)) hw 0 rfl rfl hl.1 rfl (lv_room (Nat.le_of_ble_eq_true rfl)) d_MMo_run_78 hcs) hw hS (fun H locs hw hS => ?_)
                      exact hK_32 u_42 _ _ hw hS _ (lv_sub hl [0, 1, 2] rfl) hf
        · have hf := hf.trans (if_neg c_12)
          refine lv_iconst (v := (0 : Int32)) hx hb d_MMo_run_50 (by decide) ?_
          exact hret (0 : Int32) _ _ _ _ _ d_MMo_run_51 hw hS (Option.some.inj hf)
      · intro K_9 hK_9 hf
        refine lv_if_ne (tgt := 42) hx hb d_MMo_run_35 (by decide) (fun c_43 => ?_) (fun c_43 => ?_)
        · have hf := hf.trans (if_neg c_43)
          refine lv_iconst (v := (0 : Int32)) hx hb d_MMo_run_42 (by decide) ?_
          exact hK_9 false _ (lv_sub hl [0, 1] rfl) hf
        · have hf := hf.trans (if_pos c_43)
          refine lv_iconst (v := (1 : Int32)) hx hb d_MMo_run_38 (by decide) ?_
          refine lv_goto (tgt := 43) hx hb d_MMo_run_39 (by decide) ?_
          exact hK_9 true _ (lv_sub hl [0, 1] rfl) hf
  · intro K_3 hK_3 hf
    refine lv_if_lt (tgt := 17) hx hb d_MMo_run_10 (by decide) (fun c_44 => ?_) (fun c_44 => ?_)
    · have hf := hf.trans (if_pos c_44)
      refine lv_iconst (v := (0 : Int32)) hx hb d_MMo_run_17 (by decide) ?_
      exact hK_3 false _ (lv_sub hl [0, 1] rfl) hf
    · have hf := hf.trans (if_neg c_44)
      refine lv_iconst (v := (1 : Int32)) hx hb d_MMo_run_13 (by decide) ?_
      refine lv_goto (tgt := 18) hx hb d_MMo_run_14 (by decide) ?_
      exact hK_3 true _ (lv_sub hl [0, 1] rfl) hf
