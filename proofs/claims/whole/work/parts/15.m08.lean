set_option maxHeartbeats 4000000 in
set_option maxRecDepth 100000 in
theorem c_MMo_reckons (l : Launch) (D : va_G) (a : Nat → Nat) (k : Nat → ClassId) (u0 : MS) (x1 : Int32) (x2 : Int32) (x3 : Int32) (F : MS) (hf : f_MMo_reckons u0 x1 x2 x3 = some F) : zMv l y_MMo_reckons w_MMo_reckons rm_MMo_reckons D clM (tyM k) nwM (mW a k) [.ref (a 0), .int x1, .int x2, .int x3] u0 F := by
  have hf := hf.symm
  unfold f_MMo_reckons at hf
  refine zMv_of (cc := b_MMo_reckons) (maxL := 9) (own := RM_Mo) (by decide) rfl rfl (Nat.le_of_ble_eq_true rfl) ?_
  intro p e R st m args below meth c A H locs Q ls hR hx hb hml hown hts hw hS hret hl
  subst hR
  have hcs : 0 ≤ (rm_MMo_reckons).cells ∧ 0 ≤ (rm_MMo_reckons).slots := ⟨Nat.zero_le _, Nat.zero_le _⟩
  have hl : lv_has ls 9 [(0, .ref (a 0)), (1, .int x1), (2, .int x2), (3, .int x3)] := hl
  refine lv_aload_n hx hb d_MMo_reckons_0 rfl (lv_at hl 0 rfl) ?_
  refine va_get (v := .ref (a 2)) hx hb hts iM_Mo hown hw.2.1 hw.1 0 rfl rfl 1 (by decide) (hts _ kM_Mo_13) (fun _ h => h) rfl d_MMo_reckons_1 ?_
  refine lv_iload_n hx hb d_MMo_reckons_4 rfl (lv_at hl 2 rfl) ?_
  obtain ⟨i_1, hf⟩ := ckI_inv hf
  refine va_iald hx hb hw.2.1 hw.1 2 1 rfl rfl i_1 d_MMo_reckons_5 ?_
  refine lv_topi (fun x_2 ex_2 => ?_)
  have hf := hf.trans (nm_eq ex_2)
  refine lv_istore (lv' := [(4, .int x_2), (0, .ref (a 0)), (1, .int x1), (2, .int x2), (3, .int x3)]) hx hb d_MMo_reckons_6 hl (by decide) rfl (fun ls hl => ?_)
  refine lv_iload_n hx hb d_MMo_reckons_8 rfl (lv_at hl 2 rfl) ?_
  refine jn_cut hf (fun (K_3 : Option (MS)) => ∀ (ls : Array Slot), lv_has ls 9 [(0, .ref (a 0)), (2, .int x2), (3, .int x3), (4, .int x_2)] → some F = K_3 → W p l e rm_MMo_reckons st m args below meth c H locs 0 0 Q (F0 m 317 ls [])) ?_ ?_
  · intro ls hl hf
    refine lv_iload hx hb d_MMo_reckons_317 (lv_at hl 3 rfl) ?_
    refine lv_i2l (v := Int32.toInt64 x_2) hx hb d_MMo_reckons_319 rfl ?_
    refine lv_bipush (v := (32 : Int32)) hx hb d_MMo_reckons_320 (by decide) ?_
    refine lv_lshl (v := (Int32.toInt64 x_2) <<< (Int32.toInt64 (32 : Int32) &&& 63)) hx hb d_MMo_reckons_322 rfl ?_
    refine lv_aload_n hx hb d_MMo_reckons_323 rfl (lv_at hl 0 rfl) ?_
    refine va_get (v := .ref (a 2)) hx hb hts iM_Mo hown hw.2.1 hw.1 0 rfl rfl 1 (by decide) (hts _ kM_Mo_13) (fun _ h => h) rfl d_MMo_reckons_324 ?_
    refine lv_iload_n hx hb d_MMo_reckons_327 rfl (lv_at hl 1 rfl) ?_
    refine lv_iconst (v := (1 : Int32)) hx hb d_MMo_reckons_328 (by decide) ?_
    refine lv_iadd hx hb d_MMo_reckons_329 ?_
    obtain ⟨i_4, hf⟩ := ckI_inv hf
    refine va_iald hx hb hw.2.1 hw.1 2 1 rfl rfl i_4 d_MMo_reckons_330 ?_
    obtain ⟨y_5, ey_5, hf⟩ := bd1_inv hf
    refine z_rV (V := .long y_5) (z_runS (As := [.int (mA u0 2 (Int32.toNatClampNeg (x2 + (1 : Int32))))]) (rest := [.long ((Int32.toInt64 x_2) <<< (Int32.toInt64 (32 : Int32) &&& 63))]) ⟨hx, hb, hml, hown, hts⟩ (c_MMo_bare l D a k u0 (mA u0 2 (Int32.toNatClampNeg (x2 + (1 : Int32)))) y_5 ey_5) (qM_Mo_235 hts (by decide)) hw  hl.1 rfl (lv_room (Nat.le_of_ble_eq_true rfl)) d_MMo_reckons_331 hcs) ?_
    refine lv_lor hx hb d_MMo_reckons_334 ?_
    refine lv_topl (fun y_6 ey_6 => ?_)
    have hf := hf.trans (nm_eq ey_6)
    refine lv_lstore (lv' := [(7, .long y_6), (0, .ref (a 0)), (2, .int x2), (3, .int x3), (4, .int x_2)]) hx hb d_MMo_reckons_335 hl (by decide) rfl (fun ls hl => ?_)
    refine lv_aload_n hx hb d_MMo_reckons_337 rfl (lv_at hl 1 rfl) ?_
    refine va_get (v := .ref (a 2)) hx hb hts iM_Mo hown hw.2.1 hw.1 0 rfl rfl 1 (by decide) (hts _ kM_Mo_13) (fun _ h => h) rfl d_MMo_reckons_338 ?_
    refine lv_iload_n hx hb d_MMo_reckons_341 rfl (lv_at hl 2 rfl) ?_
    refine lv_lload hx hb d_MMo_reckons_342 (lv_at hl 0 rfl) ?_
    refine lv_iload_n hx hb d_MMo_reckons_344 rfl (lv_at hl 3 rfl) ?_
    refine lv_i2l (v := Int32.toInt64 x3) hx hb d_MMo_reckons_345 rfl ?_
    obtain ⟨i_7, hf⟩ := ckN64_inv hf
    refine lv_lrem hx hb d_MMo_reckons_346 i_7 ?_
    refine lv_l2i (v := Int64.toInt32 (y_6 - y_6 / (Int32.toInt64 x3) * (Int32.toInt64 x3))) hx hb d_MMo_reckons_347 rfl ?_
    obtain ⟨i_9, hf⟩ := ckI_inv hf
    refine z_iast (u' := msA u0 2 (Int32.toNatClampNeg x2) (Int64.toInt32 (y_6 - y_6 / (Int32.toInt64 x3) * (Int32.toInt64 x3)))) hx hb hw hS 2 1 rfl rfl i_9 rfl d_MMo_reckons_348 (fun u_8 H locs eu_8 hw hS => ?_)
    have hf := hf.trans (nm_eq eu_8)
    refine lv_aload_n hx hb d_MMo_reckons_349 rfl (lv_at hl 1 rfl) ?_
    refine va_get (v := .ref (a 2)) hx hb hts iM_Mo hown hw.2.1 hw.1 0 rfl rfl 1 (by decide) (hts _ kM_Mo_13) (fun _ h => h) rfl d_MMo_reckons_350 ?_
    refine lv_iload_n hx hb d_MMo_reckons_353 rfl (lv_at hl 2 rfl) ?_
    refine lv_iconst (v := (1 : Int32)) hx hb d_MMo_reckons_354 (by decide) ?_
    refine lv_iadd hx hb d_MMo_reckons_355 ?_
    refine lv_lload hx hb d_MMo_reckons_356 (lv_at hl 0 rfl) ?_
    refine lv_iload_n hx hb d_MMo_reckons_358 rfl (lv_at hl 3 rfl) ?_
    refine lv_i2l (v := Int32.toInt64 x3) hx hb d_MMo_reckons_359 rfl ?_
    obtain ⟨i_10, hf⟩ := ckN64_inv hf
    refine lv_ldiv hx hb d_MMo_reckons_360 i_10 ?_
    refine lv_l2i (v := Int64.toInt32 (y_6 / (Int32.toInt64 x3))) hx hb d_MMo_reckons_361 rfl ?_
    obtain ⟨i_12, hf⟩ := ckI_inv hf
    refine z_iast (u' := msA u_8 2 (Int32.toNatClampNeg (x2 + (1 : Int32))) (Int64.toInt32 (y_6 / (Int32.toInt64 x3)))) hx hb hw hS 2 1 rfl rfl i_12 rfl d_MMo_reckons_362 (fun u_11 H locs eu_11 hw hS => ?_)
    have hf := hf.trans (nm_eq eu_11)
    exact hret _ _ _ _ _ d_MMo_reckons_363 hw hS (Option.some.inj hf)
  · intro K_3 hK_3 hf
    by_cases c_13 : x1 = (84 : Int32)
    · have hf := hf.trans (if_pos c_13)
      refine lv_tableIn (off := 63) (tgt := 72) hx hb d_MMo_reckons_9 (by rw [c_13]; decide +kernel) (by rw [c_13]; decide +kernel) (by rw [c_13]; decide +kernel) (by decide) ?_
      refine lv_aload_n hx hb d_MMo_reckons_72 rfl (lv_at hl 1 rfl) ?_
      refine va_get (v := .ref (a 2)) hx hb hts iM_Mo hown hw.2.1 hw.1 0 rfl rfl 1 (by decide) (hts _ kM_Mo_13) (fun _ h => h) rfl d_MMo_reckons_73 ?_
      refine lv_iload_n hx hb d_MMo_reckons_76 rfl (lv_at hl 3 rfl) ?_
      refine lv_iload hx hb d_MMo_reckons_77 (lv_at hl 0 rfl) ?_
      refine lv_iload_n hx hb d_MMo_reckons_79 rfl (lv_at hl 4 rfl) ?_
      refine lv_iand hx hb d_MMo_reckons_80 ?_
      obtain ⟨i_15, hf⟩ := ckI_inv hf
      refine z_iast (u' := msA u0 2 (Int32.toNatClampNeg x2) (x_2 &&& x3)) hx hb hw hS 2 1 rfl rfl i_15 rfl d_MMo_reckons_81 (fun u_14 H locs eu_14 hw hS => ?_)
      have hf := hf.trans (nm_eq eu_14)
      refine lv_aload_n hx hb d_MMo_reckons_82 rfl (lv_at hl 1 rfl) ?_
      refine lv_aload_n hx hb d_MMo_reckons_83 rfl (lv_at hl 1 rfl) ?_
      refine va_get (v := .ref (a 2)) hx hb hts iM_Mo hown hw.2.1 hw.1 0 rfl rfl 1 (by decide) (hts _ kM_Mo_13) (fun _ h => h) rfl d_MMo_reckons_84 ?_
      refine lv_iload_n hx hb d_MMo_reckons_87 rfl (lv_at hl 3 rfl) ?_
      obtain ⟨i_16, hf⟩ := ckI_inv hf
      refine va_iald hx hb hw.2.1 hw.1 2 1 rfl rfl i_16 d_MMo_reckons_88 ?_
      refine lv_if_ne (tgt := 96) hx hb d_MMo_reckons_89 (by decide) (fun c_17 => ?_) (fun c_17 => ?_)
      · have hf := hf.trans (if_neg c_17)
        refine lv_iconst (v := (1 : Int32)) hx hb d_MMo_reckons_96 (by decide) ?_
        refine z_put (u' := msF u_14 1 (1 : Int32)) hx hb hts iM_Mo tM_Mo tM_Mo_ok nM_Mo hown hw hS 0 rfl rfl 9 (by decide) (hts _ kM_Mo_73) (fun _ h => h) rfl rfl (Nat.le_of_ble_eq_true rfl) rfl d_MMo_reckons_97 (fun u_18 H locs eu_18 hw hS => ?_)
        have hf := hf.trans (nm_eq eu_18)
        refine lv_goto (tgt := 363) hx hb d_MMo_reckons_100 (by decide) ?_
        exact hret _ _ _ _ _ d_MMo_reckons_363 hw hS (Option.some.inj hf)
      · have hf := hf.trans (if_pos c_17)
        refine lv_iconst (v := (0 : Int32)) hx hb d_MMo_reckons_92 (by decide) ?_
        refine lv_goto (tgt := 97) hx hb d_MMo_reckons_93 (by decide) ?_
        refine z_put (u' := msF u_14 1 (0 : Int32)) hx hb hts iM_Mo tM_Mo tM_Mo_ok nM_Mo hown hw hS 0 rfl rfl 9 (by decide) (hts _ kM_Mo_73) (fun _ h => h) rfl rfl (Nat.le_of_ble_eq_true rfl) rfl d_MMo_reckons_97 (fun u_19 H locs eu_19 hw hS => ?_)
        have hf := hf.trans (nm_eq eu_19)
        refine lv_goto (tgt := 363) hx hb d_MMo_reckons_100 (by decide) ?_
        exact hret _ _ _ _ _ d_MMo_reckons_363 hw hS (Option.some.inj hf)
    have hf := hf.trans (if_neg c_13)
    by_cases c_20 : x1 = (85 : Int32)
    · have hf := hf.trans (if_pos c_20)
      refine lv_tableIn (off := 156) (tgt := 165) hx hb d_MMo_reckons_9 (by rw [c_20]; decide +kernel) (by rw [c_20]; decide +kernel) (by rw [c_20]; decide +kernel) (by decide) ?_
      refine lv_aload_n hx hb d_MMo_reckons_165 rfl (lv_at hl 1 rfl) ?_
      refine lv_iload hx hb d_MMo_reckons_166 (lv_at hl 0 rfl) ?_
      obtain ⟨y_21, ey_21, hf⟩ := bd1_inv hf
      refine z_rV (V := .long y_21) (z_runS (As := [.int x_2]) (rest := [.ref (a 0)]) ⟨hx, hb, hml, hown, hts⟩ (c_MMo_bare l D a k u0 x_2 y_21 ey_21) (qM_Mo_235 hts (by decide)) hw  hl.1 rfl (lv_room (Nat.le_of_ble_eq_true rfl)) d_MMo_reckons_168 hcs) ?_
      refine lv_iload_n hx hb d_MMo_reckons_171 rfl (lv_at hl 4 rfl) ?_
      obtain ⟨y_22, ey_22, hf⟩ := bd1_inv hf
      refine z_rV (V := .long y_22) (z_runS (As := [.int x3]) (rest := [.long y_21, .ref (a 0)]) ⟨hx, hb, hml, hown, hts⟩ (c_MMo_bare l D a k u0 x3 y_22 ey_22) (qM_Mo_235 hts (by decide)) hw  hl.1 rfl (lv_room (Nat.le_of_ble_eq_true rfl)) d_MMo_reckons_172 hcs) ?_
      obtain ⟨x_23, ex_23, hf⟩ := bd1_inv hf
      refine z_rV (V := .int x_23) (z_runS (As := [.long y_21, .long y_22]) (rest := [.ref (a 0)]) ⟨hx, hb, hml, hown, hts⟩ (c_MMo_order l D a k u0 y_21 y_22 x_23 ex_23) (qM_Mo_239 hts (by decide)) hw  hl.1 rfl (lv_room (Nat.le_of_ble_eq_true rfl)) d_MMo_reckons_175 hcs) ?_
      refine z_put (u' := msF u0 1 x_23) hx hb hts iM_Mo tM_Mo tM_Mo_ok nM_Mo hown hw hS 0 rfl rfl 9 (by decide) (hts _ kM_Mo_73) (fun _ h => h) rfl rfl (Nat.le_of_ble_eq_true rfl) rfl d_MMo_reckons_178 (fun u_24 H locs eu_24 hw hS => ?_)
      have hf := hf.trans (nm_eq eu_24)
      refine lv_goto (tgt := 363) hx hb d_MMo_reckons_181 (by decide) ?_
      exact hret _ _ _ _ _ d_MMo_reckons_363 hw hS (Option.some.inj hf)
    have hf := hf.trans (if_neg c_20)
    by_cases c_25 : x1 = (86 : Int32)
    · have hf := hf.trans (if_pos c_25)
      refine lv_tableIn (off := 94) (tgt := 103) hx hb d_MMo_reckons_9 (by rw [c_25]; decide +kernel) (by rw [c_25]; decide +kernel) (by rw [c_25]; decide +kernel) (by decide) ?_
      refine lv_aload_n hx hb d_MMo_reckons_103 rfl (lv_at hl 1 rfl) ?_
      refine va_get (v := .ref (a 2)) hx hb hts iM_Mo hown hw.2.1 hw.1 0 rfl rfl 1 (by decide) (hts _ kM_Mo_13) (fun _ h => h) rfl d_MMo_reckons_104 ?_
      refine lv_iload_n hx hb d_MMo_reckons_107 rfl (lv_at hl 3 rfl) ?_
      refine lv_iload hx hb d_MMo_reckons_108 (lv_at hl 0 rfl) ?_
      refine lv_iload_n hx hb d_MMo_reckons_110 rfl (lv_at hl 4 rfl) ?_
      refine lv_ior hx hb d_MMo_reckons_111 ?_
      obtain ⟨i_27, hf⟩ := ckI_inv hf
      refine z_iast (u' := msA u0 2 (Int32.toNatClampNeg x2) (x_2 ||| x3)) hx hb hw hS 2 1 rfl rfl i_27 rfl d_MMo_reckons_112 (fun u_26 H locs eu_26 hw hS => ?_)
      have hf := hf.trans (nm_eq eu_26)
      refine lv_aload_n hx hb d_MMo_reckons_113 rfl (lv_at hl 1 rfl) ?_
      refine lv_aload_n hx hb d_MMo_reckons_114 rfl (lv_at hl 1 rfl) ?_
      refine va_get (v := .ref (a 2)) hx hb hts iM_Mo hown hw.2.1 hw.1 0 rfl rfl 1 (by decide) (hts _ kM_Mo_13) (fun _ h => h) rfl d_MMo_reckons_115 ?_
      refine lv_iload_n hx hb d_MMo_reckons_118 rfl (lv_at hl 3 rfl) ?_
      obtain ⟨i_28, hf⟩ := ckI_inv hf
      refine va_iald hx hb hw.2.1 hw.1 2 1 rfl rfl i_28 d_MMo_reckons_119 ?_
      refine lv_if_ne (tgt := 127) hx hb d_MMo_reckons_120 (by decide) (fun c_29 => ?_) (fun c_29 => ?_)
      · have hf := hf.trans (if_neg c_29)
        refine lv_iconst (v := (1 : Int32)) hx hb d_MMo_reckons_127 (by decide) ?_
        refine z_put (u' := msF u_26 1 (1 : Int32)) hx hb hts iM_Mo tM_Mo tM_Mo_ok nM_Mo hown hw hS 0 rfl rfl 9 (by decide) (hts _ kM_Mo_73) (fun _ h => h) rfl rfl (Nat.le_of_ble_eq_true rfl) rfl d_MMo_reckons_128 (fun u_30 H locs eu_30 hw hS => ?_)
        have hf := hf.trans (nm_eq eu_30)
        refine lv_goto (tgt := 363) hx hb d_MMo_reckons_131 (by decide) ?_
        exact hret _ _ _ _ _ d_MMo_reckons_363 hw hS (Option.some.inj hf)
      · have hf := hf.trans (if_pos c_29)
        refine lv_iconst (v := (0 : Int32)) hx hb d_MMo_reckons_123 (by decide) ?_
        refine lv_goto (tgt := 128) hx hb d_MMo_reckons_124 (by decide) ?_
        refine z_put (u' := msF u_26 1 (0 : Int32)) hx hb hts iM_Mo tM_Mo tM_Mo_ok nM_Mo hown hw hS 0 rfl rfl 9 (by decide) (hts _ kM_Mo_73) (fun _ h => h) rfl rfl (Nat.le_of_ble_eq_true rfl) rfl d_MMo_reckons_128 (fun u_31 H locs eu_31 hw hS => ?_)
        have hf := hf.trans (nm_eq eu_31)
        refine lv_goto (tgt := 363) hx hb d_MMo_reckons_131 (by decide) ?_
        exact hret _ _ _ _ _ d_MMo_reckons_363 hw hS (Option.some.inj hf)
    have hf := hf.trans (if_neg c_25)
    by_cases c_32 : x1 = (87 : Int32)
    · have hf := hf.trans (if_pos c_32)
      refine lv_tableIn (off := 125) (tgt := 134) hx hb d_MMo_reckons_9 (by rw [c_32]; decide +kernel) (by rw [c_32]; decide +kernel) (by rw [c_32]; decide +kernel) (by decide) ?_
      refine lv_aload_n hx hb d_MMo_reckons_134 rfl (lv_at hl 1 rfl) ?_
      refine va_get (v := .ref (a 2)) hx hb hts iM_Mo hown hw.2.1 hw.1 0 rfl rfl 1 (by decide) (hts _ kM_Mo_13) (fun _ h => h) rfl d_MMo_reckons_135 ?_
      refine lv_iload_n hx hb d_MMo_reckons_138 rfl (lv_at hl 3 rfl) ?_
      refine lv_iload hx hb d_MMo_reckons_139 (lv_at hl 0 rfl) ?_
      refine lv_iload_n hx hb d_MMo_reckons_141 rfl (lv_at hl 4 rfl) ?_
      refine lv_ixor hx hb d_MMo_reckons_142 ?_
      obtain ⟨i_34, hf⟩ := ckI_inv hf
      refine z_iast (u' := msA u0 2 (Int32.toNatClampNeg x2) (x_2 ^^^ x3)) hx hb hw hS 2 1 rfl rfl i_34 rfl d_MMo_reckons_143 (fun u_33 H locs eu_33 hw hS => ?_)
      have hf := hf.trans (nm_eq eu_33)
      refine lv_aload_n hx hb d_MMo_reckons_144 rfl (lv_at hl 1 rfl) ?_
      refine lv_aload_n hx hb d_MMo_reckons_145 rfl (lv_at hl 1 rfl) ?_
      refine va_get (v := .ref (a 2)) hx hb hts iM_Mo hown hw.2.1 hw.1 0 rfl rfl 1 (by decide) (hts _ kM_Mo_13) (fun _ h => h) rfl d_MMo_reckons_146 ?_
      refine lv_iload_n hx hb d_MMo_reckons_149 rfl (lv_at hl 3 rfl) ?_
      obtain ⟨i_35, hf⟩ := ckI_inv hf
      refine va_iald hx hb hw.2.1 hw.1 2 1 rfl rfl i_35 d_MMo_reckons_150 ?_
      refine lv_if_ne (tgt := 158) hx hb d_MMo_reckons_151 (by decide) (fun c_36 => ?_) (fun c_36 => ?_)
      · have hf := hf.trans (if_neg c_36)
        refine lv_iconst (v := (1 : Int32)) hx hb d_MMo_reckons_158 (by decide) ?_
        refine z_put (u' := msF u_33 1 (1 : Int32)) hx hb hts iM_Mo tM_Mo tM_Mo_ok nM_Mo hown hw hS 0 rfl rfl 9 (by decide) (hts _ kM_Mo_73) (fun _ h => h) rfl rfl (Nat.le_of_ble_eq_true rfl) rfl d_MMo_reckons_159 (fun u_37 H locs eu_37 hw hS => ?_)
        have hf := hf.trans (nm_eq eu_37)
        refine lv_goto (tgt := 363) hx hb d_MMo_reckons_162 (by decide) ?_
        exact hret _ _ _ _ _ d_MMo_reckons_363 hw hS (Option.some.inj hf)
      · have hf := hf.trans (if_pos c_36)
        refine lv_iconst (v := (0 : Int32)) hx hb d_MMo_reckons_154 (by decide) ?_
        refine lv_goto (tgt := 159) hx hb d_MMo_reckons_155 (by decide) ?_
        refine z_put (u' := msF u_33 1 (0 : Int32)) hx hb hts iM_Mo tM_Mo tM_Mo_ok nM_Mo hown hw hS 0 rfl rfl 9 (by decide) (hts _ kM_Mo_73) (fun _ h => h) rfl rfl (Nat.le_of_ble_eq_true rfl) rfl d_MMo_reckons_159 (fun u_38 H locs eu_38 hw hS => ?_)
        have hf := hf.trans (nm_eq eu_38)
        refine lv_goto (tgt := 363) hx hb d_MMo_reckons_162 (by decide) ?_
        exact hret _ _ _ _ _ d_MMo_reckons_363 hw hS (Option.some.inj hf)
    have hf := hf.trans (if_neg c_32)
    by_cases c_39 : x1 = (88 : Int32)
    · have hf := hf.trans (if_pos c_39)
      refine lv_tableIn (off := 175) (tgt := 184) hx hb d_MMo_reckons_9 (by rw [c_39]; decide +kernel) (by rw [c_39]; decide +kernel) (by rw [c_39]; decide +kernel) (by decide) ?_
      refine lv_aload_n hx hb d_MMo_reckons_184 rfl (lv_at hl 1 rfl) ?_
      refine va_get (v := .ref (a 2)) hx hb hts iM_Mo hown hw.2.1 hw.1 0 rfl rfl 1 (by decide) (hts _ kM_Mo_13) (fun _ h => h) rfl d_MMo_reckons_185 ?_
      refine lv_iload_n hx hb d_MMo_reckons_188 rfl (lv_at hl 3 rfl) ?_
      refine lv_iload_n hx hb d_MMo_reckons_189 rfl (lv_at hl 4 rfl) ?_
      obtain ⟨i_41, hf⟩ := ckI_inv hf
      refine z_iast (u' := msA u0 2 (Int32.toNatClampNeg x2) x3) hx hb hw hS 2 1 rfl rfl i_41 rfl d_MMo_reckons_190 (fun u_40 H locs eu_40 hw hS => ?_)
      have hf := hf.trans (nm_eq eu_40)
      refine lv_goto (tgt := 363) hx hb d_MMo_reckons_191 (by decide) ?_
      exact hret _ _ _ _ _ d_MMo_reckons_363 hw hS (Option.some.inj hf)
    have hf := hf.trans (if_neg c_39)
    by_cases c_42 : x1 = (89 : Int32)
    · have hf := hf.trans (if_pos c_42)
      refine lv_tableIn (off := 185) (tgt := 194) hx hb d_MMo_reckons_9 (by rw [c_42]; decide +kernel) (by rw [c_42]; decide +kernel) (by rw [c_42]; decide +kernel) (by decide) ?_
      refine lv_aload_n hx hb d_MMo_reckons_194 rfl (lv_at hl 1 rfl) ?_
      refine lv_iload hx hb d_MMo_reckons_195 (lv_at hl 0 rfl) ?_
      refine lv_i2l (v := Int32.toInt64 x_2) hx hb d_MMo_reckons_197 rfl ?_
      refine lv_iload_n hx hb d_MMo_reckons_198 rfl (lv_at hl 4 rfl) ?_
      refine lv_i2l (v := Int32.toInt64 x3) hx hb d_MMo_reckons_199 rfl ?_
      obtain ⟨x_43, ex_43, hf⟩ := bd1_inv hf
      refine z_rV (V := .int x_43) (z_runS (As := [.long (Int32.toInt64 x_2), .long (Int32.toInt64 x3)]) (rest := [.ref (a 0)]) ⟨hx, hb, hml, hown, hts⟩ (c_MMo_order l D a k u0 (Int32.toInt64 x_2) (Int32.toInt64 x3) x_43 ex_43) (qM_Mo_239 hts (by decide)) hw  hl.1 rfl (lv_room (Nat.le_of_ble_eq_true rfl)) d_MMo_reckons_200 hcs) ?_
      refine z_put (u' := msF u0 1 x_43) hx hb hts iM_Mo tM_Mo tM_Mo_ok nM_Mo hown hw hS 0 rfl rfl 9 (by decide) (hts _ kM_Mo_73) (fun _ h => h) rfl rfl (Nat.le_of_ble_eq_true rfl) rfl d_MMo_reckons_203 (fun u_44 H locs eu_44 hw hS => ?_)
      have hf := hf.trans (nm_eq eu_44)
      refine lv_goto (tgt := 363) hx hb d_MMo_reckons_206 (by decide) ?_
      exact hret _ _ _ _ _ d_MMo_reckons_363 hw hS (Option.some.inj hf)
    have hf := hf.trans (if_neg c_42)
    by_cases c_45 : x1 = (90 : Int32)
    · have hf := hf.trans (if_pos c_45)
      refine lv_tableIn (off := 200) (tgt := 209) hx hb d_MMo_reckons_9 (by rw [c_45]; decide +kernel) (by rw [c_45]; decide +kernel) (by rw [c_45]; decide +kernel) (by decide) ?_
      refine lv_aload_n hx hb d_MMo_reckons_209 rfl (lv_at hl 1 rfl) ?_
      refine lv_iload_n hx hb d_MMo_reckons_210 rfl (lv_at hl 3 rfl) ?_
      refine lv_iload hx hb d_MMo_reckons_211 (lv_at hl 0 rfl) ?_
      refine lv_i2l (v := Int32.toInt64 x_2) hx hb d_MMo_reckons_213 rfl ?_
      refine lv_iload_n hx hb d_MMo_reckons_214 rfl (lv_at hl 4 rfl) ?_
      refine lv_i2l (v := Int32.toInt64 x3) hx hb d_MMo_reckons_215 rfl ?_
      refine lv_ladd hx hb d_MMo_reckons_216 ?_
      obtain ⟨u_46, eu_46, hf⟩ := bd1_inv hf
      refine z_wv' (u' := u_46) (z_runV (As := [.int x2, .long ((Int32.toInt64 x_2) + (Int32.toInt64 x3))]) (rest := []) ⟨hx, hb, hml, hown, hts⟩ (c_MMo_exact l D a k u0 x2 ((Int32.toInt64 x_2) + (Int32.toInt64 x3)) u_46 eu_46) (qM_Mo_243 hts (by decide)) hw 0 rfl rfl hl.1 rfl (lv_room (Nat.le_of_ble_eq_true rfl)) d_MMo_reckons_217 hcs) hw hS (fun H locs hw hS => ?_)
      refine lv_goto (tgt := 363) hx hb d_MMo_reckons_220 (by decide) ?_
      exact hret _ _ _ _ _ d_MMo_reckons_363 hw hS (Option.some.inj hf)
    have hf := hf.trans (if_neg c_45)
    by_cases c_47 : x1 = (91 : Int32)
    · have hf := hf.trans (if_pos c_47)
      refine lv_tableIn (off := 214) (tgt := 223) hx hb d_MMo_reckons_9 (by rw [c_47]; decide +kernel) (by rw [c_47]; decide +kernel) (by rw [c_47]; decide +kernel) (by decide) ?_
      refine lv_aload_n hx hb d_MMo_reckons_223 rfl (lv_at hl 1 rfl) ?_
      refine lv_iload_n hx hb d_MMo_reckons_224 rfl (lv_at hl 3 rfl) ?_
      refine lv_iload hx hb d_MMo_reckons_225 (lv_at hl 0 rfl) ?_
      refine lv_i2l (v := Int32.toInt64 x_2) hx hb d_MMo_reckons_227 rfl ?_
      refine lv_iload_n hx hb d_MMo_reckons_228 rfl (lv_at hl 4 rfl) ?_
      refine lv_i2l (v := Int32.toInt64 x3) hx hb d_MMo_reckons_229 rfl ?_
      refine lv_lsub hx hb d_MMo_reckons_230 ?_
      obtain ⟨u_48, eu_48, hf⟩ := bd1_inv hf
      refine z_wv' (u' := u_48) (z_runV (As := [.int x2, .long ((Int32.toInt64 x_2) - (Int32.toInt64 x3))]) (rest := []) ⟨hx, hb, hml, hown, hts⟩ (c_MMo_exact l D a k u0 x2 ((Int32.toInt64 x_2) - (Int32.toInt64 x3)) u_48 eu_48) (qM_Mo_243 hts (by decide)) hw 0 rfl rfl hl.1 rfl (lv_room (Nat.le_of_ble_eq_true rfl)) d_MMo_reckons_231 hcs) hw hS (fun H locs hw hS => ?_)
      refine lv_goto (tgt := 363) hx hb d_MMo_reckons_234 (by decide) ?_
      exact hret _ _ _ _ _ d_MMo_reckons_363 hw hS (Option.some.inj hf)
    have hf := hf.trans (if_neg c_47)
    by_cases c_49 : x1 = (92 : Int32)
    · have hf := hf.trans (if_pos c_49)
      refine lv_tableIn (off := 268) (tgt := 277) hx hb d_MMo_reckons_9 (by rw [c_49]; decide +kernel) (by rw [c_49]; decide +kernel) (by rw [c_49]; decide +kernel) (by decide) ?_
      refine lv_aload_n hx hb d_MMo_reckons_277 rfl (lv_at hl 1 rfl) ?_
      refine va_get (v := .ref (a 2)) hx hb hts iM_Mo hown hw.2.1 hw.1 0 rfl rfl 1 (by decide) (hts _ kM_Mo_13) (fun _ h => h) rfl d_MMo_reckons_278 ?_
      refine lv_iload_n hx hb d_MMo_reckons_281 rfl (lv_at hl 3 rfl) ?_
      refine lv_iconst (v := (1 : Int32)) hx hb d_MMo_reckons_282 (by decide) ?_
      refine lv_iadd hx hb d_MMo_reckons_283 ?_
      obtain ⟨i_50, hf⟩ := ckI_inv hf
      refine va_iald hx hb hw.2.1 hw.1 2 1 rfl rfl i_50 d_MMo_reckons_284 ?_
      refine lv_i2l (v := Int32.toInt64 (mA u0 2 (Int32.toNatClampNeg (x2 + (1 : Int32))))) hx hb d_MMo_reckons_285 rfl ?_
      refine lv_iload_n hx hb d_MMo_reckons_286 rfl (lv_at hl 4 rfl) ?_
      refine lv_i2l (v := Int32.toInt64 x3) hx hb d_MMo_reckons_287 rfl ?_
      refine lv_lmul hx hb d_MMo_reckons_288 ?_
      refine lv_topl (fun y_51 ey_51 => ?_)
      have hf := hf.trans (nm_eq ey_51)
      refine lv_lstore (lv' := [(5, .long y_51), (4, .int x_2), (0, .ref (a 0)), (1, .int x1), (2, .int x2), (3, .int x3)]) hx hb d_MMo_reckons_289 hl (by decide) rfl (fun ls hl => ?_)
      refine lv_aload_n hx hb d_MMo_reckons_291 rfl (lv_at hl 2 rfl) ?_
      refine va_get (v := .ref (a 2)) hx hb hts iM_Mo hown hw.2.1 hw.1 0 rfl rfl 1 (by decide) (hts _ kM_Mo_13) (fun _ h => h) rfl d_MMo_reckons_292 ?_
      refine lv_iload_n hx hb d_MMo_reckons_295 rfl (lv_at hl 4 rfl) ?_
      refine lv_lload hx hb d_MMo_reckons_296 (lv_at hl 0 rfl) ?_
      refine lv_bipush (v := (32 : Int32)) hx hb d_MMo_reckons_298 (by decide) ?_
      refine lv_lshr (v := y_51 >>> (Int32.toInt64 (32 : Int32) &&& 63)) hx hb d_MMo_reckons_300 rfl ?_
      refine lv_l2i (v := Int64.toInt32 (y_51 >>> (Int32.toInt64 (32 : Int32) &&& 63))) hx hb d_MMo_reckons_301 rfl ?_
      obtain ⟨i_53, hf⟩ := ckI_inv hf
      refine z_iast (u' := msA u0 2 (Int32.toNatClampNeg x2) (Int64.toInt32 (y_51 >>> (Int32.toInt64 (32 : Int32) &&& 63)))) hx hb hw hS 2 1 rfl rfl i_53 rfl d_MMo_reckons_302 (fun u_52 H locs eu_52 hw hS => ?_)
      have hf := hf.trans (nm_eq eu_52)
      refine lv_aload_n hx hb d_MMo_reckons_303 rfl (lv_at hl 2 rfl) ?_
      refine va_get (v := .ref (a 2)) hx hb hts iM_Mo hown hw.2.1 hw.1 0 rfl rfl 1 (by decide) (hts _ kM_Mo_13) (fun _ h => h) rfl d_MMo_reckons_304 ?_
      refine lv_iload_n hx hb d_MMo_reckons_307 rfl (lv_at hl 4 rfl) ?_
      refine lv_iconst (v := (1 : Int32)) hx hb d_MMo_reckons_308 (by decide) ?_
      refine lv_iadd hx hb d_MMo_reckons_309 ?_
      refine lv_lload hx hb d_MMo_reckons_310 (lv_at hl 0 rfl) ?_
      refine lv_l2i (v := Int64.toInt32 y_51) hx hb d_MMo_reckons_312 rfl ?_
      obtain ⟨i_55, hf⟩ := ckI_inv hf
      refine z_iast (u' := msA u_52 2 (Int32.toNatClampNeg (x2 + (1 : Int32))) (Int64.toInt32 y_51)) hx hb hw hS 2 1 rfl rfl i_55 rfl d_MMo_reckons_313 (fun u_54 H locs eu_54 hw hS => ?_)
      have hf := hf.trans (nm_eq eu_54)
      refine lv_goto (tgt := 363) hx hb d_MMo_reckons_314 (by decide) ?_
      exact hret _ _ _ _ _ d_MMo_reckons_363 hw hS (Option.some.inj hf)
    have hf := hf.trans (if_neg c_49)
    by_cases c_56 : x1 = (93 : Int32)
    · have hf := hf.trans (if_neg (by rw [c_56]; decide))
      have hf := hf.trans (if_neg (by rw [c_56]; decide))
      refine lv_tableIn (off := 308) (tgt := 317) hx hb d_MMo_reckons_9 (by rw [c_56]; decide +kernel) (by rw [c_56]; decide +kernel) (by rw [c_56]; decide +kernel) (by decide) ?_
      exact hK_3 _ (lv_sub hl [1, 3, 4, 0] rfl) hf
    by_cases c_57 : x1 = (94 : Int32)
    · have hf := hf.trans (if_pos c_57)
      refine lv_tableIn (off := 228) (tgt := 237) hx hb d_MMo_reckons_9 (by rw [c_57]; decide +kernel) (by rw [c_57]; decide +kernel) (by rw [c_57]; decide +kernel) (by decide) ?_
      refine lv_aload_n hx hb d_MMo_reckons_237 rfl (lv_at hl 1 rfl) ?_
      refine lv_iload_n hx hb d_MMo_reckons_238 rfl (lv_at hl 3 rfl) ?_
      refine lv_iload hx hb d_MMo_reckons_239 (lv_at hl 0 rfl) ?_
      obtain ⟨y_58, ey_58, hf⟩ := bd1_inv hf
      refine z_rV (V := .long y_58) (z_runS (As := [.int x_2]) (rest := [.int x2, .ref (a 0)]) ⟨hx, hb, hml, hown, hts⟩ (c_MMo_bare l D a k u0 x_2 y_58 ey_58) (qM_Mo_235 hts (by decide)) hw  hl.1 rfl (lv_room (Nat.le_of_ble_eq_true rfl)) d_MMo_reckons_241 hcs) ?_
      refine lv_iload_n hx hb d_MMo_reckons_244 rfl (lv_at hl 4 rfl) ?_
      obtain ⟨y_59, ey_59, hf⟩ := bd1_inv hf
      refine z_rV (V := .long y_59) (z_runS (As := [.int x3]) (rest := [.long y_58, .int x2, .ref (a 0)]) ⟨hx, hb, hml, hown, hts⟩ (c_MMo_bare l D a k u0 x3 y_59 ey_59) (qM_Mo_235 hts (by decide)) hw  hl.1 rfl (lv_room (Nat.le_of_ble_eq_true rfl)) d_MMo_reckons_245 hcs) ?_
      refine lv_ladd hx hb d_MMo_reckons_248 ?_
      obtain ⟨u_60, eu_60, hf⟩ := bd1_inv hf
      refine z_wv' (u' := u_60) (z_runV (As := [.int x2, .long (y_58 + y_59)]) (rest := []) ⟨hx, hb, hml, hown, hts⟩ (c_MMo_plain l D a k u0 x2 (y_58 + y_59) u_60 eu_60) (qM_Mo_247 hts (by decide)) hw 0 rfl rfl hl.1 rfl (lv_room (Nat.le_of_ble_eq_true rfl)) d_MMo_reckons_249 hcs) hw hS (fun H locs hw hS => ?_)
      refine lv_goto (tgt := 363) hx hb d_MMo_reckons_252 (by decide) ?_
      exact hret _ _ _ _ _ d_MMo_reckons_363 hw hS (Option.some.inj hf)
    have hf := hf.trans (if_neg c_57)
    by_cases c_61 : x1 = (95 : Int32)
    · have hf := hf.trans (if_pos c_61)
      refine lv_tableIn (off := 246) (tgt := 255) hx hb d_MMo_reckons_9 (by rw [c_61]; decide +kernel) (by rw [c_61]; decide +kernel) (by rw [c_61]; decide +kernel) (by decide) ?_
      refine lv_aload_n hx hb d_MMo_reckons_255 rfl (lv_at hl 1 rfl) ?_
      refine lv_iload_n hx hb d_MMo_reckons_256 rfl (lv_at hl 3 rfl) ?_
      refine lv_iload hx hb d_MMo_reckons_257 (lv_at hl 0 rfl) ?_
      obtain ⟨y_62, ey_62, hf⟩ := bd1_inv hf
      refine z_rV (V := .long y_62) (z_runS (As := [.int x_2]) (rest := [.int x2, .ref (a 0)]) ⟨hx, hb, hml, hown, hts⟩ (c_MMo_bare l D a k u0 x_2 y_62 ey_62) (qM_Mo_235 hts (by decide)) hw  hl.1 rfl (lv_room (Nat.le_of_ble_eq_true rfl)) d_MMo_reckons_259 hcs) ?_
      refine lv_iload_n hx hb d_MMo_reckons_262 rfl (lv_at hl 4 rfl) ?_
      refine lv_iconst (v := (-1 : Int32)) hx hb d_MMo_reckons_263 (by decide) ?_
      refine lv_ixor hx hb d_MMo_reckons_264 ?_
      obtain ⟨y_63, ey_63, hf⟩ := bd1_inv hf
      refine z_rV (V := .long y_63) (z_runS (As := [.int (x3 ^^^ (-1 : Int32))]) (rest := [.long y_62, .int x2, .ref (a 0)]) ⟨hx, hb, hml, hown, hts⟩ (c_MMo_bare l D a k u0 (x3 ^^^ (-1 : Int32)) y_63 ey_63) (qM_Mo_235 hts (by decide)) hw  hl.1 rfl (lv_room (Nat.le_of_ble_eq_true rfl)) d_MMo_reckons_265 hcs) ?_
      refine lv_ladd hx hb d_MMo_reckons_268 ?_
      refine lv_lconst (v := 1) hx hb d_MMo_reckons_269 (by decide) ?_
      refine lv_ladd hx hb d_MMo_reckons_270 ?_
      obtain ⟨u_64, eu_64, hf⟩ := bd1_inv hf
      refine z_wv' (u' := u_64) (z_runV (As := [.int x2, .long ((y_62 + y_63) + (1 : Int64))]) (rest := []) ⟨hx, hb, hml, hown, hts⟩ (c_MMo_plain l D a k u0 x2 ((y_62 + y_63) + (1 : Int64)) u_64 eu_64) (qM_Mo_247 hts (by decide)) hw 0 rfl rfl hl.1 rfl (lv_room (Nat.le_of_ble_eq_true rfl)) d_MMo_reckons_271 hcs) hw hS (fun H locs hw hS => ?_)
      refine lv_goto (tgt := 363) hx hb d_MMo_reckons_274 (by decide) ?_
      exact hret _ _ _ _ _ d_MMo_reckons_363 hw hS (Option.some.inj hf)
    have hf := hf.trans (if_neg c_61)
    refine lv_tableOut (tgt := 317) hx hb d_MMo_reckons_9 (by have := lv_neT c_13 (a := 84) (by decide +kernel); have := lv_neT c_20 (a := 85) (by decide +kernel); have := lv_neT c_25 (a := 86) (by decide +kernel); have := lv_neT c_32 (a := 87) (by decide +kernel); have := lv_neT c_39 (a := 88) (by decide +kernel); have := lv_neT c_42 (a := 89) (by decide +kernel); have := lv_neT c_45 (a := 90) (by decide +kernel); have := lv_neT c_47 (a := 91) (by decide +kernel); have := lv_neT c_49 (a := 92) (by decide +kernel); have := lv_neT c_56 (a := 93) (by decide +kernel); have := lv_neT c_57 (a := 94) (by decide +kernel); have := lv_neT c_61 (a := 95) (by decide +kernel); omega) (by decide) ?_
    exact hK_3 _ (lv_sub hl [1, 3, 4, 0] rfl) hf
set_option maxHeartbeats 4000000 in
set_option maxRecDepth 100000 in
theorem c_MMo_goes (l : Launch) (D : va_G) (a : Nat → Nat) (k : Nat → ClassId) (u0 : MS) (z1 : Bool) (x2 : Int32) (F : MS) (hf : f_MMo_goes u0 z1 x2 = some F) : zMv l y_MMo_goes w_MMo_goes rm_MMo_goes D clM (tyM k) nwM (mW a k) [.ref (a 0), .int (bI z1), .int x2] u0 F := by
  have hf := hf.symm
  unfold f_MMo_goes at hf
  refine zMv_of (cc := b_MMo_goes) (maxL := 3) (own := RM_Mo) (by decide) rfl rfl (Nat.le_of_ble_eq_true rfl) ?_
  intro p e R st m args below meth c A H locs Q ls hR hx hb hml hown hts hw hS hret hl
  subst hR
  have hcs : 0 ≤ (rm_MMo_goes).cells ∧ 0 ≤ (rm_MMo_goes).slots := ⟨Nat.zero_le _, Nat.zero_le _⟩
  have hl : lv_has ls 3 [(0, .ref (a 0)), (1, .int (bI z1)), (2, .int x2)] := hl
  refine lv_iload_n hx hb d_MMo_goes_0 rfl (lv_at hl 1 rfl) ?_
  refine lv_if_eq (tgt := 12) hx hb d_MMo_goes_1 (by decide) (fun c_1 => ?_) (fun c_1 => ?_)
  · have hf := hf.trans (if_pos c_1)
    exact hret _ _ _ _ _ d_MMo_goes_12 hw hS (Option.some.inj hf)
  · have hf := hf.trans (if_neg c_1)
    refine lv_aload_n hx hb d_MMo_goes_4 rfl (lv_at hl 0 rfl) ?_
    refine lv_iload_n hx hb d_MMo_goes_5 rfl (lv_at hl 2 rfl) ?_
    refine lv_ldc (v := (16777215 : Int32)) hx hb hown (hts _ kM_Mo_93) d_MMo_goes_6 ?_
    refine lv_iand hx hb d_MMo_goes_8 ?_
    refine z_put (u' := msF u0 2 (x2 &&& (16777215 : Int32))) hx hb hts iM_Mo tM_Mo tM_Mo_ok nM_Mo hown hw hS 0 rfl rfl 10 (by decide) (hts _ kM_Mo_67) (fun _ h => h) rfl rfl (Nat.le_of_ble_eq_true rfl) rfl d_MMo_goes_9 (fun u_2 H locs eu_2 hw hS => ?_)
    have hf := hf.trans (nm_eq eu_2)
    exact hret _ _ _ _ _ d_MMo_goes_12 hw hS (Option.some.inj hf)
set_option maxHeartbeats 4000000 in
set_option maxRecDepth 100000 in
theorem c_MMo_holds (l : Launch) (D : va_G) (a : Nat → Nat) (k : Nat → ClassId) (u0 : MS) (x1 : Int32) (F : Bool) (hf : f_MMo_holds u0 x1 = some F) : zRz l y_MMo_holds w_MMo_holds rm_MMo_holds D clM (tyM k) nwM (mW a k) [.ref (a 0), .int x1] u0 F := by
  have hf := hf.symm
  unfold f_MMo_holds at hf
  refine zRz_of (cc := b_MMo_holds) (maxL := 2) (own := RM_Mo) (by decide) rfl rfl (Nat.le_of_ble_eq_true rfl) ?_
  intro p e R st m args below meth c H locs Q ls hR hx hb hml hown hts hw hret hl
  subst hR
  have hcs : 0 ≤ (rm_MMo_holds).cells ∧ 0 ≤ (rm_MMo_holds).slots := ⟨Nat.zero_le _, Nat.zero_le _⟩
  have hl : lv_has ls 2 [(0, .ref (a 0)), (1, .int x1)] := hl
  refine lv_iload_n hx hb d_MMo_holds_0 rfl (lv_at hl 1 rfl) ?_
  refine lv_iconst (v := (3 : Int32)) hx hb d_MMo_holds_1 (by decide) ?_
  refine lv_aload_n hx hb d_MMo_holds_2 rfl (lv_at hl 0 rfl) ?_
  refine va_get (v := .int (mF u0 1)) hx hb hts iM_Mo hown hw.2.1 hw.1 0 rfl rfl 9 (by decide) (hts _ kM_Mo_73) (fun _ h => h) rfl d_MMo_holds_3 ?_
  refine lv_isub hx hb d_MMo_holds_6 ?_
  refine lv_ishr hx hb d_MMo_holds_7 ?_
  refine lv_iconst (v := (1 : Int32)) hx hb d_MMo_holds_8 (by decide) ?_
  refine lv_iand hx hb d_MMo_holds_9 ?_
  refine lv_iconst (v := (1 : Int32)) hx hb d_MMo_holds_10 (by decide) ?_
  refine lv_icmp_ne (tgt := 18) hx hb d_MMo_holds_11 (by decide) (fun c_1 => ?_) (fun c_1 => ?_)
  · have hf := hf.trans (if_neg c_1)
    refine lv_iconst (v := (0 : Int32)) hx hb d_MMo_holds_18 (by decide) ?_
    exact hret false _ _ d_MMo_holds_19 (Option.some.inj hf)
  · have hf := hf.trans (if_pos c_1)
    refine lv_iconst (v := (1 : Int32)) hx hb d_MMo_holds_14 (by decide) ?_
    refine lv_goto (tgt := 19) hx hb d_MMo_holds_15 (by decide) ?_
    exact hret true _ _ d_MMo_holds_19 (Option.some.inj hf)
set_option maxHeartbeats 4000000 in
set_option maxRecDepth 100000 in
theorem c_MMo_registers (l : Launch) (D : va_G) (a : Nat → Nat) (k : Nat → ClassId) (u0 : MS) (x1 : Int32) (F : MS) (hf : f_MMo_registers u0 x1 = some F) : zMv l y_MMo_registers w_MMo_registers rm_MMo_registers D clM (tyM k) nwM (mW a k) [.ref (a 0), .int x1] u0 F := by
  have hf := hf.symm
  unfold f_MMo_registers at hf
  refine zMv_of (cc := b_MMo_registers) (maxL := 4) (own := RM_Mo) (by decide) rfl rfl (Nat.le_of_ble_eq_true rfl) ?_
  intro p e R st m args below meth c A H locs Q ls hR hx hb hml hown hts hw hS hret hl
  subst hR
  have hcs : 0 ≤ (rm_MMo_registers).cells ∧ 0 ≤ (rm_MMo_registers).slots := ⟨Nat.zero_le _, Nat.zero_le _⟩
  have hl : lv_has ls 4 [(0, .ref (a 0)), (1, .int x1)] := hl
  refine lv_aload_n hx hb d_MMo_registers_0 rfl (lv_at hl 0 rfl) ?_
  obtain ⟨x_1, ex_1, hf⟩ := bd1_inv hf
  refine z_rV (V := .int x_1) (z_runV (As := []) (rest := []) ⟨hx, hb, hml, hown, hts⟩ (c_MMo_high l D a k u0 x_1 ex_1) (qM_Mo_163 hts (by decide)) hw 0 rfl rfl hl.1 rfl (lv_room (Nat.le_of_ble_eq_true rfl)) d_MMo_registers_1 hcs) ?_
  refine lv_istore_n (lv' := [(2, .int x_1), (0, .ref (a 0)), (1, .int x1)]) hx hb d_MMo_registers_4 rfl hl (by decide) rfl (fun ls hl => ?_)
  refine lv_aload_n hx hb d_MMo_registers_5 rfl (lv_at hl 1 rfl) ?_
  refine va_get (v := .ref (a 2)) hx hb hts iM_Mo hown hw.2.1 hw.1 0 rfl rfl 1 (by decide) (hts _ kM_Mo_13) (fun _ h => h) rfl d_MMo_registers_6 ?_
  refine lv_aload_n hx hb d_MMo_registers_9 rfl (lv_at hl 1 rfl) ?_
  obtain ⟨x_2, ex_2, hf⟩ := bd1_inv hf
  refine z_rV (V := .int x_2) (z_runV (As := []) (rest := [.ref (a 2)]) ⟨hx, hb, hml, hown, hts⟩ (c_MMo_low l D a k u0 x_2 ex_2) (qM_Mo_159 hts (by decide)) hw 0 rfl rfl hl.1 rfl (lv_room (Nat.le_of_ble_eq_true rfl)) d_MMo_registers_10 hcs) ?_
  obtain ⟨i_3, hf⟩ := ckI_inv hf
  refine va_iald hx hb hw.2.1 hw.1 2 1 rfl rfl i_3 d_MMo_registers_13 ?_
  refine lv_topi (fun x_4 ex_4 => ?_)
  have hf := hf.trans (nm_eq ex_4)
  refine lv_istore_n (lv' := [(3, .int x_4), (2, .int x_1), (0, .ref (a 0)), (1, .int x1)]) hx hb d_MMo_registers_14 rfl hl (by decide) rfl (fun ls hl => ?_)
  refine lv_aload_n hx hb d_MMo_registers_15 rfl (lv_at hl 2 rfl) ?_
  refine lv_iload_n hx hb d_MMo_registers_16 rfl (lv_at hl 3 rfl) ?_
  refine z_put (u' := msF u0 2 x1) hx hb hts iM_Mo tM_Mo tM_Mo_ok nM_Mo hown hw hS 0 rfl rfl 10 (by decide) (hts _ kM_Mo_67) (fun _ h => h) rfl rfl (Nat.le_of_ble_eq_true rfl) rfl d_MMo_registers_17 (fun u_5 H locs eu_5 hw hS => ?_)
  have hf := hf.trans (nm_eq eu_5)
  refine lv_aload_n hx hb d_MMo_registers_20 rfl (lv_at hl 2 rfl) ?_
  refine va_get (v := .int (mF u_5 8)) hx hb hts iM_Mo hown hw.2.1 hw.1 0 rfl rfl 16 (by decide) (hts _ kM_Mo_132) (fun _ h => h) rfl d_MMo_registers_21 ?_
  refine lv_topi (fun x_6 ex_6 => ?_)
  have hf := hf.trans (nm_eq ex_6)
  refine jn_cut hf (fun (K_7 : Option (MS)) => ∀ (ls : Array Slot), lv_has ls 4 [(0, .ref (a 0)), (2, .int x_1), (3, .int x_4)] → some F = K_7 → W p l e rm_MMo_registers st m args below meth c H locs 0 0 Q (F0 m 274 ls [])) ?_ ?_
  · intro ls hl hf
    refine lv_aload_n hx hb d_MMo_registers_274 rfl (lv_at hl 0 rfl) ?_
    refine lv_aload_n hx hb d_MMo_registers_275 rfl (lv_at hl 0 rfl) ?_
    refine va_get (v := .int (mF u_5 8)) hx hb hts iM_Mo hown hw.2.1 hw.1 0 rfl rfl 16 (by decide) (hts _ kM_Mo_132) (fun _ h => h) rfl d_MMo_registers_276 ?_
    refine lv_bipush (v := (64 : Int32)) hx hb d_MMo_registers_279 (by decide) ?_
    refine lv_iadd hx hb d_MMo_registers_281 ?_
    refine lv_iload_n hx hb d_MMo_registers_282 rfl (lv_at hl 1 rfl) ?_
    refine lv_iload_n hx hb d_MMo_registers_283 rfl (lv_at hl 2 rfl) ?_
    obtain ⟨u_8, eu_8, hf⟩ := bd1_inv hf
    refine z_wv' (u' := u_8) (z_runV (As := [.int ((mF u_5 8) + (64 : Int32)), .int x_1, .int x_4]) (rest := []) ⟨hx, hb, hml, hown, hts⟩ (c_MMo_reckons l D a k u_5 ((mF u_5 8) + (64 : Int32)) x_1 x_4 u_8 eu_8) (qM_Mo_256 hts (by decide)) hw 0 rfl rfl hl.1 rfl (lv_room (Nat.le_of_ble_eq_true rfl)) d_MMo_registers_284 hcs) hw hS (fun H locs hw hS => ?_)
    exact hret _ _ _ _ _ d_MMo_registers_287 hw hS (Option.some.inj hf)
  · intro K_7 hK_7 hf
    by_cases c_9 : x_6 = (5 : Int32)
    · have hf := hf.trans (if_pos c_9)
      refine lv_tableIn (off := 76) (tgt := 100) hx hb d_MMo_registers_24 (by rw [c_9]; decide +kernel) (by rw [c_9]; decide +kernel) (by rw [c_9]; decide +kernel) (by decide) ?_
      refine lv_aload_n hx hb d_MMo_registers_100 rfl (lv_at hl 2 rfl) ?_
      refine va_get (v := .ref (a 2)) hx hb hts iM_Mo hown hw.2.1 hw.1 0 rfl rfl 1 (by decide) (hts _ kM_Mo_13) (fun _ h => h) rfl d_MMo_registers_101 ?_
      refine lv_iload_n hx hb d_MMo_registers_104 rfl (lv_at hl 1 rfl) ?_
      refine lv_iload_n hx hb d_MMo_registers_105 rfl (lv_at hl 3 rfl) ?_
      obtain ⟨i_11, hf⟩ := ckI_inv hf
      refine z_iast (u' := msA u_5 2 (Int32.toNatClampNeg x_1) x1) hx hb hw hS 2 1 rfl rfl i_11 rfl d_MMo_registers_106 (fun u_10 H locs eu_10 hw hS => ?_)
      have hf := hf.trans (nm_eq eu_10)
      refine lv_aload_n hx hb d_MMo_registers_107 rfl (lv_at hl 2 rfl) ?_
      refine lv_aload_n hx hb d_MMo_registers_108 rfl (lv_at hl 2 rfl) ?_
      obtain ⟨x_12, ex_12, hf⟩ := bd1_inv hf
      refine z_rV (V := .int x_12) (z_runV (As := []) (rest := [.ref (a 0)]) ⟨hx, hb, hml, hown, hts⟩ (c_MMo_low l D a k u_10 x_12 ex_12) (qM_Mo_159 hts (by decide)) hw 0 rfl rfl hl.1 rfl (lv_room (Nat.le_of_ble_eq_true rfl)) d_MMo_registers_109 hcs) ?_
      refine lv_if_le (tgt := 119) hx hb d_MMo_registers_112 (by decide) (fun c_13 => ?_) (fun c_13 => ?_)
      · have hf := hf.trans (if_pos c_13)
        refine lv_iconst (v := (0 : Int32)) hx hb d_MMo_registers_119 (by decide) ?_
        refine lv_iload_n hx hb d_MMo_registers_120 rfl (lv_at hl 0 rfl) ?_
        obtain ⟨u_14, eu_14, hf⟩ := bd1_inv hf
        refine z_wv' (u' := u_14) (z_runV (As := [.int (0 : Int32), .int x_4]) (rest := []) ⟨hx, hb, hml, hown, hts⟩ (c_MMo_goes l D a k u_10 false x_4 u_14 eu_14) (qM_Mo_250 hts (by decide)) hw 0 rfl rfl hl.1 rfl (lv_room (Nat.le_of_ble_eq_true rfl)) d_MMo_registers_121 hcs) hw hS (fun H locs hw hS => ?_)
        refine lv_goto (tgt := 287) hx hb d_MMo_registers_124 (by decide) ?_
        exact hret _ _ _ _ _ d_MMo_registers_287 hw hS (Option.some.inj hf)
      · have hf := hf.trans (if_neg c_13)
        refine lv_iconst (v := (1 : Int32)) hx hb d_MMo_registers_115 (by decide) ?_
        refine lv_goto (tgt := 120) hx hb d_MMo_registers_116 (by decide) ?_
        refine lv_iload_n hx hb d_MMo_registers_120 rfl (lv_at hl 0 rfl) ?_
        obtain ⟨u_15, eu_15, hf⟩ := bd1_inv hf
        refine z_wv' (u' := u_15) (z_runV (As := [.int (1 : Int32), .int x_4]) (rest := []) ⟨hx, hb, hml, hown, hts⟩ (c_MMo_goes l D a k u_10 true x_4 u_15 eu_15) (qM_Mo_250 hts (by decide)) hw 0 rfl rfl hl.1 rfl (lv_room (Nat.le_of_ble_eq_true rfl)) d_MMo_registers_121 hcs) hw hS (fun H locs hw hS => ?_)
        refine lv_goto (tgt := 287) hx hb d_MMo_registers_124 (by decide) ?_
        exact hret _ _ _ _ _ d_MMo_registers_287 hw hS (Option.some.inj hf)
    have hf := hf.trans (if_neg c_9)
    by_cases c_16 : x_6 = (6 : Int32)
    · have hf := hf.trans (if_pos c_16)
      refine lv_tableIn (off := 103) (tgt := 127) hx hb d_MMo_registers_24 (by rw [c_16]; decide +kernel) (by rw [c_16]; decide +kernel) (by rw [c_16]; decide +kernel) (by decide) ?_
      refine lv_aload_n hx hb d_MMo_registers_127 rfl (lv_at hl 2 rfl) ?_
      refine va_get (v := .ref (a 2)) hx hb hts iM_Mo hown hw.2.1 hw.1 0 rfl rfl 1 (by decide) (hts _ kM_Mo_13) (fun _ h => h) rfl d_MMo_registers_128 ?_
      refine lv_iload_n hx hb d_MMo_registers_131 rfl (lv_at hl 1 rfl) ?_
      refine lv_dup2_11 hx hb d_MMo_registers_132 rfl rfl ?_
      obtain ⟨i_17, hf⟩ := ckI_inv hf
      refine va_iald hx hb hw.2.1 hw.1 2 1 rfl rfl i_17 d_MMo_registers_133 ?_
      refine lv_iconst (v := (1 : Int32)) hx hb d_MMo_registers_134 (by decide) ?_
      refine lv_isub hx hb d_MMo_registers_135 ?_
      obtain ⟨i_19, hf⟩ := ckI_inv hf
      refine z_iast (u' := msA u_5 2 (Int32.toNatClampNeg x_1) ((mA u_5 2 (Int32.toNatClampNeg x_1)) - (1 : Int32))) hx hb hw hS 2 1 rfl rfl i_19 rfl d_MMo_registers_136 (fun u_18 H locs eu_18 hw hS => ?_)
      have hf := hf.trans (nm_eq eu_18)
      refine lv_aload_n hx hb d_MMo_registers_137 rfl (lv_at hl 2 rfl) ?_
      refine lv_aload_n hx hb d_MMo_registers_138 rfl (lv_at hl 2 rfl) ?_
      obtain ⟨x_20, ex_20, hf⟩ := bd1_inv hf
      refine z_rV (V := .int x_20) (z_runV (As := []) (rest := [.ref (a 0)]) ⟨hx, hb, hml, hown, hts⟩ (c_MMo_low l D a k u_18 x_20 ex_20) (qM_Mo_159 hts (by decide)) hw 0 rfl rfl hl.1 rfl (lv_room (Nat.le_of_ble_eq_true rfl)) d_MMo_registers_139 hcs) ?_
      refine lv_if_le (tgt := 158) hx hb d_MMo_registers_142 (by decide) (fun c_21 => ?_) (fun c_21 => ?_)
      · have hf := hf.trans (if_pos c_21)
        refine lv_iconst (v := (0 : Int32)) hx hb d_MMo_registers_158 (by decide) ?_
        refine lv_iload_n hx hb d_MMo_registers_159 rfl (lv_at hl 0 rfl) ?_
        obtain ⟨u_22, eu_22, hf⟩ := bd1_inv hf
        refine z_wv' (u' := u_22) (z_runV (As := [.int (0 : Int32), .int x_4]) (rest := []) ⟨hx, hb, hml, hown, hts⟩ (c_MMo_goes l D a k u_18 false x_4 u_22 eu_22) (qM_Mo_250 hts (by decide)) hw 0 rfl rfl hl.1 rfl (lv_room (Nat.le_of_ble_eq_true rfl)) d_MMo_registers_160 hcs) hw hS (fun H locs hw hS => ?_)
        refine lv_goto (tgt := 287) hx hb d_MMo_registers_163 (by decide) ?_
        exact hret _ _ _ _ _ d_MMo_registers_287 hw hS (Option.some.inj hf)
      · have hf := hf.trans (if_neg c_21)
        refine lv_aload_n hx hb d_MMo_registers_145 rfl (lv_at hl 2 rfl) ?_
        refine va_get (v := .ref (a 2)) hx hb hts iM_Mo hown hw.2.1 hw.1 0 rfl rfl 1 (by decide) (hts _ kM_Mo_13) (fun _ h => h) rfl d_MMo_registers_146 ?_
        refine lv_iload_n hx hb d_MMo_registers_149 rfl (lv_at hl 1 rfl) ?_
        obtain ⟨i_23, hf⟩ := ckI_inv hf
        refine va_iald hx hb hw.2.1 hw.1 2 1 rfl rfl i_23 d_MMo_registers_150 ?_
        refine lv_if_eq (tgt := 158) hx hb d_MMo_registers_151 (by decide) (fun c_24 => ?_) (fun c_24 => ?_)
        · have hf := hf.trans (if_pos c_24)
          refine lv_iconst (v := (0 : Int32)) hx hb d_MMo_registers_158 (by decide) ?_
          refine lv_iload_n hx hb d_MMo_registers_159 rfl (lv_at hl 0 rfl) ?_
          obtain ⟨u_25, eu_25, hf⟩ := bd1_inv hf
          refine z_wv' (u' := u_25) (z_runV (As := [.int (0 : Int32), .int x_4]) (rest := []) ⟨hx, hb, hml, hown, hts⟩ (c_MMo_goes l D a k u_18 false x_4 u_25 eu_25) (qM_Mo_250 hts (by decide)) hw 0 rfl rfl hl.1 rfl (lv_room (Nat.le_of_ble_eq_true rfl)) d_MMo_registers_160 hcs) hw hS (fun H locs hw hS => ?_)
          refine lv_goto (tgt := 287) hx hb d_MMo_registers_163 (by decide) ?_
          exact hret _ _ _ _ _ d_MMo_registers_287 hw hS (Option.some.inj hf)
        · have hf := hf.trans (if_neg c_24)
          refine lv_iconst (v := (1 : Int32)) hx hb d_MMo_registers_154 (by decide) ?_
          refine lv_goto (tgt := 159) hx hb d_MMo_registers_155 (by decide) ?_
          refine lv_iload_n hx hb d_MMo_registers_159 rfl (lv_at hl 0 rfl) ?_
          obtain ⟨u_26, eu_26, hf⟩ := bd1_inv hf
          refine z_wv' (u' := u_26) (z_runV (As := [.int (1 : Int32), .int x_4]) (rest := []) ⟨hx, hb, hml, hown, hts⟩ (c_MMo_goes l D a k u_18 true x_4 u_26 eu_26) (qM_Mo_250 hts (by decide)) hw 0 rfl rfl hl.1 rfl (lv_room (Nat.le_of_ble_eq_true rfl)) d_MMo_registers_160 hcs) hw hS (fun H locs hw hS => ?_)
          refine lv_goto (tgt := 287) hx hb d_MMo_registers_163 (by decide) ?_
          exact hret _ _ _ _ _ d_MMo_registers_287 hw hS (Option.some.inj hf)
    have hf := hf.trans (if_neg c_16)
    by_cases c_27 : x_6 = (7 : Int32)
    · have hf := hf.trans (if_pos c_27)
      refine lv_tableIn (off := 142) (tgt := 166) hx hb d_MMo_registers_24 (by rw [c_27]; decide +kernel) (by rw [c_27]; decide +kernel) (by rw [c_27]; decide +kernel) (by decide) ?_
      refine lv_aload_n hx hb d_MMo_registers_166 rfl (lv_at hl 2 rfl) ?_
      refine lv_aload_n hx hb d_MMo_registers_167 rfl (lv_at hl 2 rfl) ?_
      obtain ⟨x_28, ex_28, hf⟩ := bd1_inv hf
      refine z_rV (V := .int x_28) (z_runV (As := []) (rest := [.ref (a 0)]) ⟨hx, hb, hml, hown, hts⟩ (c_MMo_low l D a k u_5 x_28 ex_28) (qM_Mo_159 hts (by decide)) hw 0 rfl rfl hl.1 rfl (lv_room (Nat.le_of_ble_eq_true rfl)) d_MMo_registers_168 hcs) ?_
      refine lv_if_le (tgt := 186) hx hb d_MMo_registers_171 (by decide) (fun c_29 => ?_) (fun c_29 => ?_)
      · have hf := hf.trans (if_pos c_29)
        refine lv_iconst (v := (0 : Int32)) hx hb d_MMo_registers_186 (by decide) ?_
        refine lv_iload_n hx hb d_MMo_registers_187 rfl (lv_at hl 0 rfl) ?_
        obtain ⟨u_30, eu_30, hf⟩ := bd1_inv hf
        refine z_wv' (u' := u_30) (z_runV (As := [.int (0 : Int32), .int x_4]) (rest := []) ⟨hx, hb, hml, hown, hts⟩ (c_MMo_goes l D a k u_5 false x_4 u_30 eu_30) (qM_Mo_250 hts (by decide)) hw 0 rfl rfl hl.1 rfl (lv_room (Nat.le_of_ble_eq_true rfl)) d_MMo_registers_188 hcs) hw hS (fun H locs hw hS => ?_)
        refine lv_goto (tgt := 287) hx hb d_MMo_registers_191 (by decide) ?_
        exact hret _ _ _ _ _ d_MMo_registers_287 hw hS (Option.some.inj hf)
      · have hf := hf.trans (if_neg c_29)
        refine lv_aload_n hx hb d_MMo_registers_174 rfl (lv_at hl 2 rfl) ?_
        refine lv_iload_n hx hb d_MMo_registers_175 rfl (lv_at hl 1 rfl) ?_
        obtain ⟨z_31, ez_31, hf⟩ := bd1_inv hf
        refine z_rV (V := .int (bI z_31)) (z_runV (As := [.int x_1]) (rest := [.ref (a 0)]) ⟨hx, hb, hml, hown, hts⟩ (c_MMo_holds l D a k u_5 x_1 z_31 ez_31) (qM_Mo_253 hts (by decide)) hw 0 rfl rfl hl.1 rfl (lv_room (Nat.le_of_ble_eq_true rfl)) d_MMo_registers_176 hcs) ?_
        refine lv_if_eq (tgt := 186) hx hb d_MMo_registers_179 (by decide) (fun c_32 => ?_) (fun c_32 => ?_)
        · have hf := hf.trans (if_pos c_32)
          refine lv_iconst (v := (0 : Int32)) hx hb d_MMo_registers_186 (by decide) ?_
          refine lv_iload_n hx hb d_MMo_registers_187 rfl (lv_at hl 0 rfl) ?_
          obtain ⟨u_33, eu_33, hf⟩ := bd1_inv hf
          refine z_wv' (u' := u_33) (z_runV (As := [.int (0 : Int32), .int x_4]) (rest := []) ⟨hx, hb, hml, hown, hts⟩ (c_MMo_goes l D a k u_5 false x_4 u_33 eu_33) (qM_Mo_250 hts (by decide)) hw 0 rfl rfl hl.1 rfl (lv_room (Nat.le_of_ble_eq_true rfl)) d_MMo_registers_188 hcs) hw hS (fun H locs hw hS => ?_)
          refine lv_goto (tgt := 287) hx hb d_MMo_registers_191 (by decide) ?_
          exact hret _ _ _ _ _ d_MMo_registers_287 hw hS (Option.some.inj hf)
        · have hf := hf.trans (if_neg c_32)
          refine lv_iconst (v := (1 : Int32)) hx hb d_MMo_registers_182 (by decide) ?_
          refine lv_goto (tgt := 187) hx hb d_MMo_registers_183 (by decide) ?_
          refine lv_iload_n hx hb d_MMo_registers_187 rfl (lv_at hl 0 rfl) ?_
          obtain ⟨u_34, eu_34, hf⟩ := bd1_inv hf
          refine z_wv' (u' := u_34) (z_runV (As := [.int (1 : Int32), .int x_4]) (rest := []) ⟨hx, hb, hml, hown, hts⟩ (c_MMo_goes l D a k u_5 true x_4 u_34 eu_34) (qM_Mo_250 hts (by decide)) hw 0 rfl rfl hl.1 rfl (lv_room (Nat.le_of_ble_eq_true rfl)) d_MMo_registers_188 hcs) hw hS (fun H locs hw hS => ?_)
          refine lv_goto (tgt := 287) hx hb d_MMo_registers_191 (by decide) ?_
          exact hret _ _ _ _ _ d_MMo_registers_287 hw hS (Option.some.inj hf)
    have hf := hf.trans (if_neg c_27)
    by_cases c_35 : x_6 = (8 : Int32)
    · have hf := hf.trans (if_neg (by rw [c_35]; decide))
      have hf := hf.trans (if_neg (by rw [c_35]; decide))
      have hf := hf.trans (if_neg (by rw [c_35]; decide))
      have hf := hf.trans (if_neg (by rw [c_35]; decide))
      have hf := hf.trans (if_neg (by rw [c_35]; decide))
      refine lv_tableIn (off := 250) (tgt := 274) hx hb d_MMo_registers_24 (by rw [c_35]; decide +kernel) (by rw [c_35]; decide +kernel) (by rw [c_35]; decide +kernel) (by decide) ?_
      exact hK_7 _ (lv_sub hl [2, 1, 0] rfl) hf
    by_cases c_36 : x_6 = (9 : Int32)
    · have hf := hf.trans (if_neg (by rw [c_36]; decide))
      have hf := hf.trans (if_neg (by rw [c_36]; decide))
      have hf := hf.trans (if_neg (by rw [c_36]; decide))
      have hf := hf.trans (if_neg (by rw [c_36]; decide))
      have hf := hf.trans (if_neg (by rw [c_36]; decide))
      refine lv_tableIn (off := 250) (tgt := 274) hx hb d_MMo_registers_24 (by rw [c_36]; decide +kernel) (by rw [c_36]; decide +kernel) (by rw [c_36]; decide +kernel) (by decide) ?_
      exact hK_7 _ (lv_sub hl [2, 1, 0] rfl) hf
    by_cases c_37 : x_6 = (10 : Int32)
    · have hf := hf.trans (if_pos c_37)
      refine lv_tableIn (off := 170) (tgt := 194) hx hb d_MMo_registers_24 (by rw [c_37]; decide +kernel) (by rw [c_37]; decide +kernel) (by rw [c_37]; decide +kernel) (by decide) ?_
      refine lv_aload_n hx hb d_MMo_registers_194 rfl (lv_at hl 2 rfl) ?_
      refine lv_aload_n hx hb d_MMo_registers_195 rfl (lv_at hl 2 rfl) ?_
      refine va_get (v := .int (mF u_5 10)) hx hb hts iM_Mo hown hw.2.1 hw.1 0 rfl rfl 18 (by decide) (hts _ kM_Mo_142) (fun _ h => h) rfl d_MMo_registers_196 ?_
      refine z_put (u' := msF u_5 4 (mF u_5 10)) hx hb hts iM_Mo tM_Mo tM_Mo_ok nM_Mo hown hw hS 0 rfl rfl 12 (by decide) (hts _ kM_Mo_34) (fun _ h => h) rfl rfl (Nat.le_of_ble_eq_true rfl) rfl d_MMo_registers_199 (fun u_38 H locs eu_38 hw hS => ?_)
      have hf := hf.trans (nm_eq eu_38)
      refine lv_goto (tgt := 287) hx hb d_MMo_registers_202 (by decide) ?_
      exact hret _ _ _ _ _ d_MMo_registers_287 hw hS (Option.some.inj hf)
    have hf := hf.trans (if_neg c_37)
    by_cases c_39 : x_6 = (11 : Int32)
    · have hf := hf.trans (if_neg (by rw [c_39]; decide))
      have hf := hf.trans (if_neg (by rw [c_39]; decide))
      have hf := hf.trans (if_neg (by rw [c_39]; decide))
      have hf := hf.trans (if_neg (by rw [c_39]; decide))
      refine lv_tableIn (off := 250) (tgt := 274) hx hb d_MMo_registers_24 (by rw [c_39]; decide +kernel) (by rw [c_39]; decide +kernel) (by rw [c_39]; decide +kernel) (by decide) ?_
      exact hK_7 _ (lv_sub hl [2, 1, 0] rfl) hf
    by_cases c_40 : x_6 = (12 : Int32)
    · have hf := hf.trans (if_neg (by rw [c_40]; decide))
      have hf := hf.trans (if_neg (by rw [c_40]; decide))
      have hf := hf.trans (if_neg (by rw [c_40]; decide))
      have hf := hf.trans (if_neg (by rw [c_40]; decide))
      refine lv_tableIn (off := 250) (tgt := 274) hx hb d_MMo_registers_24 (by rw [c_40]; decide +kernel) (by rw [c_40]; decide +kernel) (by rw [c_40]; decide +kernel) (by decide) ?_
      exact hK_7 _ (lv_sub hl [2, 1, 0] rfl) hf
    by_cases c_41 : x_6 = (13 : Int32)
    · have hf := hf.trans (if_neg (by rw [c_41]; decide))
      have hf := hf.trans (if_neg (by rw [c_41]; decide))
      have hf := hf.trans (if_neg (by rw [c_41]; decide))
      have hf := hf.trans (if_neg (by rw [c_41]; decide))
      refine lv_tableIn (off := 250) (tgt := 274) hx hb d_MMo_registers_24 (by rw [c_41]; decide +kernel) (by rw [c_41]; decide +kernel) (by rw [c_41]; decide +kernel) (by decide) ?_
      exact hK_7 _ (lv_sub hl [2, 1, 0] rfl) hf
    by_cases c_42 : x_6 = (14 : Int32)
    · have hf := hf.trans (if_neg (by rw [c_42]; decide))
      have hf := hf.trans (if_neg (by rw [c_42]; decide))
      have hf := hf.trans (if_neg (by rw [c_42]; decide))
      have hf := hf.trans (if_neg (by rw [c_42]; decide))
      refine lv_tableIn (off := 250) (tgt := 274) hx hb d_MMo_registers_24 (by rw [c_42]; decide +kernel) (by rw [c_42]; decide +kernel) (by rw [c_42]; decide +kernel) (by decide) ?_
      exact hK_7 _ (lv_sub hl [2, 1, 0] rfl) hf
    by_cases c_43 : x_6 = (15 : Int32)
    · have hf := hf.trans (if_neg (by rw [c_43]; decide))
      have hf := hf.trans (if_neg (by rw [c_43]; decide))
      have hf := hf.trans (if_neg (by rw [c_43]; decide))
      have hf := hf.trans (if_neg (by rw [c_43]; decide))
      refine lv_tableIn (off := 250) (tgt := 274) hx hb d_MMo_registers_24 (by rw [c_43]; decide +kernel) (by rw [c_43]; decide +kernel) (by rw [c_43]; decide +kernel) (by decide) ?_
      exact hK_7 _ (lv_sub hl [2, 1, 0] rfl) hf
    by_cases c_44 : x_6 = (16 : Int32)
    · have hf := hf.trans (if_pos c_44)
      refine lv_tableIn (off := 181) (tgt := 205) hx hb d_MMo_registers_24 (by rw [c_44]; decide +kernel) (by rw [c_44]; decide +kernel) (by rw [c_44]; decide +kernel) (by decide) ?_
      refine lv_aload_n hx hb d_MMo_registers_205 rfl (lv_at hl 2 rfl) ?_
      refine lv_iload_n hx hb d_MMo_registers_206 rfl (lv_at hl 1 rfl) ?_
      refine lv_iload_n hx hb d_MMo_registers_207 rfl (lv_at hl 0 rfl) ?_
      refine lv_if_ge (tgt := 217) hx hb d_MMo_registers_208 (by decide) (fun c_45 => ?_) (fun c_45 => ?_)
      · have hf := hf.trans (if_pos c_45)
        refine lv_iload_n hx hb d_MMo_registers_217 rfl (lv_at hl 0 rfl) ?_
        refine lv_i2l (v := Int32.toInt64 x_4) hx hb d_MMo_registers_218 rfl ?_
        obtain ⟨u_46, eu_46, hf⟩ := bd1_inv hf
        refine z_wv' (u' := u_46) (z_runV (As := [.int x_1, .long (Int32.toInt64 x_4)]) (rest := []) ⟨hx, hb, hml, hown, hts⟩ (c_MMo_exact l D a k u_5 x_1 (Int32.toInt64 x_4) u_46 eu_46) (qM_Mo_243 hts (by decide)) hw 0 rfl rfl hl.1 rfl (lv_room (Nat.le_of_ble_eq_true rfl)) d_MMo_registers_219 hcs) hw hS (fun H locs hw hS => ?_)
        refine lv_goto (tgt := 287) hx hb d_MMo_registers_222 (by decide) ?_
        exact hret _ _ _ _ _ d_MMo_registers_287 hw hS (Option.some.inj hf)
      · have hf := hf.trans (if_neg c_45)
        refine lv_iload_n hx hb d_MMo_registers_211 rfl (lv_at hl 0 rfl) ?_
        refine lv_i2l (v := Int32.toInt64 x_4) hx hb d_MMo_registers_212 rfl ?_
        refine lv_lneg hx hb d_MMo_registers_213 ?_
        refine lv_goto (tgt := 219) hx hb d_MMo_registers_214 (by decide) ?_
        obtain ⟨u_47, eu_47, hf⟩ := bd1_inv hf
        refine z_wv' (u' := u_47) (z_runV (As := [.int x_1, .long (-(Int32.toInt64 x_4))]) (rest := []) ⟨hx, hb, hml, hown, hts⟩ (c_MMo_exact l D a k u_5 x_1 (-(Int32.toInt64 x_4)) u_47 eu_47) (qM_Mo_243 hts (by decide)) hw 0 rfl rfl hl.1 rfl (lv_room (Nat.le_of_ble_eq_true rfl)) d_MMo_registers_219 hcs) hw hS (fun H locs hw hS => ?_)
        refine lv_goto (tgt := 287) hx hb d_MMo_registers_222 (by decide) ?_
        exact hret _ _ _ _ _ d_MMo_registers_287 hw hS (Option.some.inj hf)
    have hf := hf.trans (if_neg c_44)
    by_cases c_48 : x_6 = (17 : Int32)
    · have hf := hf.trans (if_pos c_48)
      refine lv_tableIn (off := 201) (tgt := 225) hx hb d_MMo_registers_24 (by rw [c_48]; decide +kernel) (by rw [c_48]; decide +kernel) (by rw [c_48]; decide +kernel) (by decide) ?_
      refine lv_aload_n hx hb d_MMo_registers_225 rfl (lv_at hl 2 rfl) ?_
      refine lv_iload_n hx hb d_MMo_registers_226 rfl (lv_at hl 1 rfl) ?_
      refine lv_iload_n hx hb d_MMo_registers_227 rfl (lv_at hl 0 rfl) ?_
      refine lv_if_ge (tgt := 236) hx hb d_MMo_registers_228 (by decide) (fun c_49 => ?_) (fun c_49 => ?_)
      · have hf := hf.trans (if_pos c_49)
        refine lv_iload_n hx hb d_MMo_registers_236 rfl (lv_at hl 0 rfl) ?_
        refine lv_ineg hx hb d_MMo_registers_237 ?_
        refine lv_i2l (v := Int32.toInt64 (-x_4)) hx hb d_MMo_registers_238 rfl ?_
        obtain ⟨u_50, eu_50, hf⟩ := bd1_inv hf
        refine z_wv' (u' := u_50) (z_runV (As := [.int x_1, .long (Int32.toInt64 (-x_4))]) (rest := []) ⟨hx, hb, hml, hown, hts⟩ (c_MMo_exact l D a k u_5 x_1 (Int32.toInt64 (-x_4)) u_50 eu_50) (qM_Mo_243 hts (by decide)) hw 0 rfl rfl hl.1 rfl (lv_room (Nat.le_of_ble_eq_true rfl)) d_MMo_registers_239 hcs) hw hS (fun H locs hw hS => ?_)
        refine lv_goto (tgt := 287) hx hb d_MMo_registers_242 (by decide) ?_
        exact hret _ _ _ _ _ d_MMo_registers_287 hw hS (Option.some.inj hf)
      · have hf := hf.trans (if_neg c_49)
        refine lv_iload_n hx hb d_MMo_registers_231 rfl (lv_at hl 0 rfl) ?_
        refine lv_i2l (v := Int32.toInt64 x_4) hx hb d_MMo_registers_232 rfl ?_
        refine lv_goto (tgt := 239) hx hb d_MMo_registers_233 (by decide) ?_
        obtain ⟨u_51, eu_51, hf⟩ := bd1_inv hf
        refine z_wv' (u' := u_51) (z_runV (As := [.int x_1, .long (Int32.toInt64 x_4)]) (rest := []) ⟨hx, hb, hml, hown, hts⟩ (c_MMo_exact l D a k u_5 x_1 (Int32.toInt64 x_4) u_51 eu_51) (qM_Mo_243 hts (by decide)) hw 0 rfl rfl hl.1 rfl (lv_room (Nat.le_of_ble_eq_true rfl)) d_MMo_registers_239 hcs) hw hS (fun H locs hw hS => ?_)
        refine lv_goto (tgt := 287) hx hb d_MMo_registers_242 (by decide) ?_
        exact hret _ _ _ _ _ d_MMo_registers_287 hw hS (Option.some.inj hf)
    have hf := hf.trans (if_neg c_48)
    by_cases c_52 : x_6 = (18 : Int32)
    · have hf := hf.trans (if_pos c_52)
      refine lv_tableIn (off := 221) (tgt := 245) hx hb d_MMo_registers_24 (by rw [c_52]; decide +kernel) (by rw [c_52]; decide +kernel) (by rw [c_52]; decide +kernel) (by decide) ?_
      refine lv_aload_n hx hb d_MMo_registers_245 rfl (lv_at hl 2 rfl) ?_
      refine va_get (v := .ref (a 2)) hx hb hts iM_Mo hown hw.2.1 hw.1 0 rfl rfl 1 (by decide) (hts _ kM_Mo_13) (fun _ h => h) rfl d_MMo_registers_246 ?_
      refine lv_iload_n hx hb d_MMo_registers_249 rfl (lv_at hl 1 rfl) ?_
      refine lv_iload_n hx hb d_MMo_registers_250 rfl (lv_at hl 0 rfl) ?_
      obtain ⟨i_54, hf⟩ := ckI_inv hf
      refine z_iast (u' := msA u_5 2 (Int32.toNatClampNeg x_1) x_4) hx hb hw hS 2 1 rfl rfl i_54 rfl d_MMo_registers_251 (fun u_53 H locs eu_53 hw hS => ?_)
      have hf := hf.trans (nm_eq eu_53)
      refine lv_aload_n hx hb d_MMo_registers_252 rfl (lv_at hl 2 rfl) ?_
      refine lv_iload_n hx hb d_MMo_registers_253 rfl (lv_at hl 0 rfl) ?_
      obtain ⟨x_55, ex_55, hf⟩ := bd1_inv hf
      refine z_rV (V := .int x_55) (z_runS (As := [.int x_4]) (rest := [.ref (a 0)]) ⟨hx, hb, hml, hown, hts⟩ (c_MMo_signOf l D a k u_53 x_4 x_55 ex_55) (qM_Mo_232 hts (by decide)) hw  hl.1 rfl (lv_room (Nat.le_of_ble_eq_true rfl)) d_MMo_registers_254 hcs) ?_
      refine z_put (u' := msF u_53 1 x_55) hx hb hts iM_Mo tM_Mo tM_Mo_ok nM_Mo hown hw hS 0 rfl rfl 9 (by decide) (hts _ kM_Mo_73) (fun _ h => h) rfl rfl (Nat.le_of_ble_eq_true rfl) rfl d_MMo_registers_257 (fun u_56 H locs eu_56 hw hS => ?_)
      have hf := hf.trans (nm_eq eu_56)
      refine lv_goto (tgt := 287) hx hb d_MMo_registers_260 (by decide) ?_
      exact hret _ _ _ _ _ d_MMo_registers_287 hw hS (Option.some.inj hf)
    have hf := hf.trans (if_neg c_52)
    by_cases c_57 : x_6 = (19 : Int32)
    · have hf := hf.trans (if_pos c_57)
      refine lv_tableIn (off := 239) (tgt := 263) hx hb d_MMo_registers_24 (by rw [c_57]; decide +kernel) (by rw [c_57]; decide +kernel) (by rw [c_57]; decide +kernel) (by decide) ?_
      refine lv_aload_n hx hb d_MMo_registers_263 rfl (lv_at hl 2 rfl) ?_
      refine lv_iload_n hx hb d_MMo_registers_264 rfl (lv_at hl 1 rfl) ?_
      refine lv_iload_n hx hb d_MMo_registers_265 rfl (lv_at hl 0 rfl) ?_
      refine lv_i2l (v := Int32.toInt64 x_4) hx hb d_MMo_registers_266 rfl ?_
      refine lv_lneg hx hb d_MMo_registers_267 ?_
      obtain ⟨u_58, eu_58, hf⟩ := bd1_inv hf
      refine z_wv' (u' := u_58) (z_runV (As := [.int x_1, .long (-(Int32.toInt64 x_4))]) (rest := []) ⟨hx, hb, hml, hown, hts⟩ (c_MMo_exact l D a k u_5 x_1 (-(Int32.toInt64 x_4)) u_58 eu_58) (qM_Mo_243 hts (by decide)) hw 0 rfl rfl hl.1 rfl (lv_room (Nat.le_of_ble_eq_true rfl)) d_MMo_registers_268 hcs) hw hS (fun H locs hw hS => ?_)
      refine lv_goto (tgt := 287) hx hb d_MMo_registers_271 (by decide) ?_
      exact hret _ _ _ _ _ d_MMo_registers_287 hw hS (Option.some.inj hf)
    have hf := hf.trans (if_neg c_57)
    refine lv_tableOut (tgt := 274) hx hb d_MMo_registers_24 (by have := lv_neT c_9 (a := 5) (by decide +kernel); have := lv_neT c_16 (a := 6) (by decide +kernel); have := lv_neT c_27 (a := 7) (by decide +kernel); have := lv_neT c_35 (a := 8) (by decide +kernel); have := lv_neT c_36 (a := 9) (by decide +kernel); have := lv_neT c_37 (a := 10) (by decide +kernel); have := lv_neT c_39 (a := 11) (by decide +kernel); have := lv_neT c_40 (a := 12) (by decide +kernel); have := lv_neT c_41 (a := 13) (by decide +kernel); have := lv_neT c_42 (a := 14) (by decide +kernel); have := lv_neT c_43 (a := 15) (by decide +kernel); have := lv_neT c_44 (a := 16) (by decide +kernel); have := lv_neT c_48 (a := 17) (by decide +kernel); have := lv_neT c_52 (a := 18) (by decide +kernel); have := lv_neT c_57 (a := 19) (by decide +kernel); omega) (by decide) ?_
    exact hK_7 _ (lv_sub hl [2, 1, 0] rfl) hf
