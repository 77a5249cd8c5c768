set_option maxHeartbeats 4000000 in
set_option maxRecDepth 100000 in
theorem c_MMo_indexed (l : Launch) (D : va_G) (a : Nat → Nat) (k : Nat → ClassId) (u0 : MS) (x1 : Int32) (F : MS) (hf : f_MMo_indexed u0 x1 = some F) : zMv l y_MMo_indexed w_MMo_indexed rm_MMo_indexed D clM (tyM k) nwM (mW a k) [.ref (a 0), .int x1] u0 F := by
  have hf := hf.symm
  unfold f_MMo_indexed at hf
  refine zMv_of (cc := b_MMo_indexed) (maxL := 11) (own := RM_Mo) (by decide) rfl rfl (Nat.le_of_ble_eq_true rfl) ?_
  intro p e R st m args below meth c A H locs Q ls hR hx hb hml hown hts hw hS hret hl
  subst hR
  have hcs : 0 ≤ (rm_MMo_indexed).cells ∧ 0 ≤ (rm_MMo_indexed).slots := ⟨Nat.zero_le _, Nat.zero_le _⟩
  have hl : lv_has ls 11 [(0, .ref (a 0)), (1, .int x1)] := hl
  refine lv_aload_n hx hb d_MMo_indexed_0 rfl (lv_at hl 0 rfl) ?_
  obtain ⟨x_1, ex_1, hf⟩ := bd1_inv hf
  refine z_rV (V := .int x_1) (z_runV (As := []) (rest := []) ⟨hx, hb, hml, hown, hts⟩ (c_MMo_high l D a k u0 x_1 ex_1) (qM_Mo_163 hts (by decide)) hw 0 rfl rfl hl.1 rfl (lv_room (Nat.le_of_ble_eq_true rfl)) d_MMo_indexed_1 hcs) ?_
  refine lv_istore_n (lv' := [(2, .int x_1), (0, .ref (a 0)), (1, .int x1)]) hx hb d_MMo_indexed_4 rfl hl (by decide) rfl (fun ls hl => ?_)
  refine lv_aload_n hx hb d_MMo_indexed_5 rfl (lv_at hl 1 rfl) ?_
  obtain ⟨x_2, ex_2, hf⟩ := bd1_inv hf
  refine z_rV (V := .int x_2) (z_runV (As := []) (rest := []) ⟨hx, hb, hml, hown, hts⟩ (c_MMo_width l D a k u0 x_2 ex_2) (qM_Mo_179 hts (by decide)) hw 0 rfl rfl hl.1 rfl (lv_room (Nat.le_of_ble_eq_true rfl)) d_MMo_indexed_6 hcs) ?_
  refine lv_istore_n (lv' := [(3, .int x_2), (2, .int x_1), (0, .ref (a 0)), (1, .int x1)]) hx hb d_MMo_indexed_9 rfl hl (by decide) rfl (fun ls hl => ?_)
  refine lv_aload_n hx hb d_MMo_indexed_10 rfl (lv_at hl 2 rfl) ?_
  refine lv_iload_n hx hb d_MMo_indexed_11 rfl (lv_at hl 3 rfl) ?_
  refine z_put (u' := msF u0 2 x1) hx hb hts iM_Mo tM_Mo tM_Mo_ok nM_Mo hown hw hS 0 rfl rfl 10 (by decide) (hts _ kM_Mo_67) (fun _ h => h) rfl rfl (Nat.le_of_ble_eq_true rfl) rfl d_MMo_indexed_12 (fun u_3 H locs eu_3 hw hS => ?_)
  have hf := hf.trans (nm_eq eu_3)
  refine lv_iload_n hx hb d_MMo_indexed_15 rfl (lv_at hl 0 rfl) ?_
  refine jn_cut hf (fun (K_5 : Bool → Option (MS)) => ∀ (z_4 : Bool), ∀ (ls : Array Slot), lv_has ls 11 [(0, .ref (a 0)), (1, .int x1), (2, .int x_1), (3, .int x_2)] → some F = K_5 z_4 → W p l e rm_MMo_indexed st m args below meth c H locs 0 0 Q (F0 m 60 ls [.int (bI z_4)])) ?_ ?_
  · intro z_4 ls hl hf
    refine lv_istore (lv' := [(4, .int (bI z_4)), (0, .ref (a 0)), (1, .int x1), (2, .int x_1), (3, .int x_2)]) hx hb d_MMo_indexed_60 hl (by decide) rfl (fun ls hl => ?_)
    refine lv_iload hx hb d_MMo_indexed_62 (lv_at hl 0 rfl) ?_
    refine jn_cut hf (fun (K_7 : Int64 → Option (MS)) => ∀ (y_6 : Int64), ∀ (ls : Array Slot), lv_has ls 11 [(0, .ref (a 0)), (1, .int x1), (2, .int x_1)] → some F = K_7 y_6 → W p l e rm_MMo_indexed st m args below meth c H locs 0 0 Q (F0 m 80 ls [.long y_6])) ?_ ?_
    · intro y_6 ls hl hf
      refine lv_lstore (lv' := [(5, .long y_6), (0, .ref (a 0)), (1, .int x1), (2, .int x_1)]) hx hb d_MMo_indexed_80 hl (by decide) rfl (fun ls hl => ?_)
      refine lv_lload hx hb d_MMo_indexed_82 (lv_at hl 0 rfl) ?_
      refine lv_l2i (v := Int64.toInt32 y_6) hx hb d_MMo_indexed_84 rfl ?_
      refine lv_i2s (v := (Int32.toInt16 (Int64.toInt32 y_6)).toInt32) hx hb d_MMo_indexed_85 rfl ?_
      refine lv_topi (fun x_8 ex_8 => ?_)
      have hf := hf.trans (nm_eq ex_8)
      refine lv_istore (lv' := [(7, .int x_8), (5, .long y_6), (0, .ref (a 0)), (1, .int x1), (2, .int x_1)]) hx hb d_MMo_indexed_86 hl (by decide) rfl (fun ls hl => ?_)
      refine lv_aload_n hx hb d_MMo_indexed_88 rfl (lv_at hl 2 rfl) ?_
      refine va_get (v := .int (mF u_3 8)) hx hb hts iM_Mo hown hw.2.1 hw.1 0 rfl rfl 16 (by decide) (hts _ kM_Mo_132) (fun _ h => h) rfl d_MMo_indexed_89 ?_
      refine lv_topi (fun x_9 ex_9 => ?_)
      have hf := hf.trans (nm_eq ex_9)
      refine jn_cut hf (fun (K_10 : Option (MS)) => ∀ (ls : Array Slot), lv_has ls 11 [(0, .ref (a 0)), (2, .int x_1), (5, .long y_6)] → some F = K_10 → W p l e rm_MMo_indexed st m args below meth c H locs 0 0 Q (F0 m 551 ls [])) ?_ ?_
      · intro ls hl hf
        refine lv_aload_n hx hb d_MMo_indexed_551 rfl (lv_at hl 0 rfl) ?_
        refine lv_aload_n hx hb d_MMo_indexed_552 rfl (lv_at hl 0 rfl) ?_
        refine va_get (v := .int (mF u_3 8)) hx hb hts iM_Mo hown hw.2.1 hw.1 0 rfl rfl 16 (by decide) (hts _ kM_Mo_132) (fun _ h => h) rfl d_MMo_indexed_553 ?_
        refine lv_iload_n hx hb d_MMo_indexed_556 rfl (lv_at hl 1 rfl) ?_
        refine lv_lload hx hb d_MMo_indexed_557 (lv_at hl 2 rfl) ?_
        refine lv_l2i (v := Int64.toInt32 y_6) hx hb d_MMo_indexed_559 rfl ?_
        obtain ⟨u_11, eu_11, hf⟩ := bd1_inv hf
        refine z_wv' (u' := u_11) (z_runV (As := [.int (mF u_3 8), .int x_1, .int (Int64.toInt32 y_6)]) (rest := []) ⟨hx, hb, hml, hown, hts⟩ (c_MMo_reckons l D a k u_3 (mF u_3 8) x_1 (Int64.toInt32 y_6) u_11 eu_11) (qM_Mo_256 hts (by decide)) hw 0 rfl rfl hl.1 rfl (lv_room (Nat.le_of_ble_eq_true rfl)) d_MMo_indexed_560 hcs) hw hS (fun H locs hw hS => ?_)
        exact hret _ _ _ _ _ d_MMo_indexed_563 hw hS (Option.some.inj hf)
      · intro K_10 hK_10 hf
        by_cases c_12 : x_9 = (64 : Int32)
        · have hf := hf.trans (if_pos c_12)
          refine lv_tableIn (off := 84) (tgt := 176) hx hb d_MMo_indexed_92 (by rw [c_12]; decide +kernel) (by rw [c_12]; decide +kernel) (by rw [c_12]; decide +kernel) (by decide) ?_
          refine lv_aload_n hx hb d_MMo_indexed_176 rfl (lv_at hl 2 rfl) ?_
          refine lv_aload_n hx hb d_MMo_indexed_177 rfl (lv_at hl 2 rfl) ?_
          refine va_get (v := .int (mF u_3 12)) hx hb hts iM_Mo hown hw.2.1 hw.1 0 rfl rfl 20 (by decide) (hts _ kM_Mo_152) (fun _ h => h) rfl d_MMo_indexed_178 ?_
          refine lv_iconst (v := (2 : Int32)) hx hb d_MMo_indexed_181 (by decide) ?_
          refine lv_aload_n hx hb d_MMo_indexed_182 rfl (lv_at hl 2 rfl) ?_
          refine va_get (v := .ref (a 2)) hx hb hts iM_Mo hown hw.2.1 hw.1 0 rfl rfl 1 (by decide) (hts _ kM_Mo_13) (fun _ h => h) rfl d_MMo_indexed_183 ?_
          refine lv_iload_n hx hb d_MMo_indexed_186 rfl (lv_at hl 4 rfl) ?_
          obtain ⟨i_13, hf⟩ := ckI_inv hf
          refine va_iald hx hb hw.2.1 hw.1 2 1 rfl rfl i_13 d_MMo_indexed_187 ?_
          refine lv_i2l (v := Int32.toInt64 (mA u_3 2 (Int32.toNatClampNeg x_1))) hx hb d_MMo_indexed_188 rfl ?_
          obtain ⟨u_14, eu_14, hf⟩ := bd1_inv hf
          refine z_wv' (u' := u_14) (z_runV (As := [.int (mF u_3 12), .int (2 : Int32), .long (Int32.toInt64 (mA u_3 2 (Int32.toNatClampNeg x_1)))]) (rest := []) ⟨hx, hb, hml, hown, hts⟩ (c_MMo_store l D a k u_3 (mF u_3 12) (2 : Int32) (Int32.toInt64 (mA u_3 2 (Int32.toNatClampNeg x_1))) u_14 eu_14) (qM_Mo_57 hts (by decide)) hw 0 rfl rfl hl.1 rfl (lv_room (Nat.le_of_ble_eq_true rfl)) d_MMo_indexed_189 hcs) hw hS (fun H locs hw hS => ?_)
          refine lv_goto (tgt := 563) hx hb d_MMo_indexed_192 (by decide) ?_
          exact hret _ _ _ _ _ d_MMo_indexed_563 hw hS (Option.some.inj hf)
        have hf := hf.trans (if_neg c_12)
        by_cases c_15 : x_9 = (65 : Int32)
        · have hf := hf.trans (if_pos c_15)
          refine lv_tableIn (off := 103) (tgt := 195) hx hb d_MMo_indexed_92 (by rw [c_15]; decide +kernel) (by rw [c_15]; decide +kernel) (by rw [c_15]; decide +kernel) (by decide) ?_
          refine lv_aload_n hx hb d_MMo_indexed_195 rfl (lv_at hl 2 rfl) ?_
          refine va_get (v := .ref (a 2)) hx hb hts iM_Mo hown hw.2.1 hw.1 0 rfl rfl 1 (by decide) (hts _ kM_Mo_13) (fun _ h => h) rfl d_MMo_indexed_196 ?_
          refine lv_iload_n hx hb d_MMo_indexed_199 rfl (lv_at hl 4 rfl) ?_
          refine lv_aload_n hx hb d_MMo_indexed_200 rfl (lv_at hl 2 rfl) ?_
          refine va_get (v := .int (mF u_3 12)) hx hb hts iM_Mo hown hw.2.1 hw.1 0 rfl rfl 20 (by decide) (hts _ kM_Mo_152) (fun _ h => h) rfl d_MMo_indexed_201 ?_
          obtain ⟨i_17, hf⟩ := ckI_inv hf
          refine z_iast (u' := msA u_3 2 (Int32.toNatClampNeg x_1) (mF u_3 12)) hx hb hw hS 2 1 rfl rfl i_17 rfl d_MMo_indexed_204 (fun u_16 H locs eu_16 hw hS => ?_)
          have hf := hf.trans (nm_eq eu_16)
          refine lv_goto (tgt := 563) hx hb d_MMo_indexed_205 (by decide) ?_
          exact hret _ _ _ _ _ d_MMo_indexed_563 hw hS (Option.some.inj hf)
        have hf := hf.trans (if_neg c_15)
        by_cases c_18 : x_9 = (66 : Int32)
        · have hf := hf.trans (if_pos c_18)
          refine lv_tableIn (off := 116) (tgt := 208) hx hb d_MMo_indexed_92 (by rw [c_18]; decide +kernel) (by rw [c_18]; decide +kernel) (by rw [c_18]; decide +kernel) (by decide) ?_
          refine lv_aload_n hx hb d_MMo_indexed_208 rfl (lv_at hl 2 rfl) ?_
          refine lv_aload_n hx hb d_MMo_indexed_209 rfl (lv_at hl 2 rfl) ?_
          refine va_get (v := .int (mF u_3 12)) hx hb hts iM_Mo hown hw.2.1 hw.1 0 rfl rfl 20 (by decide) (hts _ kM_Mo_152) (fun _ h => h) rfl d_MMo_indexed_210 ?_
          refine lv_iconst (v := (1 : Int32)) hx hb d_MMo_indexed_213 (by decide) ?_
          refine lv_aload_n hx hb d_MMo_indexed_214 rfl (lv_at hl 2 rfl) ?_
          refine va_get (v := .ref (a 2)) hx hb hts iM_Mo hown hw.2.1 hw.1 0 rfl rfl 1 (by decide) (hts _ kM_Mo_13) (fun _ h => h) rfl d_MMo_indexed_215 ?_
          refine lv_iload_n hx hb d_MMo_indexed_218 rfl (lv_at hl 4 rfl) ?_
          obtain ⟨i_19, hf⟩ := ckI_inv hf
          refine va_iald hx hb hw.2.1 hw.1 2 1 rfl rfl i_19 d_MMo_indexed_219 ?_
          refine lv_i2l (v := Int32.toInt64 (mA u_3 2 (Int32.toNatClampNeg x_1))) hx hb d_MMo_indexed_220 rfl ?_
          obtain ⟨u_20, eu_20, hf⟩ := bd1_inv hf
          refine z_wv' (u' := u_20) (z_runV (As := [.int (mF u_3 12), .int (1 : Int32), .long (Int32.toInt64 (mA u_3 2 (Int32.toNatClampNeg x_1)))]) (rest := []) ⟨hx, hb, hml, hown, hts⟩ (c_MMo_store l D a k u_3 (mF u_3 12) (1 : Int32) (Int32.toInt64 (mA u_3 2 (Int32.toNatClampNeg x_1))) u_20 eu_20) (qM_Mo_57 hts (by decide)) hw 0 rfl rfl hl.1 rfl (lv_room (Nat.le_of_ble_eq_true rfl)) d_MMo_indexed_221 hcs) hw hS (fun H locs hw hS => ?_)
          refine lv_goto (tgt := 563) hx hb d_MMo_indexed_224 (by decide) ?_
          exact hret _ _ _ _ _ d_MMo_indexed_563 hw hS (Option.some.inj hf)
        have hf := hf.trans (if_neg c_18)
        by_cases c_21 : x_9 = (67 : Int32)
        · have hf := hf.trans (if_pos c_21)
          refine lv_tableIn (off := 135) (tgt := 227) hx hb d_MMo_indexed_92 (by rw [c_21]; decide +kernel) (by rw [c_21]; decide +kernel) (by rw [c_21]; decide +kernel) (by decide) ?_
          refine lv_aload_n hx hb d_MMo_indexed_227 rfl (lv_at hl 2 rfl) ?_
          refine va_get (v := .ref (a 2)) hx hb hts iM_Mo hown hw.2.1 hw.1 0 rfl rfl 1 (by decide) (hts _ kM_Mo_13) (fun _ h => h) rfl d_MMo_indexed_228 ?_
          refine lv_iload_n hx hb d_MMo_indexed_231 rfl (lv_at hl 4 rfl) ?_
          refine lv_aload_n hx hb d_MMo_indexed_232 rfl (lv_at hl 2 rfl) ?_
          refine va_get (v := .ref (a 2)) hx hb hts iM_Mo hown hw.2.1 hw.1 0 rfl rfl 1 (by decide) (hts _ kM_Mo_13) (fun _ h => h) rfl d_MMo_indexed_233 ?_
          refine lv_iload_n hx hb d_MMo_indexed_236 rfl (lv_at hl 4 rfl) ?_
          obtain ⟨i_22, hf⟩ := ckI_inv hf
          refine va_iald hx hb hw.2.1 hw.1 2 1 rfl rfl i_22 d_MMo_indexed_237 ?_
          refine lv_sipush (v := (-256 : Int32)) hx hb d_MMo_indexed_238 (by decide) ?_
          refine lv_iand hx hb d_MMo_indexed_241 ?_
          refine lv_lload hx hb d_MMo_indexed_242 (lv_at hl 1 rfl) ?_
          refine lv_l2i (v := Int64.toInt32 y_6) hx hb d_MMo_indexed_244 rfl ?_
          refine lv_ior hx hb d_MMo_indexed_245 ?_
          obtain ⟨i_24, hf⟩ := ckI_inv hf
          refine z_iast (u' := msA u_3 2 (Int32.toNatClampNeg x_1) (((mA u_3 2 (Int32.toNatClampNeg x_1)) &&& (-256 : Int32)) ||| (Int64.toInt32 y_6))) hx hb hw hS 2 1 rfl rfl i_24 rfl d_MMo_indexed_246 (fun u_23 H locs eu_23 hw hS => ?_)
          have hf := hf.trans (nm_eq eu_23)
          refine lv_goto (tgt := 563) hx hb d_MMo_indexed_247 (by decide) ?_
          exact hret _ _ _ _ _ d_MMo_indexed_563 hw hS (Option.some.inj hf)
        have hf := hf.trans (if_neg c_21)
        by_cases c_25 : x_9 = (68 : Int32)
        · have hf := hf.trans (if_neg (by rw [c_25]; decide))
          have hf := hf.trans (if_neg (by rw [c_25]; decide))
          have hf := hf.trans (if_neg (by rw [c_25]; decide))
          have hf := hf.trans (if_neg (by rw [c_25]; decide))
          have hf := hf.trans (if_neg (by rw [c_25]; decide))
          have hf := hf.trans (if_neg (by rw [c_25]; decide))
          have hf := hf.trans (if_neg (by rw [c_25]; decide))
          have hf := hf.trans (if_neg (by rw [c_25]; decide))
          have hf := hf.trans (if_neg (by rw [c_25]; decide))
          have hf := hf.trans (if_neg (by rw [c_25]; decide))
          have hf := hf.trans (if_neg (by rw [c_25]; decide))
          refine lv_tableIn (off := 459) (tgt := 551) hx hb d_MMo_indexed_92 (by rw [c_25]; decide +kernel) (by rw [c_25]; decide +kernel) (by rw [c_25]; decide +kernel) (by decide) ?_
          exact hK_10 _ (lv_sub hl [2, 4, 1] rfl) hf
        by_cases c_26 : x_9 = (69 : Int32)
        · have hf := hf.trans (if_pos c_26)
          refine lv_tableIn (off := 158) (tgt := 250) hx hb d_MMo_indexed_92 (by rw [c_26]; decide +kernel) (by rw [c_26]; decide +kernel) (by rw [c_26]; decide +kernel) (by decide) ?_
          refine lv_aload_n hx hb d_MMo_indexed_250 rfl (lv_at hl 2 rfl) ?_
          refine va_get (v := .ref (a 2)) hx hb hts iM_Mo hown hw.2.1 hw.1 0 rfl rfl 1 (by decide) (hts _ kM_Mo_13) (fun _ h => h) rfl d_MMo_indexed_251 ?_
          refine lv_iload_n hx hb d_MMo_indexed_254 rfl (lv_at hl 4 rfl) ?_
          refine lv_iload_n hx hb d_MMo_indexed_255 rfl (lv_at hl 3 rfl) ?_
          obtain ⟨i_28, hf⟩ := ckI_inv hf
          refine z_iast (u' := msA u_3 2 (Int32.toNatClampNeg x_1) x1) hx hb hw hS 2 1 rfl rfl i_28 rfl d_MMo_indexed_256 (fun u_27 H locs eu_27 hw hS => ?_)
          have hf := hf.trans (nm_eq eu_27)
          refine lv_aload_n hx hb d_MMo_indexed_257 rfl (lv_at hl 2 rfl) ?_
          refine lv_iconst (v := (1 : Int32)) hx hb d_MMo_indexed_258 (by decide) ?_
          refine lv_aload_n hx hb d_MMo_indexed_259 rfl (lv_at hl 2 rfl) ?_
          refine va_get (v := .int (mF u_27 12)) hx hb hts iM_Mo hown hw.2.1 hw.1 0 rfl rfl 20 (by decide) (hts _ kM_Mo_152) (fun _ h => h) rfl d_MMo_indexed_260 ?_
          obtain ⟨u_29, eu_29, hf⟩ := bd1_inv hf
          refine z_wv' (u' := u_29) (z_runV (As := [.int (1 : Int32), .int (mF u_27 12)]) (rest := []) ⟨hx, hb, hml, hown, hts⟩ (c_MMo_goes l D a k u_27 true (mF u_27 12) u_29 eu_29) (qM_Mo_250 hts (by decide)) hw 0 rfl rfl hl.1 rfl (lv_room (Nat.le_of_ble_eq_true rfl)) d_MMo_indexed_263 hcs) hw hS (fun H locs hw hS => ?_)
          refine lv_goto (tgt := 563) hx hb d_MMo_indexed_266 (by decide) ?_
          exact hret _ _ _ _ _ d_MMo_indexed_563 hw hS (Option.some.inj hf)
        have hf := hf.trans (if_neg c_26)
        by_cases c_30 : x_9 = (70 : Int32)
        · have hf := hf.trans (if_pos c_30)
          refine lv_tableIn (off := 177) (tgt := 269) hx hb d_MMo_indexed_92 (by rw [c_30]; decide +kernel) (by rw [c_30]; decide +kernel) (by rw [c_30]; decide +kernel) (by decide) ?_
          refine lv_aload_n hx hb d_MMo_indexed_269 rfl (lv_at hl 2 rfl) ?_
          refine va_get (v := .ref (a 2)) hx hb hts iM_Mo hown hw.2.1 hw.1 0 rfl rfl 1 (by decide) (hts _ kM_Mo_13) (fun _ h => h) rfl d_MMo_indexed_270 ?_
          refine lv_iload_n hx hb d_MMo_indexed_273 rfl (lv_at hl 4 rfl) ?_
          refine lv_dup2_11 hx hb d_MMo_indexed_274 rfl rfl ?_
          obtain ⟨i_31, hf⟩ := ckI_inv hf
          refine va_iald hx hb hw.2.1 hw.1 2 1 rfl rfl i_31 d_MMo_indexed_275 ?_
          refine lv_iconst (v := (1 : Int32)) hx hb d_MMo_indexed_276 (by decide) ?_
          refine lv_isub hx hb d_MMo_indexed_277 ?_
          obtain ⟨i_33, hf⟩ := ckI_inv hf
          refine z_iast (u' := msA u_3 2 (Int32.toNatClampNeg x_1) ((mA u_3 2 (Int32.toNatClampNeg x_1)) - (1 : Int32))) hx hb hw hS 2 1 rfl rfl i_33 rfl d_MMo_indexed_278 (fun u_32 H locs eu_32 hw hS => ?_)
          have hf := hf.trans (nm_eq eu_32)
          refine lv_aload_n hx hb d_MMo_indexed_279 rfl (lv_at hl 2 rfl) ?_
          refine lv_aload_n hx hb d_MMo_indexed_280 rfl (lv_at hl 2 rfl) ?_
          refine va_get (v := .ref (a 2)) hx hb hts iM_Mo hown hw.2.1 hw.1 0 rfl rfl 1 (by decide) (hts _ kM_Mo_13) (fun _ h => h) rfl d_MMo_indexed_281 ?_
          refine lv_iload_n hx hb d_MMo_indexed_284 rfl (lv_at hl 4 rfl) ?_
          obtain ⟨i_34, hf⟩ := ckI_inv hf
          refine va_iald hx hb hw.2.1 hw.1 2 1 rfl rfl i_34 d_MMo_indexed_285 ?_
          refine lv_if_eq (tgt := 293) hx hb d_MMo_indexed_286 (by decide) (fun c_35 => ?_) (fun c_35 => ?_)
          · have hf := hf.trans (if_pos c_35)
            refine lv_iconst (v := (0 : Int32)) hx hb d_MMo_indexed_293 (by decide) ?_
            refine lv_aload_n hx hb d_MMo_indexed_294 rfl (lv_at hl 2 rfl) ?_
            refine va_get (v := .int (mF u_32 12)) hx hb hts iM_Mo hown hw.2.1 hw.1 0 rfl rfl 20 (by decide) (hts _ kM_Mo_152) (fun _ h => h) rfl d_MMo_indexed_295 ?_
            obtain ⟨u_36, eu_36, hf⟩ := bd1_inv hf
            refine z_wv' (u' := u_36) (z_runV (As := [.int (0 : Int32), .int (mF u_32 12)]) (rest := []) ⟨hx, hb, hml, hown, hts⟩ (c_MMo_goes l D a k u_32 false (mF u_32 12) u_36 eu_36) (qM_Mo_250 hts (by decide)) hw 0 rfl rfl hl.1 rfl (lv_room (Nat.le_of_ble_eq_true rfl)) d_MMo_indexed_298 hcs) hw hS (fun H locs hw hS => ?_)
            refine lv_goto (tgt := 563) hx hb d_MMo_indexed_301 (by decide) ?_
            exact hret _ _ _ _ _ d_MMo_indexed_563 hw hS (Option.some.inj hf)
          · have hf := hf.trans (if_neg c_35)
            refine lv_iconst (v := (1 : Int32)) hx hb d_MMo_indexed_289 (by decide) ?_
            refine lv_goto (tgt := 294) hx hb d_MMo_indexed_290 (by decide) ?_
            refine lv_aload_n hx hb d_MMo_indexed_294 rfl (lv_at hl 2 rfl) ?_
            refine va_get (v := .int (mF u_32 12)) hx hb hts iM_Mo hown hw.2.1 hw.1 0 rfl rfl 20 (by decide) (hts _ kM_Mo_152) (fun _ h => h) rfl d_MMo_indexed_295 ?_
            obtain ⟨u_37, eu_37, hf⟩ := bd1_inv hf
            refine z_wv' (u' := u_37) (z_runV (As := [.int (1 : Int32), .int (mF u_32 12)]) (rest := []) ⟨hx, hb, hml, hown, hts⟩ (c_MMo_goes l D a k u_32 true (mF u_32 12) u_37 eu_37) (qM_Mo_250 hts (by decide)) hw 0 rfl rfl hl.1 rfl (lv_room (Nat.le_of_ble_eq_true rfl)) d_MMo_indexed_298 hcs) hw hS (fun H locs hw hS => ?_)
            refine lv_goto (tgt := 563) hx hb d_MMo_indexed_301 (by decide) ?_
            exact hret _ _ _ _ _ d_MMo_indexed_563 hw hS (Option.some.inj hf)
        have hf := hf.trans (if_neg c_30)
        by_cases c_38 : x_9 = (71 : Int32)
        · have hf := hf.trans (if_pos c_38)
          refine lv_tableIn (off := 212) (tgt := 304) hx hb d_MMo_indexed_92 (by rw [c_38]; decide +kernel) (by rw [c_38]; decide +kernel) (by rw [c_38]; decide +kernel) (by decide) ?_
          refine lv_aload_n hx hb d_MMo_indexed_304 rfl (lv_at hl 2 rfl) ?_
          refine lv_aload_n hx hb d_MMo_indexed_305 rfl (lv_at hl 2 rfl) ?_
          refine lv_iload_n hx hb d_MMo_indexed_306 rfl (lv_at hl 4 rfl) ?_
          obtain ⟨z_39, ez_39, hf⟩ := bd1_inv hf
          refine z_rV (V := .int (bI z_39)) (z_runV (As := [.int x_1]) (rest := [.ref (a 0)]) ⟨hx, hb, hml, hown, hts⟩ (c_MMo_holds l D a k u_3 x_1 z_39 ez_39) (qM_Mo_253 hts (by decide)) hw 0 rfl rfl hl.1 rfl (lv_room (Nat.le_of_ble_eq_true rfl)) d_MMo_indexed_307 hcs) ?_
          refine lv_aload_n hx hb d_MMo_indexed_310 rfl (lv_at hl 2 rfl) ?_
          refine va_get (v := .int (mF u_3 12)) hx hb hts iM_Mo hown hw.2.1 hw.1 0 rfl rfl 20 (by decide) (hts _ kM_Mo_152) (fun _ h => h) rfl d_MMo_indexed_311 ?_
          obtain ⟨u_40, eu_40, hf⟩ := bd1_inv hf
          refine z_wv' (u' := u_40) (z_runV (As := [.int (bI z_39), .int (mF u_3 12)]) (rest := []) ⟨hx, hb, hml, hown, hts⟩ (c_MMo_goes l D a k u_3 z_39 (mF u_3 12) u_40 eu_40) (qM_Mo_250 hts (by decide)) hw 0 rfl rfl hl.1 rfl (lv_room (Nat.le_of_ble_eq_true rfl)) d_MMo_indexed_314 hcs) hw hS (fun H locs hw hS => ?_)
          refine lv_goto (tgt := 563) hx hb d_MMo_indexed_317 (by decide) ?_
          exact hret _ _ _ _ _ d_MMo_indexed_563 hw hS (Option.some.inj hf)
        have hf := hf.trans (if_neg c_38)
        by_cases c_41 : x_9 = (72 : Int32)
        · have hf := hf.trans (if_pos c_41)
          refine lv_tableIn (off := 228) (tgt := 320) hx hb d_MMo_indexed_92 (by rw [c_41]; decide +kernel) (by rw [c_41]; decide +kernel) (by rw [c_41]; decide +kernel) (by decide) ?_
          refine lv_aload_n hx hb d_MMo_indexed_320 rfl (lv_at hl 2 rfl) ?_
          refine va_get (v := .ref (a 2)) hx hb hts iM_Mo hown hw.2.1 hw.1 0 rfl rfl 1 (by decide) (hts _ kM_Mo_13) (fun _ h => h) rfl d_MMo_indexed_321 ?_
          refine lv_iload_n hx hb d_MMo_indexed_324 rfl (lv_at hl 4 rfl) ?_
          refine lv_iload hx hb d_MMo_indexed_325 (lv_at hl 0 rfl) ?_
          obtain ⟨i_43, hf⟩ := ckI_inv hf
          refine z_iast (u' := msA u_3 2 (Int32.toNatClampNeg x_1) x_8) hx hb hw hS 2 1 rfl rfl i_43 rfl d_MMo_indexed_327 (fun u_42 H locs eu_42 hw hS => ?_)
          have hf := hf.trans (nm_eq eu_42)
          refine lv_goto (tgt := 563) hx hb d_MMo_indexed_328 (by decide) ?_
          exact hret _ _ _ _ _ d_MMo_indexed_563 hw hS (Option.some.inj hf)
        have hf := hf.trans (if_neg c_41)
        by_cases c_44 : x_9 = (73 : Int32)
        · have hf := hf.trans (if_pos c_44)
          refine lv_tableIn (off := 239) (tgt := 331) hx hb d_MMo_indexed_92 (by rw [c_44]; decide +kernel) (by rw [c_44]; decide +kernel) (by rw [c_44]; decide +kernel) (by decide) ?_
          refine lv_aload_n hx hb d_MMo_indexed_331 rfl (lv_at hl 2 rfl) ?_
          refine lv_aload_n hx hb d_MMo_indexed_332 rfl (lv_at hl 2 rfl) ?_
          refine va_get (v := .ref (a 2)) hx hb hts iM_Mo hown hw.2.1 hw.1 0 rfl rfl 1 (by decide) (hts _ kM_Mo_13) (fun _ h => h) rfl d_MMo_indexed_333 ?_
          refine lv_iload_n hx hb d_MMo_indexed_336 rfl (lv_at hl 4 rfl) ?_
          obtain ⟨i_45, hf⟩ := ckI_inv hf
          refine va_iald hx hb hw.2.1 hw.1 2 1 rfl rfl i_45 d_MMo_indexed_337 ?_
          refine lv_i2l (v := Int32.toInt64 (mA u_3 2 (Int32.toNatClampNeg x_1))) hx hb d_MMo_indexed_338 rfl ?_
          refine lv_iload hx hb d_MMo_indexed_339 (lv_at hl 0 rfl) ?_
          refine lv_i2l (v := Int32.toInt64 x_8) hx hb d_MMo_indexed_341 rfl ?_
          obtain ⟨x_46, ex_46, hf⟩ := bd1_inv hf
          refine z_rV (V := .int x_46) (z_runS (As := [.long (Int32.toInt64 (mA u_3 2 (Int32.toNatClampNeg x_1))), .long (Int32.toInt64 x_8)]) (rest := [.ref (a 0)]) ⟨hx, hb, hml, hown, hts⟩ (c_MMo_order l D a k u_3 (Int32.toInt64 (mA u_3 2 (Int32.toNatClampNeg x_1))) (Int32.toInt64 x_8) x_46 ex_46) (qM_Mo_239 hts (by decide)) hw  hl.1 rfl (lv_room (Nat.le_of_ble_eq_true rfl)) d_MMo_indexed_342 hcs) ?_
          refine z_put (u' := msF u_3 1 x_46) hx hb hts iM_Mo tM_Mo tM_Mo_ok nM_Mo hown hw hS 0 rfl rfl 9 (by decide) (hts _ kM_Mo_73) (fun _ h => h) rfl rfl (Nat.le_of_ble_eq_true rfl) rfl d_MMo_indexed_345 (fun u_47 H locs eu_47 hw hS => ?_)
          have hf := hf.trans (nm_eq eu_47)
          refine lv_goto (tgt := 563) hx hb d_MMo_indexed_348 (by decide) ?_
          exact hret _ _ _ _ _ d_MMo_indexed_563 hw hS (Option.some.inj hf)
        have hf := hf.trans (if_neg c_44)
        by_cases c_48 : x_9 = (74 : Int32)
        · have hf := hf.trans (if_pos c_48)
          refine lv_tableIn (off := 259) (tgt := 351) hx hb d_MMo_indexed_92 (by rw [c_48]; decide +kernel) (by rw [c_48]; decide +kernel) (by rw [c_48]; decide +kernel) (by decide) ?_
          refine lv_aload_n hx hb d_MMo_indexed_351 rfl (lv_at hl 2 rfl) ?_
          refine lv_iload_n hx hb d_MMo_indexed_352 rfl (lv_at hl 4 rfl) ?_
          refine lv_aload_n hx hb d_MMo_indexed_353 rfl (lv_at hl 2 rfl) ?_
          refine va_get (v := .ref (a 2)) hx hb hts iM_Mo hown hw.2.1 hw.1 0 rfl rfl 1 (by decide) (hts _ kM_Mo_13) (fun _ h => h) rfl d_MMo_indexed_354 ?_
          refine lv_iload_n hx hb d_MMo_indexed_357 rfl (lv_at hl 4 rfl) ?_
          obtain ⟨i_49, hf⟩ := ckI_inv hf
          refine va_iald hx hb hw.2.1 hw.1 2 1 rfl rfl i_49 d_MMo_indexed_358 ?_
          refine lv_i2l (v := Int32.toInt64 (mA u_3 2 (Int32.toNatClampNeg x_1))) hx hb d_MMo_indexed_359 rfl ?_
          refine lv_iload hx hb d_MMo_indexed_360 (lv_at hl 0 rfl) ?_
          refine lv_i2l (v := Int32.toInt64 x_8) hx hb d_MMo_indexed_362 rfl ?_
          refine lv_ladd hx hb d_MMo_indexed_363 ?_
          obtain ⟨u_50, eu_50, hf⟩ := bd1_inv hf
          refine z_wv' (u' := u_50) (z_runV (As := [.int x_1, .long ((Int32.toInt64 (mA u_3 2 (Int32.toNatClampNeg x_1))) + (Int32.toInt64 x_8))]) (rest := []) ⟨hx, hb, hml, hown, hts⟩ (c_MMo_exact l D a k u_3 x_1 ((Int32.toInt64 (mA u_3 2 (Int32.toNatClampNeg x_1))) + (Int32.toInt64 x_8)) u_50 eu_50) (qM_Mo_243 hts (by decide)) hw 0 rfl rfl hl.1 rfl (lv_room (Nat.le_of_ble_eq_true rfl)) d_MMo_indexed_364 hcs) hw hS (fun H locs hw hS => ?_)
          refine lv_goto (tgt := 563) hx hb d_MMo_indexed_367 (by decide) ?_
          exact hret _ _ _ _ _ d_MMo_indexed_563 hw hS (Option.some.inj hf)
        have hf := hf.trans (if_neg c_48)
        by_cases c_51 : x_9 = (75 : Int32)
        · have hf := hf.trans (if_pos c_51)
          refine lv_tableIn (off := 278) (tgt := 370) hx hb d_MMo_indexed_92 (by rw [c_51]; decide +kernel) (by rw [c_51]; decide +kernel) (by rw [c_51]; decide +kernel) (by decide) ?_
          refine lv_aload_n hx hb d_MMo_indexed_370 rfl (lv_at hl 2 rfl) ?_
          refine lv_iload_n hx hb d_MMo_indexed_371 rfl (lv_at hl 4 rfl) ?_
          refine lv_aload_n hx hb d_MMo_indexed_372 rfl (lv_at hl 2 rfl) ?_
          refine va_get (v := .ref (a 2)) hx hb hts iM_Mo hown hw.2.1 hw.1 0 rfl rfl 1 (by decide) (hts _ kM_Mo_13) (fun _ h => h) rfl d_MMo_indexed_373 ?_
          refine lv_iload_n hx hb d_MMo_indexed_376 rfl (lv_at hl 4 rfl) ?_
          obtain ⟨i_52, hf⟩ := ckI_inv hf
          refine va_iald hx hb hw.2.1 hw.1 2 1 rfl rfl i_52 d_MMo_indexed_377 ?_
          refine lv_i2l (v := Int32.toInt64 (mA u_3 2 (Int32.toNatClampNeg x_1))) hx hb d_MMo_indexed_378 rfl ?_
          refine lv_iload hx hb d_MMo_indexed_379 (lv_at hl 0 rfl) ?_
          refine lv_i2l (v := Int32.toInt64 x_8) hx hb d_MMo_indexed_381 rfl ?_
          refine lv_lsub hx hb d_MMo_indexed_382 ?_
          obtain ⟨u_53, eu_53, hf⟩ := bd1_inv hf
          refine z_wv' (u' := u_53) (z_runV (As := [.int x_1, .long ((Int32.toInt64 (mA u_3 2 (Int32.toNatClampNeg x_1))) - (Int32.toInt64 x_8))]) (rest := []) ⟨hx, hb, hml, hown, hts⟩ (c_MMo_exact l D a k u_3 x_1 ((Int32.toInt64 (mA u_3 2 (Int32.toNatClampNeg x_1))) - (Int32.toInt64 x_8)) u_53 eu_53) (qM_Mo_243 hts (by decide)) hw 0 rfl rfl hl.1 rfl (lv_room (Nat.le_of_ble_eq_true rfl)) d_MMo_indexed_383 hcs) hw hS (fun H locs hw hS => ?_)
          refine lv_goto (tgt := 563) hx hb d_MMo_indexed_386 (by decide) ?_
          exact hret _ _ _ _ _ d_MMo_indexed_563 hw hS (Option.some.inj hf)
        have hf := hf.trans (if_neg c_51)
        by_cases c_54 : x_9 = (76 : Int32)
        · have hf := hf.trans (if_pos c_54)
          refine lv_tableIn (off := 297) (tgt := 389) hx hb d_MMo_indexed_92 (by rw [c_54]; decide +kernel) (by rw [c_54]; decide +kernel) (by rw [c_54]; decide +kernel) (by decide) ?_
          refine lv_aload_n hx hb d_MMo_indexed_389 rfl (lv_at hl 2 rfl) ?_
          refine va_get (v := .ref (a 2)) hx hb hts iM_Mo hown hw.2.1 hw.1 0 rfl rfl 1 (by decide) (hts _ kM_Mo_13) (fun _ h => h) rfl d_MMo_indexed_390 ?_
          refine lv_iload_n hx hb d_MMo_indexed_393 rfl (lv_at hl 4 rfl) ?_
          refine lv_aload_n hx hb d_MMo_indexed_394 rfl (lv_at hl 2 rfl) ?_
          refine va_get (v := .ref (a 2)) hx hb hts iM_Mo hown hw.2.1 hw.1 0 rfl rfl 1 (by decide) (hts _ kM_Mo_13) (fun _ h => h) rfl d_MMo_indexed_395 ?_
          refine lv_iload_n hx hb d_MMo_indexed_398 rfl (lv_at hl 4 rfl) ?_
          obtain ⟨i_55, hf⟩ := ckI_inv hf
          refine va_iald hx hb hw.2.1 hw.1 2 1 rfl rfl i_55 d_MMo_indexed_399 ?_
          refine lv_iload hx hb d_MMo_indexed_400 (lv_at hl 0 rfl) ?_
          refine lv_imul hx hb d_MMo_indexed_402 ?_
          obtain ⟨i_57, hf⟩ := ckI_inv hf
          refine z_iast (u' := msA u_3 2 (Int32.toNatClampNeg x_1) ((mA u_3 2 (Int32.toNatClampNeg x_1)) * x_8)) hx hb hw hS 2 1 rfl rfl i_57 rfl d_MMo_indexed_403 (fun u_56 H locs eu_56 hw hS => ?_)
          have hf := hf.trans (nm_eq eu_56)
          refine lv_goto (tgt := 563) hx hb d_MMo_indexed_404 (by decide) ?_
          exact hret _ _ _ _ _ d_MMo_indexed_563 hw hS (Option.some.inj hf)
        have hf := hf.trans (if_neg c_54)
        by_cases c_58 : x_9 = (77 : Int32)
        · have hf := hf.trans (if_neg (by rw [c_58]; decide))
          have hf := hf.trans (if_neg (by rw [c_58]; decide))
          have hf := hf.trans (if_neg (by rw [c_58]; decide))
          refine lv_tableIn (off := 459) (tgt := 551) hx hb d_MMo_indexed_92 (by rw [c_58]; decide +kernel) (by rw [c_58]; decide +kernel) (by rw [c_58]; decide +kernel) (by decide) ?_
          exact hK_10 _ (lv_sub hl [2, 4, 1] rfl) hf
        by_cases c_59 : x_9 = (78 : Int32)
        · have hf := hf.trans (if_pos c_59)
          refine lv_tableIn (off := 315) (tgt := 407) hx hb d_MMo_indexed_92 (by rw [c_59]; decide +kernel) (by rw [c_59]; decide +kernel) (by rw [c_59]; decide +kernel) (by decide) ?_
          refine lv_aload_n hx hb d_MMo_indexed_407 rfl (lv_at hl 2 rfl) ?_
          refine va_get (v := .ref (a 2)) hx hb hts iM_Mo hown hw.2.1 hw.1 0 rfl rfl 1 (by decide) (hts _ kM_Mo_13) (fun _ h => h) rfl d_MMo_indexed_408 ?_
          refine lv_iload_n hx hb d_MMo_indexed_411 rfl (lv_at hl 4 rfl) ?_
          obtain ⟨i_60, hf⟩ := ckI_inv hf
          refine va_iald hx hb hw.2.1 hw.1 2 1 rfl rfl i_60 d_MMo_indexed_412 ?_
          refine jn_cut hf (fun (K_62 : Int64 → Option (MS)) => ∀ (y_61 : Int64), ∀ (ls : Array Slot), lv_has ls 11 [(0, .ref (a 0)), (2, .int x_1)] → some F = K_62 y_61 → W p l e rm_MMo_indexed st m args below meth c H locs 0 0 Q (F0 m 434 ls [.long y_61])) ?_ ?_
          · intro y_61 ls hl hf
            refine lv_lstore (lv' := [(8, .long y_61), (0, .ref (a 0)), (2, .int x_1)]) hx hb d_MMo_indexed_434 hl (by decide) rfl (fun ls hl => ?_)
            refine lv_iconst (v := (0 : Int32)) hx hb d_MMo_indexed_436 (by decide) ?_
            refine lv_istore (lv' := [(10, .int (0 : Int32)), (8, .long y_61), (0, .ref (a 0)), (2, .int x_1)]) hx hb d_MMo_indexed_437 hl (by decide) rfl (fun ls hl => ?_)
            refine jn_cut hf (fun (K_64 : MS → Option (MS)) => ∀ (u_63 : MS), ∀ (H : Heap) (locs : List Loc), zW D clM (tyM k) nwM (mW a k) A st u_63 H → va_S A st.heap H locs → ∀ (ls : Array Slot), lv_has ls 11 [(0, .ref (a 0)), (2, .int x_1)] → some F = K_64 u_63 → W p l e rm_MMo_indexed st m args below meth c H locs 0 0 Q (F0 m 474 ls [])) ?_ ?_
            · intro u_63 H locs hw hS ls hl hf
              refine lv_aload_n hx hb d_MMo_indexed_474 rfl (lv_at hl 0 rfl) ?_
              refine lv_aload_n hx hb d_MMo_indexed_475 rfl (lv_at hl 0 rfl) ?_
              refine va_get (v := .int (mF u_63 12)) hx hb hts iM_Mo hown hw.2.1 hw.1 0 rfl rfl 20 (by decide) (hts _ kM_Mo_152) (fun _ h => h) rfl d_MMo_indexed_476 ?_
              refine lv_bipush (v := (8 : Int32)) hx hb d_MMo_indexed_479 (by decide) ?_
              refine lv_aload_n hx hb d_MMo_indexed_481 rfl (lv_at hl 0 rfl) ?_
              refine va_get (v := .ref (a 6)) hx hb hts iM_Mo hown hw.2.1 hw.1 0 rfl rfl 5 (by decide) (hts _ kM_Mo_25) (fun _ h => h) rfl d_MMo_indexed_482 ?_
              refine lv_aload_n hx hb d_MMo_indexed_485 rfl (lv_at hl 0 rfl) ?_
              refine va_get (v := .ref (a 2)) hx hb hts iM_Mo hown hw.2.1 hw.1 0 rfl rfl 1 (by decide) (hts _ kM_Mo_13) (fun _ h => h) rfl d_MMo_indexed_486 ?_
              refine lv_iload_n hx hb d_MMo_indexed_489 rfl (lv_at hl 1 rfl) ?_
              obtain ⟨i_65, hf⟩ := ckI_inv hf
              refine va_iald hx hb hw.2.1 hw.1 2 1 rfl rfl i_65 d_MMo_indexed_490 ?_
              refine lv_if_ge (tgt := 498) hx hb d_MMo_indexed_491 (by decide) (fun c_66 => ?_) (fun c_66 => ?_)
              · have hf := hf.trans (if_pos c_66)
                refine lv_iconst (v := (0 : Int32)) hx hb d_MMo_indexed_498 (by decide) ?_
                obtain ⟨u_67, eu_67, hf⟩ := bd1_inv hf
                refine z_wv' (u' := u_67) (z_runV (As := [.int (mF u_63 12), .int (8 : Int32), .ref (a 6), .int (0 : Int32)]) (rest := []) ⟨hx, hb, hml, hown, hts⟩ (c_MMo_unpacks_6 l D a k u_63 (mF u_63 12) (8 : Int32) false u_67 eu_67) (qM_Mo_216 hts (by decide)) hw 0 rfl rfl hl.1 rfl (lv_room (Nat.le_of_ble_eq_true rfl)) d_MMo_indexed_499 hcs) hw hS (fun H locs hw hS => ?_)
                refine lv_goto (tgt := 563) hx hb d_MMo_indexed_502 (by decide) ?_
                exact hret _ _ _ _ _ d_MMo_indexed_563 hw hS (Option.some.inj hf)
              · have hf := hf.trans (if_neg c_66)
                refine lv_iconst (v := (1 : Int32)) hx hb d_MMo_indexed_494 (by decide) ?_
                refine lv_goto (tgt := 499) hx hb d_MMo_indexed_495 (by decide) ?_
                obtain ⟨u_68, eu_68, hf⟩ := bd1_inv hf
                refine z_wv' (u' := u_68) (z_runV (As := [.int (mF u_63 12), .int (8 : Int32), .ref (a 6), .int (1 : Int32)]) (rest := []) ⟨hx, hb, hml, hown, hts⟩ (c_MMo_unpacks_6 l D a k u_63 (mF u_63 12) (8 : Int32) true u_68 eu_68) (qM_Mo_216 hts (by decide)) hw 0 rfl rfl hl.1 rfl (lv_room (Nat.le_of_ble_eq_true rfl)) d_MMo_indexed_499 hcs) hw hS (fun H locs hw hS => ?_)
                refine lv_goto (tgt := 563) hx hb d_MMo_indexed_502 (by decide) ?_
                exact hret _ _ _ _ _ d_MMo_indexed_563 hw hS (Option.some.inj hf)
            · intro K_64 hK_64 hf
              refine lp_cut (fun (_ : Nat) (L_72 : Int64 → Int32 → MS → Option (MS)) => ∀ (y_69 : Int64) (x_70 : Int32) (u_71 : MS), ∀ (H : Heap) (locs : List Loc), zW D clM (tyM k) nwM (mW a k) A st u_71 H → va_S A st.heap H locs → ∀ (ls : Array Slot), lv_has ls 11 [(0, .ref (a 0)), (2, .int x_1), (8, .long y_69), (10, .int x_70)] → some F = L_72 y_69 x_70 u_71 → W p l e rm_MMo_indexed st m args below meth c H locs 0 0 Q (F0 m 439 ls [])) ?_ ?_ fuelM y_61 (0 : Int32) u_3 _ _ hw hS _ (lv_sub hl [2, 3, 1, 0] rfl) hf
              · intro _ _ _ _ _ _ _ _ _ hf; cases hf
              · intro _ L_72 hL_72 y_69 x_70 u_71 H locs hw hS ls hl hf
                unfold g_MMo_indexed_439 at hf
                refine lv_iload hx hb d_MMo_indexed_439 (lv_at hl 3 rfl) ?_
                refine lv_bipush (v := (32 : Int32)) hx hb d_MMo_indexed_441 (by decide) ?_
                refine lv_icmp_ge (tgt := 474) hx hb d_MMo_indexed_443 (by decide) (fun c_73 => ?_) (fun c_73 => ?_)
                · have hf := hf.trans (if_pos c_73)
                  exact hK_64 u_71 _ _ hw hS _ (lv_sub hl [0, 1] rfl) hf
                · have hf := hf.trans (if_neg c_73)
                  refine lv_aload_n hx hb d_MMo_indexed_446 rfl (lv_at hl 0 rfl) ?_
                  refine va_get (v := .ref (a 6)) hx hb hts iM_Mo hown hw.2.1 hw.1 0 rfl rfl 5 (by decide) (hts _ kM_Mo_25) (fun _ h => h) rfl d_MMo_indexed_447 ?_
                  refine lv_iload hx hb d_MMo_indexed_450 (lv_at hl 3 rfl) ?_
                  refine lv_lload hx hb d_MMo_indexed_452 (lv_at hl 2 rfl) ?_
                  refine lv_ldc2 (v := (10 : Int64)) hx hb hown (hts _ kM_Mo_206) d_MMo_indexed_454 ?_
                  refine lv_lrem hx hb d_MMo_indexed_457 (by decide) ?_
                  refine lv_l2i (v := Int64.toInt32 (y_69 - y_69 / (10 : Int64) * (10 : Int64))) hx hb d_MMo_indexed_458 rfl ?_
                  obtain ⟨i_75, hf⟩ := ckI_inv hf
                  refine z_iast (u' := msA u_71 6 (Int32.toNatClampNeg x_70) (Int64.toInt32 (y_69 - y_69 / (10 : Int64) * (10 : Int64)))) hx hb hw hS 6 5 rfl rfl i_75 rfl d_MMo_indexed_459 (fun u_74 H locs eu_74 hw hS => ?_)
                  have hf := hf.trans (nm_eq eu_74)
                  refine lv_lload hx hb d_MMo_indexed_460 (lv_at hl 2 rfl) ?_
                  refine lv_ldc2 (v := (10 : Int64)) hx hb hown (hts _ kM_Mo_206) d_MMo_indexed_462 ?_
                  refine lv_ldiv hx hb d_MMo_indexed_465 (by decide) ?_
                  refine lv_topl (fun y_76 ey_76 => ?_)
                  have hf := hf.trans (nm_eq ey_76)
                  refine lv_lstore (lv' := [(8, .long y_76), (0, .ref (a 0)), (2, .int x_1), (10, .int x_70)]) hx hb d_MMo_indexed_466 hl (by decide) rfl (fun ls hl => ?_)
                  obtain ⟨x_77, ex_77⟩ : ∃ y : Int32, y = x_70 + (1 : Int32) := ⟨_, rfl⟩
                  have hf := hf.trans (nm_eq ex_77)
                  refine lv_iinc (v := x_77) (lv' := [(10, .int x_77), (8, .long y_76), (0, .ref (a 0)), (2, .int x_1)]) hx hb d_MMo_indexed_468 hl (k := 3) rfl (by rw [ex_77]; rfl) (by decide) rfl (fun ls hl => ?_)
                  refine lv_goto (tgt := 439) hx hb d_MMo_indexed_471 (by decide) ?_
                  exact hL_72 y_76 x_77 u_74 _ _ hw hS _ (lv_sub hl [2, 3, 1, 0] rfl) hf
          · intro K_62 hK_62 hf
            refine lv_if_ge (tgt := 427) hx hb d_MMo_indexed_413 (by decide) (fun c_78 => ?_) (fun c_78 => ?_)
            · have hf := hf.trans (if_pos c_78)
              refine lv_aload_n hx hb d_MMo_indexed_427 rfl (lv_at hl 2 rfl) ?_
              refine va_get (v := .ref (a 2)) hx hb hts iM_Mo hown hw.2.1 hw.1 0 rfl rfl 1 (by decide) (hts _ kM_Mo_13) (fun _ h => h) rfl d_MMo_indexed_428 ?_
              refine lv_iload_n hx hb d_MMo_indexed_431 rfl (lv_at hl 4 rfl) ?_
              obtain ⟨i_79, hf⟩ := ckI_inv hf
              refine va_iald hx hb hw.2.1 hw.1 2 1 rfl rfl i_79 d_MMo_indexed_432 ?_
              refine lv_i2l (v := Int32.toInt64 (mA u_3 2 (Int32.toNatClampNeg x_1))) hx hb d_MMo_indexed_433 rfl ?_
              exact hK_62 (Int32.toInt64 (mA u_3 2 (Int32.toNatClampNeg x_1))) _ (lv_sub hl [2, 4] rfl) hf
            · have hf := hf.trans (if_neg c_78)
              refine lv_aload_n hx hb d_MMo_indexed_416 rfl (lv_at hl 2 rfl) ?_
              refine va_get (v := .ref (a 2)) hx hb hts iM_Mo hown hw.2.1 hw.1 0 rfl rfl 1 (by decide) (hts _ kM_Mo_13) (fun _ h => h) rfl d_MMo_indexed_417 ?_
              refine lv_iload_n hx hb d_MMo_indexed_420 rfl (lv_at hl 4 rfl) ?_
              obtain ⟨i_80, hf⟩ := ckI_inv hf
              refine va_iald hx hb hw.2.1 hw.1 2 1 rfl rfl i_80 d_MMo_indexed_421 ?_
              refine lv_i2l (v := Int32.toInt64 (mA u_3 2 (Int32.toNatClampNeg x_1))) hx hb d_MMo_indexed_422 rfl ?_
              refine lv_lneg hx hb d_MMo_indexed_423 ?_
              refine lv_goto (tgt := 434) hx hb d_MMo_indexed_424 (by decide) ?_
              exact hK_62 (-(Int32.toInt64 (mA u_3 2 (Int32.toNatClampNeg x_1)))) _ (lv_sub hl [2, 4] rfl) hf
        have hf := hf.trans (if_neg c_59)
        by_cases c_81 : x_9 = (79 : Int32)
        · have hf := hf.trans (if_pos c_81)
          refine lv_tableIn (off := 413) (tgt := 505) hx hb d_MMo_indexed_92 (by rw [c_81]; decide +kernel) (by rw [c_81]; decide +kernel) (by rw [c_81]; decide +kernel) (by decide) ?_
          refine lv_aload_n hx hb d_MMo_indexed_505 rfl (lv_at hl 2 rfl) ?_
          refine va_get (v := .ref (a 2)) hx hb hts iM_Mo hown hw.2.1 hw.1 0 rfl rfl 1 (by decide) (hts _ kM_Mo_13) (fun _ h => h) rfl d_MMo_indexed_506 ?_
          refine lv_iload_n hx hb d_MMo_indexed_509 rfl (lv_at hl 4 rfl) ?_
          refine lv_aload_n hx hb d_MMo_indexed_510 rfl (lv_at hl 2 rfl) ?_
          refine va_get (v := .ref (a 4)) hx hb hts iM_Mo hown hw.2.1 hw.1 0 rfl rfl 3 (by decide) (hts _ kM_Mo_19) (fun _ h => h) rfl d_MMo_indexed_511 ?_
          refine lv_aload_n hx hb d_MMo_indexed_514 rfl (lv_at hl 2 rfl) ?_
          refine lv_aload_n hx hb d_MMo_indexed_515 rfl (lv_at hl 2 rfl) ?_
          refine va_get (v := .int (mF u_3 12)) hx hb hts iM_Mo hown hw.2.1 hw.1 0 rfl rfl 20 (by decide) (hts _ kM_Mo_152) (fun _ h => h) rfl d_MMo_indexed_516 ?_
          refine lv_bipush (v := (8 : Int32)) hx hb d_MMo_indexed_519 (by decide) ?_
          obtain ⟨z_82, ez_82, hf⟩ := bd1_inv hf
          refine z_rV (V := .int (bI z_82)) (z_runV (As := [.int (mF u_3 12), .int (8 : Int32)]) (rest := [.ref (a 4), .int x_1, .ref (a 2)]) ⟨hx, hb, hml, hown, hts⟩ (c_MMo_isMinus l D a k u_3 (mF u_3 12) (8 : Int32) z_82 ez_82) (qM_Mo_186 hts (by decide)) hw 0 rfl rfl hl.1 rfl (lv_room (Nat.le_of_ble_eq_true rfl)) d_MMo_indexed_521 hcs) ?_
          obtain ⟨y_83, ey_83, hf⟩ := bd1_inv hf
          refine z_rV (V := .long y_83) (z_runS (As := [.ref (a 4), .int (bI z_82)]) (rest := [.int x_1, .ref (a 2)]) ⟨hx, hb, hml, hown, hts⟩ (c_MMo_value_4 l D a k u_3 z_82 y_83 ey_83) (qM_Mo_189 hts (by decide)) hw  hl.1 rfl (lv_room (Nat.le_of_ble_eq_true rfl)) d_MMo_indexed_524 hcs) ?_
          refine lv_l2i (v := Int64.toInt32 y_83) hx hb d_MMo_indexed_527 rfl ?_
          obtain ⟨i_85, hf⟩ := ckI_inv hf
          refine z_iast (u' := msA u_3 2 (Int32.toNatClampNeg x_1) (Int64.toInt32 y_83)) hx hb hw hS 2 1 rfl rfl i_85 rfl d_MMo_indexed_528 (fun u_84 H locs eu_84 hw hS => ?_)
          have hf := hf.trans (nm_eq eu_84)
          refine lv_goto (tgt := 563) hx hb d_MMo_indexed_529 (by decide) ?_
          exact hret _ _ _ _ _ d_MMo_indexed_563 hw hS (Option.some.inj hf)
        have hf := hf.trans (if_neg c_81)
        by_cases c_86 : x_9 = (80 : Int32)
        · have hf := hf.trans (if_pos c_86)
          refine lv_tableIn (off := 440) (tgt := 532) hx hb d_MMo_indexed_92 (by rw [c_86]; decide +kernel) (by rw [c_86]; decide +kernel) (by rw [c_86]; decide +kernel) (by decide) ?_
          refine lv_aload_n hx hb d_MMo_indexed_532 rfl (lv_at hl 2 rfl) ?_
          refine lv_aload_n hx hb d_MMo_indexed_533 rfl (lv_at hl 2 rfl) ?_
          refine va_get (v := .int (mF u_3 12)) hx hb hts iM_Mo hown hw.2.1 hw.1 0 rfl rfl 20 (by decide) (hts _ kM_Mo_152) (fun _ h => h) rfl d_MMo_indexed_534 ?_
          refine lv_iconst (v := (4 : Int32)) hx hb d_MMo_indexed_537 (by decide) ?_
          refine lv_aload_n hx hb d_MMo_indexed_538 rfl (lv_at hl 2 rfl) ?_
          refine va_get (v := .ref (a 2)) hx hb hts iM_Mo hown hw.2.1 hw.1 0 rfl rfl 1 (by decide) (hts _ kM_Mo_13) (fun _ h => h) rfl d_MMo_indexed_539 ?_
          refine lv_iload_n hx hb d_MMo_indexed_542 rfl (lv_at hl 4 rfl) ?_
          obtain ⟨i_87, hf⟩ := ckI_inv hf
          refine va_iald hx hb hw.2.1 hw.1 2 1 rfl rfl i_87 d_MMo_indexed_543 ?_
          refine lv_i2l (v := Int32.toInt64 (mA u_3 2 (Int32.toNatClampNeg x_1))) hx hb d_MMo_indexed_544 rfl ?_
          obtain ⟨u_88, eu_88, hf⟩ := bd1_inv hf
          refine z_wv' (u' := u_88) (z_runV (As := [.int (mF u_3 12), .int (4 : Int32), .long (Int32.toInt64 (mA u_3 2 (Int32.toNatClampNeg x_1)))]) (rest := []) ⟨hx, hb, hml, hown, hts⟩ (c_MMo_store l D a k u_3 (mF u_3 12) (4 : Int32) (Int32.toInt64 (mA u_3 2 (Int32.toNatClampNeg x_1))) u_88 eu_88) (qM_Mo_57 hts (by decide)) hw 0 rfl rfl hl.1 rfl (lv_room (Nat.le_of_ble_eq_true rfl)) d_MMo_indexed_545 hcs) hw hS (fun H locs hw hS => ?_)
          refine lv_goto (tgt := 563) hx hb d_MMo_indexed_548 (by decide) ?_
          exact hret _ _ _ _ _ d_MMo_indexed_563 hw hS (Option.some.inj hf)
        have hf := hf.trans (if_neg c_86)
        refine lv_tableOut (tgt := 551) hx hb d_MMo_indexed_92 (by have := lv_neT c_12 (a := 64) (by decide +kernel); have := lv_neT c_15 (a := 65) (by decide +kernel); have := lv_neT c_18 (a := 66) (by decide +kernel); have := lv_neT c_21 (a := 67) (by decide +kernel); have := lv_neT c_25 (a := 68) (by decide +kernel); have := lv_neT c_26 (a := 69) (by decide +kernel); have := lv_neT c_30 (a := 70) (by decide +kernel); have := lv_neT c_38 (a := 71) (by decide +kernel); have := lv_neT c_41 (a := 72) (by decide +kernel); have := lv_neT c_44 (a := 73) (by decide +kernel); have := lv_neT c_48 (a := 74) (by decide +kernel); have := lv_neT c_51 (a := 75) (by decide +kernel); have := lv_neT c_54 (a := 76) (by decide +kernel); have := lv_neT c_58 (a := 77) (by decide +kernel); have := lv_neT c_59 (a := 78) (by decide +kernel); have := lv_neT c_81 (a := 79) (by decide +kernel); have := lv_neT c_86 (a := 80) (by decide +kernel); omega) (by decide) ?_
        exact hK_10 _ (lv_sub hl [2, 4, 1] rfl) hf
    · intro K_7 hK_7 hf
      refine lv_if_eq (tgt := 79) hx hb d_MMo_indexed_64 (by decide) (fun c_89 => ?_) (fun c_89 => ?_)
      · have hf := hf.trans (if_pos c_89)
        refine lv_lconst (v := 0) hx hb d_MMo_indexed_79 (by decide) ?_
        exact hK_7 (0 : Int64) _ (lv_sub hl [1, 2, 3] rfl) hf
      · have hf := hf.trans (if_neg c_89)
        refine lv_aload_n hx hb d_MMo_indexed_67 rfl (lv_at hl 1 rfl) ?_
        refine lv_aload_n hx hb d_MMo_indexed_68 rfl (lv_at hl 1 rfl) ?_
        refine va_get (v := .int (mF u_3 12)) hx hb hts iM_Mo hown hw.2.1 hw.1 0 rfl rfl 20 (by decide) (hts _ kM_Mo_152) (fun _ h => h) rfl d_MMo_indexed_69 ?_
        refine lv_iload_n hx hb d_MMo_indexed_72 rfl (lv_at hl 4 rfl) ?_
        obtain ⟨y_90, ey_90, hf⟩ := bd1_inv hf
        refine z_rV (V := .long y_90) (z_runV (As := [.int (mF u_3 12), .int x_2]) (rest := []) ⟨hx, hb, hml, hown, hts⟩ (c_MMo_take l D a k u_3 (mF u_3 12) x_2 y_90 ey_90) (qM_Mo_89 hts (by decide)) hw 0 rfl rfl hl.1 rfl (lv_room (Nat.le_of_ble_eq_true rfl)) d_MMo_indexed_73 hcs) ?_
        refine lv_goto (tgt := 80) hx hb d_MMo_indexed_76 (by decide) ?_
        exact hK_7 y_90 _ (lv_sub hl [1, 2, 3] rfl) hf
  · intro K_5 hK_5 hf
    refine jn_cut hf (fun (K_91 : Option (MS)) => ∀ (ls : Array Slot), lv_has ls 11 [(0, .ref (a 0)), (1, .int x1), (2, .int x_1), (3, .int x_2)] → some F = K_91 → W p l e rm_MMo_indexed st m args below meth c H locs 0 0 Q (F0 m 59 ls [])) ?_ ?_
    · intro ls hl hf
      refine lv_iconst (v := (0 : Int32)) hx hb d_MMo_indexed_59 (by decide) ?_
      exact hK_5 false _ (lv_sub hl [0, 1, 2, 3] rfl) hf
    · intro K_91 hK_91 hf
      refine lv_if_le (tgt := 59) hx hb d_MMo_indexed_16 (by decide) (fun c_92 => ?_) (fun c_92 => ?_)
      · have hf := hf.trans (if_pos c_92)
        exact hK_91 _ (lv_sub hl [2, 3, 1, 0] rfl) hf
      · have hf := hf.trans (if_neg c_92)
        refine lv_aload_n hx hb d_MMo_indexed_19 rfl (lv_at hl 2 rfl) ?_
        refine va_get (v := .int (mF u_3 8)) hx hb hts iM_Mo hown hw.2.1 hw.1 0 rfl rfl 16 (by decide) (hts _ kM_Mo_132) (fun _ h => h) rfl d_MMo_indexed_20 ?_
        refine lv_bipush (v := (64 : Int32)) hx hb d_MMo_indexed_23 (by decide) ?_
        refine lv_icmp_eq (tgt := 59) hx hb d_MMo_indexed_25 (by decide) (fun c_93 => ?_) (fun c_93 => ?_)
        · have hf := hf.trans (if_pos c_93)
          exact hK_91 _ (lv_sub hl [2, 3, 1, 0] rfl) hf
        · have hf := hf.trans (if_neg c_93)
          refine lv_aload_n hx hb d_MMo_indexed_28 rfl (lv_at hl 2 rfl) ?_
          refine va_get (v := .int (mF u_3 8)) hx hb hts iM_Mo hown hw.2.1 hw.1 0 rfl rfl 16 (by decide) (hts _ kM_Mo_132) (fun _ h => h) rfl d_MMo_indexed_29 ?_
          refine lv_bipush (v := (66 : Int32)) hx hb d_MMo_indexed_32 (by decide) ?_
          refine lv_icmp_eq (tgt := 59) hx hb d_MMo_indexed_34 (by decide) (fun c_94 => ?_) (fun c_94 => ?_)
          · have hf := hf.trans (if_pos c_94)
            exact hK_91 _ (lv_sub hl [2, 3, 1, 0] rfl) hf
          · have hf := hf.trans (if_neg c_94)
            refine lv_aload_n hx hb d_MMo_indexed_37 rfl (lv_at hl 2 rfl) ?_
            refine va_get (v := .int (mF u_3 8)) hx hb hts iM_Mo hown hw.2.1 hw.1 0 rfl rfl 16 (by decide) (hts _ kM_Mo_132) (fun _ h => h) rfl d_MMo_indexed_38 ?_
            refine lv_bipush (v := (78 : Int32)) hx hb d_MMo_indexed_41 (by decide) ?_
            refine lv_icmp_eq (tgt := 59) hx hb d_MMo_indexed_43 (by decide) (fun c_95 => ?_) (fun c_95 => ?_)
            · have hf := hf.trans (if_pos c_95)
              exact hK_91 _ (lv_sub hl [2, 3, 1, 0] rfl) hf
            · have hf := hf.trans (if_neg c_95)
              refine lv_aload_n hx hb d_MMo_indexed_46 rfl (lv_at hl 2 rfl) ?_
              refine va_get (v := .int (mF u_3 8)) hx hb hts iM_Mo hown hw.2.1 hw.1 0 rfl rfl 16 (by decide) (hts _ kM_Mo_132) (fun _ h => h) rfl d_MMo_indexed_47 ?_
              refine lv_bipush (v := (80 : Int32)) hx hb d_MMo_indexed_50 (by decide) ?_
              refine lv_icmp_eq (tgt := 59) hx hb d_MMo_indexed_52 (by decide) (fun c_96 => ?_) (fun c_96 => ?_)
              · have hf := hf.trans (if_pos c_96)
                exact hK_91 _ (lv_sub hl [2, 3, 1, 0] rfl) hf
              · have hf := hf.trans (if_neg c_96)
                refine lv_iconst (v := (1 : Int32)) hx hb d_MMo_indexed_55 (by decide) ?_
                refine lv_goto (tgt := 60) hx hb d_MMo_indexed_56 (by decide) ?_
                exact hK_5 true _ (lv_sub hl [2, 3, 1, 0] rfl) hf
set_option maxHeartbeats 4000000 in
set_option maxRecDepth 100000 in
theorem c_MMo_left (l : Launch) (D : va_G) (a : Nat → Nat) (k : Nat → ClassId) (u0 : MS) (x1 : Int32) (x2 : Int32) (x3 : Int32) (F : MS) (hf : f_MMo_left u0 x1 x2 x3 = some F) : zMv l y_MMo_left w_MMo_left rm_MMo_left D clM (tyM k) nwM (mW a k) [.ref (a 0), .int x1, .int x2, .int x3] u0 F := by
  have hf := hf.symm
  unfold f_MMo_left at hf
  refine zMv_of (cc := b_MMo_left) (maxL := 7) (own := RM_Mo) (by decide) rfl rfl (Nat.le_of_ble_eq_true rfl) ?_
  intro p e R st m args below meth c A H locs Q ls hR hx hb hml hown hts hw hS hret hl
  subst hR
  have hcs : 0 ≤ (rm_MMo_left).cells ∧ 0 ≤ (rm_MMo_left).slots := ⟨Nat.zero_le _, Nat.zero_le _⟩
  have hl : lv_has ls 7 [(0, .ref (a 0)), (1, .int x1), (2, .int x2), (3, .int x3)] := hl
  refine lv_iload_n hx hb d_MMo_left_0 rfl (lv_at hl 2 rfl) ?_
  refine lv_istore (lv' := [(4, .int x2), (0, .ref (a 0)), (1, .int x1), (2, .int x2), (3, .int x3)]) hx hb d_MMo_left_1 hl (by decide) rfl (fun ls hl => ?_)
  refine lv_iconst (v := (0 : Int32)) hx hb d_MMo_left_3 (by decide) ?_
  refine lv_istore (lv' := [(5, .int (0 : Int32)), (4, .int x2), (0, .ref (a 0)), (1, .int x1), (2, .int x2), (3, .int x3)]) hx hb d_MMo_left_4 hl (by decide) rfl (fun ls hl => ?_)
  refine lv_iconst (v := (0 : Int32)) hx hb d_MMo_left_6 (by decide) ?_
  refine lv_istore (lv' := [(6, .int (0 : Int32)), (5, .int (0 : Int32)), (4, .int x2), (0, .ref (a 0)), (1, .int x1), (2, .int x2), (3, .int x3)]) hx hb d_MMo_left_7 hl (by decide) rfl (fun ls hl => ?_)
  refine jn_cut hf (fun (K_3 : Int32 → Bool → Option (MS)) => ∀ (x_1 : Int32) (z_2 : Bool), ∀ (ls : Array Slot), lv_has ls 7 [(0, .ref (a 0)), (1, .int x1), (4, .int x_1), (5, .int (bI z_2))] → some F = K_3 x_1 z_2 → W p l e rm_MMo_left st m args below meth c H locs 0 0 Q (F0 m 63 ls [])) ?_ ?_
  · intro x_1 z_2 ls hl hf
    refine lv_aload_n hx hb d_MMo_left_63 rfl (lv_at hl 0 rfl) ?_
    refine va_get (v := .ref (a 2)) hx hb hts iM_Mo hown hw.2.1 hw.1 0 rfl rfl 1 (by decide) (hts _ kM_Mo_13) (fun _ h => h) rfl d_MMo_left_64 ?_
    refine lv_iload_n hx hb d_MMo_left_67 rfl (lv_at hl 1 rfl) ?_
    refine lv_iload hx hb d_MMo_left_68 (lv_at hl 2 rfl) ?_
    obtain ⟨i_5, hf⟩ := ckI_inv hf
    refine z_iast (u' := msA u0 2 (Int32.toNatClampNeg x1) x_1) hx hb hw hS 2 1 rfl rfl i_5 rfl d_MMo_left_70 (fun u_4 H locs eu_4 hw hS => ?_)
    have hf := hf.trans (nm_eq eu_4)
    refine lv_aload_n hx hb d_MMo_left_71 rfl (lv_at hl 0 rfl) ?_
    refine lv_iload hx hb d_MMo_left_72 (lv_at hl 3 rfl) ?_
    refine jn_cut hf (fun (K_7 : Int32 → Option (MS)) => ∀ (x_6 : Int32), ∀ (ls : Array Slot), lv_has ls 7 [(0, .ref (a 0)), (5, .int (bI z_2))] → some F = K_7 x_6 → W p l e rm_MMo_left st m args below meth c H locs 0 0 Q (F0 m 86 ls [.int x_6, .ref (a 0)])) ?_ ?_
    · intro x_6 ls hl hf
      refine z_put (u' := msF u_4 1 x_6) hx hb hts iM_Mo tM_Mo tM_Mo_ok nM_Mo hown hw hS 0 rfl rfl 9 (by decide) (hts _ kM_Mo_73) (fun _ h => h) rfl rfl (Nat.le_of_ble_eq_true rfl) rfl d_MMo_left_86 (fun u_8 H locs eu_8 hw hS => ?_)
      have hf := hf.trans (nm_eq eu_8)
      refine lv_iload hx hb d_MMo_left_89 (lv_at hl 1 rfl) ?_
      refine lv_if_eq (tgt := 109) hx hb d_MMo_left_91 (by decide) (fun c_9 => ?_) (fun c_9 => ?_)
      · have hf := hf.trans (if_pos c_9)
        exact hret _ _ _ _ _ d_MMo_left_109 hw hS (Option.some.inj hf)
      · have hf := hf.trans (if_neg c_9)
        refine lv_aload_n hx hb d_MMo_left_94 rfl (lv_at hl 0 rfl) ?_
        refine va_get (v := .int (mF u_8 3)) hx hb hts iM_Mo hown hw.2.1 hw.1 0 rfl rfl 11 (by decide) (hts _ kM_Mo_70) (fun _ h => h) rfl d_MMo_left_95 ?_
        refine lv_iconst (v := (1 : Int32)) hx hb d_MMo_left_98 (by decide) ?_
        refine lv_iand hx hb d_MMo_left_99 ?_
        refine lv_if_le (tgt := 109) hx hb d_MMo_left_100 (by decide) (fun c_10 => ?_) (fun c_10 => ?_)
        · have hf := hf.trans (if_pos c_10)
          exact hret _ _ _ _ _ d_MMo_left_109 hw hS (Option.some.inj hf)
        · have hf := hf.trans (if_neg c_10)
          refine lv_aload_n hx hb d_MMo_left_103 rfl (lv_at hl 0 rfl) ?_
          refine lv_bipush (v := (8 : Int32)) hx hb d_MMo_left_104 (by decide) ?_
          refine z_put (u' := msF u_8 13 (8 : Int32)) hx hb hts iM_Mo tM_Mo tM_Mo_ok nM_Mo hown hw hS 0 rfl rfl 21 (by decide) (hts _ kM_Mo_86) (fun _ h => h) rfl rfl (Nat.le_of_ble_eq_true rfl) rfl d_MMo_left_106 (fun u_11 H locs eu_11 hw hS => ?_)
          have hf := hf.trans (nm_eq eu_11)
          exact hret _ _ _ _ _ d_MMo_left_109 hw hS (Option.some.inj hf)
    · intro K_7 hK_7 hf
      refine lv_if_eq (tgt := 81) hx hb d_MMo_left_74 (by decide) (fun c_12 => ?_) (fun c_12 => ?_)
      · have hf := hf.trans (if_pos c_12)
        refine lv_iload hx hb d_MMo_left_81 (lv_at hl 2 rfl) ?_
        obtain ⟨x_13, ex_13, hf⟩ := bd1_inv hf
        refine z_rV (V := .int x_13) (z_runS (As := [.int x_1]) (rest := [.ref (a 0)]) ⟨hx, hb, hml, hown, hts⟩ (c_MMo_signOf l D a k u_4 x_1 x_13 ex_13) (qM_Mo_232 hts (by decide)) hw  hl.1 rfl (lv_room (Nat.le_of_ble_eq_true rfl)) d_MMo_left_83 hcs) ?_
        exact hK_7 x_13 _ (lv_sub hl [0, 3] rfl) hf
      · have hf := hf.trans (if_neg c_12)
        refine lv_iconst (v := (3 : Int32)) hx hb d_MMo_left_77 (by decide) ?_
        refine lv_goto (tgt := 86) hx hb d_MMo_left_78 (by decide) ?_
        exact hK_7 (3 : Int32) _ (lv_sub hl [0, 3] rfl) hf
  · intro K_3 hK_3 hf
    refine lp_cut (fun (_ : Nat) (L_17 : Int32 → Bool → Int32 → Option (MS)) => ∀ (x_14 : Int32) (z_15 : Bool) (x_16 : Int32), ∀ (ls : Array Slot), lv_has ls 7 [(0, .ref (a 0)), (1, .int x1), (2, .int x2), (3, .int x3), (4, .int x_14), (5, .int (bI z_15)), (6, .int x_16)] → some F = L_17 x_14 z_15 x_16 → W p l e rm_MMo_left st m args below meth c H locs 0 0 Q (F0 m 9 ls [])) ?_ ?_ fuelM x2 false (0 : Int32) _ (lv_sub hl [3, 4, 5, 6, 2, 1, 0] rfl) hf
    · intro _ _ _ _ _ hf; cases hf
    · intro _ L_17 hL_17 x_14 z_15 x_16 ls hl hf
      unfold g_MMo_left_9 at hf
      refine lv_iload hx hb d_MMo_left_9 (lv_at hl 6 rfl) ?_
      refine lv_iload_n hx hb d_MMo_left_11 rfl (lv_at hl 3 rfl) ?_
      refine lv_icmp_ge (tgt := 63) hx hb d_MMo_left_12 (by decide) (fun c_18 => ?_) (fun c_18 => ?_)
      · have hf := hf.trans (if_pos c_18)
        exact hK_3 x_14 z_15 _ (lv_sub hl [0, 1, 4, 5] rfl) hf
      · have hf := hf.trans (if_neg c_18)
        refine lv_iload hx hb d_MMo_left_15 (lv_at hl 5 rfl) ?_
        refine lv_iload hx hb d_MMo_left_17 (lv_at hl 4 rfl) ?_
        refine lv_bipush (v := (30 : Int32)) hx hb d_MMo_left_19 (by decide) ?_
        refine lv_ishr hx hb d_MMo_left_21 ?_
        refine lv_iconst (v := (1 : Int32)) hx hb d_MMo_left_22 (by decide) ?_
        refine lv_iand hx hb d_MMo_left_23 ?_
        refine lv_iload_n hx hb d_MMo_left_24 rfl (lv_at hl 2 rfl) ?_
        refine lv_bipush (v := (31 : Int32)) hx hb d_MMo_left_25 (by decide) ?_
        refine lv_ishr hx hb d_MMo_left_27 ?_
        refine lv_iconst (v := (1 : Int32)) hx hb d_MMo_left_28 (by decide) ?_
        refine lv_iand hx hb d_MMo_left_29 ?_
        refine jn_cut hf (fun (K_20 : Bool → Option (MS)) => ∀ (z_19 : Bool), ∀ (ls : Array Slot), lv_has ls 7 [(0, .ref (a 0)), (1, .int x1), (2, .int x2), (3, .int x3), (4, .int x_14), (6, .int x_16)] → some F = K_20 z_19 → W p l e rm_MMo_left st m args below meth c H locs 0 0 Q (F0 m 38 ls [.int (bI z_19), .int (bI z_15)])) ?_ ?_
        · intro z_19 ls hl hf
          refine lv_ior hx hb d_MMo_left_38 ?_
          refine z_iorz ?_
          refine z_topz (fun z_21 ez_21 => ?_)
          have hf := hf.trans (nm_eq ez_21)
          refine lv_istore (lv' := [(5, .int (bI z_21)), (0, .ref (a 0)), (1, .int x1), (2, .int x2), (3, .int x3), (4, .int x_14), (6, .int x_16)]) hx hb d_MMo_left_39 hl (by decide) rfl (fun ls hl => ?_)
          refine lv_iload hx hb d_MMo_left_41 (lv_at hl 5 rfl) ?_
          refine lv_iconst (v := (1 : Int32)) hx hb d_MMo_left_43 (by decide) ?_
          refine lv_ishl hx hb d_MMo_left_44 ?_
          refine lv_ldcw (v := (2147483647 : Int32)) hx hb hown (hts _ kM_Mo_266) d_MMo_left_45 ?_
          refine lv_iand hx hb d_MMo_left_48 ?_
          refine lv_iload_n hx hb d_MMo_left_49 rfl (lv_at hl 3 rfl) ?_
          refine lv_ldcw (v := (-2147483648 : Int32)) hx hb hown (hts _ kM_Mo_267) d_MMo_left_50 ?_
          refine lv_iand hx hb d_MMo_left_53 ?_
          refine lv_ior hx hb d_MMo_left_54 ?_
          refine lv_topi (fun x_22 ex_22 => ?_)
          have hf := hf.trans (nm_eq ex_22)
          refine lv_istore (lv' := [(4, .int x_22), (5, .int (bI z_21)), (0, .ref (a 0)), (1, .int x1), (2, .int x2), (3, .int x3), (6, .int x_16)]) hx hb d_MMo_left_55 hl (by decide) rfl (fun ls hl => ?_)
          obtain ⟨x_23, ex_23⟩ : ∃ y : Int32, y = x_16 + (1 : Int32) := ⟨_, rfl⟩
          have hf := hf.trans (nm_eq ex_23)
          refine lv_iinc (v := x_23) (lv' := [(6, .int x_23), (4, .int x_22), (5, .int (bI z_21)), (0, .ref (a 0)), (1, .int x1), (2, .int x2), (3, .int x3)]) hx hb d_MMo_left_57 hl (k := 6) rfl (by rw [ex_23]; rfl) (by decide) rfl (fun ls hl => ?_)
          refine lv_goto (tgt := 9) hx hb d_MMo_left_60 (by decide) ?_
          exact hL_17 x_22 z_21 x_23 _ (lv_sub hl [3, 4, 5, 6, 1, 2, 0] rfl) hf
        · intro K_20 hK_20 hf
          refine lv_icmp_eq (tgt := 37) hx hb d_MMo_left_30 (by decide) (fun c_24 => ?_) (fun c_24 => ?_)
          · have hf := hf.trans (if_pos c_24)
            refine lv_iconst (v := (0 : Int32)) hx hb d_MMo_left_37 (by decide) ?_
            exact hK_20 false _ (lv_sub hl [0, 1, 2, 3, 4, 6] rfl) hf
          · have hf := hf.trans (if_neg c_24)
            refine lv_iconst (v := (1 : Int32)) hx hb d_MMo_left_33 (by decide) ?_
            refine lv_goto (tgt := 38) hx hb d_MMo_left_34 (by decide) ?_
            exact hK_20 true _ (lv_sub hl [0, 1, 2, 3, 4, 6] rfl) hf
set_option maxHeartbeats 4000000 in
set_option maxRecDepth 100000 in
theorem c_MMo_immediate (l : Launch) (D : va_G) (a : Nat → Nat) (k : Nat → ClassId) (u0 : MS)  (F : MS) (hf : f_MMo_immediate u0 = some F) : zMv l y_MMo_immediate w_MMo_immediate rm_MMo_immediate D clM (tyM k) nwM (mW a k) [.ref (a 0)] u0 F := by
  have hf := hf.symm
  unfold f_MMo_immediate at hf
  refine zMv_of (cc := b_MMo_immediate) (maxL := 3) (own := RM_Mo) (by decide) rfl rfl (Nat.le_of_ble_eq_true rfl) ?_
  intro p e R st m args below meth c A H locs Q ls hR hx hb hml hown hts hw hS hret hl
  subst hR
  have hcs : 0 ≤ (rm_MMo_immediate).cells ∧ 0 ≤ (rm_MMo_immediate).slots := ⟨Nat.zero_le _, Nat.zero_le _⟩
  have hl : lv_has ls 3 [(0, .ref (a 0))] := hl
  refine lv_aload_n hx hb d_MMo_immediate_0 rfl (lv_at hl 0 rfl) ?_
  refine va_get (v := .ref (a 1)) hx hb hts iM_Mo hown hw.2.1 hw.1 0 rfl rfl 0 (by decide) (hts _ kM_Mo_7) (fun _ h => h) rfl d_MMo_immediate_1 ?_
  refine lv_aload_n hx hb d_MMo_immediate_4 rfl (lv_at hl 0 rfl) ?_
  refine va_get (v := .int (mF u0 11)) hx hb hts iM_Mo hown hw.2.1 hw.1 0 rfl rfl 19 (by decide) (hts _ kM_Mo_149) (fun _ h => h) rfl d_MMo_immediate_5 ?_
  obtain ⟨i_1, hf⟩ := ckI_inv hf
  refine va_iald hx hb hw.2.1 hw.1 1 0 rfl rfl i_1 d_MMo_immediate_8 ?_
  refine lv_topi (fun x_2 ex_2 => ?_)
  have hf := hf.trans (nm_eq ex_2)
  refine lv_istore_n (lv' := [(1, .int x_2), (0, .ref (a 0))]) hx hb d_MMo_immediate_9 rfl hl (by decide) rfl (fun ls hl => ?_)
  refine lv_iload_n hx hb d_MMo_immediate_10 rfl (lv_at hl 0 rfl) ?_
  refine lv_istore_n (lv' := [(2, .int x_2), (1, .int x_2), (0, .ref (a 0))]) hx hb d_MMo_immediate_11 rfl hl (by decide) rfl (fun ls hl => ?_)
  refine lv_aload_n hx hb d_MMo_immediate_12 rfl (lv_at hl 2 rfl) ?_
  refine va_get (v := .int (mF u0 8)) hx hb hts iM_Mo hown hw.2.1 hw.1 0 rfl rfl 16 (by decide) (hts _ kM_Mo_132) (fun _ h => h) rfl d_MMo_immediate_13 ?_
  refine lv_sipush (v := (145 : Int32)) hx hb d_MMo_immediate_16 (by decide) ?_
  refine lv_icmp_ne (tgt := 58) hx hb d_MMo_immediate_19 (by decide) (fun c_3 => ?_) (fun c_3 => ?_)
  · have hf := hf.trans (if_neg c_3)
    refine lv_aload_n hx hb d_MMo_immediate_58 rfl (lv_at hl 2 rfl) ?_
    refine va_get (v := .int (mF u0 8)) hx hb hts iM_Mo hown hw.2.1 hw.1 0 rfl rfl 16 (by decide) (hts _ kM_Mo_132) (fun _ h => h) rfl d_MMo_immediate_59 ?_
    refine lv_sipush (v := (149 : Int32)) hx hb d_MMo_immediate_62 (by decide) ?_
    refine lv_icmp_ne (tgt := 83) hx hb d_MMo_immediate_65 (by decide) (fun c_4 => ?_) (fun c_4 => ?_)
    · have hf := hf.trans (if_neg c_4)
      refine lv_aload_n hx hb d_MMo_immediate_83 rfl (lv_at hl 2 rfl) ?_
      refine va_get (v := .int (mF u0 8)) hx hb hts iM_Mo hown hw.2.1 hw.1 0 rfl rfl 16 (by decide) (hts _ kM_Mo_132) (fun _ h => h) rfl d_MMo_immediate_84 ?_
      refine lv_sipush (v := (146 : Int32)) hx hb d_MMo_immediate_87 (by decide) ?_
      refine jn_cut hf (fun (K_6 : Int32 → Option (MS)) => ∀ (x_5 : Int32), ∀ (ls : Array Slot), lv_has ls 3 [(0, .ref (a 0))] → some F = K_6 x_5 → W p l e rm_MMo_immediate st m args below meth c H locs 0 0 Q (F0 m 144 ls [.int x_5])) ?_ ?_
      · intro x_5 ls hl hf
        refine lv_istore_n (lv' := [(2, .int x_5), (0, .ref (a 0))]) hx hb d_MMo_immediate_144 rfl hl (by decide) rfl (fun ls hl => ?_)
        refine lv_aload_n hx hb d_MMo_immediate_145 rfl (lv_at hl 1 rfl) ?_
        refine va_get (v := .ref (a 1)) hx hb hts iM_Mo hown hw.2.1 hw.1 0 rfl rfl 0 (by decide) (hts _ kM_Mo_7) (fun _ h => h) rfl d_MMo_immediate_146 ?_
        refine lv_aload_n hx hb d_MMo_immediate_149 rfl (lv_at hl 1 rfl) ?_
        refine va_get (v := .int (mF u0 11)) hx hb hts iM_Mo hown hw.2.1 hw.1 0 rfl rfl 19 (by decide) (hts _ kM_Mo_149) (fun _ h => h) rfl d_MMo_immediate_150 ?_
        refine lv_iload_n hx hb d_MMo_immediate_153 rfl (lv_at hl 0 rfl) ?_
        obtain ⟨i_8, hf⟩ := ckI_inv hf
        refine z_iast (u' := msA u0 1 (Int32.toNatClampNeg (mF u0 11)) x_5) hx hb hw hS 1 0 rfl rfl i_8 rfl d_MMo_immediate_154 (fun u_7 H locs eu_7 hw hS => ?_)
        have hf := hf.trans (nm_eq eu_7)
        refine lv_aload_n hx hb d_MMo_immediate_155 rfl (lv_at hl 1 rfl) ?_
        refine va_get (v := .int (mF u_7 8)) hx hb hts iM_Mo hown hw.2.1 hw.1 0 rfl rfl 16 (by decide) (hts _ kM_Mo_132) (fun _ h => h) rfl d_MMo_immediate_156 ?_
        refine lv_sipush (v := (146 : Int32)) hx hb d_MMo_immediate_159 (by decide) ?_
        refine lv_icmp_eq (tgt := 178) hx hb d_MMo_immediate_162 (by decide) (fun c_9 => ?_) (fun c_9 => ?_)
        · have hf := hf.trans (if_pos c_9)
          exact hret _ _ _ _ _ d_MMo_immediate_178 hw hS (Option.some.inj hf)
        · have hf := hf.trans (if_neg c_9)
          refine lv_aload_n hx hb d_MMo_immediate_165 rfl (lv_at hl 1 rfl) ?_
          refine lv_iload_n hx hb d_MMo_immediate_166 rfl (lv_at hl 0 rfl) ?_
          refine lv_if_ne (tgt := 174) hx hb d_MMo_immediate_167 (by decide) (fun c_10 => ?_) (fun c_10 => ?_)
          · have hf := hf.trans (if_neg c_10)
            refine lv_iconst (v := (1 : Int32)) hx hb d_MMo_immediate_174 (by decide) ?_
            refine z_put (u' := msF u_7 1 (1 : Int32)) hx hb hts iM_Mo tM_Mo tM_Mo_ok nM_Mo hown hw hS 0 rfl rfl 9 (by decide) (hts _ kM_Mo_73) (fun _ h => h) rfl rfl (Nat.le_of_ble_eq_true rfl) rfl d_MMo_immediate_175 (fun u_11 H locs eu_11 hw hS => ?_)
            have hf := hf.trans (nm_eq eu_11)
            exact hret _ _ _ _ _ d_MMo_immediate_178 hw hS (Option.some.inj hf)
          · have hf := hf.trans (if_pos c_10)
            refine lv_iconst (v := (0 : Int32)) hx hb d_MMo_immediate_170 (by decide) ?_
            refine lv_goto (tgt := 175) hx hb d_MMo_immediate_171 (by decide) ?_
            refine z_put (u' := msF u_7 1 (0 : Int32)) hx hb hts iM_Mo tM_Mo tM_Mo_ok nM_Mo hown hw hS 0 rfl rfl 9 (by decide) (hts _ kM_Mo_73) (fun _ h => h) rfl rfl (Nat.le_of_ble_eq_true rfl) rfl d_MMo_immediate_175 (fun u_12 H locs eu_12 hw hS => ?_)
            have hf := hf.trans (nm_eq eu_12)
            exact hret _ _ _ _ _ d_MMo_immediate_178 hw hS (Option.some.inj hf)
      · intro K_6 hK_6 hf
        refine lv_icmp_ne (tgt := 100) hx hb d_MMo_immediate_90 (by decide) (fun c_13 => ?_) (fun c_13 => ?_)
        · have hf := hf.trans (if_neg c_13)
          refine lv_aload_n hx hb d_MMo_immediate_100 rfl (lv_at hl 2 rfl) ?_
          refine va_get (v := .int (mF u0 8)) hx hb hts iM_Mo hown hw.2.1 hw.1 0 rfl rfl 16 (by decide) (hts _ kM_Mo_132) (fun _ h => h) rfl d_MMo_immediate_101 ?_
          refine lv_sipush (v := (148 : Int32)) hx hb d_MMo_immediate_104 (by decide) ?_
          refine lv_icmp_ne (tgt := 119) hx hb d_MMo_immediate_107 (by decide) (fun c_14 => ?_) (fun c_14 => ?_)
          · have hf := hf.trans (if_neg c_14)
            refine lv_aload_n hx hb d_MMo_immediate_119 rfl (lv_at hl 2 rfl) ?_
            refine va_get (v := .int (mF u0 8)) hx hb hts iM_Mo hown hw.2.1 hw.1 0 rfl rfl 16 (by decide) (hts _ kM_Mo_132) (fun _ h => h) rfl d_MMo_immediate_120 ?_
            refine lv_sipush (v := (150 : Int32)) hx hb d_MMo_immediate_123 (by decide) ?_
            refine lv_icmp_ne (tgt := 138) hx hb d_MMo_immediate_126 (by decide) (fun c_15 => ?_) (fun c_15 => ?_)
            · have hf := hf.trans (if_neg c_15)
              refine lv_iload_n hx hb d_MMo_immediate_138 rfl (lv_at hl 1 rfl) ?_
              refine lv_aload_n hx hb d_MMo_immediate_139 rfl (lv_at hl 2 rfl) ?_
              refine va_get (v := .int (mF u0 10)) hx hb hts iM_Mo hown hw.2.1 hw.1 0 rfl rfl 18 (by decide) (hts _ kM_Mo_142) (fun _ h => h) rfl d_MMo_immediate_140 ?_
              refine lv_ixor hx hb d_MMo_immediate_143 ?_
              exact hK_6 (x_2 ^^^ (mF u0 10)) _ (lv_sub hl [2] rfl) hf
            · have hf := hf.trans (if_pos c_15)
              refine lv_iload_n hx hb d_MMo_immediate_129 rfl (lv_at hl 1 rfl) ?_
              refine lv_aload_n hx hb d_MMo_immediate_130 rfl (lv_at hl 2 rfl) ?_
              refine va_get (v := .int (mF u0 10)) hx hb hts iM_Mo hown hw.2.1 hw.1 0 rfl rfl 18 (by decide) (hts _ kM_Mo_142) (fun _ h => h) rfl d_MMo_immediate_131 ?_
              refine lv_ior hx hb d_MMo_immediate_134 ?_
              refine lv_goto (tgt := 144) hx hb d_MMo_immediate_135 (by decide) ?_
              exact hK_6 (x_2 ||| (mF u0 10)) _ (lv_sub hl [2] rfl) hf
          · have hf := hf.trans (if_pos c_14)
            refine lv_iload_n hx hb d_MMo_immediate_110 rfl (lv_at hl 1 rfl) ?_
            refine lv_aload_n hx hb d_MMo_immediate_111 rfl (lv_at hl 2 rfl) ?_
            refine va_get (v := .int (mF u0 10)) hx hb hts iM_Mo hown hw.2.1 hw.1 0 rfl rfl 18 (by decide) (hts _ kM_Mo_142) (fun _ h => h) rfl d_MMo_immediate_112 ?_
            refine lv_iand hx hb d_MMo_immediate_115 ?_
            refine lv_goto (tgt := 144) hx hb d_MMo_immediate_116 (by decide) ?_
            exact hK_6 (x_2 &&& (mF u0 10)) _ (lv_sub hl [2] rfl) hf
        · have hf := hf.trans (if_pos c_13)
          refine lv_aload_n hx hb d_MMo_immediate_93 rfl (lv_at hl 2 rfl) ?_
          refine va_get (v := .int (mF u0 10)) hx hb hts iM_Mo hown hw.2.1 hw.1 0 rfl rfl 18 (by decide) (hts _ kM_Mo_142) (fun _ h => h) rfl d_MMo_immediate_94 ?_
          refine lv_goto (tgt := 144) hx hb d_MMo_immediate_97 (by decide) ?_
          exact hK_6 (mF u0 10) _ (lv_sub hl [2] rfl) hf
    · have hf := hf.trans (if_pos c_4)
      refine lv_aload_n hx hb d_MMo_immediate_68 rfl (lv_at hl 2 rfl) ?_
      refine lv_iload_n hx hb d_MMo_immediate_69 rfl (lv_at hl 1 rfl) ?_
      refine lv_i2l (v := Int32.toInt64 x_2) hx hb d_MMo_immediate_70 rfl ?_
      refine lv_aload_n hx hb d_MMo_immediate_71 rfl (lv_at hl 2 rfl) ?_
      refine va_get (v := .int (mF u0 10)) hx hb hts iM_Mo hown hw.2.1 hw.1 0 rfl rfl 18 (by decide) (hts _ kM_Mo_142) (fun _ h => h) rfl d_MMo_immediate_72 ?_
      refine lv_i2l (v := Int32.toInt64 (mF u0 10)) hx hb d_MMo_immediate_75 rfl ?_
      obtain ⟨x_16, ex_16, hf⟩ := bd1_inv hf
      refine z_rV (V := .int x_16) (z_runS (As := [.long (Int32.toInt64 x_2), .long (Int32.toInt64 (mF u0 10))]) (rest := [.ref (a 0)]) ⟨hx, hb, hml, hown, hts⟩ (c_MMo_order l D a k u0 (Int32.toInt64 x_2) (Int32.toInt64 (mF u0 10)) x_16 ex_16) (qM_Mo_239 hts (by decide)) hw  hl.1 rfl (lv_room (Nat.le_of_ble_eq_true rfl)) d_MMo_immediate_76 hcs) ?_
      refine z_put (u' := msF u0 1 x_16) hx hb hts iM_Mo tM_Mo tM_Mo_ok nM_Mo hown hw hS 0 rfl rfl 9 (by decide) (hts _ kM_Mo_73) (fun _ h => h) rfl rfl (Nat.le_of_ble_eq_true rfl) rfl d_MMo_immediate_79 (fun u_17 H locs eu_17 hw hS => ?_)
      have hf := hf.trans (nm_eq eu_17)
      exact hret _ _ _ _ _ d_MMo_immediate_82 hw hS (Option.some.inj hf)
  · have hf := hf.trans (if_pos c_3)
    refine lv_aload_n hx hb d_MMo_immediate_22 rfl (lv_at hl 2 rfl) ?_
    refine lv_iload_n hx hb d_MMo_immediate_23 rfl (lv_at hl 1 rfl) ?_
    refine lv_aload_n hx hb d_MMo_immediate_24 rfl (lv_at hl 2 rfl) ?_
    refine va_get (v := .int (mF u0 10)) hx hb hts iM_Mo hown hw.2.1 hw.1 0 rfl rfl 18 (by decide) (hts _ kM_Mo_142) (fun _ h => h) rfl d_MMo_immediate_25 ?_
    refine lv_iand hx hb d_MMo_immediate_28 ?_
    refine lv_if_ne (tgt := 36) hx hb d_MMo_immediate_29 (by decide) (fun c_18 => ?_) (fun c_18 => ?_)
    · have hf := hf.trans (if_neg c_18)
      refine lv_iload_n hx hb d_MMo_immediate_36 rfl (lv_at hl 1 rfl) ?_
      refine lv_aload_n hx hb d_MMo_immediate_37 rfl (lv_at hl 2 rfl) ?_
      refine va_get (v := .int (mF u0 10)) hx hb hts iM_Mo hown hw.2.1 hw.1 0 rfl rfl 18 (by decide) (hts _ kM_Mo_142) (fun _ h => h) rfl d_MMo_immediate_38 ?_
      refine lv_iand hx hb d_MMo_immediate_41 ?_
      refine lv_aload_n hx hb d_MMo_immediate_42 rfl (lv_at hl 2 rfl) ?_
      refine va_get (v := .int (mF u0 10)) hx hb hts iM_Mo hown hw.2.1 hw.1 0 rfl rfl 18 (by decide) (hts _ kM_Mo_142) (fun _ h => h) rfl d_MMo_immediate_43 ?_
      refine lv_icmp_ne (tgt := 53) hx hb d_MMo_immediate_46 (by decide) (fun c_19 => ?_) (fun c_19 => ?_)
      · have hf := hf.trans (if_neg c_19)
        refine lv_iconst (v := (1 : Int32)) hx hb d_MMo_immediate_53 (by decide) ?_
        refine z_put (u' := msF u0 1 (1 : Int32)) hx hb hts iM_Mo tM_Mo tM_Mo_ok nM_Mo hown hw hS 0 rfl rfl 9 (by decide) (hts _ kM_Mo_73) (fun _ h => h) rfl rfl (Nat.le_of_ble_eq_true rfl) rfl d_MMo_immediate_54 (fun u_20 H locs eu_20 hw hS => ?_)
        have hf := hf.trans (nm_eq eu_20)
        exact hret _ _ _ _ _ d_MMo_immediate_57 hw hS (Option.some.inj hf)
      · have hf := hf.trans (if_pos c_19)
        refine lv_iconst (v := (3 : Int32)) hx hb d_MMo_immediate_49 (by decide) ?_
        refine lv_goto (tgt := 54) hx hb d_MMo_immediate_50 (by decide) ?_
        refine z_put (u' := msF u0 1 (3 : Int32)) hx hb hts iM_Mo tM_Mo tM_Mo_ok nM_Mo hown hw hS 0 rfl rfl 9 (by decide) (hts _ kM_Mo_73) (fun _ h => h) rfl rfl (Nat.le_of_ble_eq_true rfl) rfl d_MMo_immediate_54 (fun u_21 H locs eu_21 hw hS => ?_)
        have hf := hf.trans (nm_eq eu_21)
        exact hret _ _ _ _ _ d_MMo_immediate_57 hw hS (Option.some.inj hf)
    · have hf := hf.trans (if_pos c_18)
      refine lv_iconst (v := (0 : Int32)) hx hb d_MMo_immediate_32 (by decide) ?_
      refine lv_goto (tgt := 54) hx hb d_MMo_immediate_33 (by decide) ?_
      refine z_put (u' := msF u0 1 (0 : Int32)) hx hb hts iM_Mo tM_Mo tM_Mo_ok nM_Mo hown hw hS 0 rfl rfl 9 (by decide) (hts _ kM_Mo_73) (fun _ h => h) rfl rfl (Nat.le_of_ble_eq_true rfl) rfl d_MMo_immediate_54 (fun u_22 H locs eu_22 hw hS => ?_)
      have hf := hf.trans (nm_eq eu_22)
      exact hret _ _ _ _ _ d_MMo_immediate_57 hw hS (Option.some.inj hf)
