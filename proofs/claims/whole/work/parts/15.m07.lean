set_option maxHeartbeats 4000000 in
set_option maxRecDepth 100000 in
theorem c_MMo_shifts (l : Launch) (D : va_G) (a : Nat → Nat) (k : Nat → ClassId) (u0 : MS)  (F : MS) (hf : f_MMo_shifts u0 = some F) : zMv l y_MMo_shifts w_MMo_shifts rm_MMo_shifts D clM (tyM k) nwM (mW a k) [.ref (a 0)] u0 F := by
  have hf := hf.symm
  unfold f_MMo_shifts at hf
  refine zMv_of (cc := b_MMo_shifts) (maxL := 9) (own := RM_Mo) (by decide) rfl rfl (Nat.le_of_ble_eq_true rfl) ?_
  intro p e R st m args below meth c A H locs Q ls hR hx hb hml hown hts hw hS hret hl
  subst hR
  have hcs : 0 ≤ (rm_MMo_shifts).cells ∧ 0 ≤ (rm_MMo_shifts).slots := ⟨Nat.zero_le _, Nat.zero_le _⟩
  have hl : lv_has ls 9 [(0, .ref (a 0))] := hl
  refine lv_aload_n hx hb d_MMo_shifts_0 rfl (lv_at hl 0 rfl) ?_
  obtain ⟨x_1, ex_1, hf⟩ := bd1_inv hf
  refine z_rV (V := .int x_1) (z_runV (As := []) (rest := []) ⟨hx, hb, hml, hown, hts⟩ (c_MMo_high l D a k u0 x_1 ex_1) (qM_Mo_163 hts (by decide)) hw 0 rfl rfl hl.1 rfl (lv_room (Nat.le_of_ble_eq_true rfl)) d_MMo_shifts_1 hcs) ?_
  refine lv_iconst (v := (1 : Int32)) hx hb d_MMo_shifts_4 (by decide) ?_
  refine lv_iadd hx hb d_MMo_shifts_5 ?_
  refine lv_topi (fun x_2 ex_2 => ?_)
  have hf := hf.trans (nm_eq ex_2)
  refine lv_istore_n (lv' := [(1, .int x_2), (0, .ref (a 0))]) hx hb d_MMo_shifts_6 rfl hl (by decide) rfl (fun ls hl => ?_)
  refine lv_aload_n hx hb d_MMo_shifts_7 rfl (lv_at hl 1 rfl) ?_
  obtain ⟨x_3, ex_3, hf⟩ := bd1_inv hf
  refine z_rV (V := .int x_3) (z_runV (As := []) (rest := []) ⟨hx, hb, hml, hown, hts⟩ (c_MMo_low l D a k u0 x_3 ex_3) (qM_Mo_159 hts (by decide)) hw 0 rfl rfl hl.1 rfl (lv_room (Nat.le_of_ble_eq_true rfl)) d_MMo_shifts_8 hcs) ?_
  refine lv_iconst (v := (1 : Int32)) hx hb d_MMo_shifts_11 (by decide) ?_
  refine lv_iadd hx hb d_MMo_shifts_12 ?_
  refine lv_topi (fun x_4 ex_4 => ?_)
  have hf := hf.trans (nm_eq ex_4)
  refine lv_istore_n (lv' := [(2, .int x_4), (1, .int x_2), (0, .ref (a 0))]) hx hb d_MMo_shifts_13 rfl hl (by decide) rfl (fun ls hl => ?_)
  refine lv_aload_n hx hb d_MMo_shifts_14 rfl (lv_at hl 2 rfl) ?_
  refine va_get (v := .ref (a 1)) hx hb hts iM_Mo hown hw.2.1 hw.1 0 rfl rfl 0 (by decide) (hts _ kM_Mo_7) (fun _ h => h) rfl d_MMo_shifts_15 ?_
  refine lv_aload_n hx hb d_MMo_shifts_18 rfl (lv_at hl 2 rfl) ?_
  refine va_get (v := .int (mF u0 12)) hx hb hts iM_Mo hown hw.2.1 hw.1 0 rfl rfl 20 (by decide) (hts _ kM_Mo_152) (fun _ h => h) rfl d_MMo_shifts_19 ?_
  refine lv_iload_n hx hb d_MMo_shifts_22 rfl (lv_at hl 0 rfl) ?_
  refine lv_iadd hx hb d_MMo_shifts_23 ?_
  refine lv_iconst (v := (1 : Int32)) hx hb d_MMo_shifts_24 (by decide) ?_
  refine lv_isub hx hb d_MMo_shifts_25 ?_
  obtain ⟨i_5, hf⟩ := ckI_inv hf
  refine va_iald hx hb hw.2.1 hw.1 1 0 rfl rfl i_5 d_MMo_shifts_26 ?_
  refine lv_topi (fun x_6 ex_6 => ?_)
  have hf := hf.trans (nm_eq ex_6)
  refine lv_istore_n (lv' := [(3, .int x_6), (2, .int x_4), (1, .int x_2), (0, .ref (a 0))]) hx hb d_MMo_shifts_27 rfl hl (by decide) rfl (fun ls hl => ?_)
  refine lv_iload_n hx hb d_MMo_shifts_28 rfl (lv_at hl 0 rfl) ?_
  refine lv_bipush (v := (15 : Int32)) hx hb d_MMo_shifts_29 (by decide) ?_
  refine lv_iand hx hb d_MMo_shifts_31 ?_
  refine lv_iconst (v := (4 : Int32)) hx hb d_MMo_shifts_32 (by decide) ?_
  refine lv_ishl hx hb d_MMo_shifts_33 ?_
  refine lv_iload_n hx hb d_MMo_shifts_34 rfl (lv_at hl 0 rfl) ?_
  refine lv_iconst (v := (4 : Int32)) hx hb d_MMo_shifts_35 (by decide) ?_
  refine lv_ishr hx hb d_MMo_shifts_36 ?_
  refine lv_ior hx hb d_MMo_shifts_37 ?_
  refine lv_topi (fun x_7 ex_7 => ?_)
  have hf := hf.trans (nm_eq ex_7)
  refine lv_istore (lv' := [(4, .int x_7), (3, .int x_6), (2, .int x_4), (1, .int x_2), (0, .ref (a 0))]) hx hb d_MMo_shifts_38 hl (by decide) rfl (fun ls hl => ?_)
  refine lv_iconst (v := (0 : Int32)) hx hb d_MMo_shifts_40 (by decide) ?_
  refine lv_istore (lv' := [(5, .int (0 : Int32)), (4, .int x_7), (3, .int x_6), (2, .int x_4), (1, .int x_2), (0, .ref (a 0))]) hx hb d_MMo_shifts_41 hl (by decide) rfl (fun ls hl => ?_)
  refine jn_cut hf (fun (K_9 : MS → Option (MS)) => ∀ (u_8 : MS), ∀ (H : Heap) (locs : List Loc), zW D clM (tyM k) nwM (mW a k) A st u_8 H → va_S A st.heap H locs → ∀ (ls : Array Slot), lv_has ls 9 [(0, .ref (a 0)), (1, .int x_2), (2, .int x_4), (4, .int x_7)] → some F = K_9 u_8 → W p l e rm_MMo_shifts st m args below meth c H locs 0 0 Q (F0 m 74 ls [])) ?_ ?_
  · intro u_8 H locs hw hS ls hl hf
    refine lv_aload_n hx hb d_MMo_shifts_74 rfl (lv_at hl 0 rfl) ?_
    refine va_get (v := .ref (a 1)) hx hb hts iM_Mo hown hw.2.1 hw.1 0 rfl rfl 0 (by decide) (hts _ kM_Mo_7) (fun _ h => h) rfl d_MMo_shifts_75 ?_
    refine lv_aload_n hx hb d_MMo_shifts_78 rfl (lv_at hl 0 rfl) ?_
    refine va_get (v := .int (mF u_8 11)) hx hb hts iM_Mo hown hw.2.1 hw.1 0 rfl rfl 19 (by decide) (hts _ kM_Mo_149) (fun _ h => h) rfl d_MMo_shifts_79 ?_
    refine lv_iload_n hx hb d_MMo_shifts_82 rfl (lv_at hl 1 rfl) ?_
    refine lv_iadd hx hb d_MMo_shifts_83 ?_
    refine lv_iconst (v := (1 : Int32)) hx hb d_MMo_shifts_84 (by decide) ?_
    refine lv_isub hx hb d_MMo_shifts_85 ?_
    refine lv_iload hx hb d_MMo_shifts_86 (lv_at hl 3 rfl) ?_
    obtain ⟨i_11, hf⟩ := ckI_inv hf
    refine z_iast (u' := msA u_8 1 (Int32.toNatClampNeg (((mF u_8 11) + x_2) - (1 : Int32))) x_7) hx hb hw hS 1 0 rfl rfl i_11 rfl d_MMo_shifts_88 (fun u_10 H locs eu_10 hw hS => ?_)
    have hf := hf.trans (nm_eq eu_10)
    refine lv_iconst (v := (1 : Int32)) hx hb d_MMo_shifts_89 (by decide) ?_
    refine lv_istore (lv' := [(5, .int (1 : Int32)), (0, .ref (a 0)), (1, .int x_2), (2, .int x_4), (4, .int x_7)]) hx hb d_MMo_shifts_90 hl (by decide) rfl (fun ls hl => ?_)
    refine lp_cut (fun (_ : Nat) (L_14 : Int32 → MS → Option (MS)) => ∀ (x_12 : Int32) (u_13 : MS), ∀ (H : Heap) (locs : List Loc), zW D clM (tyM k) nwM (mW a k) A st u_13 H → va_S A st.heap H locs → ∀ (ls : Array Slot), lv_has ls 9 [(0, .ref (a 0)), (1, .int x_2), (2, .int x_4), (5, .int x_12)] → some F = L_14 x_12 u_13 → W p l e rm_MMo_shifts st m args below meth c H locs 0 0 Q (F0 m 92 ls [])) ?_ ?_ fuelM (1 : Int32) u_10 _ _ hw hS _ (lv_sub hl [1, 2, 3, 0] rfl) hf
    · intro _ _ _ _ _ _ _ _ hf; cases hf
    · intro _ L_14 hL_14 x_12 u_13 H locs hw hS ls hl hf
      unfold g_MMo_shifts_92 at hf
      refine lv_iload hx hb d_MMo_shifts_92 (lv_at hl 3 rfl) ?_
      refine lv_iload_n hx hb d_MMo_shifts_94 rfl (lv_at hl 1 rfl) ?_
      refine lv_icmp_ge (tgt := 257) hx hb d_MMo_shifts_95 (by decide) (fun c_15 => ?_) (fun c_15 => ?_)
      · have hf := hf.trans (if_pos c_15)
        exact hret _ _ _ _ _ d_MMo_shifts_257 hw hS (Option.some.inj hf)
      · have hf := hf.trans (if_neg c_15)
        refine lv_aload_n hx hb d_MMo_shifts_98 rfl (lv_at hl 0 rfl) ?_
        refine va_get (v := .int (mF u_13 8)) hx hb hts iM_Mo hown hw.2.1 hw.1 0 rfl rfl 16 (by decide) (hts _ kM_Mo_132) (fun _ h => h) rfl d_MMo_shifts_99 ?_
        refine lv_sipush (v := (242 : Int32)) hx hb d_MMo_shifts_102 (by decide) ?_
        refine jn_cut hf (fun (K_17 : Int32 → Option (MS)) => ∀ (x_16 : Int32), ∀ (ls : Array Slot), lv_has ls 9 [(0, .ref (a 0)), (1, .int x_2), (2, .int x_4), (5, .int x_12), (6, .int x_16)] → some F = K_17 x_16 → W p l e rm_MMo_shifts st m args below meth c H locs 0 0 Q (F0 m 233 ls [])) ?_ ?_
        · intro x_16 ls hl hf
          refine lv_aload_n hx hb d_MMo_shifts_233 rfl (lv_at hl 0 rfl) ?_
          refine va_get (v := .ref (a 1)) hx hb hts iM_Mo hown hw.2.1 hw.1 0 rfl rfl 0 (by decide) (hts _ kM_Mo_7) (fun _ h => h) rfl d_MMo_shifts_234 ?_
          refine lv_aload_n hx hb d_MMo_shifts_237 rfl (lv_at hl 0 rfl) ?_
          refine va_get (v := .int (mF u_13 11)) hx hb hts iM_Mo hown hw.2.1 hw.1 0 rfl rfl 19 (by decide) (hts _ kM_Mo_149) (fun _ h => h) rfl d_MMo_shifts_238 ?_
          refine lv_iload_n hx hb d_MMo_shifts_241 rfl (lv_at hl 1 rfl) ?_
          refine lv_iadd hx hb d_MMo_shifts_242 ?_
          refine lv_iconst (v := (1 : Int32)) hx hb d_MMo_shifts_243 (by decide) ?_
          refine lv_isub hx hb d_MMo_shifts_244 ?_
          refine lv_iload hx hb d_MMo_shifts_245 (lv_at hl 3 rfl) ?_
          refine lv_isub hx hb d_MMo_shifts_247 ?_
          refine lv_iload hx hb d_MMo_shifts_248 (lv_at hl 4 rfl) ?_
          obtain ⟨i_19, hf⟩ := ckI_inv hf
          refine z_iast (u' := msA u_13 1 (Int32.toNatClampNeg ((((mF u_13 11) + x_2) - (1 : Int32)) - x_12)) x_16) hx hb hw hS 1 0 rfl rfl i_19 rfl d_MMo_shifts_250 (fun u_18 H locs eu_18 hw hS => ?_)
          have hf := hf.trans (nm_eq eu_18)
          obtain ⟨x_20, ex_20⟩ : ∃ y : Int32, y = x_12 + (1 : Int32) := ⟨_, rfl⟩
          have hf := hf.trans (nm_eq ex_20)
          refine lv_iinc (v := x_20) (lv' := [(5, .int x_20), (0, .ref (a 0)), (1, .int x_2), (2, .int x_4), (6, .int x_16)]) hx hb d_MMo_shifts_251 hl (k := 3) rfl (by rw [ex_20]; rfl) (by decide) rfl (fun ls hl => ?_)
          refine lv_goto (tgt := 92) hx hb d_MMo_shifts_254 (by decide) ?_
          exact hL_14 x_20 u_18 _ _ hw hS _ (lv_sub hl [1, 2, 3, 0] rfl) hf
        · intro K_17 hK_17 hf
          refine lv_icmp_ne (tgt := 176) hx hb d_MMo_shifts_105 (by decide) (fun c_21 => ?_) (fun c_21 => ?_)
          · have hf := hf.trans (if_neg c_21)
            refine lv_iload_n hx hb d_MMo_shifts_176 rfl (lv_at hl 2 rfl) ?_
            refine lv_iconst (v := (1 : Int32)) hx hb d_MMo_shifts_177 (by decide) ?_
            refine lv_isub hx hb d_MMo_shifts_178 ?_
            refine lv_iload hx hb d_MMo_shifts_179 (lv_at hl 3 rfl) ?_
            refine lv_iconst (v := (1 : Int32)) hx hb d_MMo_shifts_181 (by decide) ?_
            refine lv_iadd hx hb d_MMo_shifts_182 ?_
            refine lv_iconst (v := (2 : Int32)) hx hb d_MMo_shifts_183 (by decide) ?_
            refine lv_idiv hx hb d_MMo_shifts_184 (by decide) ?_
            refine lv_isub hx hb d_MMo_shifts_185 ?_
            refine lv_topi (fun x_22 ex_22 => ?_)
            have hf := hf.trans (nm_eq ex_22)
            refine lv_istore (lv' := [(7, .int x_22), (0, .ref (a 0)), (1, .int x_2), (2, .int x_4), (5, .int x_12)]) hx hb d_MMo_shifts_186 hl (by decide) rfl (fun ls hl => ?_)
            refine lv_sipush (v := (240 : Int32)) hx hb d_MMo_shifts_188 (by decide) ?_
            refine lv_iload hx hb d_MMo_shifts_191 (lv_at hl 0 rfl) ?_
            refine jn_cut hf (fun (K_24 : Int32 → Option (MS)) => ∀ (x_23 : Int32), ∀ (ls : Array Slot), lv_has ls 9 [(0, .ref (a 0)), (1, .int x_2), (2, .int x_4), (5, .int x_12)] → some F = K_24 x_23 → W p l e rm_MMo_shifts st m args below meth c H locs 0 0 Q (F0 m 230 ls [.int x_23, .int (240 : Int32)])) ?_ ?_
            · intro x_23 ls hl hf
              refine lv_ior hx hb d_MMo_shifts_230 ?_
              refine lv_topi (fun x_25 ex_25 => ?_)
              have hf := hf.trans (nm_eq ex_25)
              refine lv_istore (lv' := [(6, .int x_25), (0, .ref (a 0)), (1, .int x_2), (2, .int x_4), (5, .int x_12)]) hx hb d_MMo_shifts_231 hl (by decide) rfl (fun ls hl => ?_)
              exact hK_17 x_25 _ (lv_sub hl [1, 2, 3, 4, 0] rfl) hf
            · intro K_24 hK_24 hf
              refine lv_if_ge (tgt := 200) hx hb d_MMo_shifts_193 (by decide) (fun c_26 => ?_) (fun c_26 => ?_)
              · have hf := hf.trans (if_pos c_26)
                refine lv_iload hx hb d_MMo_shifts_200 (lv_at hl 4 rfl) ?_
                refine lv_iconst (v := (2 : Int32)) hx hb d_MMo_shifts_202 (by decide) ?_
                refine lv_irem hx hb d_MMo_shifts_203 (by decide) ?_
                refine lv_iconst (v := (1 : Int32)) hx hb d_MMo_shifts_204 (by decide) ?_
                refine lv_icmp_ne (tgt := 221) hx hb d_MMo_shifts_205 (by decide) (fun c_27 => ?_) (fun c_27 => ?_)
                · have hf := hf.trans (if_neg c_27)
                  refine lv_aload_n hx hb d_MMo_shifts_221 rfl (lv_at hl 1 rfl) ?_
                  refine va_get (v := .ref (a 8)) hx hb hts iM_Mo hown hw.2.1 hw.1 0 rfl rfl 7 (by decide) (hts _ kM_Mo_31) (fun _ h => h) rfl d_MMo_shifts_222 ?_
                  refine lv_iload hx hb d_MMo_shifts_225 (lv_at hl 0 rfl) ?_
                  obtain ⟨i_28, hf⟩ := ckI_inv hf
                  refine va_iald hx hb hw.2.1 hw.1 8 7 rfl rfl i_28 d_MMo_shifts_227 ?_
                  refine lv_iconst (v := (4 : Int32)) hx hb d_MMo_shifts_228 (by decide) ?_
                  refine lv_ishr hx hb d_MMo_shifts_229 ?_
                  exact hK_24 ((mA u_13 8 (Int32.toNatClampNeg x_22)) >>> ((4 : Int32) &&& 31)) _ (lv_sub hl [1, 2, 3, 4] rfl) hf
                · have hf := hf.trans (if_pos c_27)
                  refine lv_aload_n hx hb d_MMo_shifts_208 rfl (lv_at hl 1 rfl) ?_
                  refine va_get (v := .ref (a 8)) hx hb hts iM_Mo hown hw.2.1 hw.1 0 rfl rfl 7 (by decide) (hts _ kM_Mo_31) (fun _ h => h) rfl d_MMo_shifts_209 ?_
                  refine lv_iload hx hb d_MMo_shifts_212 (lv_at hl 0 rfl) ?_
                  obtain ⟨i_29, hf⟩ := ckI_inv hf
                  refine va_iald hx hb hw.2.1 hw.1 8 7 rfl rfl i_29 d_MMo_shifts_214 ?_
                  refine lv_bipush (v := (15 : Int32)) hx hb d_MMo_shifts_215 (by decide) ?_
                  refine lv_iand hx hb d_MMo_shifts_217 ?_
                  refine lv_goto (tgt := 230) hx hb d_MMo_shifts_218 (by decide) ?_
                  exact hK_24 ((mA u_13 8 (Int32.toNatClampNeg x_22)) &&& (15 : Int32)) _ (lv_sub hl [1, 2, 3, 4] rfl) hf
              · have hf := hf.trans (if_neg c_26)
                refine lv_iconst (v := (0 : Int32)) hx hb d_MMo_shifts_196 (by decide) ?_
                refine lv_goto (tgt := 230) hx hb d_MMo_shifts_197 (by decide) ?_
                exact hK_24 (0 : Int32) _ (lv_sub hl [1, 2, 3, 4] rfl) hf
          · have hf := hf.trans (if_pos c_21)
            refine lv_iload_n hx hb d_MMo_shifts_108 rfl (lv_at hl 2 rfl) ?_
            refine lv_iconst (v := (2 : Int32)) hx hb d_MMo_shifts_109 (by decide) ?_
            refine lv_iload hx hb d_MMo_shifts_110 (lv_at hl 3 rfl) ?_
            refine lv_imul hx hb d_MMo_shifts_112 ?_
            refine lv_isub hx hb d_MMo_shifts_113 ?_
            refine lv_topi (fun x_30 ex_30 => ?_)
            have hf := hf.trans (nm_eq ex_30)
            refine lv_istore (lv' := [(7, .int x_30), (0, .ref (a 0)), (1, .int x_2), (2, .int x_4), (5, .int x_12)]) hx hb d_MMo_shifts_114 hl (by decide) rfl (fun ls hl => ?_)
            refine lv_iload hx hb d_MMo_shifts_116 (lv_at hl 0 rfl) ?_
            refine lv_iconst (v := (1 : Int32)) hx hb d_MMo_shifts_118 (by decide) ?_
            refine lv_isub hx hb d_MMo_shifts_119 ?_
            refine lv_topi (fun x_31 ex_31 => ?_)
            have hf := hf.trans (nm_eq ex_31)
            refine lv_istore (lv' := [(8, .int x_31), (7, .int x_30), (0, .ref (a 0)), (1, .int x_2), (2, .int x_4), (5, .int x_12)]) hx hb d_MMo_shifts_120 hl (by decide) rfl (fun ls hl => ?_)
            refine lv_iload hx hb d_MMo_shifts_122 (lv_at hl 1 rfl) ?_
            refine jn_cut hf (fun (K_33 : Int32 → Option (MS)) => ∀ (x_32 : Int32), ∀ (ls : Array Slot), lv_has ls 9 [(0, .ref (a 0)), (1, .int x_2), (2, .int x_4), (5, .int x_12), (8, .int x_31)] → some F = K_33 x_32 → W p l e rm_MMo_shifts st m args below meth c H locs 0 0 Q (F0 m 149 ls [.int x_32])) ?_ ?_
            · intro x_32 ls hl hf
              refine lv_iload hx hb d_MMo_shifts_149 (lv_at hl 4 rfl) ?_
              refine jn_cut hf (fun (K_35 : Int32 → Option (MS)) => ∀ (x_34 : Int32), ∀ (ls : Array Slot), lv_has ls 9 [(0, .ref (a 0)), (1, .int x_2), (2, .int x_4), (5, .int x_12)] → some F = K_35 x_34 → W p l e rm_MMo_shifts st m args below meth c H locs 0 0 Q (F0 m 170 ls [.int x_34, .int x_32])) ?_ ?_
              · intro x_34 ls hl hf
                refine lv_ior hx hb d_MMo_shifts_170 ?_
                refine lv_topi (fun x_36 ex_36 => ?_)
                have hf := hf.trans (nm_eq ex_36)
                refine lv_istore (lv' := [(6, .int x_36), (0, .ref (a 0)), (1, .int x_2), (2, .int x_4), (5, .int x_12)]) hx hb d_MMo_shifts_171 hl (by decide) rfl (fun ls hl => ?_)
                refine lv_goto (tgt := 233) hx hb d_MMo_shifts_173 (by decide) ?_
                exact hK_17 x_36 _ (lv_sub hl [1, 2, 3, 4, 0] rfl) hf
              · intro K_35 hK_35 hf
                refine lv_if_lt (tgt := 169) hx hb d_MMo_shifts_151 (by decide) (fun c_37 => ?_) (fun c_37 => ?_)
                · have hf := hf.trans (if_pos c_37)
                  refine lv_iconst (v := (0 : Int32)) hx hb d_MMo_shifts_169 (by decide) ?_
                  exact hK_35 (0 : Int32) _ (lv_sub hl [0, 1, 2, 3] rfl) hf
                · have hf := hf.trans (if_neg c_37)
                  refine lv_aload_n hx hb d_MMo_shifts_154 rfl (lv_at hl 0 rfl) ?_
                  refine va_get (v := .ref (a 8)) hx hb hts iM_Mo hown hw.2.1 hw.1 0 rfl rfl 7 (by decide) (hts _ kM_Mo_31) (fun _ h => h) rfl d_MMo_shifts_155 ?_
                  refine lv_iload hx hb d_MMo_shifts_158 (lv_at hl 4 rfl) ?_
                  obtain ⟨i_38, hf⟩ := ckI_inv hf
                  refine va_iald hx hb hw.2.1 hw.1 8 7 rfl rfl i_38 d_MMo_shifts_160 ?_
                  refine lv_bipush (v := (15 : Int32)) hx hb d_MMo_shifts_161 (by decide) ?_
                  refine lv_iand hx hb d_MMo_shifts_163 ?_
                  refine lv_iconst (v := (4 : Int32)) hx hb d_MMo_shifts_164 (by decide) ?_
                  refine lv_ishl hx hb d_MMo_shifts_165 ?_
                  refine lv_goto (tgt := 170) hx hb d_MMo_shifts_166 (by decide) ?_
                  exact hK_35 (((mA u_13 8 (Int32.toNatClampNeg x_31)) &&& (15 : Int32)) <<< ((4 : Int32) &&& 31)) _ (lv_sub hl [0, 1, 2, 3] rfl) hf
            · intro K_33 hK_33 hf
              refine jn_cut hf (fun (K_39 : Option (MS)) => ∀ (ls : Array Slot), lv_has ls 9 [(0, .ref (a 0)), (1, .int x_2), (2, .int x_4), (5, .int x_12), (8, .int x_31)] → some F = K_39 → W p l e rm_MMo_shifts st m args below meth c H locs 0 0 Q (F0 m 148 ls [])) ?_ ?_
              · intro ls hl hf
                refine lv_iconst (v := (0 : Int32)) hx hb d_MMo_shifts_148 (by decide) ?_
                exact hK_33 (0 : Int32) _ (lv_sub hl [0, 1, 2, 3, 4] rfl) hf
              · intro K_39 hK_39 hf
                refine lv_if_lt (tgt := 148) hx hb d_MMo_shifts_124 (by decide) (fun c_40 => ?_) (fun c_40 => ?_)
                · have hf := hf.trans (if_pos c_40)
                  exact hK_39 _ (lv_sub hl [2, 3, 4, 5, 0] rfl) hf
                · have hf := hf.trans (if_neg c_40)
                  refine lv_iload hx hb d_MMo_shifts_127 (lv_at hl 1 rfl) ?_
                  refine lv_iload_n hx hb d_MMo_shifts_129 rfl (lv_at hl 4 rfl) ?_
                  refine lv_iconst (v := (1 : Int32)) hx hb d_MMo_shifts_130 (by decide) ?_
                  refine lv_isub hx hb d_MMo_shifts_131 ?_
                  refine lv_icmp_ge (tgt := 148) hx hb d_MMo_shifts_132 (by decide) (fun c_41 => ?_) (fun c_41 => ?_)
                  · have hf := hf.trans (if_pos c_41)
                    exact hK_39 _ (lv_sub hl [2, 3, 4, 5, 0] rfl) hf
                  · have hf := hf.trans (if_neg c_41)
                    refine lv_aload_n hx hb d_MMo_shifts_135 rfl (lv_at hl 2 rfl) ?_
                    refine va_get (v := .ref (a 8)) hx hb hts iM_Mo hown hw.2.1 hw.1 0 rfl rfl 7 (by decide) (hts _ kM_Mo_31) (fun _ h => h) rfl d_MMo_shifts_136 ?_
                    refine lv_iload hx hb d_MMo_shifts_139 (lv_at hl 1 rfl) ?_
                    obtain ⟨i_42, hf⟩ := ckI_inv hf
                    refine va_iald hx hb hw.2.1 hw.1 8 7 rfl rfl i_42 d_MMo_shifts_141 ?_
                    refine lv_bipush (v := (15 : Int32)) hx hb d_MMo_shifts_142 (by decide) ?_
                    refine lv_iand hx hb d_MMo_shifts_144 ?_
                    refine lv_goto (tgt := 149) hx hb d_MMo_shifts_145 (by decide) ?_
                    exact hK_33 ((mA u_13 8 (Int32.toNatClampNeg x_30)) &&& (15 : Int32)) _ (lv_sub hl [2, 3, 4, 5, 0] rfl) hf
  · intro K_9 hK_9 hf
    refine lp_cut (fun (_ : Nat) (L_45 : Int32 → MS → Option (MS)) => ∀ (x_43 : Int32) (u_44 : MS), ∀ (H : Heap) (locs : List Loc), zW D clM (tyM k) nwM (mW a k) A st u_44 H → va_S A st.heap H locs → ∀ (ls : Array Slot), lv_has ls 9 [(0, .ref (a 0)), (1, .int x_2), (2, .int x_4), (4, .int x_7), (5, .int x_43)] → some F = L_45 x_43 u_44 → W p l e rm_MMo_shifts st m args below meth c H locs 0 0 Q (F0 m 43 ls [])) ?_ ?_ fuelM (0 : Int32) u0 _ _ hw hS _ (lv_sub hl [5, 4, 3, 1, 0] rfl) hf
    · intro _ _ _ _ _ _ _ _ hf; cases hf
    · intro _ L_45 hL_45 x_43 u_44 H locs hw hS ls hl hf
      unfold g_MMo_shifts_43 at hf
      refine lv_iload hx hb d_MMo_shifts_43 (lv_at hl 4 rfl) ?_
      refine lv_iload_n hx hb d_MMo_shifts_45 rfl (lv_at hl 2 rfl) ?_
      refine lv_icmp_ge (tgt := 74) hx hb d_MMo_shifts_46 (by decide) (fun c_46 => ?_) (fun c_46 => ?_)
      · have hf := hf.trans (if_pos c_46)
        exact hK_9 u_44 _ _ hw hS _ (lv_sub hl [0, 1, 2, 3] rfl) hf
      · have hf := hf.trans (if_neg c_46)
        refine lv_aload_n hx hb d_MMo_shifts_49 rfl (lv_at hl 0 rfl) ?_
        refine va_get (v := .ref (a 8)) hx hb hts iM_Mo hown hw.2.1 hw.1 0 rfl rfl 7 (by decide) (hts _ kM_Mo_31) (fun _ h => h) rfl d_MMo_shifts_50 ?_
        refine lv_iload hx hb d_MMo_shifts_53 (lv_at hl 4 rfl) ?_
        refine lv_aload_n hx hb d_MMo_shifts_55 rfl (lv_at hl 0 rfl) ?_
        refine va_get (v := .ref (a 1)) hx hb hts iM_Mo hown hw.2.1 hw.1 0 rfl rfl 0 (by decide) (hts _ kM_Mo_7) (fun _ h => h) rfl d_MMo_shifts_56 ?_
        refine lv_aload_n hx hb d_MMo_shifts_59 rfl (lv_at hl 0 rfl) ?_
        refine va_get (v := .int (mF u_44 12)) hx hb hts iM_Mo hown hw.2.1 hw.1 0 rfl rfl 20 (by decide) (hts _ kM_Mo_152) (fun _ h => h) rfl d_MMo_shifts_60 ?_
        refine lv_iload hx hb d_MMo_shifts_63 (lv_at hl 4 rfl) ?_
        refine lv_iadd hx hb d_MMo_shifts_65 ?_
        obtain ⟨i_47, hf⟩ := ckI_inv hf
        refine va_iald hx hb hw.2.1 hw.1 1 0 rfl rfl i_47 d_MMo_shifts_66 ?_
        obtain ⟨i_49, hf⟩ := ckI_inv hf
        refine z_iast (u' := msA u_44 8 (Int32.toNatClampNeg x_43) (mA u_44 1 (Int32.toNatClampNeg ((mF u_44 12) + x_43)))) hx hb hw hS 8 7 rfl rfl i_49 rfl d_MMo_shifts_67 (fun u_48 H locs eu_48 hw hS => ?_)
        have hf := hf.trans (nm_eq eu_48)
        obtain ⟨x_50, ex_50⟩ : ∃ y : Int32, y = x_43 + (1 : Int32) := ⟨_, rfl⟩
        have hf := hf.trans (nm_eq ex_50)
        refine lv_iinc (v := x_50) (lv' := [(5, .int x_50), (0, .ref (a 0)), (1, .int x_2), (2, .int x_4), (4, .int x_7)]) hx hb d_MMo_shifts_68 hl (k := 4) rfl (by rw [ex_50]; rfl) (by decide) rfl (fun ls hl => ?_)
        refine lv_goto (tgt := 43) hx hb d_MMo_shifts_71 (by decide) ?_
        exact hL_45 x_50 u_48 _ _ hw hS _ (lv_sub hl [1, 2, 3, 4, 0] rfl) hf
set_option maxHeartbeats 4000000 in
set_option maxRecDepth 100000 in
theorem c_MMo_octets (l : Launch) (D : va_G) (a : Nat → Nat) (k : Nat → ClassId) (u0 : MS)  (F : MS) (hf : f_MMo_octets u0 = some F) : zMv l y_MMo_octets w_MMo_octets rm_MMo_octets D clM (tyM k) nwM (mW a k) [.ref (a 0)] u0 F := by
  have hf := hf.symm
  unfold f_MMo_octets at hf
  refine zMv_of (cc := b_MMo_octets) (maxL := 6) (own := RM_Mo) (by decide) rfl rfl (Nat.le_of_ble_eq_true rfl) ?_
  intro p e R st m args below meth c A H locs Q ls hR hx hb hml hown hts hw hS hret hl
  subst hR
  have hcs : 0 ≤ (rm_MMo_octets).cells ∧ 0 ≤ (rm_MMo_octets).slots := ⟨Nat.zero_le _, Nat.zero_le _⟩
  have hl : lv_has ls 6 [(0, .ref (a 0))] := hl
  refine lv_aload_n hx hb d_MMo_octets_0 rfl (lv_at hl 0 rfl) ?_
  refine va_get (v := .int (mF u0 10)) hx hb hts iM_Mo hown hw.2.1 hw.1 0 rfl rfl 18 (by decide) (hts _ kM_Mo_142) (fun _ h => h) rfl d_MMo_octets_1 ?_
  refine lv_iconst (v := (1 : Int32)) hx hb d_MMo_octets_4 (by decide) ?_
  refine lv_iadd hx hb d_MMo_octets_5 ?_
  refine lv_topi (fun x_1 ex_1 => ?_)
  have hf := hf.trans (nm_eq ex_1)
  refine lv_istore_n (lv' := [(1, .int x_1), (0, .ref (a 0))]) hx hb d_MMo_octets_6 rfl hl (by decide) rfl (fun ls hl => ?_)
  refine lv_iconst (v := (0 : Int32)) hx hb d_MMo_octets_7 (by decide) ?_
  refine lv_istore_n (lv' := [(2, .int (0 : Int32)), (1, .int x_1), (0, .ref (a 0))]) hx hb d_MMo_octets_8 rfl hl (by decide) rfl (fun ls hl => ?_)
  refine lv_aload_n hx hb d_MMo_octets_9 rfl (lv_at hl 2 rfl) ?_
  refine va_get (v := .int (mF u0 8)) hx hb hts iM_Mo hown hw.2.1 hw.1 0 rfl rfl 16 (by decide) (hts _ kM_Mo_132) (fun _ h => h) rfl d_MMo_octets_10 ?_
  refine lv_sipush (v := (213 : Int32)) hx hb d_MMo_octets_13 (by decide) ?_
  refine lv_icmp_ne (tgt := 98) hx hb d_MMo_octets_16 (by decide) (fun c_2 => ?_) (fun c_2 => ?_)
  · have hf := hf.trans (if_neg c_2)
    refine lv_iconst (v := (0 : Int32)) hx hb d_MMo_octets_98 (by decide) ?_
    refine lv_istore_n (lv' := [(3, .int (0 : Int32)), (2, .int (0 : Int32)), (1, .int x_1), (0, .ref (a 0))]) hx hb d_MMo_octets_99 rfl hl (by decide) rfl (fun ls hl => ?_)
    refine jn_cut hf (fun (K_5 : Int32 → MS → Option (MS)) => ∀ (x_3 : Int32) (u_4 : MS), ∀ (H : Heap) (locs : List Loc), zW D clM (tyM k) nwM (mW a k) A st u_4 H → va_S A st.heap H locs → ∀ (ls : Array Slot), lv_has ls 6 [(0, .ref (a 0)), (2, .int x_3)] → some F = K_5 x_3 u_4 → W p l e rm_MMo_octets st m args below meth c H locs 0 0 Q (F0 m 278 ls [])) ?_ ?_
    · intro x_3 u_4 H locs hw hS ls hl hf
      refine lv_aload_n hx hb d_MMo_octets_278 rfl (lv_at hl 0 rfl) ?_
      refine va_get (v := .int (mF u_4 8)) hx hb hts iM_Mo hown hw.2.1 hw.1 0 rfl rfl 16 (by decide) (hts _ kM_Mo_132) (fun _ h => h) rfl d_MMo_octets_279 ?_
      refine lv_sipush (v := (212 : Int32)) hx hb d_MMo_octets_282 (by decide) ?_
      refine jn_cut hf (fun (K_6 : Option (MS)) => ∀ (ls : Array Slot), lv_has ls 6 [(0, .ref (a 0)), (2, .int x_3)] → some F = K_6 → W p l e rm_MMo_octets st m args below meth c H locs 0 0 Q (F0 m 308 ls [])) ?_ ?_
      · intro ls hl hf
        refine lv_aload_n hx hb d_MMo_octets_308 rfl (lv_at hl 0 rfl) ?_
        refine lv_iload_n hx hb d_MMo_octets_309 rfl (lv_at hl 1 rfl) ?_
        refine lv_if_ne (tgt := 317) hx hb d_MMo_octets_310 (by decide) (fun c_7 => ?_) (fun c_7 => ?_)
        · have hf := hf.trans (if_neg c_7)
          refine lv_iconst (v := (1 : Int32)) hx hb d_MMo_octets_317 (by decide) ?_
          refine z_put (u' := msF u_4 1 (1 : Int32)) hx hb hts iM_Mo tM_Mo tM_Mo_ok nM_Mo hown hw hS 0 rfl rfl 9 (by decide) (hts _ kM_Mo_73) (fun _ h => h) rfl rfl (Nat.le_of_ble_eq_true rfl) rfl d_MMo_octets_318 (fun u_8 H locs eu_8 hw hS => ?_)
          have hf := hf.trans (nm_eq eu_8)
          exact hret _ _ _ _ _ d_MMo_octets_321 hw hS (Option.some.inj hf)
        · have hf := hf.trans (if_pos c_7)
          refine lv_iconst (v := (0 : Int32)) hx hb d_MMo_octets_313 (by decide) ?_
          refine lv_goto (tgt := 318) hx hb d_MMo_octets_314 (by decide) ?_
          refine z_put (u' := msF u_4 1 (0 : Int32)) hx hb hts iM_Mo tM_Mo tM_Mo_ok nM_Mo hown hw hS 0 rfl rfl 9 (by decide) (hts _ kM_Mo_73) (fun _ h => h) rfl rfl (Nat.le_of_ble_eq_true rfl) rfl d_MMo_octets_318 (fun u_9 H locs eu_9 hw hS => ?_)
          have hf := hf.trans (nm_eq eu_9)
          exact hret _ _ _ _ _ d_MMo_octets_321 hw hS (Option.some.inj hf)
      · intro K_6 hK_6 hf
        refine lv_icmp_eq (tgt := 308) hx hb d_MMo_octets_285 (by decide) (fun c_10 => ?_) (fun c_10 => ?_)
        · have hf := hf.trans (if_pos c_10)
          exact hK_6 _ (lv_sub hl [0, 1] rfl) hf
        · have hf := hf.trans (if_neg c_10)
          refine lv_aload_n hx hb d_MMo_octets_288 rfl (lv_at hl 0 rfl) ?_
          refine va_get (v := .int (mF u_4 8)) hx hb hts iM_Mo hown hw.2.1 hw.1 0 rfl rfl 16 (by decide) (hts _ kM_Mo_132) (fun _ h => h) rfl d_MMo_octets_289 ?_
          refine lv_sipush (v := (214 : Int32)) hx hb d_MMo_octets_292 (by decide) ?_
          refine lv_icmp_eq (tgt := 308) hx hb d_MMo_octets_295 (by decide) (fun c_11 => ?_) (fun c_11 => ?_)
          · have hf := hf.trans (if_pos c_11)
            exact hK_6 _ (lv_sub hl [0, 1] rfl) hf
          · have hf := hf.trans (if_neg c_11)
            refine lv_aload_n hx hb d_MMo_octets_298 rfl (lv_at hl 0 rfl) ?_
            refine va_get (v := .int (mF u_4 8)) hx hb hts iM_Mo hown hw.2.1 hw.1 0 rfl rfl 16 (by decide) (hts _ kM_Mo_132) (fun _ h => h) rfl d_MMo_octets_299 ?_
            refine lv_sipush (v := (215 : Int32)) hx hb d_MMo_octets_302 (by decide) ?_
            refine lv_icmp_ne (tgt := 321) hx hb d_MMo_octets_305 (by decide) (fun c_12 => ?_) (fun c_12 => ?_)
            · have hf := hf.trans (if_neg c_12)
              exact hret _ _ _ _ _ d_MMo_octets_321 hw hS (Option.some.inj hf)
            · have hf := hf.trans (if_pos c_12)
              exact hK_6 _ (lv_sub hl [0, 1] rfl) hf
    · intro K_5 hK_5 hf
      refine lp_cut (fun (_ : Nat) (L_16 : Int32 → Int32 → MS → Option (MS)) => ∀ (x_13 : Int32) (x_14 : Int32) (u_15 : MS), ∀ (H : Heap) (locs : List Loc), zW D clM (tyM k) nwM (mW a k) A st u_15 H → va_S A st.heap H locs → ∀ (ls : Array Slot), lv_has ls 6 [(0, .ref (a 0)), (1, .int x_1), (2, .int x_13), (3, .int x_14)] → some F = L_16 x_13 x_14 u_15 → W p l e rm_MMo_octets st m args below meth c H locs 0 0 Q (F0 m 100 ls [])) ?_ ?_ fuelM (0 : Int32) (0 : Int32) u0 _ _ hw hS _ (lv_sub hl [3, 2, 1, 0] rfl) hf
      · intro _ _ _ _ _ _ _ _ _ hf; cases hf
      · intro _ L_16 hL_16 x_13 x_14 u_15 H locs hw hS ls hl hf
        unfold g_MMo_octets_100 at hf
        refine lv_iload_n hx hb d_MMo_octets_100 rfl (lv_at hl 3 rfl) ?_
        refine lv_iload_n hx hb d_MMo_octets_101 rfl (lv_at hl 1 rfl) ?_
        refine lv_icmp_ge (tgt := 278) hx hb d_MMo_octets_102 (by decide) (fun c_17 => ?_) (fun c_17 => ?_)
        · have hf := hf.trans (if_pos c_17)
          exact hK_5 x_13 u_15 _ _ hw hS _ (lv_sub hl [0, 2] rfl) hf
        · have hf := hf.trans (if_neg c_17)
          refine lv_aload_n hx hb d_MMo_octets_105 rfl (lv_at hl 0 rfl) ?_
          refine va_get (v := .int (mF u_15 8)) hx hb hts iM_Mo hown hw.2.1 hw.1 0 rfl rfl 16 (by decide) (hts _ kM_Mo_132) (fun _ h => h) rfl d_MMo_octets_106 ?_
          refine lv_sipush (v := (220 : Int32)) hx hb d_MMo_octets_109 (by decide) ?_
          refine lv_icmp_eq (tgt := 278) hx hb d_MMo_octets_112 (by decide) (fun c_18 => ?_) (fun c_18 => ?_)
          · have hf := hf.trans (if_pos c_18)
            exact hK_5 x_13 u_15 _ _ hw hS _ (lv_sub hl [0, 2] rfl) hf
          · have hf := hf.trans (if_neg c_18)
            refine lv_aload_n hx hb d_MMo_octets_115 rfl (lv_at hl 0 rfl) ?_
            refine va_get (v := .ref (a 1)) hx hb hts iM_Mo hown hw.2.1 hw.1 0 rfl rfl 0 (by decide) (hts _ kM_Mo_7) (fun _ h => h) rfl d_MMo_octets_116 ?_
            refine lv_aload_n hx hb d_MMo_octets_119 rfl (lv_at hl 0 rfl) ?_
            refine va_get (v := .int (mF u_15 11)) hx hb hts iM_Mo hown hw.2.1 hw.1 0 rfl rfl 19 (by decide) (hts _ kM_Mo_149) (fun _ h => h) rfl d_MMo_octets_120 ?_
            refine lv_iload_n hx hb d_MMo_octets_123 rfl (lv_at hl 3 rfl) ?_
            refine lv_iadd hx hb d_MMo_octets_124 ?_
            obtain ⟨i_19, hf⟩ := ckI_inv hf
            refine va_iald hx hb hw.2.1 hw.1 1 0 rfl rfl i_19 d_MMo_octets_125 ?_
            refine lv_topi (fun x_20 ex_20 => ?_)
            have hf := hf.trans (nm_eq ex_20)
            refine lv_istore (lv' := [(4, .int x_20), (0, .ref (a 0)), (1, .int x_1), (2, .int x_13), (3, .int x_14)]) hx hb d_MMo_octets_126 hl (by decide) rfl (fun ls hl => ?_)
            refine lv_aload_n hx hb d_MMo_octets_128 rfl (lv_at hl 1 rfl) ?_
            refine va_get (v := .ref (a 1)) hx hb hts iM_Mo hown hw.2.1 hw.1 0 rfl rfl 0 (by decide) (hts _ kM_Mo_7) (fun _ h => h) rfl d_MMo_octets_129 ?_
            refine lv_aload_n hx hb d_MMo_octets_132 rfl (lv_at hl 1 rfl) ?_
            refine va_get (v := .int (mF u_15 12)) hx hb hts iM_Mo hown hw.2.1 hw.1 0 rfl rfl 20 (by decide) (hts _ kM_Mo_152) (fun _ h => h) rfl d_MMo_octets_133 ?_
            refine lv_iload_n hx hb d_MMo_octets_136 rfl (lv_at hl 4 rfl) ?_
            refine lv_iadd hx hb d_MMo_octets_137 ?_
            obtain ⟨i_21, hf⟩ := ckI_inv hf
            refine va_iald hx hb hw.2.1 hw.1 1 0 rfl rfl i_21 d_MMo_octets_138 ?_
            refine lv_topi (fun x_22 ex_22 => ?_)
            have hf := hf.trans (nm_eq ex_22)
            refine lv_istore (lv' := [(5, .int x_22), (4, .int x_20), (0, .ref (a 0)), (1, .int x_1), (2, .int x_13), (3, .int x_14)]) hx hb d_MMo_octets_139 hl (by decide) rfl (fun ls hl => ?_)
            refine lv_aload_n hx hb d_MMo_octets_141 rfl (lv_at hl 2 rfl) ?_
            refine va_get (v := .ref (a 1)) hx hb hts iM_Mo hown hw.2.1 hw.1 0 rfl rfl 0 (by decide) (hts _ kM_Mo_7) (fun _ h => h) rfl d_MMo_octets_142 ?_
            refine lv_aload_n hx hb d_MMo_octets_145 rfl (lv_at hl 2 rfl) ?_
            refine va_get (v := .int (mF u_15 11)) hx hb hts iM_Mo hown hw.2.1 hw.1 0 rfl rfl 19 (by decide) (hts _ kM_Mo_149) (fun _ h => h) rfl d_MMo_octets_146 ?_
            refine lv_iload_n hx hb d_MMo_octets_149 rfl (lv_at hl 5 rfl) ?_
            refine lv_iadd hx hb d_MMo_octets_150 ?_
            refine lv_aload_n hx hb d_MMo_octets_151 rfl (lv_at hl 2 rfl) ?_
            refine va_get (v := .int (mF u_15 8)) hx hb hts iM_Mo hown hw.2.1 hw.1 0 rfl rfl 16 (by decide) (hts _ kM_Mo_132) (fun _ h => h) rfl d_MMo_octets_152 ?_
            refine lv_sipush (v := (209 : Int32)) hx hb d_MMo_octets_155 (by decide) ?_
            refine jn_cut hf (fun (K_24 : Int32 → Option (MS)) => ∀ (x_23 : Int32), ∀ (ls : Array Slot), lv_has ls 6 [(0, .ref (a 0)), (1, .int x_1), (2, .int x_13), (3, .int x_14)] → some F = K_24 x_23 → W p l e rm_MMo_octets st m args below meth c H locs 0 0 Q (F0 m 257 ls [.int x_23, .int ((mF u_15 11) + x_14), .ref (a 1)])) ?_ ?_
            · intro x_23 ls hl hf
              obtain ⟨i_26, hf⟩ := ckI_inv hf
              refine z_iast (u' := msA u_15 1 (Int32.toNatClampNeg ((mF u_15 11) + x_14)) x_23) hx hb hw hS 1 0 rfl rfl i_26 rfl d_MMo_octets_257 (fun u_25 H locs eu_25 hw hS => ?_)
              have hf := hf.trans (nm_eq eu_25)
              refine lv_iload_n hx hb d_MMo_octets_258 rfl (lv_at hl 2 rfl) ?_
              refine lv_aload_n hx hb d_MMo_octets_259 rfl (lv_at hl 0 rfl) ?_
              refine va_get (v := .ref (a 1)) hx hb hts iM_Mo hown hw.2.1 hw.1 0 rfl rfl 0 (by decide) (hts _ kM_Mo_7) (fun _ h => h) rfl d_MMo_octets_260 ?_
              refine lv_aload_n hx hb d_MMo_octets_263 rfl (lv_at hl 0 rfl) ?_
              refine va_get (v := .int (mF u_25 11)) hx hb hts iM_Mo hown hw.2.1 hw.1 0 rfl rfl 19 (by decide) (hts _ kM_Mo_149) (fun _ h => h) rfl d_MMo_octets_264 ?_
              refine lv_iload_n hx hb d_MMo_octets_267 rfl (lv_at hl 3 rfl) ?_
              refine lv_iadd hx hb d_MMo_octets_268 ?_
              obtain ⟨i_27, hf⟩ := ckI_inv hf
              refine va_iald hx hb hw.2.1 hw.1 1 0 rfl rfl i_27 d_MMo_octets_269 ?_
              refine lv_ior hx hb d_MMo_octets_270 ?_
              refine lv_topi (fun x_28 ex_28 => ?_)
              have hf := hf.trans (nm_eq ex_28)
              refine lv_istore_n (lv' := [(2, .int x_28), (0, .ref (a 0)), (1, .int x_1), (3, .int x_14)]) hx hb d_MMo_octets_271 rfl hl (by decide) rfl (fun ls hl => ?_)
              obtain ⟨x_29, ex_29⟩ : ∃ y : Int32, y = x_14 + (1 : Int32) := ⟨_, rfl⟩
              have hf := hf.trans (nm_eq ex_29)
              refine lv_iinc (v := x_29) (lv' := [(3, .int x_29), (2, .int x_28), (0, .ref (a 0)), (1, .int x_1)]) hx hb d_MMo_octets_272 hl (k := 3) rfl (by rw [ex_29]; rfl) (by decide) rfl (fun ls hl => ?_)
              refine lv_goto (tgt := 100) hx hb d_MMo_octets_275 (by decide) ?_
              exact hL_16 x_28 x_29 u_25 _ _ hw hS _ (lv_sub hl [2, 3, 1, 0] rfl) hf
            · intro K_24 hK_24 hf
              refine lv_icmp_ne (tgt := 176) hx hb d_MMo_octets_158 (by decide) (fun c_30 => ?_) (fun c_30 => ?_)
              · have hf := hf.trans (if_neg c_30)
                refine lv_aload_n hx hb d_MMo_octets_176 rfl (lv_at hl 2 rfl) ?_
                refine va_get (v := .int (mF u_15 8)) hx hb hts iM_Mo hown hw.2.1 hw.1 0 rfl rfl 16 (by decide) (hts _ kM_Mo_132) (fun _ h => h) rfl d_MMo_octets_177 ?_
                refine lv_sipush (v := (210 : Int32)) hx hb d_MMo_octets_180 (by decide) ?_
                refine lv_icmp_ne (tgt := 191) hx hb d_MMo_octets_183 (by decide) (fun c_31 => ?_) (fun c_31 => ?_)
                · have hf := hf.trans (if_neg c_31)
                  refine lv_aload_n hx hb d_MMo_octets_191 rfl (lv_at hl 2 rfl) ?_
                  refine va_get (v := .int (mF u_15 8)) hx hb hts iM_Mo hown hw.2.1 hw.1 0 rfl rfl 16 (by decide) (hts _ kM_Mo_132) (fun _ h => h) rfl d_MMo_octets_192 ?_
                  refine lv_sipush (v := (211 : Int32)) hx hb d_MMo_octets_195 (by decide) ?_
                  refine lv_icmp_ne (tgt := 216) hx hb d_MMo_octets_198 (by decide) (fun c_32 => ?_) (fun c_32 => ?_)
                  · have hf := hf.trans (if_neg c_32)
                    refine lv_aload_n hx hb d_MMo_octets_216 rfl (lv_at hl 2 rfl) ?_
                    refine va_get (v := .int (mF u_15 8)) hx hb hts iM_Mo hown hw.2.1 hw.1 0 rfl rfl 16 (by decide) (hts _ kM_Mo_132) (fun _ h => h) rfl d_MMo_octets_217 ?_
                    refine lv_sipush (v := (212 : Int32)) hx hb d_MMo_octets_220 (by decide) ?_
                    refine lv_icmp_ne (tgt := 234) hx hb d_MMo_octets_223 (by decide) (fun c_33 => ?_) (fun c_33 => ?_)
                    · have hf := hf.trans (if_neg c_33)
                      refine lv_aload_n hx hb d_MMo_octets_234 rfl (lv_at hl 2 rfl) ?_
                      refine va_get (v := .int (mF u_15 8)) hx hb hts iM_Mo hown hw.2.1 hw.1 0 rfl rfl 16 (by decide) (hts _ kM_Mo_132) (fun _ h => h) rfl d_MMo_octets_235 ?_
                      refine lv_sipush (v := (214 : Int32)) hx hb d_MMo_octets_238 (by decide) ?_
                      refine lv_icmp_ne (tgt := 252) hx hb d_MMo_octets_241 (by decide) (fun c_34 => ?_) (fun c_34 => ?_)
                      · have hf := hf.trans (if_neg c_34)
                        refine lv_iload hx hb d_MMo_octets_252 (lv_at hl 1 rfl) ?_
                        refine lv_iload hx hb d_MMo_octets_254 (lv_at hl 0 rfl) ?_
                        refine lv_ixor hx hb d_MMo_octets_256 ?_
                        exact hK_24 (x_20 ^^^ x_22) _ (lv_sub hl [2, 3, 4, 5] rfl) hf
                      · have hf := hf.trans (if_pos c_34)
                        refine lv_iload hx hb d_MMo_octets_244 (lv_at hl 1 rfl) ?_
                        refine lv_iload hx hb d_MMo_octets_246 (lv_at hl 0 rfl) ?_
                        refine lv_ior hx hb d_MMo_octets_248 ?_
                        refine lv_goto (tgt := 257) hx hb d_MMo_octets_249 (by decide) ?_
                        exact hK_24 (x_20 ||| x_22) _ (lv_sub hl [2, 3, 4, 5] rfl) hf
                    · have hf := hf.trans (if_pos c_33)
                      refine lv_iload hx hb d_MMo_octets_226 (lv_at hl 1 rfl) ?_
                      refine lv_iload hx hb d_MMo_octets_228 (lv_at hl 0 rfl) ?_
                      refine lv_iand hx hb d_MMo_octets_230 ?_
                      refine lv_goto (tgt := 257) hx hb d_MMo_octets_231 (by decide) ?_
                      exact hK_24 (x_20 &&& x_22) _ (lv_sub hl [2, 3, 4, 5] rfl) hf
                  · have hf := hf.trans (if_pos c_32)
                    refine lv_iload hx hb d_MMo_octets_201 (lv_at hl 0 rfl) ?_
                    refine lv_sipush (v := (240 : Int32)) hx hb d_MMo_octets_203 (by decide) ?_
                    refine lv_iand hx hb d_MMo_octets_206 ?_
                    refine lv_iload hx hb d_MMo_octets_207 (lv_at hl 1 rfl) ?_
                    refine lv_bipush (v := (15 : Int32)) hx hb d_MMo_octets_209 (by decide) ?_
                    refine lv_iand hx hb d_MMo_octets_211 ?_
                    refine lv_ior hx hb d_MMo_octets_212 ?_
                    refine lv_goto (tgt := 257) hx hb d_MMo_octets_213 (by decide) ?_
                    exact hK_24 ((x_22 &&& (240 : Int32)) ||| (x_20 &&& (15 : Int32))) _ (lv_sub hl [2, 3, 4, 5] rfl) hf
                · have hf := hf.trans (if_pos c_31)
                  refine lv_iload hx hb d_MMo_octets_186 (lv_at hl 0 rfl) ?_
                  refine lv_goto (tgt := 257) hx hb d_MMo_octets_188 (by decide) ?_
                  exact hK_24 x_22 _ (lv_sub hl [2, 3, 4, 5] rfl) hf
              · have hf := hf.trans (if_pos c_30)
                refine lv_iload hx hb d_MMo_octets_161 (lv_at hl 1 rfl) ?_
                refine lv_sipush (v := (240 : Int32)) hx hb d_MMo_octets_163 (by decide) ?_
                refine lv_iand hx hb d_MMo_octets_166 ?_
                refine lv_iload hx hb d_MMo_octets_167 (lv_at hl 0 rfl) ?_
                refine lv_bipush (v := (15 : Int32)) hx hb d_MMo_octets_169 (by decide) ?_
                refine lv_iand hx hb d_MMo_octets_171 ?_
                refine lv_ior hx hb d_MMo_octets_172 ?_
                refine lv_goto (tgt := 257) hx hb d_MMo_octets_173 (by decide) ?_
                exact hK_24 ((x_20 &&& (240 : Int32)) ||| (x_22 &&& (15 : Int32))) _ (lv_sub hl [2, 3, 4, 5] rfl) hf
  · have hf := hf.trans (if_pos c_2)
    refine lv_aload_n hx hb d_MMo_octets_19 rfl (lv_at hl 2 rfl) ?_
    refine lv_iconst (v := (0 : Int32)) hx hb d_MMo_octets_20 (by decide) ?_
    refine z_put (u' := msF u0 1 (0 : Int32)) hx hb hts iM_Mo tM_Mo tM_Mo_ok nM_Mo hown hw hS 0 rfl rfl 9 (by decide) (hts _ kM_Mo_73) (fun _ h => h) rfl rfl (Nat.le_of_ble_eq_true rfl) rfl d_MMo_octets_21 (fun u_35 H locs eu_35 hw hS => ?_)
    have hf := hf.trans (nm_eq eu_35)
    refine lv_iload_n hx hb d_MMo_octets_24 rfl (lv_at hl 1 rfl) ?_
    refine lv_iconst (v := (1 : Int32)) hx hb d_MMo_octets_25 (by decide) ?_
    refine lv_isub hx hb d_MMo_octets_26 ?_
    refine lv_topi (fun x_36 ex_36 => ?_)
    have hf := hf.trans (nm_eq ex_36)
    refine lv_istore_n (lv' := [(3, .int x_36), (2, .int (0 : Int32)), (1, .int x_1), (0, .ref (a 0))]) hx hb d_MMo_octets_27 rfl hl (by decide) rfl (fun ls hl => ?_)
    refine lp_cut (fun (_ : Nat) (L_39 : Int32 → MS → Option (MS)) => ∀ (x_37 : Int32) (u_38 : MS), ∀ (H : Heap) (locs : List Loc), zW D clM (tyM k) nwM (mW a k) A st u_38 H → va_S A st.heap H locs → ∀ (ls : Array Slot), lv_has ls 6 [(0, .ref (a 0)), (3, .int x_37)] → some F = L_39 x_37 u_38 → W p l e rm_MMo_octets st m args below meth c H locs 0 0 Q (F0 m 28 ls [])) ?_ ?_ fuelM x_36 u_35 _ _ hw hS _ (lv_sub hl [3, 0] rfl) hf
    · intro _ _ _ _ _ _ _ _ hf; cases hf
    · intro _ L_39 hL_39 x_37 u_38 H locs hw hS ls hl hf
      unfold g_MMo_octets_28 at hf
      refine lv_iload_n hx hb d_MMo_octets_28 rfl (lv_at hl 1 rfl) ?_
      refine lv_if_lt (tgt := 97) hx hb d_MMo_octets_29 (by decide) (fun c_40 => ?_) (fun c_40 => ?_)
      · have hf := hf.trans (if_pos c_40)
        exact hret _ _ _ _ _ d_MMo_octets_97 hw hS (Option.some.inj hf)
      · have hf := hf.trans (if_neg c_40)
        refine lv_aload_n hx hb d_MMo_octets_32 rfl (lv_at hl 0 rfl) ?_
        refine va_get (v := .ref (a 1)) hx hb hts iM_Mo hown hw.2.1 hw.1 0 rfl rfl 0 (by decide) (hts _ kM_Mo_7) (fun _ h => h) rfl d_MMo_octets_33 ?_
        refine lv_aload_n hx hb d_MMo_octets_36 rfl (lv_at hl 0 rfl) ?_
        refine va_get (v := .int (mF u_38 11)) hx hb hts iM_Mo hown hw.2.1 hw.1 0 rfl rfl 19 (by decide) (hts _ kM_Mo_149) (fun _ h => h) rfl d_MMo_octets_37 ?_
        refine lv_iload_n hx hb d_MMo_octets_40 rfl (lv_at hl 1 rfl) ?_
        refine lv_iadd hx hb d_MMo_octets_41 ?_
        obtain ⟨i_41, hf⟩ := ckI_inv hf
        refine va_iald hx hb hw.2.1 hw.1 1 0 rfl rfl i_41 d_MMo_octets_42 ?_
        refine lv_aload_n hx hb d_MMo_octets_43 rfl (lv_at hl 0 rfl) ?_
        refine va_get (v := .ref (a 1)) hx hb hts iM_Mo hown hw.2.1 hw.1 0 rfl rfl 0 (by decide) (hts _ kM_Mo_7) (fun _ h => h) rfl d_MMo_octets_44 ?_
        refine lv_aload_n hx hb d_MMo_octets_47 rfl (lv_at hl 0 rfl) ?_
        refine va_get (v := .int (mF u_38 12)) hx hb hts iM_Mo hown hw.2.1 hw.1 0 rfl rfl 20 (by decide) (hts _ kM_Mo_152) (fun _ h => h) rfl d_MMo_octets_48 ?_
        refine lv_iload_n hx hb d_MMo_octets_51 rfl (lv_at hl 1 rfl) ?_
        refine lv_iadd hx hb d_MMo_octets_52 ?_
        obtain ⟨i_42, hf⟩ := ckI_inv hf
        refine va_iald hx hb hw.2.1 hw.1 1 0 rfl rfl i_42 d_MMo_octets_53 ?_
        refine jn_cut hf (fun (K_44 : MS → Option (MS)) => ∀ (u_43 : MS), ∀ (H : Heap) (locs : List Loc), zW D clM (tyM k) nwM (mW a k) A st u_43 H → va_S A st.heap H locs → ∀ (ls : Array Slot), lv_has ls 6 [(0, .ref (a 0)), (3, .int x_37)] → some F = K_44 u_43 → W p l e rm_MMo_octets st m args below meth c H locs 0 0 Q (F0 m 91 ls [])) ?_ ?_
        · intro u_43 H locs hw hS ls hl hf
          obtain ⟨x_45, ex_45⟩ : ∃ y : Int32, y = x_37 + (-1 : Int32) := ⟨_, rfl⟩
          have hf := hf.trans (nm_eq ex_45)
          refine lv_iinc (v := x_45) (lv' := [(3, .int x_45), (0, .ref (a 0))]) hx hb d_MMo_octets_91 hl (k := 1) rfl (by rw [ex_45]; rfl) (by decide) rfl (fun ls hl => ?_)
          refine lv_goto (tgt := 28) hx hb d_MMo_octets_94 (by decide) ?_
          exact hL_39 x_45 u_43 _ _ hw hS _ (lv_sub hl [1, 0] rfl) hf
        · intro K_44 hK_44 hf
          refine lv_icmp_eq (tgt := 91) hx hb d_MMo_octets_54 (by decide) (fun c_46 => ?_) (fun c_46 => ?_)
          · have hf := hf.trans (if_pos c_46)
            exact hK_44 u_38 _ _ hw hS _ (lv_sub hl [0, 1] rfl) hf
          · have hf := hf.trans (if_neg c_46)
            refine lv_aload_n hx hb d_MMo_octets_57 rfl (lv_at hl 0 rfl) ?_
            refine lv_aload_n hx hb d_MMo_octets_58 rfl (lv_at hl 0 rfl) ?_
            refine va_get (v := .ref (a 1)) hx hb hts iM_Mo hown hw.2.1 hw.1 0 rfl rfl 0 (by decide) (hts _ kM_Mo_7) (fun _ h => h) rfl d_MMo_octets_59 ?_
            refine lv_aload_n hx hb d_MMo_octets_62 rfl (lv_at hl 0 rfl) ?_
            refine va_get (v := .int (mF u_38 11)) hx hb hts iM_Mo hown hw.2.1 hw.1 0 rfl rfl 19 (by decide) (hts _ kM_Mo_149) (fun _ h => h) rfl d_MMo_octets_63 ?_
            refine lv_iload_n hx hb d_MMo_octets_66 rfl (lv_at hl 1 rfl) ?_
            refine lv_iadd hx hb d_MMo_octets_67 ?_
            obtain ⟨i_47, hf⟩ := ckI_inv hf
            refine va_iald hx hb hw.2.1 hw.1 1 0 rfl rfl i_47 d_MMo_octets_68 ?_
            refine lv_aload_n hx hb d_MMo_octets_69 rfl (lv_at hl 0 rfl) ?_
            refine va_get (v := .ref (a 1)) hx hb hts iM_Mo hown hw.2.1 hw.1 0 rfl rfl 0 (by decide) (hts _ kM_Mo_7) (fun _ h => h) rfl d_MMo_octets_70 ?_
            refine lv_aload_n hx hb d_MMo_octets_73 rfl (lv_at hl 0 rfl) ?_
            refine va_get (v := .int (mF u_38 12)) hx hb hts iM_Mo hown hw.2.1 hw.1 0 rfl rfl 20 (by decide) (hts _ kM_Mo_152) (fun _ h => h) rfl d_MMo_octets_74 ?_
            refine lv_iload_n hx hb d_MMo_octets_77 rfl (lv_at hl 1 rfl) ?_
            refine lv_iadd hx hb d_MMo_octets_78 ?_
            obtain ⟨i_48, hf⟩ := ckI_inv hf
            refine va_iald hx hb hw.2.1 hw.1 1 0 rfl rfl i_48 d_MMo_octets_79 ?_
            refine jn_cut hf (fun (K_50 : Int32 → Option (MS)) => ∀ (x_49 : Int32), ∀ (ls : Array Slot), lv_has ls 6 [(0, .ref (a 0)), (3, .int x_37)] → some F = K_50 x_49 → W p l e rm_MMo_octets st m args below meth c H locs 0 0 Q (F0 m 88 ls [.int x_49, .ref (a 0)])) ?_ ?_
            · intro x_49 ls hl hf
              refine z_put (u' := msF u_38 1 x_49) hx hb hts iM_Mo tM_Mo tM_Mo_ok nM_Mo hown hw hS 0 rfl rfl 9 (by decide) (hts _ kM_Mo_73) (fun _ h => h) rfl rfl (Nat.le_of_ble_eq_true rfl) rfl d_MMo_octets_88 (fun u_51 H locs eu_51 hw hS => ?_)
              have hf := hf.trans (nm_eq eu_51)
              exact hK_44 u_51 _ _ hw hS _ (lv_sub hl [0, 1] rfl) hf
            · intro K_50 hK_50 hf
              refine lv_icmp_ge (tgt := 87) hx hb d_MMo_octets_80 (by decide) (fun c_52 => ?_) (fun c_52 => ?_)
              · have hf := hf.trans (if_pos c_52)
                refine lv_iconst (v := (2 : Int32)) hx hb d_MMo_octets_87 (by decide) ?_
                exact hK_50 (2 : Int32) _ (lv_sub hl [0, 1] rfl) hf
              · have hf := hf.trans (if_neg c_52)
                refine lv_iconst (v := (1 : Int32)) hx hb d_MMo_octets_83 (by decide) ?_
                refine lv_goto (tgt := 88) hx hb d_MMo_octets_84 (by decide) ?_
                exact hK_50 (1 : Int32) _ (lv_sub hl [0, 1] rfl) hf
set_option maxHeartbeats 4000000 in
set_option maxRecDepth 100000 in
theorem c_MMo_signOf (l : Launch) (D : va_G) (a : Nat → Nat) (k : Nat → ClassId) (u0 : MS) (x0 : Int32) (F : Int32) (hf : f_MMo_signOf u0 x0 = some F) : zRi l y_MMo_signOf w_MMo_signOf rm_MMo_signOf D clM (tyM k) nwM (mW a k) [.int x0] u0 F := by
  have hf := hf.symm
  unfold f_MMo_signOf at hf
  refine zRi_of (cc := b_MMo_signOf) (maxL := 1) (own := RM_Mo) (by decide) rfl rfl (Nat.le_of_ble_eq_true rfl) ?_
  intro p e R st m args below meth c H locs Q ls hR hx hb hml hown hts hw hret hl
  subst hR
  have hcs : 0 ≤ (rm_MMo_signOf).cells ∧ 0 ≤ (rm_MMo_signOf).slots := ⟨Nat.zero_le _, Nat.zero_le _⟩
  have hl : lv_has ls 1 [(0, .int x0)] := hl
  refine lv_iload_n hx hb d_MMo_signOf_0 rfl (lv_at hl 0 rfl) ?_
  refine lv_if_ne (tgt := 8) hx hb d_MMo_signOf_1 (by decide) (fun c_1 => ?_) (fun c_1 => ?_)
  · have hf := hf.trans (if_neg c_1)
    refine lv_iload_n hx hb d_MMo_signOf_8 rfl (lv_at hl 0 rfl) ?_
    refine lv_if_ge (tgt := 16) hx hb d_MMo_signOf_9 (by decide) (fun c_2 => ?_) (fun c_2 => ?_)
    · have hf := hf.trans (if_pos c_2)
      refine lv_iconst (v := (2 : Int32)) hx hb d_MMo_signOf_16 (by decide) ?_
      exact hret (2 : Int32) _ _ d_MMo_signOf_17 (Option.some.inj hf)
    · have hf := hf.trans (if_neg c_2)
      refine lv_iconst (v := (1 : Int32)) hx hb d_MMo_signOf_12 (by decide) ?_
      refine lv_goto (tgt := 17) hx hb d_MMo_signOf_13 (by decide) ?_
      exact hret (1 : Int32) _ _ d_MMo_signOf_17 (Option.some.inj hf)
  · have hf := hf.trans (if_pos c_1)
    refine lv_iconst (v := (0 : Int32)) hx hb d_MMo_signOf_4 (by decide) ?_
    refine lv_goto (tgt := 17) hx hb d_MMo_signOf_5 (by decide) ?_
    exact hret (0 : Int32) _ _ d_MMo_signOf_17 (Option.some.inj hf)
set_option maxHeartbeats 4000000 in
set_option maxRecDepth 100000 in
theorem c_MMo_exact (l : Launch) (D : va_G) (a : Nat → Nat) (k : Nat → ClassId) (u0 : MS) (x1 : Int32) (y2 : Int64) (F : MS) (hf : f_MMo_exact u0 x1 y2 = some F) : zMv l y_MMo_exact w_MMo_exact rm_MMo_exact D clM (tyM k) nwM (mW a k) [.ref (a 0), .int x1, .long y2] u0 F := by
  have hf := hf.symm
  unfold f_MMo_exact at hf
  refine zMv_of (cc := b_MMo_exact) (maxL := 5) (own := RM_Mo) (by decide) rfl rfl (Nat.le_of_ble_eq_true rfl) ?_
  intro p e R st m args below meth c A H locs Q ls hR hx hb hml hown hts hw hS hret hl
  subst hR
  have hcs : 0 ≤ (rm_MMo_exact).cells ∧ 0 ≤ (rm_MMo_exact).slots := ⟨Nat.zero_le _, Nat.zero_le _⟩
  have hl : lv_has ls 5 [(0, .ref (a 0)), (1, .int x1), (2, .long y2)] := hl
  refine lv_aload_n hx hb d_MMo_exact_0 rfl (lv_at hl 0 rfl) ?_
  refine va_get (v := .ref (a 2)) hx hb hts iM_Mo hown hw.2.1 hw.1 0 rfl rfl 1 (by decide) (hts _ kM_Mo_13) (fun _ h => h) rfl d_MMo_exact_1 ?_
  refine lv_iload_n hx hb d_MMo_exact_4 rfl (lv_at hl 1 rfl) ?_
  refine lv_lload_n hx hb d_MMo_exact_5 rfl (lv_at hl 2 rfl) ?_
  refine lv_l2i (v := Int64.toInt32 y2) hx hb d_MMo_exact_6 rfl ?_
  obtain ⟨i_2, hf⟩ := ckI_inv hf
  refine z_iast (u' := msA u0 2 (Int32.toNatClampNeg x1) (Int64.toInt32 y2)) hx hb hw hS 2 1 rfl rfl i_2 rfl d_MMo_exact_7 (fun u_1 H locs eu_1 hw hS => ?_)
  have hf := hf.trans (nm_eq eu_1)
  refine lv_lload_n hx hb d_MMo_exact_8 rfl (lv_at hl 2 rfl) ?_
  refine lv_lload_n hx hb d_MMo_exact_9 rfl (lv_at hl 2 rfl) ?_
  refine lv_l2i (v := Int64.toInt32 y2) hx hb d_MMo_exact_10 rfl ?_
  refine lv_i2l (v := Int32.toInt64 (Int64.toInt32 y2)) hx hb d_MMo_exact_11 rfl ?_
  refine jn_cut hf (fun (K_4 : Bool → Option (MS)) => ∀ (z_3 : Bool), ∀ (ls : Array Slot), lv_has ls 5 [(0, .ref (a 0)), (2, .long y2)] → some F = K_4 z_3 → W p l e rm_MMo_exact st m args below meth c H locs 0 0 Q (F0 m 21 ls [.int (bI z_3)])) ?_ ?_
  · intro z_3 ls hl hf
    refine lv_istore (lv' := [(4, .int (bI z_3)), (0, .ref (a 0)), (2, .long y2)]) hx hb d_MMo_exact_21 hl (by decide) rfl (fun ls hl => ?_)
    refine lv_aload_n hx hb d_MMo_exact_23 rfl (lv_at hl 1 rfl) ?_
    refine lv_iload hx hb d_MMo_exact_24 (lv_at hl 0 rfl) ?_
    refine jn_cut hf (fun (K_6 : Int32 → Option (MS)) => ∀ (x_5 : Int32), ∀ (ls : Array Slot), lv_has ls 5 [(0, .ref (a 0)), (4, .int (bI z_3))] → some F = K_6 x_5 → W p l e rm_MMo_exact st m args below meth c H locs 0 0 Q (F0 m 38 ls [.int x_5, .ref (a 0)])) ?_ ?_
    · intro x_5 ls hl hf
      refine z_put (u' := msF u_1 1 x_5) hx hb hts iM_Mo tM_Mo tM_Mo_ok nM_Mo hown hw hS 0 rfl rfl 9 (by decide) (hts _ kM_Mo_73) (fun _ h => h) rfl rfl (Nat.le_of_ble_eq_true rfl) rfl d_MMo_exact_38 (fun u_7 H locs eu_7 hw hS => ?_)
      have hf := hf.trans (nm_eq eu_7)
      refine lv_iload hx hb d_MMo_exact_41 (lv_at hl 1 rfl) ?_
      refine lv_if_eq (tgt := 61) hx hb d_MMo_exact_43 (by decide) (fun c_8 => ?_) (fun c_8 => ?_)
      · have hf := hf.trans (if_pos c_8)
        exact hret _ _ _ _ _ d_MMo_exact_61 hw hS (Option.some.inj hf)
      · have hf := hf.trans (if_neg c_8)
        refine lv_aload_n hx hb d_MMo_exact_46 rfl (lv_at hl 0 rfl) ?_
        refine va_get (v := .int (mF u_7 3)) hx hb hts iM_Mo hown hw.2.1 hw.1 0 rfl rfl 11 (by decide) (hts _ kM_Mo_70) (fun _ h => h) rfl d_MMo_exact_47 ?_
        refine lv_iconst (v := (1 : Int32)) hx hb d_MMo_exact_50 (by decide) ?_
        refine lv_iand hx hb d_MMo_exact_51 ?_
        refine lv_if_le (tgt := 61) hx hb d_MMo_exact_52 (by decide) (fun c_9 => ?_) (fun c_9 => ?_)
        · have hf := hf.trans (if_pos c_9)
          exact hret _ _ _ _ _ d_MMo_exact_61 hw hS (Option.some.inj hf)
        · have hf := hf.trans (if_neg c_9)
          refine lv_aload_n hx hb d_MMo_exact_55 rfl (lv_at hl 0 rfl) ?_
          refine lv_bipush (v := (8 : Int32)) hx hb d_MMo_exact_56 (by decide) ?_
          refine z_put (u' := msF u_7 13 (8 : Int32)) hx hb hts iM_Mo tM_Mo tM_Mo_ok nM_Mo hown hw hS 0 rfl rfl 21 (by decide) (hts _ kM_Mo_86) (fun _ h => h) rfl rfl (Nat.le_of_ble_eq_true rfl) rfl d_MMo_exact_58 (fun u_10 H locs eu_10 hw hS => ?_)
          have hf := hf.trans (nm_eq eu_10)
          exact hret _ _ _ _ _ d_MMo_exact_61 hw hS (Option.some.inj hf)
    · intro K_6 hK_6 hf
      refine lv_if_eq (tgt := 33) hx hb d_MMo_exact_26 (by decide) (fun c_11 => ?_) (fun c_11 => ?_)
      · have hf := hf.trans (if_pos c_11)
        refine lv_lload_n hx hb d_MMo_exact_33 rfl (lv_at hl 2 rfl) ?_
        refine lv_l2i (v := Int64.toInt32 y2) hx hb d_MMo_exact_34 rfl ?_
        obtain ⟨x_12, ex_12, hf⟩ := bd1_inv hf
        refine z_rV (V := .int x_12) (z_runS (As := [.int (Int64.toInt32 y2)]) (rest := [.ref (a 0)]) ⟨hx, hb, hml, hown, hts⟩ (c_MMo_signOf l D a k u_1 (Int64.toInt32 y2) x_12 ex_12) (qM_Mo_232 hts (by decide)) hw  hl.1 rfl (lv_room (Nat.le_of_ble_eq_true rfl)) d_MMo_exact_35 hcs) ?_
        exact hK_6 x_12 _ (lv_sub hl [1, 0] rfl) hf
      · have hf := hf.trans (if_neg c_11)
        refine lv_iconst (v := (3 : Int32)) hx hb d_MMo_exact_29 (by decide) ?_
        refine lv_goto (tgt := 38) hx hb d_MMo_exact_30 (by decide) ?_
        exact hK_6 (3 : Int32) _ (lv_sub hl [1, 0] rfl) hf
  · intro K_4 hK_4 hf
    refine z_lcmp_eq (tgt := 20) hx hb d_MMo_exact_12 d_MMo_exact_13 (by decide) (fun c_13 => ?_) (fun c_13 => ?_)
    · have hf := hf.trans (if_pos c_13)
      refine lv_iconst (v := (0 : Int32)) hx hb d_MMo_exact_20 (by decide) ?_
      exact hK_4 false _ (lv_sub hl [0, 2] rfl) hf
    · have hf := hf.trans (if_neg c_13)
      refine lv_iconst (v := (1 : Int32)) hx hb d_MMo_exact_16 (by decide) ?_
      refine lv_goto (tgt := 21) hx hb d_MMo_exact_17 (by decide) ?_
      exact hK_4 true _ (lv_sub hl [0, 2] rfl) hf
set_option maxHeartbeats 4000000 in
set_option maxRecDepth 100000 in
theorem c_MMo_plain (l : Launch) (D : va_G) (a : Nat → Nat) (k : Nat → ClassId) (u0 : MS) (x1 : Int32) (y2 : Int64) (F : MS) (hf : f_MMo_plain u0 x1 y2 = some F) : zMv l y_MMo_plain w_MMo_plain rm_MMo_plain D clM (tyM k) nwM (mW a k) [.ref (a 0), .int x1, .long y2] u0 F := by
  have hf := hf.symm
  unfold f_MMo_plain at hf
  refine zMv_of (cc := b_MMo_plain) (maxL := 4) (own := RM_Mo) (by decide) rfl rfl (Nat.le_of_ble_eq_true rfl) ?_
  intro p e R st m args below meth c A H locs Q ls hR hx hb hml hown hts hw hS hret hl
  subst hR
  have hcs : 0 ≤ (rm_MMo_plain).cells ∧ 0 ≤ (rm_MMo_plain).slots := ⟨Nat.zero_le _, Nat.zero_le _⟩
  have hl : lv_has ls 4 [(0, .ref (a 0)), (1, .int x1), (2, .long y2)] := hl
  refine lv_aload_n hx hb d_MMo_plain_0 rfl (lv_at hl 0 rfl) ?_
  refine va_get (v := .ref (a 2)) hx hb hts iM_Mo hown hw.2.1 hw.1 0 rfl rfl 1 (by decide) (hts _ kM_Mo_13) (fun _ h => h) rfl d_MMo_plain_1 ?_
  refine lv_iload_n hx hb d_MMo_plain_4 rfl (lv_at hl 1 rfl) ?_
  refine lv_lload_n hx hb d_MMo_plain_5 rfl (lv_at hl 2 rfl) ?_
  refine lv_l2i (v := Int64.toInt32 y2) hx hb d_MMo_plain_6 rfl ?_
  obtain ⟨i_2, hf⟩ := ckI_inv hf
  refine z_iast (u' := msA u0 2 (Int32.toNatClampNeg x1) (Int64.toInt32 y2)) hx hb hw hS 2 1 rfl rfl i_2 rfl d_MMo_plain_7 (fun u_1 H locs eu_1 hw hS => ?_)
  have hf := hf.trans (nm_eq eu_1)
  refine lv_aload_n hx hb d_MMo_plain_8 rfl (lv_at hl 0 rfl) ?_
  refine lv_lload_n hx hb d_MMo_plain_9 rfl (lv_at hl 2 rfl) ?_
  refine lv_l2i (v := Int64.toInt32 y2) hx hb d_MMo_plain_10 rfl ?_
  refine jn_cut hf (fun (K_4 : Bool → Option (MS)) => ∀ (z_3 : Bool), ∀ (ls : Array Slot), lv_has ls 4 [(2, .long y2)] → some F = K_4 z_3 → W p l e rm_MMo_plain st m args below meth c H locs 0 0 Q (F0 m 19 ls [.int (bI z_3), .ref (a 0)])) ?_ ?_
  · intro z_3 ls hl hf
    refine lv_lload_n hx hb d_MMo_plain_19 rfl (lv_at hl 0 rfl) ?_
    refine lv_bipush (v := (32 : Int32)) hx hb d_MMo_plain_20 (by decide) ?_
    refine lv_lushr (v := (Int64.toUInt64 y2 >>> ((Int32.toInt64 (32 : Int32)).toUInt64 &&& Int64.toUInt64 63)).toInt64) hx hb d_MMo_plain_22 rfl ?_
    refine lv_lconst (v := 0) hx hb d_MMo_plain_23 (by decide) ?_
    refine z_lcmp_le (tgt := 32) hx hb d_MMo_plain_24 d_MMo_plain_25 (by decide) (fun c_5 => ?_) (fun c_5 => ?_)
    · have hf := hf.trans (if_pos c_5)
      refine lv_iconst (v := (0 : Int32)) hx hb d_MMo_plain_32 (by decide) ?_
      refine lv_iadd hx hb d_MMo_plain_33 ?_
      refine z_put (u' := msF u_1 1 ((bI z_3) + (0 : Int32))) hx hb hts iM_Mo tM_Mo tM_Mo_ok nM_Mo hown hw hS 0 rfl rfl 9 (by decide) (hts _ kM_Mo_73) (fun _ h => h) rfl rfl (Nat.le_of_ble_eq_true rfl) rfl d_MMo_plain_34 (fun u_6 H locs eu_6 hw hS => ?_)
      have hf := hf.trans (nm_eq eu_6)
      exact hret _ _ _ _ _ d_MMo_plain_37 hw hS (Option.some.inj hf)
    · have hf := hf.trans (if_neg c_5)
      refine lv_iconst (v := (2 : Int32)) hx hb d_MMo_plain_28 (by decide) ?_
      refine lv_goto (tgt := 33) hx hb d_MMo_plain_29 (by decide) ?_
      refine lv_iadd hx hb d_MMo_plain_33 ?_
      refine z_put (u' := msF u_1 1 ((bI z_3) + (2 : Int32))) hx hb hts iM_Mo tM_Mo tM_Mo_ok nM_Mo hown hw hS 0 rfl rfl 9 (by decide) (hts _ kM_Mo_73) (fun _ h => h) rfl rfl (Nat.le_of_ble_eq_true rfl) rfl d_MMo_plain_34 (fun u_7 H locs eu_7 hw hS => ?_)
      have hf := hf.trans (nm_eq eu_7)
      exact hret _ _ _ _ _ d_MMo_plain_37 hw hS (Option.some.inj hf)
  · intro K_4 hK_4 hf
    refine lv_if_ne (tgt := 18) hx hb d_MMo_plain_11 (by decide) (fun c_8 => ?_) (fun c_8 => ?_)
    · have hf := hf.trans (if_neg c_8)
      refine lv_iconst (v := (1 : Int32)) hx hb d_MMo_plain_18 (by decide) ?_
      exact hK_4 true _ (lv_sub hl [2] rfl) hf
    · have hf := hf.trans (if_pos c_8)
      refine lv_iconst (v := (0 : Int32)) hx hb d_MMo_plain_14 (by decide) ?_
      refine lv_goto (tgt := 19) hx hb d_MMo_plain_15 (by decide) ?_
      exact hK_4 false _ (lv_sub hl [2] rfl) hf
set_option maxHeartbeats 4000000 in
set_option maxRecDepth 100000 in
theorem c_MMo_bare (l : Launch) (D : va_G) (a : Nat → Nat) (k : Nat → ClassId) (u0 : MS) (x0 : Int32) (F : Int64) (hf : f_MMo_bare u0 x0 = some F) : zRl l y_MMo_bare w_MMo_bare rm_MMo_bare D clM (tyM k) nwM (mW a k) [.int x0] u0 F := by
  have hf := hf.symm
  unfold f_MMo_bare at hf
  refine zRl_of (cc := b_MMo_bare) (maxL := 1) (own := RM_Mo) (by decide) rfl rfl (Nat.le_of_ble_eq_true rfl) ?_
  intro p e R st m args below meth c H locs Q ls hR hx hb hml hown hts hw hret hl
  subst hR
  have hcs : 0 ≤ (rm_MMo_bare).cells ∧ 0 ≤ (rm_MMo_bare).slots := ⟨Nat.zero_le _, Nat.zero_le _⟩
  have hl : lv_has ls 1 [(0, .int x0)] := hl
  refine lv_iload_n hx hb d_MMo_bare_0 rfl (lv_at hl 0 rfl) ?_
  refine lv_i2l (v := Int32.toInt64 x0) hx hb d_MMo_bare_1 rfl ?_
  refine lv_ldc2 (v := (4294967295 : Int64)) hx hb hown (hts _ kM_Mo_197) d_MMo_bare_2 ?_
  refine lv_land hx hb d_MMo_bare_5 ?_
  exact hret ((Int32.toInt64 x0) &&& (4294967295 : Int64)) _ _ d_MMo_bare_6 (Option.some.inj hf)
set_option maxHeartbeats 4000000 in
set_option maxRecDepth 100000 in
theorem c_MMo_order (l : Launch) (D : va_G) (a : Nat → Nat) (k : Nat → ClassId) (u0 : MS) (y0 : Int64) (y2 : Int64) (F : Int32) (hf : f_MMo_order u0 y0 y2 = some F) : zRi l y_MMo_order w_MMo_order rm_MMo_order D clM (tyM k) nwM (mW a k) [.long y0, .long y2] u0 F := by
  have hf := hf.symm
  unfold f_MMo_order at hf
  refine zRi_of (cc := b_MMo_order) (maxL := 4) (own := RM_Mo) (by decide) rfl rfl (Nat.le_of_ble_eq_true rfl) ?_
  intro p e R st m args below meth c H locs Q ls hR hx hb hml hown hts hw hret hl
  subst hR
  have hcs : 0 ≤ (rm_MMo_order).cells ∧ 0 ≤ (rm_MMo_order).slots := ⟨Nat.zero_le _, Nat.zero_le _⟩
  have hl : lv_has ls 4 [(0, .long y0), (2, .long y2)] := hl
  refine lv_lload_n hx hb d_MMo_order_0 rfl (lv_at hl 0 rfl) ?_
  refine lv_lload_n hx hb d_MMo_order_1 rfl (lv_at hl 1 rfl) ?_
  refine z_lcmp_ne (tgt := 10) hx hb d_MMo_order_2 d_MMo_order_3 (by decide) (fun c_1 => ?_) (fun c_1 => ?_)
  · have hf := hf.trans (if_neg c_1)
    refine lv_lload_n hx hb d_MMo_order_10 rfl (lv_at hl 0 rfl) ?_
    refine lv_lload_n hx hb d_MMo_order_11 rfl (lv_at hl 1 rfl) ?_
    refine z_lcmp_ge (tgt := 20) hx hb d_MMo_order_12 d_MMo_order_13 (by decide) (fun c_2 => ?_) (fun c_2 => ?_)
    · have hf := hf.trans (if_pos c_2)
      refine lv_iconst (v := (2 : Int32)) hx hb d_MMo_order_20 (by decide) ?_
      exact hret (2 : Int32) _ _ d_MMo_order_21 (Option.some.inj hf)
    · have hf := hf.trans (if_neg c_2)
      refine lv_iconst (v := (1 : Int32)) hx hb d_MMo_order_16 (by decide) ?_
      refine lv_goto (tgt := 21) hx hb d_MMo_order_17 (by decide) ?_
      exact hret (1 : Int32) _ _ d_MMo_order_21 (Option.some.inj hf)
  · have hf := hf.trans (if_pos c_1)
    refine lv_iconst (v := (0 : Int32)) hx hb d_MMo_order_6 (by decide) ?_
    refine lv_goto (tgt := 21) hx hb d_MMo_order_7 (by decide) ?_
    exact hret (0 : Int32) _ _ d_MMo_order_21 (Option.some.inj hf)
