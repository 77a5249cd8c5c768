set_option maxHeartbeats 4000000 in
set_option maxRecDepth 100000 in
theorem c_MMo_looksAtDigits (l : Launch) (D : va_G) (a : Nat → Nat) (k : Nat → ClassId) (u0 : MS) (x1 : Int32) (x2 : Int32) (F : MS) (hf : f_MMo_looksAtDigits u0 x1 x2 = some F) : zMv l y_MMo_looksAtDigits w_MMo_looksAtDigits rm_MMo_looksAtDigits D clM (tyM k) nwM (mW a k) [.ref (a 0), .int x1, .int x2] u0 F := by
  have hf := hf.symm
  unfold f_MMo_looksAtDigits at hf
  refine zMv_of (cc := b_MMo_looksAtDigits) (maxL := 6) (own := RM_Mo) (by decide) rfl rfl (Nat.le_of_ble_eq_true rfl) ?_
  intro p e R st m args below meth c A H locs Q ls hR hx hb hml hown hts hw hS hret hl
  subst hR
  have hcs : 0 ≤ (rm_MMo_looksAtDigits).cells ∧ 0 ≤ (rm_MMo_looksAtDigits).slots := ⟨Nat.zero_le _, Nat.zero_le _⟩
  have hl : lv_has ls 6 [(0, .ref (a 0)), (1, .int x1), (2, .int x2)] := hl
  refine lv_aload_n hx hb d_MMo_looksAtDigits_0 rfl (lv_at hl 0 rfl) ?_
  refine va_get (v := .int (mF u0 8)) hx hb hts iM_Mo hown hw.2.1 hw.1 0 rfl rfl 16 (by decide) (hts _ kM_Mo_132) (fun _ h => h) rfl d_MMo_looksAtDigits_1 ?_
  refine lv_sipush (v := (248 : Int32)) hx hb d_MMo_looksAtDigits_4 (by decide) ?_
  refine jn_cut hf (fun (K_3 : Bool → MS → Option (MS)) => ∀ (z_1 : Bool) (u_2 : MS), ∀ (H : Heap) (locs : List Loc), zW D clM (tyM k) nwM (mW a k) A st u_2 H → va_S A st.heap H locs → ∀ (ls : Array Slot), lv_has ls 6 [(0, .ref (a 0)), (1, .int x1), (2, .int x2)] → some F = K_3 z_1 u_2 → W p l e rm_MMo_looksAtDigits st m args below meth c H locs 0 0 Q (F0 m 31 ls [.int (bI z_1)])) ?_ ?_
  · intro z_1 u_2 H locs hw hS ls hl hf
    refine lv_istore_n (lv' := [(3, .int (bI z_1)), (0, .ref (a 0)), (1, .int x1), (2, .int x2)]) hx hb d_MMo_looksAtDigits_31 rfl hl (by decide) rfl (fun ls hl => ?_)
    refine lv_aload_n hx hb d_MMo_looksAtDigits_32 rfl (lv_at hl 1 rfl) ?_
    refine lv_aload_n hx hb d_MMo_looksAtDigits_33 rfl (lv_at hl 1 rfl) ?_
    refine va_get (v := .int (mF u_2 12)) hx hb hts iM_Mo hown hw.2.1 hw.1 0 rfl rfl 20 (by decide) (hts _ kM_Mo_152) (fun _ h => h) rfl d_MMo_looksAtDigits_34 ?_
    refine lv_iload_n hx hb d_MMo_looksAtDigits_37 rfl (lv_at hl 3 rfl) ?_
    refine lv_aload_n hx hb d_MMo_looksAtDigits_38 rfl (lv_at hl 1 rfl) ?_
    refine va_get (v := .ref (a 5)) hx hb hts iM_Mo hown hw.2.1 hw.1 0 rfl rfl 4 (by decide) (hts _ kM_Mo_22) (fun _ h => h) rfl d_MMo_looksAtDigits_39 ?_
    obtain ⟨z_5, u_4, ez_5, hf⟩ := bd2_inv hf
    refine z_wz' (r := z_5) (u' := u_4) (z_runV (As := [.int (mF u_2 12), .int x2, .ref (a 5)]) (rest := []) ⟨hx, hb, hml, hown, hts⟩ (c_MMo_packs_5 l D a k u_2 (mF u_2 12) x2 (z_5, u_4) ez_5) (qM_Mo_182 hts (by decide)) hw 0 rfl rfl hl.1 rfl (lv_room (Nat.le_of_ble_eq_true rfl)) d_MMo_looksAtDigits_42 hcs) hw hS (fun H locs hw hS => ?_)
    refine lv_istore (lv' := [(4, .int (bI z_5)), (3, .int (bI z_1)), (0, .ref (a 0)), (1, .int x1), (2, .int x2)]) hx hb d_MMo_looksAtDigits_45 hl (by decide) rfl (fun ls hl => ?_)
    refine lv_aload_n hx hb d_MMo_looksAtDigits_47 rfl (lv_at hl 2 rfl) ?_
    refine lv_iload_n hx hb d_MMo_looksAtDigits_48 rfl (lv_at hl 1 rfl) ?_
    refine jn_cut hf (fun (K_7 : Bool → Option (MS)) => ∀ (z_6 : Bool), ∀ (ls : Array Slot), lv_has ls 6 [(0, .ref (a 0)), (1, .int x1), (2, .int x2)] → some F = K_7 z_6 → W p l e rm_MMo_looksAtDigits st m args below meth c H locs 0 0 Q (F0 m 62 ls [.int (bI z_6), .ref (a 0)])) ?_ ?_
    · intro z_6 ls hl hf
      refine lv_bipush (v := (7 : Int32)) hx hb d_MMo_looksAtDigits_62 (by decide) ?_
      obtain ⟨u_8, eu_8, hf⟩ := bd1_inv hf
      refine z_wv' (u' := u_8) (z_runV (As := [.int (bI z_6), .int (7 : Int32)]) (rest := []) ⟨hx, hb, hml, hown, hts⟩ (c_MMo_wrong l D a k u_4 z_6 (7 : Int32) u_8 eu_8) (qM_Mo_128 hts (by decide)) hw 0 rfl rfl hl.1 rfl (lv_room (Nat.le_of_ble_eq_true rfl)) d_MMo_looksAtDigits_64 hcs) hw hS (fun H locs hw hS => ?_)
      refine lv_iconst (v := (0 : Int32)) hx hb d_MMo_looksAtDigits_67 (by decide) ?_
      refine lv_istore (lv' := [(5, .int (0 : Int32)), (0, .ref (a 0)), (1, .int x1), (2, .int x2)]) hx hb d_MMo_looksAtDigits_68 hl (by decide) rfl (fun ls hl => ?_)
      refine jn_cut hf (fun (K_10 : MS → Option (MS)) => ∀ (u_9 : MS), ∀ (H : Heap) (locs : List Loc), zW D clM (tyM k) nwM (mW a k) A st u_9 H → va_S A st.heap H locs → ∀ (ls : Array Slot), lv_has ls 6 [(0, .ref (a 0)), (1, .int x1), (2, .int x2)] → some F = K_10 u_9 → W p l e rm_MMo_looksAtDigits st m args below meth c H locs 0 0 Q (F0 m 118 ls [])) ?_ ?_
      · intro u_9 H locs hw hS ls hl hf
        refine lv_aload_n hx hb d_MMo_looksAtDigits_118 rfl (lv_at hl 0 rfl) ?_
        refine va_get (v := .int (mF u_9 8)) hx hb hts iM_Mo hown hw.2.1 hw.1 0 rfl rfl 16 (by decide) (hts _ kM_Mo_132) (fun _ h => h) rfl d_MMo_looksAtDigits_119 ?_
        refine lv_sipush (v := (253 : Int32)) hx hb d_MMo_looksAtDigits_122 (by decide) ?_
        refine lv_icmp_ne (tgt := 170) hx hb d_MMo_looksAtDigits_125 (by decide) (fun c_11 => ?_) (fun c_11 => ?_)
        · have hf := hf.trans (if_neg c_11)
          exact hret _ _ _ _ _ d_MMo_looksAtDigits_170 hw hS (Option.some.inj hf)
        · have hf := hf.trans (if_pos c_11)
          refine lv_aload_n hx hb d_MMo_looksAtDigits_128 rfl (lv_at hl 0 rfl) ?_
          refine va_get (v := .int (mF u_9 13)) hx hb hts iM_Mo hown hw.2.1 hw.1 0 rfl rfl 21 (by decide) (hts _ kM_Mo_86) (fun _ h => h) rfl d_MMo_looksAtDigits_129 ?_
          refine lv_if_ne (tgt := 170) hx hb d_MMo_looksAtDigits_132 (by decide) (fun c_12 => ?_) (fun c_12 => ?_)
          · have hf := hf.trans (if_neg c_12)
            exact hret _ _ _ _ _ d_MMo_looksAtDigits_170 hw hS (Option.some.inj hf)
          · have hf := hf.trans (if_pos c_12)
            refine lv_aload_n hx hb d_MMo_looksAtDigits_135 rfl (lv_at hl 0 rfl) ?_
            refine lv_aload_n hx hb d_MMo_looksAtDigits_136 rfl (lv_at hl 0 rfl) ?_
            refine va_get (v := .ref (a 5)) hx hb hts iM_Mo hown hw.2.1 hw.1 0 rfl rfl 4 (by decide) (hts _ kM_Mo_22) (fun _ h => h) rfl d_MMo_looksAtDigits_137 ?_
            obtain ⟨z_13, ez_13, hf⟩ := bd1_inv hf
            refine z_rV (V := .int (bI z_13)) (z_runS (As := [.ref (a 5)]) (rest := [.ref (a 0)]) ⟨hx, hb, hml, hown, hts⟩ (c_MMo_isZero_5 l D a k u_9 z_13 ez_13) (qM_Mo_199 hts (by decide)) hw  hl.1 rfl (lv_room (Nat.le_of_ble_eq_true rfl)) d_MMo_looksAtDigits_140 hcs) ?_
            refine lv_if_ne (tgt := 160) hx hb d_MMo_looksAtDigits_143 (by decide) (fun c_14 => ?_) (fun c_14 => ?_)
            · have hf := hf.trans (if_neg c_14)
              refine lv_iconst (v := (1 : Int32)) hx hb d_MMo_looksAtDigits_160 (by decide) ?_
              refine lv_goto (tgt := 165) hx hb d_MMo_looksAtDigits_161 (by decide) ?_
              refine lv_bipush (v := (11 : Int32)) hx hb d_MMo_looksAtDigits_165 (by decide) ?_
              obtain ⟨u_15, eu_15, hf⟩ := bd1_inv hf
              refine z_wv' (u' := u_15) (z_runV (As := [.int (1 : Int32), .int (11 : Int32)]) (rest := []) ⟨hx, hb, hml, hown, hts⟩ (c_MMo_wrong l D a k u_9 true (11 : Int32) u_15 eu_15) (qM_Mo_128 hts (by decide)) hw 0 rfl rfl hl.1 rfl (lv_room (Nat.le_of_ble_eq_true rfl)) d_MMo_looksAtDigits_167 hcs) hw hS (fun H locs hw hS => ?_)
              exact hret _ _ _ _ _ d_MMo_looksAtDigits_170 hw hS (Option.some.inj hf)
            · have hf := hf.trans (if_pos c_14)
              refine lv_aload_n hx hb d_MMo_looksAtDigits_146 rfl (lv_at hl 0 rfl) ?_
              refine lv_iconst (v := (2 : Int32)) hx hb d_MMo_looksAtDigits_147 (by decide) ?_
              refine lv_iload_n hx hb d_MMo_looksAtDigits_148 rfl (lv_at hl 1 rfl) ?_
              refine lv_iload_n hx hb d_MMo_looksAtDigits_149 rfl (lv_at hl 2 rfl) ?_
              refine lv_isub hx hb d_MMo_looksAtDigits_150 ?_
              refine lv_imul hx hb d_MMo_looksAtDigits_151 ?_
              refine lv_iconst (v := (1 : Int32)) hx hb d_MMo_looksAtDigits_152 (by decide) ?_
              refine lv_isub hx hb d_MMo_looksAtDigits_153 ?_
              obtain ⟨z_17, u_16, ez_17, hf⟩ := bd2_inv hf
              refine z_wz' (r := z_17) (u' := u_16) (z_runV (As := [.int (((2 : Int32) * (x1 - x2)) - (1 : Int32))]) (rest := [.ref (a 0)]) ⟨hx, hb, hml, hown, hts⟩ (c_MMo_quotient l D a k u_9 (((2 : Int32) * (x1 - x2)) - (1 : Int32)) (z_17, u_16) ez_17) (qM_Mo_203 hts (by decide)) hw 0 rfl rfl hl.1 rfl (lv_room (Nat.le_of_ble_eq_true rfl)) d_MMo_looksAtDigits_154 hcs) hw hS (fun H locs hw hS => ?_)
              refine lv_if_ne (tgt := 164) hx hb d_MMo_looksAtDigits_157 (by decide) (fun c_18 => ?_) (fun c_18 => ?_)
              · have hf := hf.trans (if_neg c_18)
                refine lv_iconst (v := (0 : Int32)) hx hb d_MMo_looksAtDigits_164 (by decide) ?_
                refine lv_bipush (v := (11 : Int32)) hx hb d_MMo_looksAtDigits_165 (by decide) ?_
                obtain ⟨u_19, eu_19, hf⟩ := bd1_inv hf
                refine z_wv' (u' := u_19) (z_runV (As := [.int (0 : Int32), .int (11 : Int32)]) (rest := []) ⟨hx, hb, hml, hown, hts⟩ (c_MMo_wrong l D a k u_16 false (11 : Int32) u_19 eu_19) (qM_Mo_128 hts (by decide)) hw 0 rfl rfl hl.1 rfl (lv_room (Nat.le_of_ble_eq_true rfl)) d_MMo_looksAtDigits_167 hcs) hw hS (fun H locs hw hS => ?_)
                exact hret _ _ _ _ _ d_MMo_looksAtDigits_170 hw hS (Option.some.inj hf)
              · have hf := hf.trans (if_pos c_18)
                refine lv_iconst (v := (1 : Int32)) hx hb d_MMo_looksAtDigits_160 (by decide) ?_
                refine lv_goto (tgt := 165) hx hb d_MMo_looksAtDigits_161 (by decide) ?_
                refine lv_bipush (v := (11 : Int32)) hx hb d_MMo_looksAtDigits_165 (by decide) ?_
                obtain ⟨u_20, eu_20, hf⟩ := bd1_inv hf
                refine z_wv' (u' := u_20) (z_runV (As := [.int (1 : Int32), .int (11 : Int32)]) (rest := []) ⟨hx, hb, hml, hown, hts⟩ (c_MMo_wrong l D a k u_16 true (11 : Int32) u_20 eu_20) (qM_Mo_128 hts (by decide)) hw 0 rfl rfl hl.1 rfl (lv_room (Nat.le_of_ble_eq_true rfl)) d_MMo_looksAtDigits_167 hcs) hw hS (fun H locs hw hS => ?_)
                exact hret _ _ _ _ _ d_MMo_looksAtDigits_170 hw hS (Option.some.inj hf)
      · intro K_10 hK_10 hf
        refine lp_cut (fun (_ : Nat) (L_23 : Int32 → MS → Option (MS)) => ∀ (x_21 : Int32) (u_22 : MS), ∀ (H : Heap) (locs : List Loc), zW D clM (tyM k) nwM (mW a k) A st u_22 H → va_S A st.heap H locs → ∀ (ls : Array Slot), lv_has ls 6 [(0, .ref (a 0)), (1, .int x1), (2, .int x2), (5, .int x_21)] → some F = L_23 x_21 u_22 → W p l e rm_MMo_looksAtDigits st m args below meth c H locs 0 0 Q (F0 m 70 ls [])) ?_ ?_ fuelM (0 : Int32) u_8 _ _ hw hS _ (lv_sub hl [1, 2, 3, 0] rfl) hf
        · intro _ _ _ _ _ _ _ _ hf; cases hf
        · intro _ L_23 hL_23 x_21 u_22 H locs hw hS ls hl hf
          unfold g_MMo_looksAtDigits_70 at hf
          refine lv_iload hx hb d_MMo_looksAtDigits_70 (lv_at hl 3 rfl) ?_
          refine lv_iload_n hx hb d_MMo_looksAtDigits_72 rfl (lv_at hl 2 rfl) ?_
          refine lv_icmp_ge (tgt := 118) hx hb d_MMo_looksAtDigits_73 (by decide) (fun c_24 => ?_) (fun c_24 => ?_)
          · have hf := hf.trans (if_pos c_24)
            exact hK_10 u_22 _ _ hw hS _ (lv_sub hl [0, 1, 2] rfl) hf
          · have hf := hf.trans (if_neg c_24)
            refine lv_aload_n hx hb d_MMo_looksAtDigits_76 rfl (lv_at hl 0 rfl) ?_
            refine va_get (v := .int (mF u_22 8)) hx hb hts iM_Mo hown hw.2.1 hw.1 0 rfl rfl 16 (by decide) (hts _ kM_Mo_132) (fun _ h => h) rfl d_MMo_looksAtDigits_77 ?_
            refine lv_sipush (v := (252 : Int32)) hx hb d_MMo_looksAtDigits_80 (by decide) ?_
            refine lv_icmp_ne (tgt := 118) hx hb d_MMo_looksAtDigits_83 (by decide) (fun c_25 => ?_) (fun c_25 => ?_)
            · have hf := hf.trans (if_neg c_25)
              exact hK_10 u_22 _ _ hw hS _ (lv_sub hl [0, 1, 2] rfl) hf
            · have hf := hf.trans (if_pos c_25)
              refine lv_aload_n hx hb d_MMo_looksAtDigits_86 rfl (lv_at hl 0 rfl) ?_
              refine lv_aload_n hx hb d_MMo_looksAtDigits_87 rfl (lv_at hl 0 rfl) ?_
              refine va_get (v := .ref (a 1)) hx hb hts iM_Mo hown hw.2.1 hw.1 0 rfl rfl 0 (by decide) (hts _ kM_Mo_7) (fun _ h => h) rfl d_MMo_looksAtDigits_88 ?_
              refine lv_aload_n hx hb d_MMo_looksAtDigits_91 rfl (lv_at hl 0 rfl) ?_
              refine va_get (v := .int (mF u_22 11)) hx hb hts iM_Mo hown hw.2.1 hw.1 0 rfl rfl 19 (by decide) (hts _ kM_Mo_149) (fun _ h => h) rfl d_MMo_looksAtDigits_92 ?_
              refine lv_iload hx hb d_MMo_looksAtDigits_95 (lv_at hl 3 rfl) ?_
              refine lv_iadd hx hb d_MMo_looksAtDigits_97 ?_
              obtain ⟨i_26, hf⟩ := ckI_inv hf
              refine va_iald hx hb hw.2.1 hw.1 1 0 rfl rfl i_26 d_MMo_looksAtDigits_98 ?_
              refine jn_cut hf (fun (K_28 : Bool → Option (MS)) => ∀ (z_27 : Bool), ∀ (ls : Array Slot), lv_has ls 6 [(0, .ref (a 0)), (1, .int x1), (2, .int x2), (5, .int x_21)] → some F = K_28 z_27 → W p l e rm_MMo_looksAtDigits st m args below meth c H locs 0 0 Q (F0 m 107 ls [.int (bI z_27), .ref (a 0)])) ?_ ?_
              · intro z_27 ls hl hf
                refine lv_bipush (v := (7 : Int32)) hx hb d_MMo_looksAtDigits_107 (by decide) ?_
                obtain ⟨u_29, eu_29, hf⟩ := bd1_inv hf
                refine z_wv' (u' := u_29) (z_runV (As := [.int (bI z_27), .int (7 : Int32)]) (rest := []) ⟨hx, hb, hml, hown, hts⟩ (c_MMo_wrong l D a k u_22 z_27 (7 : Int32) u_29 eu_29) (qM_Mo_128 hts (by decide)) hw 0 rfl rfl hl.1 rfl (lv_room (Nat.le_of_ble_eq_true rfl)) d_MMo_looksAtDigits_109 hcs) hw hS (fun H locs hw hS => ?_)
                obtain ⟨x_30, ex_30⟩ : ∃ y : Int32, y = x_21 + (1 : Int32) := ⟨_, rfl⟩
                have hf := hf.trans (nm_eq ex_30)
                refine lv_iinc (v := x_30) (lv' := [(5, .int x_30), (0, .ref (a 0)), (1, .int x1), (2, .int x2)]) hx hb d_MMo_looksAtDigits_112 hl (k := 3) rfl (by rw [ex_30]; rfl) (by decide) rfl (fun ls hl => ?_)
                refine lv_goto (tgt := 70) hx hb d_MMo_looksAtDigits_115 (by decide) ?_
                exact hL_23 x_30 u_29 _ _ hw hS _ (lv_sub hl [1, 2, 3, 0] rfl) hf
              · intro K_28 hK_28 hf
                refine lv_if_eq (tgt := 106) hx hb d_MMo_looksAtDigits_99 (by decide) (fun c_31 => ?_) (fun c_31 => ?_)
                · have hf := hf.trans (if_pos c_31)
                  refine lv_iconst (v := (0 : Int32)) hx hb d_MMo_looksAtDigits_106 (by decide) ?_
                  exact hK_28 false _ (lv_sub hl [0, 1, 2, 3] rfl) hf
                · have hf := hf.trans (if_neg c_31)
                  refine lv_iconst (v := (1 : Int32)) hx hb d_MMo_looksAtDigits_102 (by decide) ?_
                  refine lv_goto (tgt := 107) hx hb d_MMo_looksAtDigits_103 (by decide) ?_
                  exact hK_28 true _ (lv_sub hl [0, 1, 2, 3] rfl) hf
    · intro K_7 hK_7 hf
      refine jn_cut hf (fun (K_32 : Option (MS)) => ∀ (ls : Array Slot), lv_has ls 6 [(0, .ref (a 0)), (1, .int x1), (2, .int x2)] → some F = K_32 → W p l e rm_MMo_looksAtDigits st m args below meth c H locs 0 0 Q (F0 m 57 ls [.ref (a 0)])) ?_ ?_
      · intro ls hl hf
        refine lv_iconst (v := (1 : Int32)) hx hb d_MMo_looksAtDigits_57 (by decide) ?_
        refine lv_goto (tgt := 62) hx hb d_MMo_looksAtDigits_58 (by decide) ?_
        exact hK_7 true _ (lv_sub hl [0, 1, 2] rfl) hf
      · intro K_32 hK_32 hf
        refine lv_if_eq (tgt := 57) hx hb d_MMo_looksAtDigits_49 (by decide) (fun c_33 => ?_) (fun c_33 => ?_)
        · have hf := hf.trans (if_pos c_33)
          exact hK_32 _ (lv_sub hl [2, 3, 4] rfl) hf
        · have hf := hf.trans (if_neg c_33)
          refine lv_iload hx hb d_MMo_looksAtDigits_52 (lv_at hl 0 rfl) ?_
          refine lv_if_ne (tgt := 61) hx hb d_MMo_looksAtDigits_54 (by decide) (fun c_34 => ?_) (fun c_34 => ?_)
          · have hf := hf.trans (if_neg c_34)
            refine lv_iconst (v := (0 : Int32)) hx hb d_MMo_looksAtDigits_61 (by decide) ?_
            exact hK_7 false _ (lv_sub hl [2, 3, 4] rfl) hf
          · have hf := hf.trans (if_pos c_34)
            exact hK_32 _ (lv_sub hl [2, 3, 4] rfl) hf
  · intro K_3 hK_3 hf
    refine jn_cut hf (fun (K_36 : MS → Option (MS)) => ∀ (u_35 : MS), ∀ (H : Heap) (locs : List Loc), zW D clM (tyM k) nwM (mW a k) A st u_35 H → va_S A st.heap H locs → ∀ (ls : Array Slot), lv_has ls 6 [(0, .ref (a 0)), (1, .int x1), (2, .int x2)] → some F = K_36 u_35 → W p l e rm_MMo_looksAtDigits st m args below meth c H locs 0 0 Q (F0 m 26 ls [])) ?_ ?_
    · intro u_35 H locs hw hS ls hl hf
      refine lv_iconst (v := (1 : Int32)) hx hb d_MMo_looksAtDigits_26 (by decide) ?_
      refine lv_goto (tgt := 31) hx hb d_MMo_looksAtDigits_27 (by decide) ?_
      exact hK_3 true u_35 _ _ hw hS _ (lv_sub hl [0, 1, 2] rfl) hf
    · intro K_36 hK_36 hf
      refine lv_icmp_eq (tgt := 26) hx hb d_MMo_looksAtDigits_7 (by decide) (fun c_37 => ?_) (fun c_37 => ?_)
      · have hf := hf.trans (if_pos c_37)
        exact hK_36 u0 _ _ hw hS _ (lv_sub hl [0, 1, 2] rfl) hf
      · have hf := hf.trans (if_neg c_37)
        refine lv_aload_n hx hb d_MMo_looksAtDigits_10 rfl (lv_at hl 0 rfl) ?_
        refine lv_aload_n hx hb d_MMo_looksAtDigits_11 rfl (lv_at hl 0 rfl) ?_
        refine va_get (v := .int (mF u0 11)) hx hb hts iM_Mo hown hw.2.1 hw.1 0 rfl rfl 19 (by decide) (hts _ kM_Mo_149) (fun _ h => h) rfl d_MMo_looksAtDigits_12 ?_
        refine lv_iload_n hx hb d_MMo_looksAtDigits_15 rfl (lv_at hl 1 rfl) ?_
        refine lv_aload_n hx hb d_MMo_looksAtDigits_16 rfl (lv_at hl 0 rfl) ?_
        refine va_get (v := .ref (a 4)) hx hb hts iM_Mo hown hw.2.1 hw.1 0 rfl rfl 3 (by decide) (hts _ kM_Mo_19) (fun _ h => h) rfl d_MMo_looksAtDigits_17 ?_
        obtain ⟨z_39, u_38, ez_39, hf⟩ := bd2_inv hf
        refine z_wz' (r := z_39) (u' := u_38) (z_runV (As := [.int (mF u0 11), .int x1, .ref (a 4)]) (rest := []) ⟨hx, hb, hml, hown, hts⟩ (c_MMo_packs_4 l D a k u0 (mF u0 11) x1 (z_39, u_38) ez_39) (qM_Mo_182 hts (by decide)) hw 0 rfl rfl hl.1 rfl (lv_room (Nat.le_of_ble_eq_true rfl)) d_MMo_looksAtDigits_20 hcs) hw hS (fun H locs hw hS => ?_)
        refine lv_if_eq (tgt := 30) hx hb d_MMo_looksAtDigits_23 (by decide) (fun c_40 => ?_) (fun c_40 => ?_)
        · have hf := hf.trans (if_pos c_40)
          refine lv_iconst (v := (0 : Int32)) hx hb d_MMo_looksAtDigits_30 (by decide) ?_
          exact hK_3 false u_38 _ _ hw hS _ (lv_sub hl [0, 1, 2] rfl) hf
        · have hf := hf.trans (if_neg c_40)
          exact hK_36 u_38 _ _ hw hS _ (lv_sub hl [0, 1, 2] rfl) hf
set_option maxHeartbeats 4000000 in
set_option maxRecDepth 100000 in
theorem c_MMo_looks (l : Launch) (D : va_G) (a : Nat → Nat) (k : Nat → ClassId) (u0 : MS)  (F : MS) (hf : f_MMo_looks u0 = some F) : zMv l y_MMo_looks w_MMo_looks rm_MMo_looks D clM (tyM k) nwM (mW a k) [.ref (a 0)] u0 F := by
  have hf := hf.symm
  unfold f_MMo_looks at hf
  refine zMv_of (cc := b_MMo_looks) (maxL := 5) (own := RM_Mo) (by decide) rfl rfl (Nat.le_of_ble_eq_true rfl) ?_
  intro p e R st m args below meth c A H locs Q ls hR hx hb hml hown hts hw hS hret hl
  subst hR
  have hcs : 0 ≤ (rm_MMo_looks).cells ∧ 0 ≤ (rm_MMo_looks).slots := ⟨Nat.zero_le _, Nat.zero_le _⟩
  have hl : lv_has ls 5 [(0, .ref (a 0))] := hl
  refine lv_aload_n hx hb d_MMo_looks_0 rfl (lv_at hl 0 rfl) ?_
  refine va_get (v := .int (mF u0 10)) hx hb hts iM_Mo hown hw.2.1 hw.1 0 rfl rfl 18 (by decide) (hts _ kM_Mo_142) (fun _ h => h) rfl d_MMo_looks_1 ?_
  refine lv_iconst (v := (1 : Int32)) hx hb d_MMo_looks_4 (by decide) ?_
  refine lv_iadd hx hb d_MMo_looks_5 ?_
  refine lv_topi (fun x_1 ex_1 => ?_)
  have hf := hf.trans (nm_eq ex_1)
  refine lv_istore_n (lv' := [(1, .int x_1), (0, .ref (a 0))]) hx hb d_MMo_looks_6 rfl hl (by decide) rfl (fun ls hl => ?_)
  refine lv_aload_n hx hb d_MMo_looks_7 rfl (lv_at hl 1 rfl) ?_
  obtain ⟨x_2, ex_2, hf⟩ := bd1_inv hf
  refine z_rV (V := .int x_2) (z_runV (As := []) (rest := []) ⟨hx, hb, hml, hown, hts⟩ (c_MMo_low l D a k u0 x_2 ex_2) (qM_Mo_159 hts (by decide)) hw 0 rfl rfl hl.1 rfl (lv_room (Nat.le_of_ble_eq_true rfl)) d_MMo_looks_8 hcs) ?_
  refine lv_iconst (v := (1 : Int32)) hx hb d_MMo_looks_11 (by decide) ?_
  refine lv_iadd hx hb d_MMo_looks_12 ?_
  refine lv_topi (fun x_3 ex_3 => ?_)
  have hf := hf.trans (nm_eq ex_3)
  refine lv_istore_n (lv' := [(2, .int x_3), (1, .int x_1), (0, .ref (a 0))]) hx hb d_MMo_looks_13 rfl hl (by decide) rfl (fun ls hl => ?_)
  refine lv_aload_n hx hb d_MMo_looks_14 rfl (lv_at hl 2 rfl) ?_
  obtain ⟨x_4, ex_4, hf⟩ := bd1_inv hf
  refine z_rV (V := .int x_4) (z_runV (As := []) (rest := []) ⟨hx, hb, hml, hown, hts⟩ (c_MMo_high l D a k u0 x_4 ex_4) (qM_Mo_163 hts (by decide)) hw 0 rfl rfl hl.1 rfl (lv_room (Nat.le_of_ble_eq_true rfl)) d_MMo_looks_15 hcs) ?_
  refine lv_iconst (v := (1 : Int32)) hx hb d_MMo_looks_18 (by decide) ?_
  refine lv_iadd hx hb d_MMo_looks_19 ?_
  refine lv_topi (fun x_5 ex_5 => ?_)
  have hf := hf.trans (nm_eq ex_5)
  refine lv_istore_n (lv' := [(3, .int x_5), (2, .int x_3), (1, .int x_1), (0, .ref (a 0))]) hx hb d_MMo_looks_20 rfl hl (by decide) rfl (fun ls hl => ?_)
  refine lv_aload_n hx hb d_MMo_looks_21 rfl (lv_at hl 3 rfl) ?_
  refine va_get (v := .int (mF u0 8)) hx hb hts iM_Mo hown hw.2.1 hw.1 0 rfl rfl 16 (by decide) (hts _ kM_Mo_132) (fun _ h => h) rfl d_MMo_looks_22 ?_
  refine lv_bipush (v := (64 : Int32)) hx hb d_MMo_looks_25 (by decide) ?_
  refine lv_icmp_ge (tgt := 108) hx hb d_MMo_looks_27 (by decide) (fun c_6 => ?_) (fun c_6 => ?_)
  · have hf := hf.trans (if_pos c_6)
    refine lv_aload_n hx hb d_MMo_looks_108 rfl (lv_at hl 3 rfl) ?_
    refine va_get (v := .int (mF u0 8)) hx hb hts iM_Mo hown hw.2.1 hw.1 0 rfl rfl 16 (by decide) (hts _ kM_Mo_132) (fun _ h => h) rfl d_MMo_looks_109 ?_
    refine lv_sipush (v := (128 : Int32)) hx hb d_MMo_looks_112 (by decide) ?_
    refine lv_icmp_ge (tgt := 125) hx hb d_MMo_looks_115 (by decide) (fun c_7 => ?_) (fun c_7 => ?_)
    · have hf := hf.trans (if_pos c_7)
      refine lv_aload_n hx hb d_MMo_looks_125 rfl (lv_at hl 3 rfl) ?_
      refine va_get (v := .int (mF u0 8)) hx hb hts iM_Mo hown hw.2.1 hw.1 0 rfl rfl 16 (by decide) (hts _ kM_Mo_132) (fun _ h => h) rfl d_MMo_looks_126 ?_
      refine lv_sipush (v := (192 : Int32)) hx hb d_MMo_looks_129 (by decide) ?_
      refine lv_icmp_ge (tgt := 282) hx hb d_MMo_looks_132 (by decide) (fun c_8 => ?_) (fun c_8 => ?_)
      · have hf := hf.trans (if_pos c_8)
        refine lv_aload_n hx hb d_MMo_looks_282 rfl (lv_at hl 3 rfl) ?_
        refine va_get (v := .int (mF u0 8)) hx hb hts iM_Mo hown hw.2.1 hw.1 0 rfl rfl 16 (by decide) (hts _ kM_Mo_132) (fun _ h => h) rfl d_MMo_looks_283 ?_
        refine lv_sipush (v := (240 : Int32)) hx hb d_MMo_looks_286 (by decide) ?_
        refine lv_icmp_ge (tgt := 372) hx hb d_MMo_looks_289 (by decide) (fun c_9 => ?_) (fun c_9 => ?_)
        · have hf := hf.trans (if_pos c_9)
          refine lv_aload_n hx hb d_MMo_looks_372 rfl (lv_at hl 3 rfl) ?_
          refine va_get (v := .int (mF u0 8)) hx hb hts iM_Mo hown hw.2.1 hw.1 0 rfl rfl 16 (by decide) (hts _ kM_Mo_132) (fun _ h => h) rfl d_MMo_looks_373 ?_
          refine lv_sipush (v := (243 : Int32)) hx hb d_MMo_looks_376 (by decide) ?_
          refine jn_cut hf (fun (K_11 : Bool → Option (MS)) => ∀ (z_10 : Bool), ∀ (ls : Array Slot), lv_has ls 5 [(0, .ref (a 0)), (2, .int x_3), (3, .int x_5)] → some F = K_11 z_10 → W p l e rm_MMo_looks st m args below meth c H locs 0 0 Q (F0 m 387 ls [.int (bI z_10)])) ?_ ?_
          · intro z_10 ls hl hf
            refine lv_istore (lv' := [(4, .int (bI z_10)), (0, .ref (a 0)), (2, .int x_3), (3, .int x_5)]) hx hb d_MMo_looks_387 hl (by decide) rfl (fun ls hl => ?_)
            refine lv_aload_n hx hb d_MMo_looks_389 rfl (lv_at hl 1 rfl) ?_
            refine lv_iload hx hb d_MMo_looks_390 (lv_at hl 0 rfl) ?_
            refine jn_cut hf (fun (K_13 : Bool → Option (MS)) => ∀ (z_12 : Bool), ∀ (ls : Array Slot), lv_has ls 5 [(0, .ref (a 0)), (2, .int x_3), (3, .int x_5), (4, .int (bI z_10))] → some F = K_13 z_12 → W p l e rm_MMo_looks st m args below meth c H locs 0 0 Q (F0 m 429 ls [.int (bI z_12), .ref (a 0)])) ?_ ?_
            · intro z_12 ls hl hf
              refine lv_bipush (v := (6 : Int32)) hx hb d_MMo_looks_429 (by decide) ?_
              obtain ⟨u_14, eu_14, hf⟩ := bd1_inv hf
              refine z_wv' (u' := u_14) (z_runV (As := [.int (bI z_12), .int (6 : Int32)]) (rest := []) ⟨hx, hb, hml, hown, hts⟩ (c_MMo_wrong l D a k u0 z_12 (6 : Int32) u_14 eu_14) (qM_Mo_128 hts (by decide)) hw 0 rfl rfl hl.1 rfl (lv_room (Nat.le_of_ble_eq_true rfl)) d_MMo_looks_431 hcs) hw hS (fun H locs hw hS => ?_)
              refine lv_aload_n hx hb d_MMo_looks_434 rfl (lv_at hl 0 rfl) ?_
              refine lv_aload_n hx hb d_MMo_looks_435 rfl (lv_at hl 0 rfl) ?_
              refine va_get (v := .int (mF u_14 11)) hx hb hts iM_Mo hown hw.2.1 hw.1 0 rfl rfl 19 (by decide) (hts _ kM_Mo_149) (fun _ h => h) rfl d_MMo_looks_436 ?_
              refine lv_iload_n hx hb d_MMo_looks_439 rfl (lv_at hl 2 rfl) ?_
              obtain ⟨z_15, ez_15, hf⟩ := bd1_inv hf
              refine z_rV (V := .int (bI z_15)) (z_runS (As := [.int (mF u_14 11), .int x_5]) (rest := [.ref (a 0)]) ⟨hx, hb, hml, hown, hts⟩ (c_MMo_lies l D a k u_14 (mF u_14 11) x_5 z_15 ez_15) (qM_Mo_53 hts (by decide)) hw  hl.1 rfl (lv_room (Nat.le_of_ble_eq_true rfl)) d_MMo_looks_440 hcs) ?_
              refine jn_cut hf (fun (K_17 : Bool → Option (MS)) => ∀ (z_16 : Bool), ∀ (ls : Array Slot), lv_has ls 5 [(0, .ref (a 0)), (2, .int x_3), (3, .int x_5), (4, .int (bI z_10))] → some F = K_17 z_16 → W p l e rm_MMo_looks st m args below meth c H locs 0 0 Q (F0 m 462 ls [.int (bI z_16), .ref (a 0)])) ?_ ?_
              · intro z_16 ls hl hf
                refine lv_iconst (v := (5 : Int32)) hx hb d_MMo_looks_462 (by decide) ?_
                obtain ⟨u_18, eu_18, hf⟩ := bd1_inv hf
                refine z_wv' (u' := u_18) (z_runV (As := [.int (bI z_16), .int (5 : Int32)]) (rest := []) ⟨hx, hb, hml, hown, hts⟩ (c_MMo_wrong l D a k u_14 z_16 (5 : Int32) u_18 eu_18) (qM_Mo_128 hts (by decide)) hw 0 rfl rfl hl.1 rfl (lv_room (Nat.le_of_ble_eq_true rfl)) d_MMo_looks_463 hcs) hw hS (fun H locs hw hS => ?_)
                refine lv_iload hx hb d_MMo_looks_466 (lv_at hl 3 rfl) ?_
                refine lv_if_eq (tgt := 484) hx hb d_MMo_looks_468 (by decide) (fun c_19 => ?_) (fun c_19 => ?_)
                · have hf := hf.trans (if_pos c_19)
                  exact hret _ _ _ _ _ d_MMo_looks_484 hw hS (Option.some.inj hf)
                · have hf := hf.trans (if_neg c_19)
                  refine lv_aload_n hx hb d_MMo_looks_471 rfl (lv_at hl 0 rfl) ?_
                  refine va_get (v := .int (mF u_18 13)) hx hb hts iM_Mo hown hw.2.1 hw.1 0 rfl rfl 21 (by decide) (hts _ kM_Mo_86) (fun _ h => h) rfl d_MMo_looks_472 ?_
                  refine lv_if_ne (tgt := 484) hx hb d_MMo_looks_475 (by decide) (fun c_20 => ?_) (fun c_20 => ?_)
                  · have hf := hf.trans (if_neg c_20)
                    exact hret _ _ _ _ _ d_MMo_looks_484 hw hS (Option.some.inj hf)
                  · have hf := hf.trans (if_pos c_20)
                    refine lv_aload_n hx hb d_MMo_looks_478 rfl (lv_at hl 0 rfl) ?_
                    refine lv_iload_n hx hb d_MMo_looks_479 rfl (lv_at hl 2 rfl) ?_
                    refine lv_iload_n hx hb d_MMo_looks_480 rfl (lv_at hl 1 rfl) ?_
                    obtain ⟨u_21, eu_21, hf⟩ := bd1_inv hf
                    refine z_wv' (u' := u_21) (z_runV (As := [.int x_5, .int x_3]) (rest := []) ⟨hx, hb, hml, hown, hts⟩ (c_MMo_looksAtDigits l D a k u_18 x_5 x_3 u_21 eu_21) (qM_Mo_175 hts (by decide)) hw 0 rfl rfl hl.1 rfl (lv_room (Nat.le_of_ble_eq_true rfl)) d_MMo_looks_481 hcs) hw hS (fun H locs hw hS => ?_)
                    exact hret _ _ _ _ _ d_MMo_looks_484 hw hS (Option.some.inj hf)
              · intro K_17 hK_17 hf
                refine jn_cut hf (fun (K_22 : Option (MS)) => ∀ (ls : Array Slot), lv_has ls 5 [(0, .ref (a 0)), (2, .int x_3), (3, .int x_5), (4, .int (bI z_10))] → some F = K_22 → W p l e rm_MMo_looks st m args below meth c H locs 0 0 Q (F0 m 457 ls [.ref (a 0)])) ?_ ?_
                · intro ls hl hf
                  refine lv_iconst (v := (1 : Int32)) hx hb d_MMo_looks_457 (by decide) ?_
                  refine lv_goto (tgt := 462) hx hb d_MMo_looks_458 (by decide) ?_
                  exact hK_17 true _ (lv_sub hl [0, 1, 2, 3] rfl) hf
                · intro K_22 hK_22 hf
                  refine lv_if_eq (tgt := 457) hx hb d_MMo_looks_443 (by decide) (fun c_23 => ?_) (fun c_23 => ?_)
                  · have hf := hf.trans (if_pos c_23)
                    exact hK_22 _ (lv_sub hl [0, 1, 2, 3] rfl) hf
                  · have hf := hf.trans (if_neg c_23)
                    refine lv_aload_n hx hb d_MMo_looks_446 rfl (lv_at hl 0 rfl) ?_
                    refine va_get (v := .int (mF u_14 12)) hx hb hts iM_Mo hown hw.2.1 hw.1 0 rfl rfl 20 (by decide) (hts _ kM_Mo_152) (fun _ h => h) rfl d_MMo_looks_447 ?_
                    refine lv_iload_n hx hb d_MMo_looks_450 rfl (lv_at hl 1 rfl) ?_
                    obtain ⟨z_24, ez_24, hf⟩ := bd1_inv hf
                    refine z_rV (V := .int (bI z_24)) (z_runS (As := [.int (mF u_14 12), .int x_3]) (rest := [.ref (a 0)]) ⟨hx, hb, hml, hown, hts⟩ (c_MMo_lies l D a k u_14 (mF u_14 12) x_3 z_24 ez_24) (qM_Mo_53 hts (by decide)) hw  hl.1 rfl (lv_room (Nat.le_of_ble_eq_true rfl)) d_MMo_looks_451 hcs) ?_
                    refine lv_if_ne (tgt := 461) hx hb d_MMo_looks_454 (by decide) (fun c_25 => ?_) (fun c_25 => ?_)
                    · have hf := hf.trans (if_neg c_25)
                      refine lv_iconst (v := (0 : Int32)) hx hb d_MMo_looks_461 (by decide) ?_
                      exact hK_17 false _ (lv_sub hl [0, 1, 2, 3] rfl) hf
                    · have hf := hf.trans (if_pos c_25)
                      exact hK_22 _ (lv_sub hl [0, 1, 2, 3] rfl) hf
            · intro K_13 hK_13 hf
              refine jn_cut hf (fun (K_26 : Option (MS)) => ∀ (ls : Array Slot), lv_has ls 5 [(0, .ref (a 0)), (2, .int x_3), (3, .int x_5), (4, .int (bI z_10))] → some F = K_26 → W p l e rm_MMo_looks st m args below meth c H locs 0 0 Q (F0 m 424 ls [.ref (a 0)])) ?_ ?_
              · intro ls hl hf
                refine lv_iconst (v := (1 : Int32)) hx hb d_MMo_looks_424 (by decide) ?_
                refine lv_goto (tgt := 429) hx hb d_MMo_looks_425 (by decide) ?_
                exact hK_13 true _ (lv_sub hl [0, 1, 2, 3] rfl) hf
              · intro K_26 hK_26 hf
                refine jn_cut hf (fun (K_27 : Option (MS)) => ∀ (ls : Array Slot), lv_has ls 5 [(0, .ref (a 0)), (2, .int x_3), (3, .int x_5), (4, .int (bI z_10))] → some F = K_27 → W p l e rm_MMo_looks st m args below meth c H locs 0 0 Q (F0 m 407 ls [.ref (a 0)])) ?_ ?_
                · intro ls hl hf
                  refine lv_aload_n hx hb d_MMo_looks_407 rfl (lv_at hl 0 rfl) ?_
                  refine va_get (v := .int (mF u0 8)) hx hb hts iM_Mo hown hw.2.1 hw.1 0 rfl rfl 16 (by decide) (hts _ kM_Mo_132) (fun _ h => h) rfl d_MMo_looks_408 ?_
                  refine lv_sipush (v := (251 : Int32)) hx hb d_MMo_looks_411 (by decide) ?_
                  refine jn_cut hf (fun (K_28 : Option (MS)) => ∀ (ls : Array Slot), lv_has ls 5 [(0, .ref (a 0)), (2, .int x_3), (3, .int x_5), (4, .int (bI z_10))] → some F = K_28 → W p l e rm_MMo_looks st m args below meth c H locs 0 0 Q (F0 m 428 ls [.ref (a 0)])) ?_ ?_
                  · intro ls hl hf
                    refine lv_iconst (v := (0 : Int32)) hx hb d_MMo_looks_428 (by decide) ?_
                    exact hK_13 false _ (lv_sub hl [0, 1, 2, 3] rfl) hf
                  · intro K_28 hK_28 hf
                    refine lv_icmp_le (tgt := 428) hx hb d_MMo_looks_414 (by decide) (fun c_29 => ?_) (fun c_29 => ?_)
                    · have hf := hf.trans (if_pos c_29)
                      exact hK_28 _ (lv_sub hl [0, 1, 2, 3] rfl) hf
                    · have hf := hf.trans (if_neg c_29)
                      refine lv_iload_n hx hb d_MMo_looks_417 rfl (lv_at hl 1 rfl) ?_
                      refine lv_iload_n hx hb d_MMo_looks_418 rfl (lv_at hl 2 rfl) ?_
                      refine lv_iconst (v := (1 : Int32)) hx hb d_MMo_looks_419 (by decide) ?_
                      refine lv_isub hx hb d_MMo_looks_420 ?_
                      refine lv_icmp_le (tgt := 428) hx hb d_MMo_looks_421 (by decide) (fun c_30 => ?_) (fun c_30 => ?_)
                      · have hf := hf.trans (if_pos c_30)
                        exact hK_28 _ (lv_sub hl [0, 1, 2, 3] rfl) hf
                      · have hf := hf.trans (if_neg c_30)
                        exact hK_26 _ (lv_sub hl [0, 1, 2, 3] rfl) hf
                · intro K_27 hK_27 hf
                  refine lv_if_eq (tgt := 407) hx hb d_MMo_looks_392 (by decide) (fun c_31 => ?_) (fun c_31 => ?_)
                  · have hf := hf.trans (if_pos c_31)
                    exact hK_27 _ (lv_sub hl [1, 2, 3, 0] rfl) hf
                  · have hf := hf.trans (if_neg c_31)
                    refine lv_iload_n hx hb d_MMo_looks_395 rfl (lv_at hl 3 rfl) ?_
                    refine lv_bipush (v := (8 : Int32)) hx hb d_MMo_looks_396 (by decide) ?_
                    refine lv_icmp_gt (tgt := 424) hx hb d_MMo_looks_398 (by decide) (fun c_32 => ?_) (fun c_32 => ?_)
                    · have hf := hf.trans (if_pos c_32)
                      exact hK_26 _ (lv_sub hl [1, 2, 3, 0] rfl) hf
                    · have hf := hf.trans (if_neg c_32)
                      refine lv_iload_n hx hb d_MMo_looks_401 rfl (lv_at hl 2 rfl) ?_
                      refine lv_bipush (v := (8 : Int32)) hx hb d_MMo_looks_402 (by decide) ?_
                      refine lv_icmp_gt (tgt := 424) hx hb d_MMo_looks_404 (by decide) (fun c_33 => ?_) (fun c_33 => ?_)
                      · have hf := hf.trans (if_pos c_33)
                        exact hK_26 _ (lv_sub hl [1, 2, 3, 0] rfl) hf
                      · have hf := hf.trans (if_neg c_33)
                        exact hK_27 _ (lv_sub hl [1, 2, 3, 0] rfl) hf
          · intro K_11 hK_11 hf
            refine lv_icmp_le (tgt := 386) hx hb d_MMo_looks_379 (by decide) (fun c_34 => ?_) (fun c_34 => ?_)
            · have hf := hf.trans (if_pos c_34)
              refine lv_iconst (v := (0 : Int32)) hx hb d_MMo_looks_386 (by decide) ?_
              exact hK_11 false _ (lv_sub hl [3, 1, 0] rfl) hf
            · have hf := hf.trans (if_neg c_34)
              refine lv_iconst (v := (1 : Int32)) hx hb d_MMo_looks_382 (by decide) ?_
              refine lv_goto (tgt := 387) hx hb d_MMo_looks_383 (by decide) ?_
              exact hK_11 true _ (lv_sub hl [3, 1, 0] rfl) hf
        · have hf := hf.trans (if_neg c_9)
          refine lv_aload_n hx hb d_MMo_looks_292 rfl (lv_at hl 3 rfl) ?_
          refine lv_aload_n hx hb d_MMo_looks_293 rfl (lv_at hl 3 rfl) ?_
          refine va_get (v := .int (mF u0 11)) hx hb hts iM_Mo hown hw.2.1 hw.1 0 rfl rfl 19 (by decide) (hts _ kM_Mo_149) (fun _ h => h) rfl d_MMo_looks_294 ?_
          refine lv_iload_n hx hb d_MMo_looks_297 rfl (lv_at hl 2 rfl) ?_
          obtain ⟨z_35, ez_35, hf⟩ := bd1_inv hf
          refine z_rV (V := .int (bI z_35)) (z_runS (As := [.int (mF u0 11), .int x_1]) (rest := [.ref (a 0)]) ⟨hx, hb, hml, hown, hts⟩ (c_MMo_lies l D a k u0 (mF u0 11) x_1 z_35 ez_35) (qM_Mo_53 hts (by decide)) hw  hl.1 rfl (lv_room (Nat.le_of_ble_eq_true rfl)) d_MMo_looks_298 hcs) ?_
          refine jn_cut hf (fun (K_37 : Bool → Option (MS)) => ∀ (z_36 : Bool), ∀ (ls : Array Slot), lv_has ls 5 [(0, .ref (a 0)), (1, .int x_1)] → some F = K_37 z_36 → W p l e rm_MMo_looks st m args below meth c H locs 0 0 Q (F0 m 330 ls [.int (bI z_36), .ref (a 0)])) ?_ ?_
          · intro z_36 ls hl hf
            refine lv_iconst (v := (5 : Int32)) hx hb d_MMo_looks_330 (by decide) ?_
            obtain ⟨u_38, eu_38, hf⟩ := bd1_inv hf
            refine z_wv' (u' := u_38) (z_runV (As := [.int (bI z_36), .int (5 : Int32)]) (rest := []) ⟨hx, hb, hml, hown, hts⟩ (c_MMo_wrong l D a k u0 z_36 (5 : Int32) u_38 eu_38) (qM_Mo_128 hts (by decide)) hw 0 rfl rfl hl.1 rfl (lv_room (Nat.le_of_ble_eq_true rfl)) d_MMo_looks_331 hcs) hw hS (fun H locs hw hS => ?_)
            refine lv_aload_n hx hb d_MMo_looks_334 rfl (lv_at hl 0 rfl) ?_
            refine va_get (v := .int (mF u_38 8)) hx hb hts iM_Mo hown hw.2.1 hw.1 0 rfl rfl 16 (by decide) (hts _ kM_Mo_132) (fun _ h => h) rfl d_MMo_looks_335 ?_
            refine lv_sipush (v := (220 : Int32)) hx hb d_MMo_looks_338 (by decide) ?_
            refine lv_icmp_ne (tgt := 484) hx hb d_MMo_looks_341 (by decide) (fun c_39 => ?_) (fun c_39 => ?_)
            · have hf := hf.trans (if_neg c_39)
              exact hret _ _ _ _ _ d_MMo_looks_484 hw hS (Option.some.inj hf)
            · have hf := hf.trans (if_pos c_39)
              refine lv_aload_n hx hb d_MMo_looks_344 rfl (lv_at hl 0 rfl) ?_
              refine va_get (v := .int (mF u_38 13)) hx hb hts iM_Mo hown hw.2.1 hw.1 0 rfl rfl 21 (by decide) (hts _ kM_Mo_86) (fun _ h => h) rfl d_MMo_looks_345 ?_
              refine lv_if_ne (tgt := 484) hx hb d_MMo_looks_348 (by decide) (fun c_40 => ?_) (fun c_40 => ?_)
              · have hf := hf.trans (if_neg c_40)
                exact hret _ _ _ _ _ d_MMo_looks_484 hw hS (Option.some.inj hf)
              · have hf := hf.trans (if_pos c_40)
                refine lv_aload_n hx hb d_MMo_looks_351 rfl (lv_at hl 0 rfl) ?_
                refine lv_aload_n hx hb d_MMo_looks_352 rfl (lv_at hl 0 rfl) ?_
                refine lv_iload_n hx hb d_MMo_looks_353 rfl (lv_at hl 1 rfl) ?_
                obtain ⟨z_42, u_41, ez_42, hf⟩ := bd2_inv hf
                refine z_wz' (r := z_42) (u' := u_41) (z_runV (As := [.int x_1]) (rest := [.ref (a 0)]) ⟨hx, hb, hml, hown, hts⟩ (c_MMo_translates l D a k u_38 x_1 (z_42, u_41) ez_42) (qM_Mo_172 hts (by decide)) hw 0 rfl rfl hl.1 rfl (lv_room (Nat.le_of_ble_eq_true rfl)) d_MMo_looks_354 hcs) hw hS (fun H locs hw hS => ?_)
                refine lv_if_ne (tgt := 364) hx hb d_MMo_looks_357 (by decide) (fun c_43 => ?_) (fun c_43 => ?_)
                · have hf := hf.trans (if_neg c_43)
                  refine lv_iconst (v := (0 : Int32)) hx hb d_MMo_looks_364 (by decide) ?_
                  refine lv_iconst (v := (5 : Int32)) hx hb d_MMo_looks_365 (by decide) ?_
                  obtain ⟨u_44, eu_44, hf⟩ := bd1_inv hf
                  refine z_wv' (u' := u_44) (z_runV (As := [.int (0 : Int32), .int (5 : Int32)]) (rest := []) ⟨hx, hb, hml, hown, hts⟩ (c_MMo_wrong l D a k u_41 false (5 : Int32) u_44 eu_44) (qM_Mo_128 hts (by decide)) hw 0 rfl rfl hl.1 rfl (lv_room (Nat.le_of_ble_eq_true rfl)) d_MMo_looks_366 hcs) hw hS (fun H locs hw hS => ?_)
                  refine lv_goto (tgt := 484) hx hb d_MMo_looks_369 (by decide) ?_
                  exact hret _ _ _ _ _ d_MMo_looks_484 hw hS (Option.some.inj hf)
                · have hf := hf.trans (if_pos c_43)
                  refine lv_iconst (v := (1 : Int32)) hx hb d_MMo_looks_360 (by decide) ?_
                  refine lv_goto (tgt := 365) hx hb d_MMo_looks_361 (by decide) ?_
                  refine lv_iconst (v := (5 : Int32)) hx hb d_MMo_looks_365 (by decide) ?_
                  obtain ⟨u_45, eu_45, hf⟩ := bd1_inv hf
                  refine z_wv' (u' := u_45) (z_runV (As := [.int (1 : Int32), .int (5 : Int32)]) (rest := []) ⟨hx, hb, hml, hown, hts⟩ (c_MMo_wrong l D a k u_41 true (5 : Int32) u_45 eu_45) (qM_Mo_128 hts (by decide)) hw 0 rfl rfl hl.1 rfl (lv_room (Nat.le_of_ble_eq_true rfl)) d_MMo_looks_366 hcs) hw hS (fun H locs hw hS => ?_)
                  refine lv_goto (tgt := 484) hx hb d_MMo_looks_369 (by decide) ?_
                  exact hret _ _ _ _ _ d_MMo_looks_484 hw hS (Option.some.inj hf)
          · intro K_37 hK_37 hf
            refine jn_cut hf (fun (K_46 : Option (MS)) => ∀ (ls : Array Slot), lv_has ls 5 [(0, .ref (a 0)), (1, .int x_1)] → some F = K_46 → W p l e rm_MMo_looks st m args below meth c H locs 0 0 Q (F0 m 325 ls [.ref (a 0)])) ?_ ?_
            · intro ls hl hf
              refine lv_iconst (v := (1 : Int32)) hx hb d_MMo_looks_325 (by decide) ?_
              refine lv_goto (tgt := 330) hx hb d_MMo_looks_326 (by decide) ?_
              exact hK_37 true _ (lv_sub hl [0, 1] rfl) hf
            · intro K_46 hK_46 hf
              refine lv_if_eq (tgt := 325) hx hb d_MMo_looks_301 (by decide) (fun c_47 => ?_) (fun c_47 => ?_)
              · have hf := hf.trans (if_pos c_47)
                exact hK_46 _ (lv_sub hl [3, 2] rfl) hf
              · have hf := hf.trans (if_neg c_47)
                refine lv_aload_n hx hb d_MMo_looks_304 rfl (lv_at hl 3 rfl) ?_
                refine va_get (v := .int (mF u0 8)) hx hb hts iM_Mo hown hw.2.1 hw.1 0 rfl rfl 16 (by decide) (hts _ kM_Mo_132) (fun _ h => h) rfl d_MMo_looks_305 ?_
                refine lv_sipush (v := (220 : Int32)) hx hb d_MMo_looks_308 (by decide) ?_
                refine jn_cut hf (fun (K_48 : Option (MS)) => ∀ (ls : Array Slot), lv_has ls 5 [(0, .ref (a 0)), (1, .int x_1)] → some F = K_48 → W p l e rm_MMo_looks st m args below meth c H locs 0 0 Q (F0 m 329 ls [.ref (a 0)])) ?_ ?_
                · intro ls hl hf
                  refine lv_iconst (v := (0 : Int32)) hx hb d_MMo_looks_329 (by decide) ?_
                  exact hK_37 false _ (lv_sub hl [0, 1] rfl) hf
                · intro K_48 hK_48 hf
                  refine lv_icmp_eq (tgt := 329) hx hb d_MMo_looks_311 (by decide) (fun c_49 => ?_) (fun c_49 => ?_)
                  · have hf := hf.trans (if_pos c_49)
                    exact hK_48 _ (lv_sub hl [3, 2] rfl) hf
                  · have hf := hf.trans (if_neg c_49)
                    refine lv_aload_n hx hb d_MMo_looks_314 rfl (lv_at hl 3 rfl) ?_
                    refine va_get (v := .int (mF u0 12)) hx hb hts iM_Mo hown hw.2.1 hw.1 0 rfl rfl 20 (by decide) (hts _ kM_Mo_152) (fun _ h => h) rfl d_MMo_looks_315 ?_
                    refine lv_iload_n hx hb d_MMo_looks_318 rfl (lv_at hl 2 rfl) ?_
                    obtain ⟨z_50, ez_50, hf⟩ := bd1_inv hf
                    refine z_rV (V := .int (bI z_50)) (z_runS (As := [.int (mF u0 12), .int x_1]) (rest := [.ref (a 0)]) ⟨hx, hb, hml, hown, hts⟩ (c_MMo_lies l D a k u0 (mF u0 12) x_1 z_50 ez_50) (qM_Mo_53 hts (by decide)) hw  hl.1 rfl (lv_room (Nat.le_of_ble_eq_true rfl)) d_MMo_looks_319 hcs) ?_
                    refine lv_if_ne (tgt := 329) hx hb d_MMo_looks_322 (by decide) (fun c_51 => ?_) (fun c_51 => ?_)
                    · have hf := hf.trans (if_neg c_51)
                      exact hK_48 _ (lv_sub hl [3, 2] rfl) hf
                    · have hf := hf.trans (if_pos c_51)
                      exact hK_46 _ (lv_sub hl [3, 2] rfl) hf
      · have hf := hf.trans (if_neg c_8)
        refine lv_aload_n hx hb d_MMo_looks_135 rfl (lv_at hl 3 rfl) ?_
        obtain ⟨x_52, ex_52, hf⟩ := bd1_inv hf
        refine z_rV (V := .int x_52) (z_runV (As := []) (rest := []) ⟨hx, hb, hml, hown, hts⟩ (c_MMo_low l D a k u0 x_52 ex_52) (qM_Mo_159 hts (by decide)) hw 0 rfl rfl hl.1 rfl (lv_room (Nat.le_of_ble_eq_true rfl)) d_MMo_looks_136 hcs) ?_
        refine lv_aload_n hx hb d_MMo_looks_139 rfl (lv_at hl 3 rfl) ?_
        obtain ⟨x_53, ex_53, hf⟩ := bd1_inv hf
        refine z_rV (V := .int x_53) (z_runV (As := []) (rest := [.int x_52]) ⟨hx, hb, hml, hown, hts⟩ (c_MMo_high l D a k u0 x_53 ex_53) (qM_Mo_163 hts (by decide)) hw 0 rfl rfl hl.1 rfl (lv_room (Nat.le_of_ble_eq_true rfl)) d_MMo_looks_140 hcs) ?_
        refine lv_isub hx hb d_MMo_looks_143 ?_
        refine lv_bipush (v := (16 : Int32)) hx hb d_MMo_looks_144 (by decide) ?_
        refine lv_iadd hx hb d_MMo_looks_146 ?_
        refine lv_bipush (v := (15 : Int32)) hx hb d_MMo_looks_147 (by decide) ?_
        refine lv_iand hx hb d_MMo_looks_149 ?_
        refine lv_iconst (v := (1 : Int32)) hx hb d_MMo_looks_150 (by decide) ?_
        refine lv_iadd hx hb d_MMo_looks_151 ?_
        refine lv_topi (fun x_54 ex_54 => ?_)
        have hf := hf.trans (nm_eq ex_54)
        refine lv_istore (lv' := [(4, .int x_54), (3, .int x_5), (2, .int x_3), (1, .int x_1), (0, .ref (a 0))]) hx hb d_MMo_looks_152 hl (by decide) rfl (fun ls hl => ?_)
        refine lv_aload_n hx hb d_MMo_looks_154 rfl (lv_at hl 4 rfl) ?_
        refine lv_aload_n hx hb d_MMo_looks_155 rfl (lv_at hl 4 rfl) ?_
        refine va_get (v := .int (mF u0 8)) hx hb hts iM_Mo hown hw.2.1 hw.1 0 rfl rfl 16 (by decide) (hts _ kM_Mo_132) (fun _ h => h) rfl d_MMo_looks_156 ?_
        refine lv_sipush (v := (144 : Int32)) hx hb d_MMo_looks_159 (by decide) ?_
        refine jn_cut hf (fun (K_56 : Bool → Option (MS)) => ∀ (z_55 : Bool), ∀ (ls : Array Slot), lv_has ls 5 [(0, .ref (a 0)), (4, .int x_54)] → some F = K_56 z_55 → W p l e rm_MMo_looks st m args below meth c H locs 0 0 Q (F0 m 189 ls [.int (bI z_55), .ref (a 0)])) ?_ ?_
        · intro z_55 ls hl hf
          refine lv_bipush (v := (6 : Int32)) hx hb d_MMo_looks_189 (by decide) ?_
          obtain ⟨u_57, eu_57, hf⟩ := bd1_inv hf
          refine z_wv' (u' := u_57) (z_runV (As := [.int (bI z_55), .int (6 : Int32)]) (rest := []) ⟨hx, hb, hml, hown, hts⟩ (c_MMo_wrong l D a k u0 z_55 (6 : Int32) u_57 eu_57) (qM_Mo_128 hts (by decide)) hw 0 rfl rfl hl.1 rfl (lv_room (Nat.le_of_ble_eq_true rfl)) d_MMo_looks_191 hcs) hw hS (fun H locs hw hS => ?_)
          refine lv_aload_n hx hb d_MMo_looks_194 rfl (lv_at hl 0 rfl) ?_
          refine lv_aload_n hx hb d_MMo_looks_195 rfl (lv_at hl 0 rfl) ?_
          refine va_get (v := .int (mF u_57 8)) hx hb hts iM_Mo hown hw.2.1 hw.1 0 rfl rfl 16 (by decide) (hts _ kM_Mo_132) (fun _ h => h) rfl d_MMo_looks_196 ?_
          refine lv_sipush (v := (144 : Int32)) hx hb d_MMo_looks_199 (by decide) ?_
          refine jn_cut hf (fun (K_59 : Bool → Option (MS)) => ∀ (z_58 : Bool), ∀ (ls : Array Slot), lv_has ls 5 [(0, .ref (a 0))] → some F = K_59 z_58 → W p l e rm_MMo_looks st m args below meth c H locs 0 0 Q (F0 m 234 ls [.int (bI z_58), .ref (a 0)])) ?_ ?_
          · intro z_58 ls hl hf
            refine lv_iconst (v := (5 : Int32)) hx hb d_MMo_looks_234 (by decide) ?_
            obtain ⟨u_60, eu_60, hf⟩ := bd1_inv hf
            refine z_wv' (u' := u_60) (z_runV (As := [.int (bI z_58), .int (5 : Int32)]) (rest := []) ⟨hx, hb, hml, hown, hts⟩ (c_MMo_wrong l D a k u_57 z_58 (5 : Int32) u_60 eu_60) (qM_Mo_128 hts (by decide)) hw 0 rfl rfl hl.1 rfl (lv_room (Nat.le_of_ble_eq_true rfl)) d_MMo_looks_235 hcs) hw hS (fun H locs hw hS => ?_)
            refine lv_aload_n hx hb d_MMo_looks_238 rfl (lv_at hl 0 rfl) ?_
            refine lv_aload_n hx hb d_MMo_looks_239 rfl (lv_at hl 0 rfl) ?_
            refine va_get (v := .int (mF u_60 8)) hx hb hts iM_Mo hown hw.2.1 hw.1 0 rfl rfl 16 (by decide) (hts _ kM_Mo_132) (fun _ h => h) rfl d_MMo_looks_240 ?_
            refine lv_sipush (v := (144 : Int32)) hx hb d_MMo_looks_243 (by decide) ?_
            refine lv_icmp_le (tgt := 274) hx hb d_MMo_looks_246 (by decide) (fun c_61 => ?_) (fun c_61 => ?_)
            · have hf := hf.trans (if_pos c_61)
              refine lv_iconst (v := (0 : Int32)) hx hb d_MMo_looks_274 (by decide) ?_
              refine lv_iconst (v := (5 : Int32)) hx hb d_MMo_looks_275 (by decide) ?_
              obtain ⟨u_62, eu_62, hf⟩ := bd1_inv hf
              refine z_wv' (u' := u_62) (z_runV (As := [.int (0 : Int32), .int (5 : Int32)]) (rest := []) ⟨hx, hb, hml, hown, hts⟩ (c_MMo_wrong l D a k u_60 false (5 : Int32) u_62 eu_62) (qM_Mo_128 hts (by decide)) hw 0 rfl rfl hl.1 rfl (lv_room (Nat.le_of_ble_eq_true rfl)) d_MMo_looks_276 hcs) hw hS (fun H locs hw hS => ?_)
              refine lv_goto (tgt := 484) hx hb d_MMo_looks_279 (by decide) ?_
              exact hret _ _ _ _ _ d_MMo_looks_484 hw hS (Option.some.inj hf)
            · have hf := hf.trans (if_neg c_61)
              refine lv_aload_n hx hb d_MMo_looks_249 rfl (lv_at hl 0 rfl) ?_
              refine va_get (v := .int (mF u_60 8)) hx hb hts iM_Mo hown hw.2.1 hw.1 0 rfl rfl 16 (by decide) (hts _ kM_Mo_132) (fun _ h => h) rfl d_MMo_looks_250 ?_
              refine lv_sipush (v := (152 : Int32)) hx hb d_MMo_looks_253 (by decide) ?_
              refine lv_icmp_ge (tgt := 274) hx hb d_MMo_looks_256 (by decide) (fun c_63 => ?_) (fun c_63 => ?_)
              · have hf := hf.trans (if_pos c_63)
                refine lv_iconst (v := (0 : Int32)) hx hb d_MMo_looks_274 (by decide) ?_
                refine lv_iconst (v := (5 : Int32)) hx hb d_MMo_looks_275 (by decide) ?_
                obtain ⟨u_64, eu_64, hf⟩ := bd1_inv hf
                refine z_wv' (u' := u_64) (z_runV (As := [.int (0 : Int32), .int (5 : Int32)]) (rest := []) ⟨hx, hb, hml, hown, hts⟩ (c_MMo_wrong l D a k u_60 false (5 : Int32) u_64 eu_64) (qM_Mo_128 hts (by decide)) hw 0 rfl rfl hl.1 rfl (lv_room (Nat.le_of_ble_eq_true rfl)) d_MMo_looks_276 hcs) hw hS (fun H locs hw hS => ?_)
                refine lv_goto (tgt := 484) hx hb d_MMo_looks_279 (by decide) ?_
                exact hret _ _ _ _ _ d_MMo_looks_484 hw hS (Option.some.inj hf)
              · have hf := hf.trans (if_neg c_63)
                refine lv_aload_n hx hb d_MMo_looks_259 rfl (lv_at hl 0 rfl) ?_
                refine va_get (v := .int (mF u_60 11)) hx hb hts iM_Mo hown hw.2.1 hw.1 0 rfl rfl 19 (by decide) (hts _ kM_Mo_149) (fun _ h => h) rfl d_MMo_looks_260 ?_
                refine lv_iconst (v := (1 : Int32)) hx hb d_MMo_looks_263 (by decide) ?_
                obtain ⟨z_65, ez_65, hf⟩ := bd1_inv hf
                refine z_rV (V := .int (bI z_65)) (z_runS (As := [.int (mF u_60 11), .int (1 : Int32)]) (rest := [.ref (a 0)]) ⟨hx, hb, hml, hown, hts⟩ (c_MMo_lies l D a k u_60 (mF u_60 11) (1 : Int32) z_65 ez_65) (qM_Mo_53 hts (by decide)) hw  hl.1 rfl (lv_room (Nat.le_of_ble_eq_true rfl)) d_MMo_looks_264 hcs) ?_
                refine lv_if_ne (tgt := 274) hx hb d_MMo_looks_267 (by decide) (fun c_66 => ?_) (fun c_66 => ?_)
                · have hf := hf.trans (if_neg c_66)
                  refine lv_iconst (v := (0 : Int32)) hx hb d_MMo_looks_274 (by decide) ?_
                  refine lv_iconst (v := (5 : Int32)) hx hb d_MMo_looks_275 (by decide) ?_
                  obtain ⟨u_67, eu_67, hf⟩ := bd1_inv hf
                  refine z_wv' (u' := u_67) (z_runV (As := [.int (0 : Int32), .int (5 : Int32)]) (rest := []) ⟨hx, hb, hml, hown, hts⟩ (c_MMo_wrong l D a k u_60 false (5 : Int32) u_67 eu_67) (qM_Mo_128 hts (by decide)) hw 0 rfl rfl hl.1 rfl (lv_room (Nat.le_of_ble_eq_true rfl)) d_MMo_looks_276 hcs) hw hS (fun H locs hw hS => ?_)
                  refine lv_goto (tgt := 484) hx hb d_MMo_looks_279 (by decide) ?_
                  exact hret _ _ _ _ _ d_MMo_looks_484 hw hS (Option.some.inj hf)
                · have hf := hf.trans (if_pos c_66)
                  refine lv_iconst (v := (1 : Int32)) hx hb d_MMo_looks_270 (by decide) ?_
                  refine lv_goto (tgt := 275) hx hb d_MMo_looks_271 (by decide) ?_
                  refine lv_iconst (v := (5 : Int32)) hx hb d_MMo_looks_275 (by decide) ?_
                  obtain ⟨u_68, eu_68, hf⟩ := bd1_inv hf
                  refine z_wv' (u' := u_68) (z_runV (As := [.int (1 : Int32), .int (5 : Int32)]) (rest := []) ⟨hx, hb, hml, hown, hts⟩ (c_MMo_wrong l D a k u_60 true (5 : Int32) u_68 eu_68) (qM_Mo_128 hts (by decide)) hw 0 rfl rfl hl.1 rfl (lv_room (Nat.le_of_ble_eq_true rfl)) d_MMo_looks_276 hcs) hw hS (fun H locs hw hS => ?_)
                  refine lv_goto (tgt := 484) hx hb d_MMo_looks_279 (by decide) ?_
                  exact hret _ _ _ _ _ d_MMo_looks_484 hw hS (Option.some.inj hf)
          · intro K_59 hK_59 hf
            refine jn_cut hf (fun (K_69 : Option (MS)) => ∀ (ls : Array Slot), lv_has ls 5 [(0, .ref (a 0))] → some F = K_69 → W p l e rm_MMo_looks st m args below meth c H locs 0 0 Q (F0 m 233 ls [.ref (a 0)])) ?_ ?_
            · intro ls hl hf
              refine lv_iconst (v := (0 : Int32)) hx hb d_MMo_looks_233 (by decide) ?_
              exact hK_59 false _ (lv_sub hl [0] rfl) hf
            · intro K_69 hK_69 hf
              refine jn_cut hf (fun (K_70 : Option (MS)) => ∀ (ls : Array Slot), lv_has ls 5 [(0, .ref (a 0)), (4, .int x_54)] → some F = K_70 → W p l e rm_MMo_looks st m args below meth c H locs 0 0 Q (F0 m 215 ls [.ref (a 0)])) ?_ ?_
              · intro ls hl hf
                refine lv_aload_n hx hb d_MMo_looks_215 rfl (lv_at hl 0 rfl) ?_
                refine va_get (v := .int (mF u_57 12)) hx hb hts iM_Mo hown hw.2.1 hw.1 0 rfl rfl 20 (by decide) (hts _ kM_Mo_152) (fun _ h => h) rfl d_MMo_looks_216 ?_
                refine lv_iconst (v := (4 : Int32)) hx hb d_MMo_looks_219 (by decide) ?_
                refine lv_iload hx hb d_MMo_looks_220 (lv_at hl 1 rfl) ?_
                refine lv_imul hx hb d_MMo_looks_222 ?_
                obtain ⟨z_71, ez_71, hf⟩ := bd1_inv hf
                refine z_rV (V := .int (bI z_71)) (z_runS (As := [.int (mF u_57 12), .int ((4 : Int32) * x_54)]) (rest := [.ref (a 0)]) ⟨hx, hb, hml, hown, hts⟩ (c_MMo_lies l D a k u_57 (mF u_57 12) ((4 : Int32) * x_54) z_71 ez_71) (qM_Mo_53 hts (by decide)) hw  hl.1 rfl (lv_room (Nat.le_of_ble_eq_true rfl)) d_MMo_looks_223 hcs) ?_
                refine lv_if_ne (tgt := 233) hx hb d_MMo_looks_226 (by decide) (fun c_72 => ?_) (fun c_72 => ?_)
                · have hf := hf.trans (if_neg c_72)
                  exact hK_69 _ (lv_sub hl [0] rfl) hf
                · have hf := hf.trans (if_pos c_72)
                  refine lv_iconst (v := (1 : Int32)) hx hb d_MMo_looks_229 (by decide) ?_
                  refine lv_goto (tgt := 234) hx hb d_MMo_looks_230 (by decide) ?_
                  exact hK_59 true _ (lv_sub hl [0] rfl) hf
              · intro K_70 hK_70 hf
                refine lv_icmp_eq (tgt := 215) hx hb d_MMo_looks_202 (by decide) (fun c_73 => ?_) (fun c_73 => ?_)
                · have hf := hf.trans (if_pos c_73)
                  exact hK_70 _ (lv_sub hl [0, 1] rfl) hf
                · have hf := hf.trans (if_neg c_73)
                  refine lv_aload_n hx hb d_MMo_looks_205 rfl (lv_at hl 0 rfl) ?_
                  refine va_get (v := .int (mF u_57 8)) hx hb hts iM_Mo hown hw.2.1 hw.1 0 rfl rfl 16 (by decide) (hts _ kM_Mo_132) (fun _ h => h) rfl d_MMo_looks_206 ?_
                  refine lv_sipush (v := (152 : Int32)) hx hb d_MMo_looks_209 (by decide) ?_
                  refine lv_icmp_ne (tgt := 233) hx hb d_MMo_looks_212 (by decide) (fun c_74 => ?_) (fun c_74 => ?_)
                  · have hf := hf.trans (if_neg c_74)
                    exact hK_69 _ (lv_sub hl [0] rfl) hf
                  · have hf := hf.trans (if_pos c_74)
                    exact hK_70 _ (lv_sub hl [0, 1] rfl) hf
        · intro K_56 hK_56 hf
          refine jn_cut hf (fun (K_75 : Option (MS)) => ∀ (ls : Array Slot), lv_has ls 5 [(0, .ref (a 0)), (4, .int x_54)] → some F = K_75 → W p l e rm_MMo_looks st m args below meth c H locs 0 0 Q (F0 m 188 ls [.ref (a 0)])) ?_ ?_
          · intro ls hl hf
            refine lv_iconst (v := (0 : Int32)) hx hb d_MMo_looks_188 (by decide) ?_
            exact hK_56 false _ (lv_sub hl [0, 1] rfl) hf
          · intro K_75 hK_75 hf
            refine jn_cut hf (fun (K_76 : Option (MS)) => ∀ (ls : Array Slot), lv_has ls 5 [(0, .ref (a 0)), (4, .int x_54)] → some F = K_76 → W p l e rm_MMo_looks st m args below meth c H locs 0 0 Q (F0 m 175 ls [.ref (a 0)])) ?_ ?_
            · intro ls hl hf
              refine lv_aload_n hx hb d_MMo_looks_175 rfl (lv_at hl 0 rfl) ?_
              refine va_get (v := .int (mF u0 12)) hx hb hts iM_Mo hown hw.2.1 hw.1 0 rfl rfl 20 (by decide) (hts _ kM_Mo_152) (fun _ h => h) rfl d_MMo_looks_176 ?_
              refine lv_iconst (v := (3 : Int32)) hx hb d_MMo_looks_179 (by decide) ?_
              refine lv_iand hx hb d_MMo_looks_180 ?_
              refine lv_if_le (tgt := 188) hx hb d_MMo_looks_181 (by decide) (fun c_77 => ?_) (fun c_77 => ?_)
              · have hf := hf.trans (if_pos c_77)
                exact hK_75 _ (lv_sub hl [0, 1] rfl) hf
              · have hf := hf.trans (if_neg c_77)
                refine lv_iconst (v := (1 : Int32)) hx hb d_MMo_looks_184 (by decide) ?_
                refine lv_goto (tgt := 189) hx hb d_MMo_looks_185 (by decide) ?_
                exact hK_56 true _ (lv_sub hl [0, 1] rfl) hf
            · intro K_76 hK_76 hf
              refine lv_icmp_eq (tgt := 175) hx hb d_MMo_looks_162 (by decide) (fun c_78 => ?_) (fun c_78 => ?_)
              · have hf := hf.trans (if_pos c_78)
                exact hK_76 _ (lv_sub hl [4, 0] rfl) hf
              · have hf := hf.trans (if_neg c_78)
                refine lv_aload_n hx hb d_MMo_looks_165 rfl (lv_at hl 4 rfl) ?_
                refine va_get (v := .int (mF u0 8)) hx hb hts iM_Mo hown hw.2.1 hw.1 0 rfl rfl 16 (by decide) (hts _ kM_Mo_132) (fun _ h => h) rfl d_MMo_looks_166 ?_
                refine lv_sipush (v := (152 : Int32)) hx hb d_MMo_looks_169 (by decide) ?_
                refine lv_icmp_ne (tgt := 188) hx hb d_MMo_looks_172 (by decide) (fun c_79 => ?_) (fun c_79 => ?_)
                · have hf := hf.trans (if_neg c_79)
                  exact hK_75 _ (lv_sub hl [4, 0] rfl) hf
                · have hf := hf.trans (if_pos c_79)
                  exact hK_76 _ (lv_sub hl [4, 0] rfl) hf
    · have hf := hf.trans (if_neg c_7)
      refine lv_aload_n hx hb d_MMo_looks_118 rfl (lv_at hl 3 rfl) ?_
      obtain ⟨u_80, eu_80, hf⟩ := bd1_inv hf
      refine z_wv' (u' := u_80) (z_runV (As := []) (rest := []) ⟨hx, hb, hml, hown, hts⟩ (c_MMo_looksAtWord l D a k u0 u_80 eu_80) (qM_Mo_169 hts (by decide)) hw 0 rfl rfl hl.1 rfl (lv_room (Nat.le_of_ble_eq_true rfl)) d_MMo_looks_119 hcs) hw hS (fun H locs hw hS => ?_)
      refine lv_goto (tgt := 484) hx hb d_MMo_looks_122 (by decide) ?_
      exact hret _ _ _ _ _ d_MMo_looks_484 hw hS (Option.some.inj hf)
  · have hf := hf.trans (if_neg c_6)
    refine lv_aload_n hx hb d_MMo_looks_30 rfl (lv_at hl 3 rfl) ?_
    refine lv_aload_n hx hb d_MMo_looks_31 rfl (lv_at hl 3 rfl) ?_
    refine va_get (v := .int (mF u0 8)) hx hb hts iM_Mo hown hw.2.1 hw.1 0 rfl rfl 16 (by decide) (hts _ kM_Mo_132) (fun _ h => h) rfl d_MMo_looks_32 ?_
    refine lv_bipush (v := (28 : Int32)) hx hb d_MMo_looks_35 (by decide) ?_
    refine jn_cut hf (fun (K_82 : Bool → Option (MS)) => ∀ (z_81 : Bool), ∀ (ls : Array Slot), lv_has ls 5 [(0, .ref (a 0))] → some F = K_82 z_81 → W p l e rm_MMo_looks st m args below meth c H locs 0 0 Q (F0 m 64 ls [.int (bI z_81), .ref (a 0)])) ?_ ?_
    · intro z_81 ls hl hf
      refine lv_bipush (v := (6 : Int32)) hx hb d_MMo_looks_64 (by decide) ?_
      obtain ⟨u_83, eu_83, hf⟩ := bd1_inv hf
      refine z_wv' (u' := u_83) (z_runV (As := [.int (bI z_81), .int (6 : Int32)]) (rest := []) ⟨hx, hb, hml, hown, hts⟩ (c_MMo_wrong l D a k u0 z_81 (6 : Int32) u_83 eu_83) (qM_Mo_128 hts (by decide)) hw 0 rfl rfl hl.1 rfl (lv_room (Nat.le_of_ble_eq_true rfl)) d_MMo_looks_66 hcs) hw hS (fun H locs hw hS => ?_)
      refine lv_aload_n hx hb d_MMo_looks_69 rfl (lv_at hl 0 rfl) ?_
      refine lv_aload_n hx hb d_MMo_looks_70 rfl (lv_at hl 0 rfl) ?_
      refine va_get (v := .int (mF u_83 8)) hx hb hts iM_Mo hown hw.2.1 hw.1 0 rfl rfl 16 (by decide) (hts _ kM_Mo_132) (fun _ h => h) rfl d_MMo_looks_71 ?_
      refine lv_bipush (v := (29 : Int32)) hx hb d_MMo_looks_74 (by decide) ?_
      refine lv_icmp_ne (tgt := 99) hx hb d_MMo_looks_76 (by decide) (fun c_84 => ?_) (fun c_84 => ?_)
      · have hf := hf.trans (if_neg c_84)
        refine lv_iconst (v := (0 : Int32)) hx hb d_MMo_looks_99 (by decide) ?_
        refine lv_bipush (v := (9 : Int32)) hx hb d_MMo_looks_100 (by decide) ?_
        obtain ⟨u_85, eu_85, hf⟩ := bd1_inv hf
        refine z_wv' (u' := u_85) (z_runV (As := [.int (0 : Int32), .int (9 : Int32)]) (rest := []) ⟨hx, hb, hml, hown, hts⟩ (c_MMo_wrong l D a k u_83 false (9 : Int32) u_85 eu_85) (qM_Mo_128 hts (by decide)) hw 0 rfl rfl hl.1 rfl (lv_room (Nat.le_of_ble_eq_true rfl)) d_MMo_looks_102 hcs) hw hS (fun H locs hw hS => ?_)
        refine lv_goto (tgt := 484) hx hb d_MMo_looks_105 (by decide) ?_
        exact hret _ _ _ _ _ d_MMo_looks_484 hw hS (Option.some.inj hf)
      · have hf := hf.trans (if_pos c_84)
        refine lv_aload_n hx hb d_MMo_looks_79 rfl (lv_at hl 0 rfl) ?_
        refine lv_aload_n hx hb d_MMo_looks_80 rfl (lv_at hl 0 rfl) ?_
        refine va_get (v := .ref (a 2)) hx hb hts iM_Mo hown hw.2.1 hw.1 0 rfl rfl 1 (by decide) (hts _ kM_Mo_13) (fun _ h => h) rfl d_MMo_looks_81 ?_
        refine lv_aload_n hx hb d_MMo_looks_84 rfl (lv_at hl 0 rfl) ?_
        obtain ⟨x_86, ex_86, hf⟩ := bd1_inv hf
        refine z_rV (V := .int x_86) (z_runV (As := []) (rest := [.ref (a 2), .ref (a 0), .ref (a 0)]) ⟨hx, hb, hml, hown, hts⟩ (c_MMo_low l D a k u_83 x_86 ex_86) (qM_Mo_159 hts (by decide)) hw 0 rfl rfl hl.1 rfl (lv_room (Nat.le_of_ble_eq_true rfl)) d_MMo_looks_85 hcs) ?_
        obtain ⟨i_87, hf⟩ := ckI_inv hf
        refine va_iald hx hb hw.2.1 hw.1 2 1 rfl rfl i_87 d_MMo_looks_88 ?_
        obtain ⟨z_88, ez_88, hf⟩ := bd1_inv hf
        refine z_rV (V := .int (bI z_88)) (z_runV (As := [.int (mA u_83 2 (Int32.toNatClampNeg x_86))]) (rest := [.ref (a 0)]) ⟨hx, hb, hml, hown, hts⟩ (c_MMo_divides l D a k u_83 (mA u_83 2 (Int32.toNatClampNeg x_86)) z_88 ez_88) (qM_Mo_166 hts (by decide)) hw 0 rfl rfl hl.1 rfl (lv_room (Nat.le_of_ble_eq_true rfl)) d_MMo_looks_89 hcs) ?_
        refine lv_if_ne (tgt := 99) hx hb d_MMo_looks_92 (by decide) (fun c_89 => ?_) (fun c_89 => ?_)
        · have hf := hf.trans (if_neg c_89)
          refine lv_iconst (v := (0 : Int32)) hx hb d_MMo_looks_99 (by decide) ?_
          refine lv_bipush (v := (9 : Int32)) hx hb d_MMo_looks_100 (by decide) ?_
          obtain ⟨u_90, eu_90, hf⟩ := bd1_inv hf
          refine z_wv' (u' := u_90) (z_runV (As := [.int (0 : Int32), .int (9 : Int32)]) (rest := []) ⟨hx, hb, hml, hown, hts⟩ (c_MMo_wrong l D a k u_83 false (9 : Int32) u_90 eu_90) (qM_Mo_128 hts (by decide)) hw 0 rfl rfl hl.1 rfl (lv_room (Nat.le_of_ble_eq_true rfl)) d_MMo_looks_102 hcs) hw hS (fun H locs hw hS => ?_)
          refine lv_goto (tgt := 484) hx hb d_MMo_looks_105 (by decide) ?_
          exact hret _ _ _ _ _ d_MMo_looks_484 hw hS (Option.some.inj hf)
        · have hf := hf.trans (if_pos c_89)
          refine lv_iconst (v := (1 : Int32)) hx hb d_MMo_looks_95 (by decide) ?_
          refine lv_goto (tgt := 100) hx hb d_MMo_looks_96 (by decide) ?_
          refine lv_bipush (v := (9 : Int32)) hx hb d_MMo_looks_100 (by decide) ?_
          obtain ⟨u_91, eu_91, hf⟩ := bd1_inv hf
          refine z_wv' (u' := u_91) (z_runV (As := [.int (1 : Int32), .int (9 : Int32)]) (rest := []) ⟨hx, hb, hml, hown, hts⟩ (c_MMo_wrong l D a k u_83 true (9 : Int32) u_91 eu_91) (qM_Mo_128 hts (by decide)) hw 0 rfl rfl hl.1 rfl (lv_room (Nat.le_of_ble_eq_true rfl)) d_MMo_looks_102 hcs) hw hS (fun H locs hw hS => ?_)
          refine lv_goto (tgt := 484) hx hb d_MMo_looks_105 (by decide) ?_
          exact hret _ _ _ _ _ d_MMo_looks_484 hw hS (Option.some.inj hf)
    · intro K_82 hK_82 hf
      refine jn_cut hf (fun (K_92 : Option (MS)) => ∀ (ls : Array Slot), lv_has ls 5 [(0, .ref (a 0))] → some F = K_92 → W p l e rm_MMo_looks st m args below meth c H locs 0 0 Q (F0 m 63 ls [.ref (a 0)])) ?_ ?_
      · intro ls hl hf
        refine lv_iconst (v := (0 : Int32)) hx hb d_MMo_looks_63 (by decide) ?_
        exact hK_82 false _ (lv_sub hl [0] rfl) hf
      · intro K_92 hK_92 hf
        refine jn_cut hf (fun (K_93 : Option (MS)) => ∀ (ls : Array Slot), lv_has ls 5 [(0, .ref (a 0))] → some F = K_93 → W p l e rm_MMo_looks st m args below meth c H locs 0 0 Q (F0 m 49 ls [.ref (a 0)])) ?_ ?_
        · intro ls hl hf
          refine lv_aload_n hx hb d_MMo_looks_49 rfl (lv_at hl 0 rfl) ?_
          obtain ⟨x_94, ex_94, hf⟩ := bd1_inv hf
          refine z_rV (V := .int x_94) (z_runV (As := []) (rest := [.ref (a 0)]) ⟨hx, hb, hml, hown, hts⟩ (c_MMo_high l D a k u0 x_94 ex_94) (qM_Mo_163 hts (by decide)) hw 0 rfl rfl hl.1 rfl (lv_room (Nat.le_of_ble_eq_true rfl)) d_MMo_looks_50 hcs) ?_
          refine lv_iconst (v := (1 : Int32)) hx hb d_MMo_looks_53 (by decide) ?_
          refine lv_iand hx hb d_MMo_looks_54 ?_
          refine lv_iconst (v := (1 : Int32)) hx hb d_MMo_looks_55 (by decide) ?_
          refine lv_icmp_ne (tgt := 63) hx hb d_MMo_looks_56 (by decide) (fun c_95 => ?_) (fun c_95 => ?_)
          · have hf := hf.trans (if_neg c_95)
            exact hK_92 _ (lv_sub hl [0] rfl) hf
          · have hf := hf.trans (if_pos c_95)
            refine lv_iconst (v := (1 : Int32)) hx hb d_MMo_looks_59 (by decide) ?_
            refine lv_goto (tgt := 64) hx hb d_MMo_looks_60 (by decide) ?_
            exact hK_82 true _ (lv_sub hl [0] rfl) hf
        · intro K_93 hK_93 hf
          refine lv_icmp_eq (tgt := 49) hx hb d_MMo_looks_37 (by decide) (fun c_96 => ?_) (fun c_96 => ?_)
          · have hf := hf.trans (if_pos c_96)
            exact hK_93 _ (lv_sub hl [3] rfl) hf
          · have hf := hf.trans (if_neg c_96)
            refine lv_aload_n hx hb d_MMo_looks_40 rfl (lv_at hl 3 rfl) ?_
            refine va_get (v := .int (mF u0 8)) hx hb hts iM_Mo hown hw.2.1 hw.1 0 rfl rfl 16 (by decide) (hts _ kM_Mo_132) (fun _ h => h) rfl d_MMo_looks_41 ?_
            refine lv_bipush (v := (29 : Int32)) hx hb d_MMo_looks_44 (by decide) ?_
            refine lv_icmp_ne (tgt := 63) hx hb d_MMo_looks_46 (by decide) (fun c_97 => ?_) (fun c_97 => ?_)
            · have hf := hf.trans (if_neg c_97)
              exact hK_92 _ (lv_sub hl [3] rfl) hf
            · have hf := hf.trans (if_pos c_97)
              exact hK_93 _ (lv_sub hl [3] rfl) hf
