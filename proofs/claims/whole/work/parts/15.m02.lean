set_option maxHeartbeats 4000000 in
set_option maxRecDepth 100000 in
theorem c_MMo_ss (l : Launch) (D : va_G) (a : Nat → Nat) (k : Nat → ClassId) (u0 : MS) (x1 : Int32) (x2 : Int32) (x3 : Int32) (x4 : Int32) (x5 : Int32) (x6 : Int32) (x7 : Int32) (F : Int32 × MS) (hf : f_MMo_ss u0 x1 x2 x3 x4 x5 x6 x7 = some F) : zMi l y_MMo_ss w_MMo_ss rm_MMo_ss D clM (tyM k) nwM (mW a k) [.ref (a 0), .int x1, .int x2, .int x3, .int x4, .int x5, .int x6, .int x7] u0 F := by
  have hf := hf.symm
  unfold f_MMo_ss at hf
  refine zMi_of (cc := b_MMo_ss) (maxL := 8) (own := RM_Mo) (by decide) rfl rfl (Nat.le_of_ble_eq_true rfl) ?_
  intro p e R st m args below meth c A H locs Q ls hR hx hb hml hown hts hw hS hret hl
  subst hR
  have hcs : 0 ≤ (rm_MMo_ss).cells ∧ 0 ≤ (rm_MMo_ss).slots := ⟨Nat.zero_le _, Nat.zero_le _⟩
  have hl : lv_has ls 8 [(0, .ref (a 0)), (1, .int x1), (2, .int x2), (3, .int x3), (4, .int x4), (5, .int x5), (6, .int x6), (7, .int x7)] := hl
  refine lv_aload_n hx hb d_MMo_ss_0 rfl (lv_at hl 0 rfl) ?_
  refine lv_iconst (v := (0 : Int32)) hx hb d_MMo_ss_1 (by decide) ?_
  refine z_put (u' := msF u0 0 (0 : Int32)) hx hb hts iM_Mo tM_Mo tM_Mo_ok nM_Mo hown hw hS 0 rfl rfl 8 (by decide) (hts _ kM_Mo_38) (fun _ h => h) rfl rfl (Nat.le_of_ble_eq_true rfl) rfl d_MMo_ss_2 (fun u_1 H locs eu_1 hw hS => ?_)
  have hf := hf.trans (nm_eq eu_1)
  refine lv_aload_n hx hb d_MMo_ss_5 rfl (lv_at hl 0 rfl) ?_
  refine lv_iload_n hx hb d_MMo_ss_6 rfl (lv_at hl 2 rfl) ?_
  refine lv_i2l (v := Int32.toInt64 x2) hx hb d_MMo_ss_7 rfl ?_
  refine lv_ldc2 (v := (192 : Int64)) hx hb hown (hts _ kM_Mo_84) d_MMo_ss_8 ?_
  refine lv_ldc2 (v := (255 : Int64)) hx hb hown (hts _ kM_Mo_45) d_MMo_ss_11 ?_
  obtain ⟨z_2, ez_2, hf⟩ := bd1_inv hf
  refine z_rV (V := .int (bI z_2)) (z_runS (As := [.long (Int32.toInt64 x2), .long (192 : Int64), .long (255 : Int64)]) (rest := [.ref (a 0)]) ⟨hx, hb, hml, hown, hts⟩ (c_MMo_in l D a k u_1 (Int32.toInt64 x2) (192 : Int64) (255 : Int64) z_2 ez_2) (qM_Mo_41 hts (by decide)) hw  hl.1 rfl (lv_room (Nat.le_of_ble_eq_true rfl)) d_MMo_ss_14 hcs) ?_
  refine jn_cut hf (fun (K_4 : Bool → Option (Int32 × MS)) => ∀ (z_3 : Bool), ∀ (ls : Array Slot), lv_has ls 8 [(0, .ref (a 0)), (1, .int x1), (2, .int x2), (3, .int x3), (4, .int x4), (5, .int x5), (6, .int x6), (7, .int x7)] → some F = K_4 z_3 → W p l e rm_MMo_ss st m args below meth c H locs 0 0 Q (F0 m 89 ls [.int (bI z_3), .ref (a 0)])) ?_ ?_
  · intro z_3 ls hl hf
    refine lv_iconst (v := (1 : Int32)) hx hb d_MMo_ss_89 (by decide) ?_
    obtain ⟨z_6, u_5, ez_6, hf⟩ := bd2_inv hf
    refine z_wz' (r := z_6) (u' := u_5) (z_runV (As := [.int (bI z_3), .int (1 : Int32)]) (rest := []) ⟨hx, hb, hml, hown, hts⟩ (c_MMo_fails l D a k u_1 z_3 (1 : Int32) (z_6, u_5) ez_6) (qM_Mo_49 hts (by decide)) hw 0 rfl rfl hl.1 rfl (lv_room (Nat.le_of_ble_eq_true rfl)) d_MMo_ss_90 hcs) hw hS (fun H locs hw hS => ?_)
    refine lv_if_ne (tgt := 118) hx hb d_MMo_ss_93 (by decide) (fun c_7 => ?_) (fun c_7 => ?_)
    · have hf := hf.trans (if_neg c_7)
      refine lv_iconst (v := (0 : Int32)) hx hb d_MMo_ss_118 (by decide) ?_
      exact hret (0 : Int32) _ _ _ _ _ d_MMo_ss_119 hw hS (Option.some.inj hf)
    · have hf := hf.trans (if_pos c_7)
      refine lv_aload_n hx hb d_MMo_ss_96 rfl (lv_at hl 0 rfl) ?_
      refine lv_iload_n hx hb d_MMo_ss_97 rfl (lv_at hl 1 rfl) ?_
      refine lv_bipush (v := (6 : Int32)) hx hb d_MMo_ss_98 (by decide) ?_
      obtain ⟨z_8, ez_8, hf⟩ := bd1_inv hf
      refine z_rV (V := .int (bI z_8)) (z_runS (As := [.int x1, .int (6 : Int32)]) (rest := [.ref (a 0)]) ⟨hx, hb, hml, hown, hts⟩ (c_MMo_lies l D a k u_5 x1 (6 : Int32) z_8 ez_8) (qM_Mo_53 hts (by decide)) hw  hl.1 rfl (lv_room (Nat.le_of_ble_eq_true rfl)) d_MMo_ss_100 hcs) ?_
      refine jn_cut hf (fun (K_10 : Bool → Option (Int32 × MS)) => ∀ (z_9 : Bool), ∀ (ls : Array Slot), lv_has ls 8 [(0, .ref (a 0)), (1, .int x1), (2, .int x2), (3, .int x3), (4, .int x4), (5, .int x5), (6, .int x6), (7, .int x7)] → some F = K_10 z_9 → W p l e rm_MMo_ss st m args below meth c H locs 0 0 Q (F0 m 111 ls [.int (bI z_9), .ref (a 0)])) ?_ ?_
      · intro z_9 ls hl hf
        refine lv_iconst (v := (2 : Int32)) hx hb d_MMo_ss_111 (by decide) ?_
        obtain ⟨z_12, u_11, ez_12, hf⟩ := bd2_inv hf
        refine z_wz' (r := z_12) (u' := u_11) (z_runV (As := [.int (bI z_9), .int (2 : Int32)]) (rest := []) ⟨hx, hb, hml, hown, hts⟩ (c_MMo_fails l D a k u_5 z_9 (2 : Int32) (z_12, u_11) ez_12) (qM_Mo_49 hts (by decide)) hw 0 rfl rfl hl.1 rfl (lv_room (Nat.le_of_ble_eq_true rfl)) d_MMo_ss_112 hcs) hw hS (fun H locs hw hS => ?_)
        refine lv_if_eq (tgt := 120) hx hb d_MMo_ss_115 (by decide) (fun c_13 => ?_) (fun c_13 => ?_)
        · have hf := hf.trans (if_pos c_13)
          refine lv_aload_n hx hb d_MMo_ss_120 rfl (lv_at hl 0 rfl) ?_
          refine lv_iload_n hx hb d_MMo_ss_121 rfl (lv_at hl 1 rfl) ?_
          refine lv_bipush (v := (6 : Int32)) hx hb d_MMo_ss_122 (by decide) ?_
          refine lv_iload_n hx hb d_MMo_ss_124 rfl (lv_at hl 2 rfl) ?_
          refine lv_i2l (v := Int32.toInt64 x2) hx hb d_MMo_ss_125 rfl ?_
          refine lv_bipush (v := (40 : Int32)) hx hb d_MMo_ss_126 (by decide) ?_
          refine lv_lshl (v := (Int32.toInt64 x2) <<< (Int32.toInt64 (40 : Int32) &&& 63)) hx hb d_MMo_ss_128 rfl ?_
          refine lv_iload_n hx hb d_MMo_ss_129 rfl (lv_at hl 3 rfl) ?_
          refine lv_i2l (v := Int32.toInt64 x3) hx hb d_MMo_ss_130 rfl ?_
          refine lv_bipush (v := (32 : Int32)) hx hb d_MMo_ss_131 (by decide) ?_
          refine lv_lshl (v := (Int32.toInt64 x3) <<< (Int32.toInt64 (32 : Int32) &&& 63)) hx hb d_MMo_ss_133 rfl ?_
          refine lv_lor hx hb d_MMo_ss_134 ?_
          refine lv_iload hx hb d_MMo_ss_135 (lv_at hl 4 rfl) ?_
          refine lv_i2l (v := Int32.toInt64 x4) hx hb d_MMo_ss_137 rfl ?_
          refine lv_bipush (v := (28 : Int32)) hx hb d_MMo_ss_138 (by decide) ?_
          refine lv_lshl (v := (Int32.toInt64 x4) <<< (Int32.toInt64 (28 : Int32) &&& 63)) hx hb d_MMo_ss_140 rfl ?_
          refine lv_lor hx hb d_MMo_ss_141 ?_
          refine lv_iload hx hb d_MMo_ss_142 (lv_at hl 5 rfl) ?_
          refine lv_i2l (v := Int32.toInt64 x5) hx hb d_MMo_ss_144 rfl ?_
          refine lv_bipush (v := (16 : Int32)) hx hb d_MMo_ss_145 (by decide) ?_
          refine lv_lshl (v := (Int32.toInt64 x5) <<< (Int32.toInt64 (16 : Int32) &&& 63)) hx hb d_MMo_ss_147 rfl ?_
          refine lv_lor hx hb d_MMo_ss_148 ?_
          refine lv_iload hx hb d_MMo_ss_149 (lv_at hl 6 rfl) ?_
          refine lv_bipush (v := (12 : Int32)) hx hb d_MMo_ss_151 (by decide) ?_
          refine lv_ishl hx hb d_MMo_ss_153 ?_
          refine lv_i2l (v := Int32.toInt64 (x6 <<< ((12 : Int32) &&& 31))) hx hb d_MMo_ss_154 rfl ?_
          refine lv_lor hx hb d_MMo_ss_155 ?_
          refine lv_iload hx hb d_MMo_ss_156 (lv_at hl 7 rfl) ?_
          refine lv_i2l (v := Int32.toInt64 x7) hx hb d_MMo_ss_158 rfl ?_
          refine lv_lor hx hb d_MMo_ss_159 ?_
          obtain ⟨u_14, eu_14, hf⟩ := bd1_inv hf
          refine z_wv' (u' := u_14) (z_runV (As := [.int x1, .int (6 : Int32), .long (((((((Int32.toInt64 x2) <<< (Int32.toInt64 (40 : Int32) &&& 63)) ||| ((Int32.toInt64 x3) <<< (Int32.toInt64 (32 : Int32) &&& 63))) ||| ((Int32.toInt64 x4) <<< (Int32.toInt64 (28 : Int32) &&& 63))) ||| ((Int32.toInt64 x5) <<< (Int32.toInt64 (16 : Int32) &&& 63))) ||| (Int32.toInt64 (x6 <<< ((12 : Int32) &&& 31)))) ||| (Int32.toInt64 x7))]) (rest := []) ⟨hx, hb, hml, hown, hts⟩ (c_MMo_store l D a k u_11 x1 (6 : Int32) (((((((Int32.toInt64 x2) <<< (Int32.toInt64 (40 : Int32) &&& 63)) ||| ((Int32.toInt64 x3) <<< (Int32.toInt64 (32 : Int32) &&& 63))) ||| ((Int32.toInt64 x4) <<< (Int32.toInt64 (28 : Int32) &&& 63))) ||| ((Int32.toInt64 x5) <<< (Int32.toInt64 (16 : Int32) &&& 63))) ||| (Int32.toInt64 (x6 <<< ((12 : Int32) &&& 31)))) ||| (Int32.toInt64 x7)) u_14 eu_14) (qM_Mo_57 hts (by decide)) hw 0 rfl rfl hl.1 rfl (lv_room (Nat.le_of_ble_eq_true rfl)) d_MMo_ss_160 hcs) hw hS (fun H locs hw hS => ?_)
          refine lv_iload_n hx hb d_MMo_ss_163 rfl (lv_at hl 1 rfl) ?_
          refine lv_bipush (v := (6 : Int32)) hx hb d_MMo_ss_164 (by decide) ?_
          refine lv_iadd hx hb d_MMo_ss_166 ?_
          exact hret (x1 + (6 : Int32)) _ _ _ _ _ d_MMo_ss_167 hw hS (Option.some.inj hf)
        · have hf := hf.trans (if_neg c_13)
          refine lv_iconst (v := (0 : Int32)) hx hb d_MMo_ss_118 (by decide) ?_
          exact hret (0 : Int32) _ _ _ _ _ d_MMo_ss_119 hw hS (Option.some.inj hf)
      · intro K_10 hK_10 hf
        refine lv_if_ne (tgt := 110) hx hb d_MMo_ss_103 (by decide) (fun c_15 => ?_) (fun c_15 => ?_)
        · have hf := hf.trans (if_neg c_15)
          refine lv_iconst (v := (0 : Int32)) hx hb d_MMo_ss_110 (by decide) ?_
          exact hK_10 false _ (lv_sub hl [0, 1, 2, 3, 4, 5, 6, 7] rfl) hf
        · have hf := hf.trans (if_pos c_15)
          refine lv_iconst (v := (1 : Int32)) hx hb d_MMo_ss_106 (by decide) ?_
          refine lv_goto (tgt := 111) hx hb d_MMo_ss_107 (by decide) ?_
          exact hK_10 true _ (lv_sub hl [0, 1, 2, 3, 4, 5, 6, 7] rfl) hf
  · intro K_4 hK_4 hf
    refine jn_cut hf (fun (K_16 : Option (Int32 × MS)) => ∀ (ls : Array Slot), lv_has ls 8 [(0, .ref (a 0)), (1, .int x1), (2, .int x2), (3, .int x3), (4, .int x4), (5, .int x5), (6, .int x6), (7, .int x7)] → some F = K_16 → W p l e rm_MMo_ss st m args below meth c H locs 0 0 Q (F0 m 84 ls [.ref (a 0)])) ?_ ?_
    · intro ls hl hf
      refine lv_iconst (v := (1 : Int32)) hx hb d_MMo_ss_84 (by decide) ?_
      refine lv_goto (tgt := 89) hx hb d_MMo_ss_85 (by decide) ?_
      exact hK_4 true _ (lv_sub hl [0, 1, 2, 3, 4, 5, 6, 7] rfl) hf
    · intro K_16 hK_16 hf
      refine lv_if_eq (tgt := 84) hx hb d_MMo_ss_17 (by decide) (fun c_17 => ?_) (fun c_17 => ?_)
      · have hf := hf.trans (if_pos c_17)
        exact hK_16 _ (lv_sub hl [0, 1, 2, 3, 4, 5, 6, 7] rfl) hf
      · have hf := hf.trans (if_neg c_17)
        refine lv_iload_n hx hb d_MMo_ss_20 rfl (lv_at hl 3 rfl) ?_
        refine lv_i2l (v := Int32.toInt64 x3) hx hb d_MMo_ss_21 rfl ?_
        refine lv_lconst (v := 0) hx hb d_MMo_ss_22 (by decide) ?_
        refine lv_ldc2 (v := (255 : Int64)) hx hb hown (hts _ kM_Mo_45) d_MMo_ss_23 ?_
        obtain ⟨z_18, ez_18, hf⟩ := bd1_inv hf
        refine z_rV (V := .int (bI z_18)) (z_runS (As := [.long (Int32.toInt64 x3), .long (0 : Int64), .long (255 : Int64)]) (rest := [.ref (a 0)]) ⟨hx, hb, hml, hown, hts⟩ (c_MMo_in l D a k u_1 (Int32.toInt64 x3) (0 : Int64) (255 : Int64) z_18 ez_18) (qM_Mo_41 hts (by decide)) hw  hl.1 rfl (lv_room (Nat.le_of_ble_eq_true rfl)) d_MMo_ss_26 hcs) ?_
        refine lv_if_eq (tgt := 84) hx hb d_MMo_ss_29 (by decide) (fun c_19 => ?_) (fun c_19 => ?_)
        · have hf := hf.trans (if_pos c_19)
          exact hK_16 _ (lv_sub hl [0, 1, 2, 3, 4, 5, 6, 7] rfl) hf
        · have hf := hf.trans (if_neg c_19)
          refine lv_iload hx hb d_MMo_ss_32 (lv_at hl 4 rfl) ?_
          refine lv_i2l (v := Int32.toInt64 x4) hx hb d_MMo_ss_34 rfl ?_
          refine lv_lconst (v := 0) hx hb d_MMo_ss_35 (by decide) ?_
          refine lv_ldc2 (v := (15 : Int64)) hx hb hown (hts _ kM_Mo_61) d_MMo_ss_36 ?_
          obtain ⟨z_20, ez_20, hf⟩ := bd1_inv hf
          refine z_rV (V := .int (bI z_20)) (z_runS (As := [.long (Int32.toInt64 x4), .long (0 : Int64), .long (15 : Int64)]) (rest := [.ref (a 0)]) ⟨hx, hb, hml, hown, hts⟩ (c_MMo_in l D a k u_1 (Int32.toInt64 x4) (0 : Int64) (15 : Int64) z_20 ez_20) (qM_Mo_41 hts (by decide)) hw  hl.1 rfl (lv_room (Nat.le_of_ble_eq_true rfl)) d_MMo_ss_39 hcs) ?_
          refine lv_if_eq (tgt := 84) hx hb d_MMo_ss_42 (by decide) (fun c_21 => ?_) (fun c_21 => ?_)
          · have hf := hf.trans (if_pos c_21)
            exact hK_16 _ (lv_sub hl [0, 1, 2, 3, 4, 5, 6, 7] rfl) hf
          · have hf := hf.trans (if_neg c_21)
            refine lv_iload hx hb d_MMo_ss_45 (lv_at hl 5 rfl) ?_
            refine lv_i2l (v := Int32.toInt64 x5) hx hb d_MMo_ss_47 rfl ?_
            refine lv_lconst (v := 0) hx hb d_MMo_ss_48 (by decide) ?_
            refine lv_ldc2 (v := (4095 : Int64)) hx hb hown (hts _ kM_Mo_82) d_MMo_ss_49 ?_
            obtain ⟨z_22, ez_22, hf⟩ := bd1_inv hf
            refine z_rV (V := .int (bI z_22)) (z_runS (As := [.long (Int32.toInt64 x5), .long (0 : Int64), .long (4095 : Int64)]) (rest := [.ref (a 0)]) ⟨hx, hb, hml, hown, hts⟩ (c_MMo_in l D a k u_1 (Int32.toInt64 x5) (0 : Int64) (4095 : Int64) z_22 ez_22) (qM_Mo_41 hts (by decide)) hw  hl.1 rfl (lv_room (Nat.le_of_ble_eq_true rfl)) d_MMo_ss_52 hcs) ?_
            refine lv_if_eq (tgt := 84) hx hb d_MMo_ss_55 (by decide) (fun c_23 => ?_) (fun c_23 => ?_)
            · have hf := hf.trans (if_pos c_23)
              exact hK_16 _ (lv_sub hl [0, 1, 2, 3, 4, 5, 6, 7] rfl) hf
            · have hf := hf.trans (if_neg c_23)
              refine lv_iload hx hb d_MMo_ss_58 (lv_at hl 6 rfl) ?_
              refine lv_i2l (v := Int32.toInt64 x6) hx hb d_MMo_ss_60 rfl ?_
              refine lv_lconst (v := 0) hx hb d_MMo_ss_61 (by decide) ?_
              refine lv_ldc2 (v := (15 : Int64)) hx hb hown (hts _ kM_Mo_61) d_MMo_ss_62 ?_
              obtain ⟨z_24, ez_24, hf⟩ := bd1_inv hf
              refine z_rV (V := .int (bI z_24)) (z_runS (As := [.long (Int32.toInt64 x6), .long (0 : Int64), .long (15 : Int64)]) (rest := [.ref (a 0)]) ⟨hx, hb, hml, hown, hts⟩ (c_MMo_in l D a k u_1 (Int32.toInt64 x6) (0 : Int64) (15 : Int64) z_24 ez_24) (qM_Mo_41 hts (by decide)) hw  hl.1 rfl (lv_room (Nat.le_of_ble_eq_true rfl)) d_MMo_ss_65 hcs) ?_
              refine lv_if_eq (tgt := 84) hx hb d_MMo_ss_68 (by decide) (fun c_25 => ?_) (fun c_25 => ?_)
              · have hf := hf.trans (if_pos c_25)
                exact hK_16 _ (lv_sub hl [0, 1, 2, 3, 4, 5, 6, 7] rfl) hf
              · have hf := hf.trans (if_neg c_25)
                refine lv_iload hx hb d_MMo_ss_71 (lv_at hl 7 rfl) ?_
                refine lv_i2l (v := Int32.toInt64 x7) hx hb d_MMo_ss_73 rfl ?_
                refine lv_lconst (v := 0) hx hb d_MMo_ss_74 (by decide) ?_
                refine lv_ldc2 (v := (4095 : Int64)) hx hb hown (hts _ kM_Mo_82) d_MMo_ss_75 ?_
                obtain ⟨z_26, ez_26, hf⟩ := bd1_inv hf
                refine z_rV (V := .int (bI z_26)) (z_runS (As := [.long (Int32.toInt64 x7), .long (0 : Int64), .long (4095 : Int64)]) (rest := [.ref (a 0)]) ⟨hx, hb, hml, hown, hts⟩ (c_MMo_in l D a k u_1 (Int32.toInt64 x7) (0 : Int64) (4095 : Int64) z_26 ez_26) (qM_Mo_41 hts (by decide)) hw  hl.1 rfl (lv_room (Nat.le_of_ble_eq_true rfl)) d_MMo_ss_78 hcs) ?_
                refine lv_if_ne (tgt := 88) hx hb d_MMo_ss_81 (by decide) (fun c_27 => ?_) (fun c_27 => ?_)
                · have hf := hf.trans (if_neg c_27)
                  refine lv_iconst (v := (0 : Int32)) hx hb d_MMo_ss_88 (by decide) ?_
                  exact hK_4 false _ (lv_sub hl [0, 1, 2, 3, 4, 5, 6, 7] rfl) hf
                · have hf := hf.trans (if_pos c_27)
                  exact hK_16 _ (lv_sub hl [0, 1, 2, 3, 4, 5, 6, 7] rfl) hf
set_option maxHeartbeats 4000000 in
set_option maxRecDepth 100000 in
theorem c_MMo_wrong (l : Launch) (D : va_G) (a : Nat → Nat) (k : Nat → ClassId) (u0 : MS) (z1 : Bool) (x2 : Int32) (F : MS) (hf : f_MMo_wrong u0 z1 x2 = some F) : zMv l y_MMo_wrong w_MMo_wrong rm_MMo_wrong D clM (tyM k) nwM (mW a k) [.ref (a 0), .int (bI z1), .int x2] u0 F := by
  have hf := hf.symm
  unfold f_MMo_wrong at hf
  refine zMv_of (cc := b_MMo_wrong) (maxL := 3) (own := RM_Mo) (by decide) rfl rfl (Nat.le_of_ble_eq_true rfl) ?_
  intro p e R st m args below meth c A H locs Q ls hR hx hb hml hown hts hw hS hret hl
  subst hR
  have hcs : 0 ≤ (rm_MMo_wrong).cells ∧ 0 ≤ (rm_MMo_wrong).slots := ⟨Nat.zero_le _, Nat.zero_le _⟩
  have hl : lv_has ls 3 [(0, .ref (a 0)), (1, .int (bI z1)), (2, .int x2)] := hl
  refine lv_iload_n hx hb d_MMo_wrong_0 rfl (lv_at hl 1 rfl) ?_
  refine lv_if_eq (tgt := 16) hx hb d_MMo_wrong_1 (by decide) (fun c_1 => ?_) (fun c_1 => ?_)
  · have hf := hf.trans (if_pos c_1)
    exact hret _ _ _ _ _ d_MMo_wrong_16 hw hS (Option.some.inj hf)
  · have hf := hf.trans (if_neg c_1)
    refine lv_aload_n hx hb d_MMo_wrong_4 rfl (lv_at hl 0 rfl) ?_
    refine va_get (v := .int (mF u0 13)) hx hb hts iM_Mo hown hw.2.1 hw.1 0 rfl rfl 21 (by decide) (hts _ kM_Mo_86) (fun _ h => h) rfl d_MMo_wrong_5 ?_
    refine lv_if_ne (tgt := 16) hx hb d_MMo_wrong_8 (by decide) (fun c_2 => ?_) (fun c_2 => ?_)
    · have hf := hf.trans (if_neg c_2)
      exact hret _ _ _ _ _ d_MMo_wrong_16 hw hS (Option.some.inj hf)
    · have hf := hf.trans (if_pos c_2)
      refine lv_aload_n hx hb d_MMo_wrong_11 rfl (lv_at hl 0 rfl) ?_
      refine lv_iload_n hx hb d_MMo_wrong_12 rfl (lv_at hl 2 rfl) ?_
      refine z_put (u' := msF u0 13 x2) hx hb hts iM_Mo tM_Mo tM_Mo_ok nM_Mo hown hw hS 0 rfl rfl 21 (by decide) (hts _ kM_Mo_86) (fun _ h => h) rfl rfl (Nat.le_of_ble_eq_true rfl) rfl d_MMo_wrong_13 (fun u_3 H locs eu_3 hw hS => ?_)
      have hf := hf.trans (nm_eq eu_3)
      exact hret _ _ _ _ _ d_MMo_wrong_16 hw hS (Option.some.inj hf)
set_option maxHeartbeats 4000000 in
set_option maxRecDepth 100000 in
theorem c_MMo_based (l : Launch) (D : va_G) (a : Nat → Nat) (k : Nat → ClassId) (u0 : MS) (x1 : Int32) (F : Int32) (hf : f_MMo_based u0 x1 = some F) : zRi l y_MMo_based w_MMo_based rm_MMo_based D clM (tyM k) nwM (mW a k) [.ref (a 0), .int x1] u0 F := by
  have hf := hf.symm
  unfold f_MMo_based at hf
  refine zRi_of (cc := b_MMo_based) (maxL := 4) (own := RM_Mo) (by decide) rfl rfl (Nat.le_of_ble_eq_true rfl) ?_
  intro p e R st m args below meth c H locs Q ls hR hx hb hml hown hts hw hret hl
  subst hR
  have hcs : 0 ≤ (rm_MMo_based).cells ∧ 0 ≤ (rm_MMo_based).slots := ⟨Nat.zero_le _, Nat.zero_le _⟩
  have hl : lv_has ls 4 [(0, .ref (a 0)), (1, .int x1)] := hl
  refine lv_aload_n hx hb d_MMo_based_0 rfl (lv_at hl 0 rfl) ?_
  refine lv_iload_n hx hb d_MMo_based_1 rfl (lv_at hl 1 rfl) ?_
  refine lv_iconst (v := (2 : Int32)) hx hb d_MMo_based_2 (by decide) ?_
  obtain ⟨y_1, ey_1, hf⟩ := bd1_inv hf
  refine z_rV (V := .long y_1) (z_runV (As := [.int x1, .int (2 : Int32)]) (rest := []) ⟨hx, hb, hml, hown, hts⟩ (c_MMo_take l D a k u0 x1 (2 : Int32) y_1 ey_1) (qM_Mo_89 hts (by decide)) hw 0 rfl rfl hl.1 rfl (lv_room (Nat.le_of_ble_eq_true rfl)) d_MMo_based_3 hcs) ?_
  refine lv_l2i (v := Int64.toInt32 y_1) hx hb d_MMo_based_6 rfl ?_
  refine lv_topi (fun x_2 ex_2 => ?_)
  have hf := hf.trans (nm_eq ex_2)
  refine lv_istore_n (lv' := [(2, .int x_2), (0, .ref (a 0)), (1, .int x1)]) hx hb d_MMo_based_7 rfl hl (by decide) rfl (fun ls hl => ?_)
  refine lv_iload_n hx hb d_MMo_based_8 rfl (lv_at hl 0 rfl) ?_
  refine lv_bipush (v := (12 : Int32)) hx hb d_MMo_based_9 (by decide) ?_
  refine lv_ishr hx hb d_MMo_based_11 ?_
  refine lv_topi (fun x_3 ex_3 => ?_)
  have hf := hf.trans (nm_eq ex_3)
  refine lv_istore_n (lv' := [(3, .int x_3), (2, .int x_2), (0, .ref (a 0)), (1, .int x1)]) hx hb d_MMo_based_12 rfl hl (by decide) rfl (fun ls hl => ?_)
  refine lv_iload_n hx hb d_MMo_based_13 rfl (lv_at hl 1 rfl) ?_
  refine lv_sipush (v := (4095 : Int32)) hx hb d_MMo_based_14 (by decide) ?_
  refine lv_iand hx hb d_MMo_based_17 ?_
  refine lv_iload_n hx hb d_MMo_based_18 rfl (lv_at hl 0 rfl) ?_
  refine lv_if_le (tgt := 31) hx hb d_MMo_based_19 (by decide) (fun c_4 => ?_) (fun c_4 => ?_)
  · have hf := hf.trans (if_pos c_4)
    refine lv_iconst (v := (0 : Int32)) hx hb d_MMo_based_31 (by decide) ?_
    refine lv_iadd hx hb d_MMo_based_32 ?_
    refine lv_ldc (v := (16777215 : Int32)) hx hb hown (hts _ kM_Mo_93) d_MMo_based_33 ?_
    refine lv_iand hx hb d_MMo_based_35 ?_
    exact hret (((x_2 &&& (4095 : Int32)) + (0 : Int32)) &&& (16777215 : Int32)) _ _ d_MMo_based_36 (Option.some.inj hf)
  · have hf := hf.trans (if_neg c_4)
    refine lv_aload_n hx hb d_MMo_based_22 rfl (lv_at hl 2 rfl) ?_
    refine va_get (v := .ref (a 2)) hx hb hts iM_Mo hown hw.2.1 hw.1 0 rfl rfl 1 (by decide) (hts _ kM_Mo_13) (fun _ h => h) rfl d_MMo_based_23 ?_
    refine lv_iload_n hx hb d_MMo_based_26 rfl (lv_at hl 0 rfl) ?_
    obtain ⟨i_5, hf⟩ := ckI_inv hf
    refine va_iald hx hb hw.2.1 hw.1 2 1 rfl rfl i_5 d_MMo_based_27 ?_
    refine lv_goto (tgt := 32) hx hb d_MMo_based_28 (by decide) ?_
    refine lv_iadd hx hb d_MMo_based_32 ?_
    refine lv_ldc (v := (16777215 : Int32)) hx hb hown (hts _ kM_Mo_93) d_MMo_based_33 ?_
    refine lv_iand hx hb d_MMo_based_35 ?_
    exact hret (((x_2 &&& (4095 : Int32)) + (mA u0 2 (Int32.toNatClampNeg x_3))) &&& (16777215 : Int32)) _ _ d_MMo_based_36 (Option.some.inj hf)
set_option maxHeartbeats 4000000 in
set_option maxRecDepth 100000 in
theorem c_MMo_isKnown (l : Launch) (D : va_G) (a : Nat → Nat) (k : Nat → ClassId) (u0 : MS) (x0 : Int32) (F : Bool) (hf : f_MMo_isKnown u0 x0 = some F) : zRz l y_MMo_isKnown w_MMo_isKnown rm_MMo_isKnown D clM (tyM k) nwM (mW a k) [.int x0] u0 F := by
  have hf := hf.symm
  unfold f_MMo_isKnown at hf
  refine zRz_of (cc := b_MMo_isKnown) (maxL := 1) (own := RM_Mo) (by decide) rfl rfl (Nat.le_of_ble_eq_true rfl) ?_
  intro p e R st m args below meth c H locs Q ls hR hx hb hml hown hts hw hret hl
  subst hR
  have hcs : 0 ≤ (rm_MMo_isKnown).cells ∧ 0 ≤ (rm_MMo_isKnown).slots := ⟨Nat.zero_le _, Nat.zero_le _⟩
  have hl : lv_has ls 1 [(0, .int x0)] := hl
  refine lv_iload_n hx hb d_MMo_isKnown_0 rfl (lv_at hl 0 rfl) ?_
  refine lv_bipush (v := (64 : Int32)) hx hb d_MMo_isKnown_1 (by decide) ?_
  refine lv_icmp_ge (tgt := 46) hx hb d_MMo_isKnown_3 (by decide) (fun c_1 => ?_) (fun c_1 => ?_)
  · have hf := hf.trans (if_pos c_1)
    refine lv_iload_n hx hb d_MMo_isKnown_46 rfl (lv_at hl 0 rfl) ?_
    refine lv_sipush (v := (128 : Int32)) hx hb d_MMo_isKnown_47 (by decide) ?_
    refine lv_icmp_ge (tgt := 119) hx hb d_MMo_isKnown_50 (by decide) (fun c_2 => ?_) (fun c_2 => ?_)
    · have hf := hf.trans (if_pos c_2)
      refine lv_iload_n hx hb d_MMo_isKnown_119 rfl (lv_at hl 0 rfl) ?_
      refine lv_sipush (v := (192 : Int32)) hx hb d_MMo_isKnown_120 (by decide) ?_
      refine lv_icmp_ge (tgt := 181) hx hb d_MMo_isKnown_123 (by decide) (fun c_3 => ?_) (fun c_3 => ?_)
      · have hf := hf.trans (if_pos c_3)
        refine lv_iload_n hx hb d_MMo_isKnown_181 rfl (lv_at hl 0 rfl) ?_
        refine lv_i2l (v := Int32.toInt64 x0) hx hb d_MMo_isKnown_182 rfl ?_
        refine lv_ldc2 (v := (209 : Int64)) hx hb hown (hts _ kM_Mo_120) d_MMo_isKnown_183 ?_
        refine lv_ldc2 (v := (215 : Int64)) hx hb hown (hts _ kM_Mo_122) d_MMo_isKnown_186 ?_
        obtain ⟨z_4, ez_4, hf⟩ := bd1_inv hf
        refine z_rV (V := .int (bI z_4)) (z_runS (As := [.long (Int32.toInt64 x0), .long (209 : Int64), .long (215 : Int64)]) (rest := []) ⟨hx, hb, hml, hown, hts⟩ (c_MMo_in l D a k u0 (Int32.toInt64 x0) (209 : Int64) (215 : Int64) z_4 ez_4) (qM_Mo_41 hts (by decide)) hw  hl.1 rfl (lv_room (Nat.le_of_ble_eq_true rfl)) d_MMo_isKnown_189 hcs) ?_
        refine lv_if_ne (tgt := 230) hx hb d_MMo_isKnown_192 (by decide) (fun c_5 => ?_) (fun c_5 => ?_)
        · have hf := hf.trans (if_neg c_5)
          refine lv_iconst (v := (1 : Int32)) hx hb d_MMo_isKnown_230 (by decide) ?_
          refine lv_goto (tgt := 235) hx hb d_MMo_isKnown_231 (by decide) ?_
          exact hret true _ _ d_MMo_isKnown_235 (Option.some.inj hf)
        · have hf := hf.trans (if_pos c_5)
          refine lv_iload_n hx hb d_MMo_isKnown_195 rfl (lv_at hl 0 rfl) ?_
          refine lv_sipush (v := (220 : Int32)) hx hb d_MMo_isKnown_196 (by decide) ?_
          refine lv_icmp_eq (tgt := 230) hx hb d_MMo_isKnown_199 (by decide) (fun c_6 => ?_) (fun c_6 => ?_)
          · have hf := hf.trans (if_pos c_6)
            refine lv_iconst (v := (1 : Int32)) hx hb d_MMo_isKnown_230 (by decide) ?_
            refine lv_goto (tgt := 235) hx hb d_MMo_isKnown_231 (by decide) ?_
            exact hret true _ _ d_MMo_isKnown_235 (Option.some.inj hf)
          · have hf := hf.trans (if_neg c_6)
            refine lv_iload_n hx hb d_MMo_isKnown_202 rfl (lv_at hl 0 rfl) ?_
            refine lv_sipush (v := (242 : Int32)) hx hb d_MMo_isKnown_203 (by decide) ?_
            refine lv_icmp_eq (tgt := 230) hx hb d_MMo_isKnown_206 (by decide) (fun c_7 => ?_) (fun c_7 => ?_)
            · have hf := hf.trans (if_pos c_7)
              refine lv_iconst (v := (1 : Int32)) hx hb d_MMo_isKnown_230 (by decide) ?_
              refine lv_goto (tgt := 235) hx hb d_MMo_isKnown_231 (by decide) ?_
              exact hret true _ _ d_MMo_isKnown_235 (Option.some.inj hf)
            · have hf := hf.trans (if_neg c_7)
              refine lv_iload_n hx hb d_MMo_isKnown_209 rfl (lv_at hl 0 rfl) ?_
              refine lv_sipush (v := (243 : Int32)) hx hb d_MMo_isKnown_210 (by decide) ?_
              refine lv_icmp_eq (tgt := 230) hx hb d_MMo_isKnown_213 (by decide) (fun c_8 => ?_) (fun c_8 => ?_)
              · have hf := hf.trans (if_pos c_8)
                refine lv_iconst (v := (1 : Int32)) hx hb d_MMo_isKnown_230 (by decide) ?_
                refine lv_goto (tgt := 235) hx hb d_MMo_isKnown_231 (by decide) ?_
                exact hret true _ _ d_MMo_isKnown_235 (Option.some.inj hf)
              · have hf := hf.trans (if_neg c_8)
                refine lv_iload_n hx hb d_MMo_isKnown_216 rfl (lv_at hl 0 rfl) ?_
                refine lv_i2l (v := Int32.toInt64 x0) hx hb d_MMo_isKnown_217 rfl ?_
                refine lv_ldc2 (v := (248 : Int64)) hx hb hown (hts _ kM_Mo_124) d_MMo_isKnown_218 ?_
                refine lv_ldc2 (v := (253 : Int64)) hx hb hown (hts _ kM_Mo_126) d_MMo_isKnown_221 ?_
                obtain ⟨z_9, ez_9, hf⟩ := bd1_inv hf
                refine z_rV (V := .int (bI z_9)) (z_runS (As := [.long (Int32.toInt64 x0), .long (248 : Int64), .long (253 : Int64)]) (rest := []) ⟨hx, hb, hml, hown, hts⟩ (c_MMo_in l D a k u0 (Int32.toInt64 x0) (248 : Int64) (253 : Int64) z_9 ez_9) (qM_Mo_41 hts (by decide)) hw  hl.1 rfl (lv_room (Nat.le_of_ble_eq_true rfl)) d_MMo_isKnown_224 hcs) ?_
                refine lv_if_eq (tgt := 234) hx hb d_MMo_isKnown_227 (by decide) (fun c_10 => ?_) (fun c_10 => ?_)
                · have hf := hf.trans (if_pos c_10)
                  refine lv_iconst (v := (0 : Int32)) hx hb d_MMo_isKnown_234 (by decide) ?_
                  exact hret false _ _ d_MMo_isKnown_235 (Option.some.inj hf)
                · have hf := hf.trans (if_neg c_10)
                  refine lv_iconst (v := (1 : Int32)) hx hb d_MMo_isKnown_230 (by decide) ?_
                  refine lv_goto (tgt := 235) hx hb d_MMo_isKnown_231 (by decide) ?_
                  exact hret true _ _ d_MMo_isKnown_235 (Option.some.inj hf)
      · have hf := hf.trans (if_neg c_3)
        refine lv_iload_n hx hb d_MMo_isKnown_126 rfl (lv_at hl 0 rfl) ?_
        refine lv_i2l (v := Int32.toInt64 x0) hx hb d_MMo_isKnown_127 rfl ?_
        refine lv_ldc2 (v := (134 : Int64)) hx hb hown (hts _ kM_Mo_112) d_MMo_isKnown_128 ?_
        refine lv_ldc2 (v := (139 : Int64)) hx hb hown (hts _ kM_Mo_114) d_MMo_isKnown_131 ?_
        obtain ⟨z_11, ez_11, hf⟩ := bd1_inv hf
        refine z_rV (V := .int (bI z_11)) (z_runS (As := [.long (Int32.toInt64 x0), .long (134 : Int64), .long (139 : Int64)]) (rest := []) ⟨hx, hb, hml, hown, hts⟩ (c_MMo_in l D a k u0 (Int32.toInt64 x0) (134 : Int64) (139 : Int64) z_11 ez_11) (qM_Mo_41 hts (by decide)) hw  hl.1 rfl (lv_room (Nat.le_of_ble_eq_true rfl)) d_MMo_isKnown_134 hcs) ?_
        refine lv_if_ne (tgt := 175) hx hb d_MMo_isKnown_137 (by decide) (fun c_12 => ?_) (fun c_12 => ?_)
        · have hf := hf.trans (if_neg c_12)
          refine lv_iconst (v := (1 : Int32)) hx hb d_MMo_isKnown_175 (by decide) ?_
          refine lv_goto (tgt := 180) hx hb d_MMo_isKnown_176 (by decide) ?_
          exact hret true _ _ d_MMo_isKnown_180 (Option.some.inj hf)
        · have hf := hf.trans (if_pos c_12)
          refine lv_iload_n hx hb d_MMo_isKnown_140 rfl (lv_at hl 0 rfl) ?_
          refine lv_sipush (v := (144 : Int32)) hx hb d_MMo_isKnown_141 (by decide) ?_
          refine lv_icmp_eq (tgt := 175) hx hb d_MMo_isKnown_144 (by decide) (fun c_13 => ?_) (fun c_13 => ?_)
          · have hf := hf.trans (if_pos c_13)
            refine lv_iconst (v := (1 : Int32)) hx hb d_MMo_isKnown_175 (by decide) ?_
            refine lv_goto (tgt := 180) hx hb d_MMo_isKnown_176 (by decide) ?_
            exact hret true _ _ d_MMo_isKnown_180 (Option.some.inj hf)
          · have hf := hf.trans (if_neg c_13)
            refine lv_iload_n hx hb d_MMo_isKnown_147 rfl (lv_at hl 0 rfl) ?_
            refine lv_sipush (v := (145 : Int32)) hx hb d_MMo_isKnown_148 (by decide) ?_
            refine lv_icmp_eq (tgt := 175) hx hb d_MMo_isKnown_151 (by decide) (fun c_14 => ?_) (fun c_14 => ?_)
            · have hf := hf.trans (if_pos c_14)
              refine lv_iconst (v := (1 : Int32)) hx hb d_MMo_isKnown_175 (by decide) ?_
              refine lv_goto (tgt := 180) hx hb d_MMo_isKnown_176 (by decide) ?_
              exact hret true _ _ d_MMo_isKnown_180 (Option.some.inj hf)
            · have hf := hf.trans (if_neg c_14)
              refine lv_iload_n hx hb d_MMo_isKnown_154 rfl (lv_at hl 0 rfl) ?_
              refine lv_sipush (v := (146 : Int32)) hx hb d_MMo_isKnown_155 (by decide) ?_
              refine lv_icmp_eq (tgt := 175) hx hb d_MMo_isKnown_158 (by decide) (fun c_15 => ?_) (fun c_15 => ?_)
              · have hf := hf.trans (if_pos c_15)
                refine lv_iconst (v := (1 : Int32)) hx hb d_MMo_isKnown_175 (by decide) ?_
                refine lv_goto (tgt := 180) hx hb d_MMo_isKnown_176 (by decide) ?_
                exact hret true _ _ d_MMo_isKnown_180 (Option.some.inj hf)
              · have hf := hf.trans (if_neg c_15)
                refine lv_iload_n hx hb d_MMo_isKnown_161 rfl (lv_at hl 0 rfl) ?_
                refine lv_i2l (v := Int32.toInt64 x0) hx hb d_MMo_isKnown_162 rfl ?_
                refine lv_ldc2 (v := (148 : Int64)) hx hb hown (hts _ kM_Mo_116) d_MMo_isKnown_163 ?_
                refine lv_ldc2 (v := (152 : Int64)) hx hb hown (hts _ kM_Mo_118) d_MMo_isKnown_166 ?_
                obtain ⟨z_16, ez_16, hf⟩ := bd1_inv hf
                refine z_rV (V := .int (bI z_16)) (z_runS (As := [.long (Int32.toInt64 x0), .long (148 : Int64), .long (152 : Int64)]) (rest := []) ⟨hx, hb, hml, hown, hts⟩ (c_MMo_in l D a k u0 (Int32.toInt64 x0) (148 : Int64) (152 : Int64) z_16 ez_16) (qM_Mo_41 hts (by decide)) hw  hl.1 rfl (lv_room (Nat.le_of_ble_eq_true rfl)) d_MMo_isKnown_169 hcs) ?_
                refine lv_if_eq (tgt := 179) hx hb d_MMo_isKnown_172 (by decide) (fun c_17 => ?_) (fun c_17 => ?_)
                · have hf := hf.trans (if_pos c_17)
                  refine lv_iconst (v := (0 : Int32)) hx hb d_MMo_isKnown_179 (by decide) ?_
                  exact hret false _ _ d_MMo_isKnown_180 (Option.some.inj hf)
                · have hf := hf.trans (if_neg c_17)
                  refine lv_iconst (v := (1 : Int32)) hx hb d_MMo_isKnown_175 (by decide) ?_
                  refine lv_goto (tgt := 180) hx hb d_MMo_isKnown_176 (by decide) ?_
                  exact hret true _ _ d_MMo_isKnown_180 (Option.some.inj hf)
    · have hf := hf.trans (if_neg c_2)
      refine lv_iload_n hx hb d_MMo_isKnown_53 rfl (lv_at hl 0 rfl) ?_
      refine lv_i2l (v := Int32.toInt64 x0) hx hb d_MMo_isKnown_54 rfl ?_
      refine lv_ldc2 (v := (64 : Int64)) hx hb hown (hts _ kM_Mo_78) d_MMo_isKnown_55 ?_
      refine lv_ldc2 (v := (67 : Int64)) hx hb hown (hts _ kM_Mo_102) d_MMo_isKnown_58 ?_
      obtain ⟨z_18, ez_18, hf⟩ := bd1_inv hf
      refine z_rV (V := .int (bI z_18)) (z_runS (As := [.long (Int32.toInt64 x0), .long (64 : Int64), .long (67 : Int64)]) (rest := []) ⟨hx, hb, hml, hown, hts⟩ (c_MMo_in l D a k u0 (Int32.toInt64 x0) (64 : Int64) (67 : Int64) z_18 ez_18) (qM_Mo_41 hts (by decide)) hw  hl.1 rfl (lv_room (Nat.le_of_ble_eq_true rfl)) d_MMo_isKnown_61 hcs) ?_
      refine lv_if_ne (tgt := 113) hx hb d_MMo_isKnown_64 (by decide) (fun c_19 => ?_) (fun c_19 => ?_)
      · have hf := hf.trans (if_neg c_19)
        refine lv_iconst (v := (1 : Int32)) hx hb d_MMo_isKnown_113 (by decide) ?_
        refine lv_goto (tgt := 118) hx hb d_MMo_isKnown_114 (by decide) ?_
        exact hret true _ _ d_MMo_isKnown_118 (Option.some.inj hf)
      · have hf := hf.trans (if_pos c_19)
        refine lv_iload_n hx hb d_MMo_isKnown_67 rfl (lv_at hl 0 rfl) ?_
        refine lv_i2l (v := Int32.toInt64 x0) hx hb d_MMo_isKnown_68 rfl ?_
        refine lv_ldc2 (v := (69 : Int64)) hx hb hown (hts _ kM_Mo_104) d_MMo_isKnown_69 ?_
        refine lv_ldc2 (v := (76 : Int64)) hx hb hown (hts _ kM_Mo_106) d_MMo_isKnown_72 ?_
        obtain ⟨z_20, ez_20, hf⟩ := bd1_inv hf
        refine z_rV (V := .int (bI z_20)) (z_runS (As := [.long (Int32.toInt64 x0), .long (69 : Int64), .long (76 : Int64)]) (rest := []) ⟨hx, hb, hml, hown, hts⟩ (c_MMo_in l D a k u0 (Int32.toInt64 x0) (69 : Int64) (76 : Int64) z_20 ez_20) (qM_Mo_41 hts (by decide)) hw  hl.1 rfl (lv_room (Nat.le_of_ble_eq_true rfl)) d_MMo_isKnown_75 hcs) ?_
        refine lv_if_ne (tgt := 113) hx hb d_MMo_isKnown_78 (by decide) (fun c_21 => ?_) (fun c_21 => ?_)
        · have hf := hf.trans (if_neg c_21)
          refine lv_iconst (v := (1 : Int32)) hx hb d_MMo_isKnown_113 (by decide) ?_
          refine lv_goto (tgt := 118) hx hb d_MMo_isKnown_114 (by decide) ?_
          exact hret true _ _ d_MMo_isKnown_118 (Option.some.inj hf)
        · have hf := hf.trans (if_pos c_21)
          refine lv_iload_n hx hb d_MMo_isKnown_81 rfl (lv_at hl 0 rfl) ?_
          refine lv_bipush (v := (78 : Int32)) hx hb d_MMo_isKnown_82 (by decide) ?_
          refine lv_icmp_eq (tgt := 113) hx hb d_MMo_isKnown_84 (by decide) (fun c_22 => ?_) (fun c_22 => ?_)
          · have hf := hf.trans (if_pos c_22)
            refine lv_iconst (v := (1 : Int32)) hx hb d_MMo_isKnown_113 (by decide) ?_
            refine lv_goto (tgt := 118) hx hb d_MMo_isKnown_114 (by decide) ?_
            exact hret true _ _ d_MMo_isKnown_118 (Option.some.inj hf)
          · have hf := hf.trans (if_neg c_22)
            refine lv_iload_n hx hb d_MMo_isKnown_87 rfl (lv_at hl 0 rfl) ?_
            refine lv_bipush (v := (79 : Int32)) hx hb d_MMo_isKnown_88 (by decide) ?_
            refine lv_icmp_eq (tgt := 113) hx hb d_MMo_isKnown_90 (by decide) (fun c_23 => ?_) (fun c_23 => ?_)
            · have hf := hf.trans (if_pos c_23)
              refine lv_iconst (v := (1 : Int32)) hx hb d_MMo_isKnown_113 (by decide) ?_
              refine lv_goto (tgt := 118) hx hb d_MMo_isKnown_114 (by decide) ?_
              exact hret true _ _ d_MMo_isKnown_118 (Option.some.inj hf)
            · have hf := hf.trans (if_neg c_23)
              refine lv_iload_n hx hb d_MMo_isKnown_93 rfl (lv_at hl 0 rfl) ?_
              refine lv_bipush (v := (80 : Int32)) hx hb d_MMo_isKnown_94 (by decide) ?_
              refine lv_icmp_eq (tgt := 113) hx hb d_MMo_isKnown_96 (by decide) (fun c_24 => ?_) (fun c_24 => ?_)
              · have hf := hf.trans (if_pos c_24)
                refine lv_iconst (v := (1 : Int32)) hx hb d_MMo_isKnown_113 (by decide) ?_
                refine lv_goto (tgt := 118) hx hb d_MMo_isKnown_114 (by decide) ?_
                exact hret true _ _ d_MMo_isKnown_118 (Option.some.inj hf)
              · have hf := hf.trans (if_neg c_24)
                refine lv_iload_n hx hb d_MMo_isKnown_99 rfl (lv_at hl 0 rfl) ?_
                refine lv_i2l (v := Int32.toInt64 x0) hx hb d_MMo_isKnown_100 rfl ?_
                refine lv_ldc2 (v := (84 : Int64)) hx hb hown (hts _ kM_Mo_108) d_MMo_isKnown_101 ?_
                refine lv_ldc2 (v := (95 : Int64)) hx hb hown (hts _ kM_Mo_110) d_MMo_isKnown_104 ?_
                obtain ⟨z_25, ez_25, hf⟩ := bd1_inv hf
                refine z_rV (V := .int (bI z_25)) (z_runS (As := [.long (Int32.toInt64 x0), .long (84 : Int64), .long (95 : Int64)]) (rest := []) ⟨hx, hb, hml, hown, hts⟩ (c_MMo_in l D a k u0 (Int32.toInt64 x0) (84 : Int64) (95 : Int64) z_25 ez_25) (qM_Mo_41 hts (by decide)) hw  hl.1 rfl (lv_room (Nat.le_of_ble_eq_true rfl)) d_MMo_isKnown_107 hcs) ?_
                refine lv_if_eq (tgt := 117) hx hb d_MMo_isKnown_110 (by decide) (fun c_26 => ?_) (fun c_26 => ?_)
                · have hf := hf.trans (if_pos c_26)
                  refine lv_iconst (v := (0 : Int32)) hx hb d_MMo_isKnown_117 (by decide) ?_
                  exact hret false _ _ d_MMo_isKnown_118 (Option.some.inj hf)
                · have hf := hf.trans (if_neg c_26)
                  refine lv_iconst (v := (1 : Int32)) hx hb d_MMo_isKnown_113 (by decide) ?_
                  refine lv_goto (tgt := 118) hx hb d_MMo_isKnown_114 (by decide) ?_
                  exact hret true _ _ d_MMo_isKnown_118 (Option.some.inj hf)
  · have hf := hf.trans (if_neg c_1)
    refine lv_iload_n hx hb d_MMo_isKnown_6 rfl (lv_at hl 0 rfl) ?_
    refine lv_i2l (v := Int32.toInt64 x0) hx hb d_MMo_isKnown_7 rfl ?_
    refine lv_ldc2 (v := (5 : Int64)) hx hb hown (hts _ kM_Mo_94) d_MMo_isKnown_8 ?_
    refine lv_ldc2 (v := (7 : Int64)) hx hb hown (hts _ kM_Mo_96) d_MMo_isKnown_11 ?_
    obtain ⟨z_27, ez_27, hf⟩ := bd1_inv hf
    refine z_rV (V := .int (bI z_27)) (z_runS (As := [.long (Int32.toInt64 x0), .long (5 : Int64), .long (7 : Int64)]) (rest := []) ⟨hx, hb, hml, hown, hts⟩ (c_MMo_in l D a k u0 (Int32.toInt64 x0) (5 : Int64) (7 : Int64) z_27 ez_27) (qM_Mo_41 hts (by decide)) hw  hl.1 rfl (lv_room (Nat.le_of_ble_eq_true rfl)) d_MMo_isKnown_14 hcs) ?_
    refine lv_if_ne (tgt := 40) hx hb d_MMo_isKnown_17 (by decide) (fun c_28 => ?_) (fun c_28 => ?_)
    · have hf := hf.trans (if_neg c_28)
      refine lv_iconst (v := (1 : Int32)) hx hb d_MMo_isKnown_40 (by decide) ?_
      refine lv_goto (tgt := 45) hx hb d_MMo_isKnown_41 (by decide) ?_
      exact hret true _ _ d_MMo_isKnown_45 (Option.some.inj hf)
    · have hf := hf.trans (if_pos c_28)
      refine lv_iload_n hx hb d_MMo_isKnown_20 rfl (lv_at hl 0 rfl) ?_
      refine lv_bipush (v := (10 : Int32)) hx hb d_MMo_isKnown_21 (by decide) ?_
      refine lv_icmp_eq (tgt := 40) hx hb d_MMo_isKnown_23 (by decide) (fun c_29 => ?_) (fun c_29 => ?_)
      · have hf := hf.trans (if_pos c_29)
        refine lv_iconst (v := (1 : Int32)) hx hb d_MMo_isKnown_40 (by decide) ?_
        refine lv_goto (tgt := 45) hx hb d_MMo_isKnown_41 (by decide) ?_
        exact hret true _ _ d_MMo_isKnown_45 (Option.some.inj hf)
      · have hf := hf.trans (if_neg c_29)
        refine lv_iload_n hx hb d_MMo_isKnown_26 rfl (lv_at hl 0 rfl) ?_
        refine lv_i2l (v := Int32.toInt64 x0) hx hb d_MMo_isKnown_27 rfl ?_
        refine lv_ldc2 (v := (16 : Int64)) hx hb hown (hts _ kM_Mo_98) d_MMo_isKnown_28 ?_
        refine lv_ldc2 (v := (31 : Int64)) hx hb hown (hts _ kM_Mo_100) d_MMo_isKnown_31 ?_
        obtain ⟨z_30, ez_30, hf⟩ := bd1_inv hf
        refine z_rV (V := .int (bI z_30)) (z_runS (As := [.long (Int32.toInt64 x0), .long (16 : Int64), .long (31 : Int64)]) (rest := []) ⟨hx, hb, hml, hown, hts⟩ (c_MMo_in l D a k u0 (Int32.toInt64 x0) (16 : Int64) (31 : Int64) z_30 ez_30) (qM_Mo_41 hts (by decide)) hw  hl.1 rfl (lv_room (Nat.le_of_ble_eq_true rfl)) d_MMo_isKnown_34 hcs) ?_
        refine lv_if_eq (tgt := 44) hx hb d_MMo_isKnown_37 (by decide) (fun c_31 => ?_) (fun c_31 => ?_)
        · have hf := hf.trans (if_pos c_31)
          refine lv_iconst (v := (0 : Int32)) hx hb d_MMo_isKnown_44 (by decide) ?_
          exact hret false _ _ d_MMo_isKnown_45 (Option.some.inj hf)
        · have hf := hf.trans (if_neg c_31)
          refine lv_iconst (v := (1 : Int32)) hx hb d_MMo_isKnown_40 (by decide) ?_
          refine lv_goto (tgt := 45) hx hb d_MMo_isKnown_41 (by decide) ?_
          exact hret true _ _ d_MMo_isKnown_45 (Option.some.inj hf)
set_option maxHeartbeats 4000000 in
set_option maxRecDepth 100000 in
theorem c_MMo_decodes (l : Launch) (D : va_G) (a : Nat → Nat) (k : Nat → ClassId) (u0 : MS)  (F : MS) (hf : f_MMo_decodes u0 = some F) : zMv l y_MMo_decodes w_MMo_decodes rm_MMo_decodes D clM (tyM k) nwM (mW a k) [.ref (a 0)] u0 F := by
  have hf := hf.symm
  unfold f_MMo_decodes at hf
  refine zMv_of (cc := b_MMo_decodes) (maxL := 1) (own := RM_Mo) (by decide) rfl rfl (Nat.le_of_ble_eq_true rfl) ?_
  intro p e R st m args below meth c A H locs Q ls hR hx hb hml hown hts hw hS hret hl
  subst hR
  have hcs : 0 ≤ (rm_MMo_decodes).cells ∧ 0 ≤ (rm_MMo_decodes).slots := ⟨Nat.zero_le _, Nat.zero_le _⟩
  have hl : lv_has ls 1 [(0, .ref (a 0))] := hl
  refine lv_aload_n hx hb d_MMo_decodes_0 rfl (lv_at hl 0 rfl) ?_
  refine lv_iconst (v := (0 : Int32)) hx hb d_MMo_decodes_1 (by decide) ?_
  refine z_put (u' := msF u0 13 (0 : Int32)) hx hb hts iM_Mo tM_Mo tM_Mo_ok nM_Mo hown hw hS 0 rfl rfl 21 (by decide) (hts _ kM_Mo_86) (fun _ h => h) rfl rfl (Nat.le_of_ble_eq_true rfl) rfl d_MMo_decodes_2 (fun u_1 H locs eu_1 hw hS => ?_)
  have hf := hf.trans (nm_eq eu_1)
  refine lv_aload_n hx hb d_MMo_decodes_5 rfl (lv_at hl 0 rfl) ?_
  refine lv_aload_n hx hb d_MMo_decodes_6 rfl (lv_at hl 0 rfl) ?_
  refine va_get (v := .int (mF u_1 2)) hx hb hts iM_Mo hown hw.2.1 hw.1 0 rfl rfl 10 (by decide) (hts _ kM_Mo_67) (fun _ h => h) rfl d_MMo_decodes_7 ?_
  refine lv_iconst (v := (1 : Int32)) hx hb d_MMo_decodes_10 (by decide) ?_
  refine lv_iand hx hb d_MMo_decodes_11 ?_
  refine lv_iconst (v := (1 : Int32)) hx hb d_MMo_decodes_12 (by decide) ?_
  refine jn_cut hf (fun (K_3 : Bool → Option (MS)) => ∀ (z_2 : Bool), ∀ (ls : Array Slot), lv_has ls 1 [(0, .ref (a 0))] → some F = K_3 z_2 → W p l e rm_MMo_decodes st m args below meth c H locs 0 0 Q (F0 m 21 ls [.int (bI z_2), .ref (a 0)])) ?_ ?_
  · intro z_2 ls hl hf
    refine lv_bipush (v := (6 : Int32)) hx hb d_MMo_decodes_21 (by decide) ?_
    obtain ⟨u_4, eu_4, hf⟩ := bd1_inv hf
    refine z_wv' (u' := u_4) (z_runV (As := [.int (bI z_2), .int (6 : Int32)]) (rest := []) ⟨hx, hb, hml, hown, hts⟩ (c_MMo_wrong l D a k u_1 z_2 (6 : Int32) u_4 eu_4) (qM_Mo_128 hts (by decide)) hw 0 rfl rfl hl.1 rfl (lv_room (Nat.le_of_ble_eq_true rfl)) d_MMo_decodes_23 hcs) hw hS (fun H locs hw hS => ?_)
    refine lv_aload_n hx hb d_MMo_decodes_26 rfl (lv_at hl 0 rfl) ?_
    refine lv_aload_n hx hb d_MMo_decodes_27 rfl (lv_at hl 0 rfl) ?_
    refine va_get (v := .int (mF u_4 2)) hx hb hts iM_Mo hown hw.2.1 hw.1 0 rfl rfl 10 (by decide) (hts _ kM_Mo_67) (fun _ h => h) rfl d_MMo_decodes_28 ?_
    refine lv_iconst (v := (1 : Int32)) hx hb d_MMo_decodes_31 (by decide) ?_
    obtain ⟨z_5, ez_5, hf⟩ := bd1_inv hf
    refine z_rV (V := .int (bI z_5)) (z_runS (As := [.int (mF u_4 2), .int (1 : Int32)]) (rest := [.ref (a 0)]) ⟨hx, hb, hml, hown, hts⟩ (c_MMo_lies l D a k u_4 (mF u_4 2) (1 : Int32) z_5 ez_5) (qM_Mo_53 hts (by decide)) hw  hl.1 rfl (lv_room (Nat.le_of_ble_eq_true rfl)) d_MMo_decodes_32 hcs) ?_
    refine jn_cut hf (fun (K_7 : Bool → Option (MS)) => ∀ (z_6 : Bool), ∀ (ls : Array Slot), lv_has ls 1 [(0, .ref (a 0))] → some F = K_7 z_6 → W p l e rm_MMo_decodes st m args below meth c H locs 0 0 Q (F0 m 43 ls [.int (bI z_6), .ref (a 0)])) ?_ ?_
    · intro z_6 ls hl hf
      refine lv_iconst (v := (5 : Int32)) hx hb d_MMo_decodes_43 (by decide) ?_
      obtain ⟨u_8, eu_8, hf⟩ := bd1_inv hf
      refine z_wv' (u' := u_8) (z_runV (As := [.int (bI z_6), .int (5 : Int32)]) (rest := []) ⟨hx, hb, hml, hown, hts⟩ (c_MMo_wrong l D a k u_4 z_6 (5 : Int32) u_8 eu_8) (qM_Mo_128 hts (by decide)) hw 0 rfl rfl hl.1 rfl (lv_room (Nat.le_of_ble_eq_true rfl)) d_MMo_decodes_44 hcs) hw hS (fun H locs hw hS => ?_)
      refine lv_aload_n hx hb d_MMo_decodes_47 rfl (lv_at hl 0 rfl) ?_
      refine va_get (v := .int (mF u_8 13)) hx hb hts iM_Mo hown hw.2.1 hw.1 0 rfl rfl 21 (by decide) (hts _ kM_Mo_86) (fun _ h => h) rfl d_MMo_decodes_48 ?_
      refine lv_if_le (tgt := 55) hx hb d_MMo_decodes_51 (by decide) (fun c_9 => ?_) (fun c_9 => ?_)
      · have hf := hf.trans (if_pos c_9)
        refine lv_aload_n hx hb d_MMo_decodes_55 rfl (lv_at hl 0 rfl) ?_
        refine lv_aload_n hx hb d_MMo_decodes_56 rfl (lv_at hl 0 rfl) ?_
        refine va_get (v := .ref (a 1)) hx hb hts iM_Mo hown hw.2.1 hw.1 0 rfl rfl 0 (by decide) (hts _ kM_Mo_7) (fun _ h => h) rfl d_MMo_decodes_57 ?_
        refine lv_aload_n hx hb d_MMo_decodes_60 rfl (lv_at hl 0 rfl) ?_
        refine va_get (v := .int (mF u_8 2)) hx hb hts iM_Mo hown hw.2.1 hw.1 0 rfl rfl 10 (by decide) (hts _ kM_Mo_67) (fun _ h => h) rfl d_MMo_decodes_61 ?_
        obtain ⟨i_10, hf⟩ := ckI_inv hf
        refine va_iald hx hb hw.2.1 hw.1 1 0 rfl rfl i_10 d_MMo_decodes_64 ?_
        refine z_put (u' := msF u_8 8 (mA u_8 1 (Int32.toNatClampNeg (mF u_8 2)))) hx hb hts iM_Mo tM_Mo tM_Mo_ok nM_Mo hown hw hS 0 rfl rfl 16 (by decide) (hts _ kM_Mo_132) (fun _ h => h) rfl rfl (Nat.le_of_ble_eq_true rfl) rfl d_MMo_decodes_65 (fun u_11 H locs eu_11 hw hS => ?_)
        have hf := hf.trans (nm_eq eu_11)
        refine lv_aload_n hx hb d_MMo_decodes_68 rfl (lv_at hl 0 rfl) ?_
        refine lv_aload_n hx hb d_MMo_decodes_69 rfl (lv_at hl 0 rfl) ?_
        refine va_get (v := .int (mF u_11 8)) hx hb hts iM_Mo hown hw.2.1 hw.1 0 rfl rfl 16 (by decide) (hts _ kM_Mo_132) (fun _ h => h) rfl d_MMo_decodes_70 ?_
        refine lv_bipush (v := (64 : Int32)) hx hb d_MMo_decodes_73 (by decide) ?_
        refine jn_cut hf (fun (K_13 : Int32 → Option (MS)) => ∀ (x_12 : Int32), ∀ (ls : Array Slot), lv_has ls 1 [(0, .ref (a 0))] → some F = K_13 x_12 → W p l e rm_MMo_decodes st m args below meth c H locs 0 0 Q (F0 m 98 ls [.int x_12, .ref (a 0)])) ?_ ?_
        · intro x_12 ls hl hf
          refine z_put (u' := msF u_11 9 x_12) hx hb hts iM_Mo tM_Mo tM_Mo_ok nM_Mo hown hw hS 0 rfl rfl 17 (by decide) (hts _ kM_Mo_135) (fun _ h => h) rfl rfl (Nat.le_of_ble_eq_true rfl) rfl d_MMo_decodes_98 (fun u_14 H locs eu_14 hw hS => ?_)
          have hf := hf.trans (nm_eq eu_14)
          refine lv_aload_n hx hb d_MMo_decodes_101 rfl (lv_at hl 0 rfl) ?_
          refine lv_aload_n hx hb d_MMo_decodes_102 rfl (lv_at hl 0 rfl) ?_
          refine va_get (v := .int (mF u_14 2)) hx hb hts iM_Mo hown hw.2.1 hw.1 0 rfl rfl 10 (by decide) (hts _ kM_Mo_67) (fun _ h => h) rfl d_MMo_decodes_103 ?_
          refine lv_aload_n hx hb d_MMo_decodes_106 rfl (lv_at hl 0 rfl) ?_
          refine va_get (v := .int (mF u_14 9)) hx hb hts iM_Mo hown hw.2.1 hw.1 0 rfl rfl 17 (by decide) (hts _ kM_Mo_135) (fun _ h => h) rfl d_MMo_decodes_107 ?_
          obtain ⟨z_15, ez_15, hf⟩ := bd1_inv hf
          refine z_rV (V := .int (bI z_15)) (z_runS (As := [.int (mF u_14 2), .int (mF u_14 9)]) (rest := [.ref (a 0)]) ⟨hx, hb, hml, hown, hts⟩ (c_MMo_lies l D a k u_14 (mF u_14 2) (mF u_14 9) z_15 ez_15) (qM_Mo_53 hts (by decide)) hw  hl.1 rfl (lv_room (Nat.le_of_ble_eq_true rfl)) d_MMo_decodes_110 hcs) ?_
          refine jn_cut hf (fun (K_17 : Bool → Option (MS)) => ∀ (z_16 : Bool), ∀ (ls : Array Slot), lv_has ls 1 [(0, .ref (a 0))] → some F = K_17 z_16 → W p l e rm_MMo_decodes st m args below meth c H locs 0 0 Q (F0 m 121 ls [.int (bI z_16), .ref (a 0)])) ?_ ?_
          · intro z_16 ls hl hf
            refine lv_iconst (v := (5 : Int32)) hx hb d_MMo_decodes_121 (by decide) ?_
            obtain ⟨u_18, eu_18, hf⟩ := bd1_inv hf
            refine z_wv' (u' := u_18) (z_runV (As := [.int (bI z_16), .int (5 : Int32)]) (rest := []) ⟨hx, hb, hml, hown, hts⟩ (c_MMo_wrong l D a k u_14 z_16 (5 : Int32) u_18 eu_18) (qM_Mo_128 hts (by decide)) hw 0 rfl rfl hl.1 rfl (lv_room (Nat.le_of_ble_eq_true rfl)) d_MMo_decodes_122 hcs) hw hS (fun H locs hw hS => ?_)
            refine lv_aload_n hx hb d_MMo_decodes_125 rfl (lv_at hl 0 rfl) ?_
            refine lv_aload_n hx hb d_MMo_decodes_126 rfl (lv_at hl 0 rfl) ?_
            refine va_get (v := .int (mF u_18 8)) hx hb hts iM_Mo hown hw.2.1 hw.1 0 rfl rfl 16 (by decide) (hts _ kM_Mo_132) (fun _ h => h) rfl d_MMo_decodes_127 ?_
            obtain ⟨z_19, ez_19, hf⟩ := bd1_inv hf
            refine z_rV (V := .int (bI z_19)) (z_runS (As := [.int (mF u_18 8)]) (rest := [.ref (a 0)]) ⟨hx, hb, hml, hown, hts⟩ (c_MMo_isKnown l D a k u_18 (mF u_18 8) z_19 ez_19) (qM_Mo_138 hts (by decide)) hw  hl.1 rfl (lv_room (Nat.le_of_ble_eq_true rfl)) d_MMo_decodes_130 hcs) ?_
            refine jn_cut hf (fun (K_21 : Bool → Option (MS)) => ∀ (z_20 : Bool), ∀ (ls : Array Slot), lv_has ls 1 [(0, .ref (a 0))] → some F = K_21 z_20 → W p l e rm_MMo_decodes st m args below meth c H locs 0 0 Q (F0 m 141 ls [.int (bI z_20), .ref (a 0)])) ?_ ?_
            · intro z_20 ls hl hf
              refine lv_iconst (v := (1 : Int32)) hx hb d_MMo_decodes_141 (by decide) ?_
              obtain ⟨u_22, eu_22, hf⟩ := bd1_inv hf
              refine z_wv' (u' := u_22) (z_runV (As := [.int (bI z_20), .int (1 : Int32)]) (rest := []) ⟨hx, hb, hml, hown, hts⟩ (c_MMo_wrong l D a k u_18 z_20 (1 : Int32) u_22 eu_22) (qM_Mo_128 hts (by decide)) hw 0 rfl rfl hl.1 rfl (lv_room (Nat.le_of_ble_eq_true rfl)) d_MMo_decodes_142 hcs) hw hS (fun H locs hw hS => ?_)
              refine lv_aload_n hx hb d_MMo_decodes_145 rfl (lv_at hl 0 rfl) ?_
              refine va_get (v := .int (mF u_22 13)) hx hb hts iM_Mo hown hw.2.1 hw.1 0 rfl rfl 21 (by decide) (hts _ kM_Mo_86) (fun _ h => h) rfl d_MMo_decodes_146 ?_
              refine lv_if_le (tgt := 153) hx hb d_MMo_decodes_149 (by decide) (fun c_23 => ?_) (fun c_23 => ?_)
              · have hf := hf.trans (if_pos c_23)
                refine lv_aload_n hx hb d_MMo_decodes_153 rfl (lv_at hl 0 rfl) ?_
                refine lv_aload_n hx hb d_MMo_decodes_154 rfl (lv_at hl 0 rfl) ?_
                refine va_get (v := .ref (a 1)) hx hb hts iM_Mo hown hw.2.1 hw.1 0 rfl rfl 0 (by decide) (hts _ kM_Mo_7) (fun _ h => h) rfl d_MMo_decodes_155 ?_
                refine lv_aload_n hx hb d_MMo_decodes_158 rfl (lv_at hl 0 rfl) ?_
                refine va_get (v := .int (mF u_22 2)) hx hb hts iM_Mo hown hw.2.1 hw.1 0 rfl rfl 10 (by decide) (hts _ kM_Mo_67) (fun _ h => h) rfl d_MMo_decodes_159 ?_
                refine lv_iconst (v := (1 : Int32)) hx hb d_MMo_decodes_162 (by decide) ?_
                refine lv_iadd hx hb d_MMo_decodes_163 ?_
                obtain ⟨i_24, hf⟩ := ckI_inv hf
                refine va_iald hx hb hw.2.1 hw.1 1 0 rfl rfl i_24 d_MMo_decodes_164 ?_
                refine z_put (u' := msF u_22 10 (mA u_22 1 (Int32.toNatClampNeg ((mF u_22 2) + (1 : Int32))))) hx hb hts iM_Mo tM_Mo tM_Mo_ok nM_Mo hown hw hS 0 rfl rfl 18 (by decide) (hts _ kM_Mo_142) (fun _ h => h) rfl rfl (Nat.le_of_ble_eq_true rfl) rfl d_MMo_decodes_165 (fun u_25 H locs eu_25 hw hS => ?_)
                have hf := hf.trans (nm_eq eu_25)
                refine lv_aload_n hx hb d_MMo_decodes_168 rfl (lv_at hl 0 rfl) ?_
                refine lv_aload_n hx hb d_MMo_decodes_169 rfl (lv_at hl 0 rfl) ?_
                refine va_get (v := .int (mF u_25 9)) hx hb hts iM_Mo hown hw.2.1 hw.1 0 rfl rfl 17 (by decide) (hts _ kM_Mo_135) (fun _ h => h) rfl d_MMo_decodes_170 ?_
                refine lv_iconst (v := (2 : Int32)) hx hb d_MMo_decodes_173 (by decide) ?_
                refine jn_cut hf (fun (K_27 : Int32 → Option (MS)) => ∀ (x_26 : Int32), ∀ (ls : Array Slot), lv_has ls 1 [(0, .ref (a 0))] → some F = K_27 x_26 → W p l e rm_MMo_decodes st m args below meth c H locs 0 0 Q (F0 m 191 ls [.int x_26, .ref (a 0)])) ?_ ?_
                · intro x_26 ls hl hf
                  refine z_put (u' := msF u_25 11 x_26) hx hb hts iM_Mo tM_Mo tM_Mo_ok nM_Mo hown hw hS 0 rfl rfl 19 (by decide) (hts _ kM_Mo_149) (fun _ h => h) rfl rfl (Nat.le_of_ble_eq_true rfl) rfl d_MMo_decodes_191 (fun u_28 H locs eu_28 hw hS => ?_)
                  have hf := hf.trans (nm_eq eu_28)
                  refine lv_aload_n hx hb d_MMo_decodes_194 rfl (lv_at hl 0 rfl) ?_
                  refine lv_aload_n hx hb d_MMo_decodes_195 rfl (lv_at hl 0 rfl) ?_
                  refine va_get (v := .int (mF u_28 9)) hx hb hts iM_Mo hown hw.2.1 hw.1 0 rfl rfl 17 (by decide) (hts _ kM_Mo_135) (fun _ h => h) rfl d_MMo_decodes_196 ?_
                  refine lv_bipush (v := (6 : Int32)) hx hb d_MMo_decodes_199 (by decide) ?_
                  refine jn_cut hf (fun (K_30 : Int32 → Option (MS)) => ∀ (x_29 : Int32), ∀ (ls : Array Slot), lv_has ls 1 [(0, .ref (a 0))] → some F = K_30 x_29 → W p l e rm_MMo_decodes st m args below meth c H locs 0 0 Q (F0 m 221 ls [.int x_29, .ref (a 0)])) ?_ ?_
                  · intro x_29 ls hl hf
                    refine z_put (u' := msF u_28 12 x_29) hx hb hts iM_Mo tM_Mo tM_Mo_ok nM_Mo hown hw hS 0 rfl rfl 20 (by decide) (hts _ kM_Mo_152) (fun _ h => h) rfl rfl (Nat.le_of_ble_eq_true rfl) rfl d_MMo_decodes_221 (fun u_31 H locs eu_31 hw hS => ?_)
                    have hf := hf.trans (nm_eq eu_31)
                    refine lv_aload_n hx hb d_MMo_decodes_224 rfl (lv_at hl 0 rfl) ?_
                    refine va_get (v := .int (mF u_31 8)) hx hb hts iM_Mo hown hw.2.1 hw.1 0 rfl rfl 16 (by decide) (hts _ kM_Mo_132) (fun _ h => h) rfl d_MMo_decodes_225 ?_
                    refine lv_i2l (v := Int32.toInt64 (mF u_31 8)) hx hb d_MMo_decodes_228 rfl ?_
                    refine lv_ldc2 (v := (64 : Int64)) hx hb hown (hts _ kM_Mo_78) d_MMo_decodes_229 ?_
                    refine lv_ldc2 (v := (127 : Int64)) hx hb hown (hts _ kM_Mo_155) d_MMo_decodes_232 ?_
                    obtain ⟨z_32, ez_32, hf⟩ := bd1_inv hf
                    refine z_rV (V := .int (bI z_32)) (z_runS (As := [.long (Int32.toInt64 (mF u_31 8)), .long (64 : Int64), .long (127 : Int64)]) (rest := []) ⟨hx, hb, hml, hown, hts⟩ (c_MMo_in l D a k u_31 (Int32.toInt64 (mF u_31 8)) (64 : Int64) (127 : Int64) z_32 ez_32) (qM_Mo_41 hts (by decide)) hw  hl.1 rfl (lv_room (Nat.le_of_ble_eq_true rfl)) d_MMo_decodes_235 hcs) ?_
                    refine lv_if_eq (tgt := 275) hx hb d_MMo_decodes_238 (by decide) (fun c_33 => ?_) (fun c_33 => ?_)
                    · have hf := hf.trans (if_pos c_33)
                      exact hret _ _ _ _ _ d_MMo_decodes_275 hw hS (Option.some.inj hf)
                    · have hf := hf.trans (if_neg c_33)
                      refine lv_aload_n hx hb d_MMo_decodes_241 rfl (lv_at hl 0 rfl) ?_
                      refine va_get (v := .int (mF u_31 10)) hx hb hts iM_Mo hown hw.2.1 hw.1 0 rfl rfl 18 (by decide) (hts _ kM_Mo_142) (fun _ h => h) rfl d_MMo_decodes_242 ?_
                      refine lv_bipush (v := (15 : Int32)) hx hb d_MMo_decodes_245 (by decide) ?_
                      refine lv_iand hx hb d_MMo_decodes_247 ?_
                      refine lv_if_le (tgt := 275) hx hb d_MMo_decodes_248 (by decide) (fun c_34 => ?_) (fun c_34 => ?_)
                      · have hf := hf.trans (if_pos c_34)
                        exact hret _ _ _ _ _ d_MMo_decodes_275 hw hS (Option.some.inj hf)
                      · have hf := hf.trans (if_neg c_34)
                        refine lv_aload_n hx hb d_MMo_decodes_251 rfl (lv_at hl 0 rfl) ?_
                        refine lv_aload_n hx hb d_MMo_decodes_252 rfl (lv_at hl 0 rfl) ?_
                        refine va_get (v := .int (mF u_31 12)) hx hb hts iM_Mo hown hw.2.1 hw.1 0 rfl rfl 20 (by decide) (hts _ kM_Mo_152) (fun _ h => h) rfl d_MMo_decodes_253 ?_
                        refine lv_aload_n hx hb d_MMo_decodes_256 rfl (lv_at hl 0 rfl) ?_
                        refine va_get (v := .ref (a 2)) hx hb hts iM_Mo hown hw.2.1 hw.1 0 rfl rfl 1 (by decide) (hts _ kM_Mo_13) (fun _ h => h) rfl d_MMo_decodes_257 ?_
                        refine lv_aload_n hx hb d_MMo_decodes_260 rfl (lv_at hl 0 rfl) ?_
                        refine va_get (v := .int (mF u_31 10)) hx hb hts iM_Mo hown hw.2.1 hw.1 0 rfl rfl 18 (by decide) (hts _ kM_Mo_142) (fun _ h => h) rfl d_MMo_decodes_261 ?_
                        refine lv_bipush (v := (15 : Int32)) hx hb d_MMo_decodes_264 (by decide) ?_
                        refine lv_iand hx hb d_MMo_decodes_266 ?_
                        obtain ⟨i_35, hf⟩ := ckI_inv hf
                        refine va_iald hx hb hw.2.1 hw.1 2 1 rfl rfl i_35 d_MMo_decodes_267 ?_
                        refine lv_iadd hx hb d_MMo_decodes_268 ?_
                        refine lv_ldc (v := (16777215 : Int32)) hx hb hown (hts _ kM_Mo_93) d_MMo_decodes_269 ?_
                        refine lv_iand hx hb d_MMo_decodes_271 ?_
                        refine z_put (u' := msF u_31 12 (((mF u_31 12) + (mA u_31 2 (Int32.toNatClampNeg ((mF u_31 10) &&& (15 : Int32))))) &&& (16777215 : Int32))) hx hb hts iM_Mo tM_Mo tM_Mo_ok nM_Mo hown hw hS 0 rfl rfl 20 (by decide) (hts _ kM_Mo_152) (fun _ h => h) rfl rfl (Nat.le_of_ble_eq_true rfl) rfl d_MMo_decodes_272 (fun u_36 H locs eu_36 hw hS => ?_)
                        have hf := hf.trans (nm_eq eu_36)
                        exact hret _ _ _ _ _ d_MMo_decodes_275 hw hS (Option.some.inj hf)
                  · intro K_30 hK_30 hf
                    refine lv_icmp_ne (tgt := 217) hx hb d_MMo_decodes_201 (by decide) (fun c_37 => ?_) (fun c_37 => ?_)
                    · have hf := hf.trans (if_neg c_37)
                      refine lv_aload_n hx hb d_MMo_decodes_217 rfl (lv_at hl 0 rfl) ?_
                      refine va_get (v := .int (mF u_28 11)) hx hb hts iM_Mo hown hw.2.1 hw.1 0 rfl rfl 19 (by decide) (hts _ kM_Mo_149) (fun _ h => h) rfl d_MMo_decodes_218 ?_
                      exact hK_30 (mF u_28 11) _ (lv_sub hl [0] rfl) hf
                    · have hf := hf.trans (if_pos c_37)
                      refine lv_aload_n hx hb d_MMo_decodes_204 rfl (lv_at hl 0 rfl) ?_
                      refine lv_aload_n hx hb d_MMo_decodes_205 rfl (lv_at hl 0 rfl) ?_
                      refine va_get (v := .int (mF u_28 2)) hx hb hts iM_Mo hown hw.2.1 hw.1 0 rfl rfl 10 (by decide) (hts _ kM_Mo_67) (fun _ h => h) rfl d_MMo_decodes_206 ?_
                      refine lv_iconst (v := (4 : Int32)) hx hb d_MMo_decodes_209 (by decide) ?_
                      refine lv_iadd hx hb d_MMo_decodes_210 ?_
                      obtain ⟨x_38, ex_38, hf⟩ := bd1_inv hf
                      refine z_rV (V := .int x_38) (z_runV (As := [.int ((mF u_28 2) + (4 : Int32))]) (rest := [.ref (a 0)]) ⟨hx, hb, hml, hown, hts⟩ (c_MMo_based l D a k u_28 ((mF u_28 2) + (4 : Int32)) x_38 ex_38) (qM_Mo_145 hts (by decide)) hw 0 rfl rfl hl.1 rfl (lv_room (Nat.le_of_ble_eq_true rfl)) d_MMo_decodes_211 hcs) ?_
                      refine lv_goto (tgt := 221) hx hb d_MMo_decodes_214 (by decide) ?_
                      exact hK_30 x_38 _ (lv_sub hl [0] rfl) hf
                · intro K_27 hK_27 hf
                  refine lv_icmp_le (tgt := 190) hx hb d_MMo_decodes_174 (by decide) (fun c_39 => ?_) (fun c_39 => ?_)
                  · have hf := hf.trans (if_pos c_39)
                    refine lv_iconst (v := (0 : Int32)) hx hb d_MMo_decodes_190 (by decide) ?_
                    exact hK_27 (0 : Int32) _ (lv_sub hl [0] rfl) hf
                  · have hf := hf.trans (if_neg c_39)
                    refine lv_aload_n hx hb d_MMo_decodes_177 rfl (lv_at hl 0 rfl) ?_
                    refine lv_aload_n hx hb d_MMo_decodes_178 rfl (lv_at hl 0 rfl) ?_
                    refine va_get (v := .int (mF u_25 2)) hx hb hts iM_Mo hown hw.2.1 hw.1 0 rfl rfl 10 (by decide) (hts _ kM_Mo_67) (fun _ h => h) rfl d_MMo_decodes_179 ?_
                    refine lv_iconst (v := (2 : Int32)) hx hb d_MMo_decodes_182 (by decide) ?_
                    refine lv_iadd hx hb d_MMo_decodes_183 ?_
                    obtain ⟨x_40, ex_40, hf⟩ := bd1_inv hf
                    refine z_rV (V := .int x_40) (z_runV (As := [.int ((mF u_25 2) + (2 : Int32))]) (rest := [.ref (a 0)]) ⟨hx, hb, hml, hown, hts⟩ (c_MMo_based l D a k u_25 ((mF u_25 2) + (2 : Int32)) x_40 ex_40) (qM_Mo_145 hts (by decide)) hw 0 rfl rfl hl.1 rfl (lv_room (Nat.le_of_ble_eq_true rfl)) d_MMo_decodes_184 hcs) ?_
                    refine lv_goto (tgt := 191) hx hb d_MMo_decodes_187 (by decide) ?_
                    exact hK_27 x_40 _ (lv_sub hl [0] rfl) hf
              · have hf := hf.trans (if_neg c_23)
                exact hret _ _ _ _ _ d_MMo_decodes_152 hw hS (Option.some.inj hf)
            · intro K_21 hK_21 hf
              refine lv_if_ne (tgt := 140) hx hb d_MMo_decodes_133 (by decide) (fun c_41 => ?_) (fun c_41 => ?_)
              · have hf := hf.trans (if_neg c_41)
                refine lv_iconst (v := (0 : Int32)) hx hb d_MMo_decodes_140 (by decide) ?_
                exact hK_21 false _ (lv_sub hl [0] rfl) hf
              · have hf := hf.trans (if_pos c_41)
                refine lv_iconst (v := (1 : Int32)) hx hb d_MMo_decodes_136 (by decide) ?_
                refine lv_goto (tgt := 141) hx hb d_MMo_decodes_137 (by decide) ?_
                exact hK_21 true _ (lv_sub hl [0] rfl) hf
          · intro K_17 hK_17 hf
            refine lv_if_ne (tgt := 120) hx hb d_MMo_decodes_113 (by decide) (fun c_42 => ?_) (fun c_42 => ?_)
            · have hf := hf.trans (if_neg c_42)
              refine lv_iconst (v := (0 : Int32)) hx hb d_MMo_decodes_120 (by decide) ?_
              exact hK_17 false _ (lv_sub hl [0] rfl) hf
            · have hf := hf.trans (if_pos c_42)
              refine lv_iconst (v := (1 : Int32)) hx hb d_MMo_decodes_116 (by decide) ?_
              refine lv_goto (tgt := 121) hx hb d_MMo_decodes_117 (by decide) ?_
              exact hK_17 true _ (lv_sub hl [0] rfl) hf
        · intro K_13 hK_13 hf
          refine lv_icmp_ge (tgt := 82) hx hb d_MMo_decodes_75 (by decide) (fun c_43 => ?_) (fun c_43 => ?_)
          · have hf := hf.trans (if_pos c_43)
            refine lv_aload_n hx hb d_MMo_decodes_82 rfl (lv_at hl 0 rfl) ?_
            refine va_get (v := .int (mF u_11 8)) hx hb hts iM_Mo hown hw.2.1 hw.1 0 rfl rfl 16 (by decide) (hts _ kM_Mo_132) (fun _ h => h) rfl d_MMo_decodes_83 ?_
            refine lv_sipush (v := (192 : Int32)) hx hb d_MMo_decodes_86 (by decide) ?_
            refine lv_icmp_ge (tgt := 96) hx hb d_MMo_decodes_89 (by decide) (fun c_44 => ?_) (fun c_44 => ?_)
            · have hf := hf.trans (if_pos c_44)
              refine lv_bipush (v := (6 : Int32)) hx hb d_MMo_decodes_96 (by decide) ?_
              exact hK_13 (6 : Int32) _ (lv_sub hl [0] rfl) hf
            · have hf := hf.trans (if_neg c_44)
              refine lv_iconst (v := (4 : Int32)) hx hb d_MMo_decodes_92 (by decide) ?_
              refine lv_goto (tgt := 98) hx hb d_MMo_decodes_93 (by decide) ?_
              exact hK_13 (4 : Int32) _ (lv_sub hl [0] rfl) hf
          · have hf := hf.trans (if_neg c_43)
            refine lv_iconst (v := (2 : Int32)) hx hb d_MMo_decodes_78 (by decide) ?_
            refine lv_goto (tgt := 98) hx hb d_MMo_decodes_79 (by decide) ?_
            exact hK_13 (2 : Int32) _ (lv_sub hl [0] rfl) hf
      · have hf := hf.trans (if_neg c_9)
        exact hret _ _ _ _ _ d_MMo_decodes_54 hw hS (Option.some.inj hf)
    · intro K_7 hK_7 hf
      refine lv_if_ne (tgt := 42) hx hb d_MMo_decodes_35 (by decide) (fun c_45 => ?_) (fun c_45 => ?_)
      · have hf := hf.trans (if_neg c_45)
        refine lv_iconst (v := (0 : Int32)) hx hb d_MMo_decodes_42 (by decide) ?_
        exact hK_7 false _ (lv_sub hl [0] rfl) hf
      · have hf := hf.trans (if_pos c_45)
        refine lv_iconst (v := (1 : Int32)) hx hb d_MMo_decodes_38 (by decide) ?_
        refine lv_goto (tgt := 43) hx hb d_MMo_decodes_39 (by decide) ?_
        exact hK_7 true _ (lv_sub hl [0] rfl) hf
  · intro K_3 hK_3 hf
    refine lv_icmp_ne (tgt := 20) hx hb d_MMo_decodes_13 (by decide) (fun c_46 => ?_) (fun c_46 => ?_)
    · have hf := hf.trans (if_neg c_46)
      refine lv_iconst (v := (0 : Int32)) hx hb d_MMo_decodes_20 (by decide) ?_
      exact hK_3 false _ (lv_sub hl [0] rfl) hf
    · have hf := hf.trans (if_pos c_46)
      refine lv_iconst (v := (1 : Int32)) hx hb d_MMo_decodes_16 (by decide) ?_
      refine lv_goto (tgt := 21) hx hb d_MMo_decodes_17 (by decide) ?_
      exact hK_3 true _ (lv_sub hl [0] rfl) hf
