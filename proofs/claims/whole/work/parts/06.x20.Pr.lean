def f_XPr_performRegular (u0 : XS)  : Int32 × XS := jn (fun (K_1 : Int32 × XS) => if (xF u0 4) < (16 : Int32) then K_1 else if (31 : Int32) < (xF u0 4) then K_1 else pr (f_XAr_withRegister u0) (fun (x_9 : Int32) (u_8 : XS) => (x_9, u_8))) (if (xF u0 4) < (84 : Int32) then ((1 : Int32), u0) else if (95 : Int32) < (xF u0 4) then ((1 : Int32), u0) else pr (f_XAr_withWord u0) (fun (x_5 : Int32) (u_4 : XS) => (x_5, u_4)))
set_option maxHeartbeats 4000000 in
set_option maxRecDepth 100000 in
theorem c_XPr_performRegular (l : Launch) (D : va_G) (a : Nat → Nat) (k : Nat → ClassId) (u0 : XS)  : zMi l y_XPr_performRegular w_XPr_performRegular rm_XPr_performRegular D clX (tyX k) nwX (xW a k) [.ref (a 5), .ref (a 6)] u0 (f_XPr_performRegular u0) := by
  generalize hF : f_XPr_performRegular u0 = F
  have hf := hF.symm
  unfold f_XPr_performRegular at hf
  refine zMi_of (cc := b_XPr_performRegular) (maxL := 2) (own := RX_Pr) (by decide) rfl rfl (Nat.le_of_ble_eq_true rfl) ?_
  intro p e R st m args below meth c A H locs Q ls hR hx hb hml hown hts hw hS hret hl
  subst hR
  have hcs : 0 ≤ (rm_XPr_performRegular).cells ∧ 0 ≤ (rm_XPr_performRegular).slots := ⟨Nat.zero_le _, Nat.zero_le _⟩
  have hl : lv_has ls 2 [(0, .ref (a 5)), (1, .ref (a 6))] := hl
  refine lv_aload_n hx hb d_XPr_performRegular_0 rfl (lv_at hl 1 rfl) ?_
  refine va_getN (v := .int (xF u0 4)) hx hb hts iX_In hown hw.2.1 hw.1 6 rfl rfl 0 (by decide) (va_Nw.use rfl (hw.2.2.2 _ kX_Pr_85).2) (fun _ h => h) rfl d_XPr_performRegular_1 ?_
  refine lv_bipush (v := (16 : Int32)) hx hb d_XPr_performRegular_4 (by decide) ?_
  refine jn_cut hf (fun (K_1 : Int32 × XS) => ∀ (ls : Array Slot), lv_has ls 2 [(0, .ref (a 5)), (1, .ref (a 6))] → F = K_1 → W p l e rm_XPr_performRegular st m args below meth c H locs 0 0 Q (F0 m 27 ls [])) ?_ ?_
  · intro ls hl hf
    refine lv_aload_n hx hb d_XPr_performRegular_27 rfl (lv_at hl 1 rfl) ?_
    refine va_getN (v := .int (xF u0 4)) hx hb hts iX_In hown hw.2.1 hw.1 6 rfl rfl 0 (by decide) (va_Nw.use rfl (hw.2.2.2 _ kX_Pr_85).2) (fun _ h => h) rfl d_XPr_performRegular_28 ?_
    refine lv_bipush (v := (84 : Int32)) hx hb d_XPr_performRegular_31 (by decide) ?_
    refine lv_icmp_lt (tgt := 56) hx hb d_XPr_performRegular_33 (by decide) (fun c_2 => ?_) (fun c_2 => ?_)
    · have hf := hf.trans (if_pos c_2)
      refine lv_iconst (v := (1 : Int32)) hx hb d_XPr_performRegular_56 (by decide) ?_
      exact hret (1 : Int32) _ _ _ _ _ d_XPr_performRegular_57 hw hS hf
    · have hf := hf.trans (if_neg c_2)
      refine lv_aload_n hx hb d_XPr_performRegular_36 rfl (lv_at hl 1 rfl) ?_
      refine va_getN (v := .int (xF u0 4)) hx hb hts iX_In hown hw.2.1 hw.1 6 rfl rfl 0 (by decide) (va_Nw.use rfl (hw.2.2.2 _ kX_Pr_85).2) (fun _ h => h) rfl d_XPr_performRegular_37 ?_
      refine lv_bipush (v := (95 : Int32)) hx hb d_XPr_performRegular_40 (by decide) ?_
      refine lv_icmp_gt (tgt := 56) hx hb d_XPr_performRegular_42 (by decide) (fun c_3 => ?_) (fun c_3 => ?_)
      · have hf := hf.trans (if_pos c_3)
        refine lv_iconst (v := (1 : Int32)) hx hb d_XPr_performRegular_56 (by decide) ?_
        exact hret (1 : Int32) _ _ _ _ _ d_XPr_performRegular_57 hw hS hf
      · have hf := hf.trans (if_neg c_3)
        refine lv_aload_n hx hb d_XPr_performRegular_45 rfl (lv_at hl 0 rfl) ?_
        refine va_get (v := .ref (a 7)) hx hb hts iX_Pr hown hw.2.1 hw.1 5 rfl rfl 2 (by decide) (hts _ kX_Pr_37) (fun _ h => h) rfl d_XPr_performRegular_46 ?_
        refine lv_aload_n hx hb d_XPr_performRegular_49 rfl (lv_at hl 1 rfl) ?_
        refine z_wi (z_runV (As := [.ref (a 6)]) (rest := []) ⟨hx, hb, hml, hown, hts⟩ (c_XAr_withWord l D a k u0) (qX_Pr_123 hts (by decide)) hw 7 rfl rfl hl.1 rfl (lv_room (Nat.le_of_ble_eq_true rfl)) d_XPr_performRegular_50 hcs) hw hS (fun x_5 u_4 H locs ex_5 hw hS => ?_)
        have hf := hf.trans (pr_eq ex_5)
        refine lv_goto (tgt := 57) hx hb d_XPr_performRegular_53 (by decide) ?_
        exact hret x_5 _ _ _ _ _ d_XPr_performRegular_57 hw hS hf
  · intro K_1 hK_1 hf
    refine lv_icmp_lt (tgt := 27) hx hb d_XPr_performRegular_6 (by decide) (fun c_6 => ?_) (fun c_6 => ?_)
    · have hf := hf.trans (if_pos c_6)
      exact hK_1 _ (lv_sub hl [0, 1] rfl) hf
    · have hf := hf.trans (if_neg c_6)
      refine lv_aload_n hx hb d_XPr_performRegular_9 rfl (lv_at hl 1 rfl) ?_
      refine va_getN (v := .int (xF u0 4)) hx hb hts iX_In hown hw.2.1 hw.1 6 rfl rfl 0 (by decide) (va_Nw.use rfl (hw.2.2.2 _ kX_Pr_85).2) (fun _ h => h) rfl d_XPr_performRegular_10 ?_
      refine lv_bipush (v := (31 : Int32)) hx hb d_XPr_performRegular_13 (by decide) ?_
      refine lv_icmp_gt (tgt := 27) hx hb d_XPr_performRegular_15 (by decide) (fun c_7 => ?_) (fun c_7 => ?_)
      · have hf := hf.trans (if_pos c_7)
        exact hK_1 _ (lv_sub hl [0, 1] rfl) hf
      · have hf := hf.trans (if_neg c_7)
        refine lv_aload_n hx hb d_XPr_performRegular_18 rfl (lv_at hl 0 rfl) ?_
        refine va_get (v := .ref (a 7)) hx hb hts iX_Pr hown hw.2.1 hw.1 5 rfl rfl 2 (by decide) (hts _ kX_Pr_37) (fun _ h => h) rfl d_XPr_performRegular_19 ?_
        refine lv_aload_n hx hb d_XPr_performRegular_22 rfl (lv_at hl 1 rfl) ?_
        refine z_wi (z_runV (As := [.ref (a 6)]) (rest := []) ⟨hx, hb, hml, hown, hts⟩ (c_XAr_withRegister l D a k u0) (qX_Pr_120 hts (by decide)) hw 7 rfl rfl hl.1 rfl (lv_room (Nat.le_of_ble_eq_true rfl)) d_XPr_performRegular_23 hcs) hw hS (fun x_9 u_8 H locs ex_9 hw hS => ?_)
        have hf := hf.trans (pr_eq ex_9)
        exact hret x_9 _ _ _ _ _ d_XPr_performRegular_26 hw hS hf
def f_XPr_perform (u0 : XS)  : Int32 × XS := nm (xF u0 4) (fun (x_1 : Int32) => if x_1 = (5 : Int32) then pr (f_XBr_perform u0) (fun (x_4 : Int32) (u_3 : XS) => (x_4, u_3)) else if x_1 = (6 : Int32) then pr (f_XBr_perform u0) (fun (x_7 : Int32) (u_6 : XS) => (x_7, u_6)) else if x_1 = (7 : Int32) then pr (f_XBr_perform u0) (fun (x_10 : Int32) (u_9 : XS) => (x_10, u_9)) else if x_1 = (10 : Int32) then nm (xsF u0 3 (xF u0 5)) (fun (u_12 : XS) => ((0 : Int32), u_12)) else if x_1 = (64 : Int32) then pr (f_XTr_perform u0) (fun (x_15 : Int32) (u_14 : XS) => (x_15, u_14)) else if x_1 = (65 : Int32) then pr (f_XTr_perform u0) (fun (x_18 : Int32) (u_17 : XS) => (x_18, u_17)) else if x_1 = (66 : Int32) then pr (f_XTr_perform u0) (fun (x_21 : Int32) (u_20 : XS) => (x_21, u_20)) else if x_1 = (67 : Int32) then pr (f_XTr_perform u0) (fun (x_24 : Int32) (u_23 : XS) => (x_24, u_23)) else if x_1 = (69 : Int32) then pr (f_XBr_perform u0) (fun (x_27 : Int32) (u_26 : XS) => (x_27, u_26)) else if x_1 = (70 : Int32) then pr (f_XBr_perform u0) (fun (x_30 : Int32) (u_29 : XS) => (x_30, u_29)) else if x_1 = (71 : Int32) then pr (f_XBr_perform u0) (fun (x_33 : Int32) (u_32 : XS) => (x_33, u_32)) else if x_1 = (72 : Int32) then pr (f_XAr_withHalf u0) (fun (x_36 : Int32) (u_35 : XS) => (x_36, u_35)) else if x_1 = (73 : Int32) then pr (f_XAr_withHalf u0) (fun (x_39 : Int32) (u_38 : XS) => (x_39, u_38)) else if x_1 = (74 : Int32) then pr (f_XAr_withHalf u0) (fun (x_42 : Int32) (u_41 : XS) => (x_42, u_41)) else if x_1 = (75 : Int32) then pr (f_XAr_withHalf u0) (fun (x_45 : Int32) (u_44 : XS) => (x_45, u_44)) else if x_1 = (76 : Int32) then pr (f_XAr_withHalf u0) (fun (x_48 : Int32) (u_47 : XS) => (x_48, u_47)) else if x_1 = (78 : Int32) then pr (f_XDe_convert u0) (fun (x_51 : Int32) (u_50 : XS) => (x_51, u_50)) else if x_1 = (79 : Int32) then pr (f_XDe_convert u0) (fun (x_54 : Int32) (u_53 : XS) => (x_54, u_53)) else if x_1 = (80 : Int32) then pr (f_XTr_perform u0) (fun (x_57 : Int32) (u_56 : XS) => (x_57, u_56)) else if x_1 = (134 : Int32) then pr (f_XBr_perform u0) (fun (x_60 : Int32) (u_59 : XS) => (x_60, u_59)) else if x_1 = (135 : Int32) then pr (f_XBr_perform u0) (fun (x_63 : Int32) (u_62 : XS) => (x_63, u_62)) else if x_1 = (136 : Int32) then pr (f_XAr_shift u0) (fun (x_66 : Int32) (u_65 : XS) => (x_66, u_65)) else if x_1 = (137 : Int32) then pr (f_XAr_shift u0) (fun (x_69 : Int32) (u_68 : XS) => (x_69, u_68)) else if x_1 = (138 : Int32) then pr (f_XAr_shift u0) (fun (x_72 : Int32) (u_71 : XS) => (x_72, u_71)) else if x_1 = (139 : Int32) then pr (f_XAr_shift u0) (fun (x_75 : Int32) (u_74 : XS) => (x_75, u_74)) else if x_1 = (144 : Int32) then pr (f_XTr_perform u0) (fun (x_78 : Int32) (u_77 : XS) => (x_78, u_77)) else if x_1 = (145 : Int32) then pr (f_XOc_withImmediate u0) (fun (x_81 : Int32) (u_80 : XS) => (x_81, u_80)) else if x_1 = (146 : Int32) then pr (f_XOc_withImmediate u0) (fun (x_84 : Int32) (u_83 : XS) => (x_84, u_83)) else if x_1 = (148 : Int32) then pr (f_XOc_withImmediate u0) (fun (x_87 : Int32) (u_86 : XS) => (x_87, u_86)) else if x_1 = (149 : Int32) then pr (f_XOc_withImmediate u0) (fun (x_90 : Int32) (u_89 : XS) => (x_90, u_89)) else if x_1 = (150 : Int32) then pr (f_XOc_withImmediate u0) (fun (x_93 : Int32) (u_92 : XS) => (x_93, u_92)) else if x_1 = (151 : Int32) then pr (f_XOc_withImmediate u0) (fun (x_96 : Int32) (u_95 : XS) => (x_96, u_95)) else if x_1 = (152 : Int32) then pr (f_XTr_perform u0) (fun (x_99 : Int32) (u_98 : XS) => (x_99, u_98)) else if x_1 = (209 : Int32) then pr (f_XOc_withField u0) (fun (x_102 : Int32) (u_101 : XS) => (x_102, u_101)) else if x_1 = (210 : Int32) then pr (f_XOc_withField u0) (fun (x_105 : Int32) (u_104 : XS) => (x_105, u_104)) else if x_1 = (211 : Int32) then pr (f_XOc_withField u0) (fun (x_108 : Int32) (u_107 : XS) => (x_108, u_107)) else if x_1 = (212 : Int32) then pr (f_XOc_withField u0) (fun (x_111 : Int32) (u_110 : XS) => (x_111, u_110)) else if x_1 = (213 : Int32) then pr (f_XOc_withField u0) (fun (x_114 : Int32) (u_113 : XS) => (x_114, u_113)) else if x_1 = (214 : Int32) then pr (f_XOc_withField u0) (fun (x_117 : Int32) (u_116 : XS) => (x_117, u_116)) else if x_1 = (215 : Int32) then pr (f_XOc_withField u0) (fun (x_120 : Int32) (u_119 : XS) => (x_120, u_119)) else if x_1 = (220 : Int32) then pr (f_XOc_withField u0) (fun (x_123 : Int32) (u_122 : XS) => (x_123, u_122)) else if x_1 = (242 : Int32) then pr (f_XDe_changeForm u0) (fun (x_126 : Int32) (u_125 : XS) => (x_126, u_125)) else if x_1 = (243 : Int32) then pr (f_XDe_changeForm u0) (fun (x_129 : Int32) (u_128 : XS) => (x_129, u_128)) else if x_1 = (248 : Int32) then pr (f_XDe_calculate u0) (fun (x_132 : Int32) (u_131 : XS) => (x_132, u_131)) else if x_1 = (249 : Int32) then pr (f_XDe_calculate u0) (fun (x_135 : Int32) (u_134 : XS) => (x_135, u_134)) else if x_1 = (250 : Int32) then pr (f_XDe_calculate u0) (fun (x_138 : Int32) (u_137 : XS) => (x_138, u_137)) else if x_1 = (251 : Int32) then pr (f_XDe_calculate u0) (fun (x_141 : Int32) (u_140 : XS) => (x_141, u_140)) else if x_1 = (252 : Int32) then pr (f_XDe_calculate u0) (fun (x_144 : Int32) (u_143 : XS) => (x_144, u_143)) else if x_1 = (253 : Int32) then pr (f_XDe_calculate u0) (fun (x_147 : Int32) (u_146 : XS) => (x_147, u_146)) else pr (f_XPr_performRegular u0) (fun (x_149 : Int32) (u_148 : XS) => (x_149, u_148)))
set_option maxHeartbeats 4000000 in
set_option maxRecDepth 100000 in
theorem c_XPr_perform (l : Launch) (D : va_G) (a : Nat → Nat) (k : Nat → ClassId) (u0 : XS)  : zMi l y_XPr_perform w_XPr_perform rm_XPr_perform D clX (tyX k) nwX (xW a k) [.ref (a 5), .ref (a 6)] u0 (f_XPr_perform u0) := by
  generalize hF : f_XPr_perform u0 = F
  have hf := hF.symm
  unfold f_XPr_perform at hf
  refine zMi_of (cc := b_XPr_perform) (maxL := 2) (own := RX_Pr) (by decide) rfl rfl (Nat.le_of_ble_eq_true rfl) ?_
  intro p e R st m args below meth c A H locs Q ls hR hx hb hml hown hts hw hS hret hl
  subst hR
  have hcs : 0 ≤ (rm_XPr_perform).cells ∧ 0 ≤ (rm_XPr_perform).slots := ⟨Nat.zero_le _, Nat.zero_le _⟩
  have hl : lv_has ls 2 [(0, .ref (a 5)), (1, .ref (a 6))] := hl
  refine lv_aload_n hx hb d_XPr_perform_0 rfl (lv_at hl 1 rfl) ?_
  refine va_getN (v := .int (xF u0 4)) hx hb hts iX_In hown hw.2.1 hw.1 6 rfl rfl 0 (by decide) (va_Nw.use rfl (hw.2.2.2 _ kX_Pr_85).2) (fun _ h => h) rfl d_XPr_perform_1 ?_
  refine lv_topi (fun x_1 ex_1 => ?_)
  have hf := hf.trans (nm_eq ex_1)
  by_cases c_2 : x_1 = (5 : Int32)
  · have hf := hf.trans (if_pos c_2)
    refine lv_lookup (off := 417) (tgt := 421) hx hb d_XPr_perform_4 (by decide +kernel) (by rw [c_2]; decide +kernel) (by decide) ?_
    refine lv_aload_n hx hb d_XPr_perform_421 rfl (lv_at hl 0 rfl) ?_
    refine va_get (v := .ref (a 9)) hx hb hts iX_Pr hown hw.2.1 hw.1 5 rfl rfl 4 (by decide) (hts _ kX_Pr_51) (fun _ h => h) rfl d_XPr_perform_422 ?_
    refine lv_aload_n hx hb d_XPr_perform_425 rfl (lv_at hl 1 rfl) ?_
    refine z_wi (z_runV (As := [.ref (a 6)]) (rest := []) ⟨hx, hb, hml, hown, hts⟩ (c_XBr_perform l D a k u0) (qX_Pr_94 hts (by decide)) hw 9 rfl rfl hl.1 rfl (lv_room (Nat.le_of_ble_eq_true rfl)) d_XPr_perform_426 hcs) hw hS (fun x_4 u_3 H locs ex_4 hw hS => ?_)
    have hf := hf.trans (pr_eq ex_4)
    exact hret x_4 _ _ _ _ _ d_XPr_perform_429 hw hS hf
  have hf := hf.trans (if_neg c_2)
  by_cases c_5 : x_1 = (6 : Int32)
  · have hf := hf.trans (if_pos c_5)
    refine lv_lookup (off := 417) (tgt := 421) hx hb d_XPr_perform_4 (by decide +kernel) (by rw [c_5]; decide +kernel) (by decide) ?_
    refine lv_aload_n hx hb d_XPr_perform_421 rfl (lv_at hl 0 rfl) ?_
    refine va_get (v := .ref (a 9)) hx hb hts iX_Pr hown hw.2.1 hw.1 5 rfl rfl 4 (by decide) (hts _ kX_Pr_51) (fun _ h => h) rfl d_XPr_perform_422 ?_
    refine lv_aload_n hx hb d_XPr_perform_425 rfl (lv_at hl 1 rfl) ?_
    refine z_wi (z_runV (As := [.ref (a 6)]) (rest := []) ⟨hx, hb, hml, hown, hts⟩ (c_XBr_perform l D a k u0) (qX_Pr_94 hts (by decide)) hw 9 rfl rfl hl.1 rfl (lv_room (Nat.le_of_ble_eq_true rfl)) d_XPr_perform_426 hcs) hw hS (fun x_7 u_6 H locs ex_7 hw hS => ?_)
    have hf := hf.trans (pr_eq ex_7)
    exact hret x_7 _ _ _ _ _ d_XPr_perform_429 hw hS hf
  have hf := hf.trans (if_neg c_5)
  by_cases c_8 : x_1 = (7 : Int32)
  · have hf := hf.trans (if_pos c_8)
    refine lv_lookup (off := 417) (tgt := 421) hx hb d_XPr_perform_4 (by decide +kernel) (by rw [c_8]; decide +kernel) (by decide) ?_
    refine lv_aload_n hx hb d_XPr_perform_421 rfl (lv_at hl 0 rfl) ?_
    refine va_get (v := .ref (a 9)) hx hb hts iX_Pr hown hw.2.1 hw.1 5 rfl rfl 4 (by decide) (hts _ kX_Pr_51) (fun _ h => h) rfl d_XPr_perform_422 ?_
    refine lv_aload_n hx hb d_XPr_perform_425 rfl (lv_at hl 1 rfl) ?_
    refine z_wi (z_runV (As := [.ref (a 6)]) (rest := []) ⟨hx, hb, hml, hown, hts⟩ (c_XBr_perform l D a k u0) (qX_Pr_94 hts (by decide)) hw 9 rfl rfl hl.1 rfl (lv_room (Nat.le_of_ble_eq_true rfl)) d_XPr_perform_426 hcs) hw hS (fun x_10 u_9 H locs ex_10 hw hS => ?_)
    have hf := hf.trans (pr_eq ex_10)
    exact hret x_10 _ _ _ _ _ d_XPr_perform_429 hw hS hf
  have hf := hf.trans (if_neg c_8)
  by_cases c_11 : x_1 = (10 : Int32)
  · have hf := hf.trans (if_pos c_11)
    refine lv_lookup (off := 404) (tgt := 408) hx hb d_XPr_perform_4 (by decide +kernel) (by rw [c_11]; decide +kernel) (by decide) ?_
    refine lv_aload_n hx hb d_XPr_perform_408 rfl (lv_at hl 0 rfl) ?_
    refine va_get (v := .ref (a 1)) hx hb hts iX_Pr hown hw.2.1 hw.1 5 rfl rfl 0 (by decide) (hts _ kX_Pr_28) (fun _ h => h) rfl d_XPr_perform_409 ?_
    refine lv_aload_n hx hb d_XPr_perform_412 rfl (lv_at hl 1 rfl) ?_
    refine va_getN (v := .int (xF u0 5)) hx hb hts iX_In hown hw.2.1 hw.1 6 rfl rfl 1 (by decide) (va_Nw.use rfl (hw.2.2.2 _ kX_Pr_88).2) (fun _ h => h) rfl d_XPr_perform_413 ?_
    refine z_putN (u' := xsF u0 3 (xF u0 5)) hx hb hts iX_St tX_St tX_St_ok nX_St hown hw hS 1 rfl rfl 5 (by decide) (va_Nw.use rfl (hw.2.2.2 _ kX_Pr_91).2) (fun _ h => h) rfl rfl (Nat.le_of_ble_eq_true rfl) rfl d_XPr_perform_416 (fun u_12 H locs eu_12 hw hS => ?_)
    have hf := hf.trans (nm_eq eu_12)
    refine lv_iconst (v := (0 : Int32)) hx hb d_XPr_perform_419 (by decide) ?_
    exact hret (0 : Int32) _ _ _ _ _ d_XPr_perform_420 hw hS hf
  have hf := hf.trans (if_neg c_11)
  by_cases c_13 : x_1 = (64 : Int32)
  · have hf := hf.trans (if_pos c_13)
    refine lv_lookup (off := 426) (tgt := 430) hx hb d_XPr_perform_4 (by decide +kernel) (by rw [c_13]; decide +kernel) (by decide) ?_
    refine lv_aload_n hx hb d_XPr_perform_430 rfl (lv_at hl 0 rfl) ?_
    refine va_get (v := .ref (a 8)) hx hb hts iX_Pr hown hw.2.1 hw.1 5 rfl rfl 3 (by decide) (hts _ kX_Pr_44) (fun _ h => h) rfl d_XPr_perform_431 ?_
    refine lv_aload_n hx hb d_XPr_perform_434 rfl (lv_at hl 1 rfl) ?_
    refine z_wi (z_runV (As := [.ref (a 6)]) (rest := []) ⟨hx, hb, hml, hown, hts⟩ (c_XTr_perform l D a k u0) (qX_Pr_95 hts (by decide)) hw 8 rfl rfl hl.1 rfl (lv_room (Nat.le_of_ble_eq_true rfl)) d_XPr_perform_435 hcs) hw hS (fun x_15 u_14 H locs ex_15 hw hS => ?_)
    have hf := hf.trans (pr_eq ex_15)
    exact hret x_15 _ _ _ _ _ d_XPr_perform_438 hw hS hf
  have hf := hf.trans (if_neg c_13)
  by_cases c_16 : x_1 = (65 : Int32)
  · have hf := hf.trans (if_pos c_16)
    refine lv_lookup (off := 426) (tgt := 430) hx hb d_XPr_perform_4 (by decide +kernel) (by rw [c_16]; decide +kernel) (by decide) ?_
    refine lv_aload_n hx hb d_XPr_perform_430 rfl (lv_at hl 0 rfl) ?_
    refine va_get (v := .ref (a 8)) hx hb hts iX_Pr hown hw.2.1 hw.1 5 rfl rfl 3 (by decide) (hts _ kX_Pr_44) (fun _ h => h) rfl d_XPr_perform_431 ?_
    refine lv_aload_n hx hb d_XPr_perform_434 rfl (lv_at hl 1 rfl) ?_
    refine z_wi (z_runV (As := [.ref (a 6)]) (rest := []) ⟨hx, hb, hml, hown, hts⟩ (c_XTr_perform l D a k u0) (qX_Pr_95 hts (by decide)) hw 8 rfl rfl hl.1 rfl (lv_room (Nat.le_of_ble_eq_true rfl)) d_XPr_perform_435 hcs) hw hS (fun x_18 u_17 H locs ex_18 hw hS => ?_)
    have hf := hf.trans (pr_eq ex_18)
    exact hret x_18 _ _ _ _ _ d_XPr_perform_438 hw hS hf
  have hf := hf.trans (if_neg c_16)
  by_cases c_19 : x_1 = (66 : Int32)
  · have hf := hf.trans (if_pos c_19)
    refine lv_lookup (off := 426) (tgt := 430) hx hb d_XPr_perform_4 (by decide +kernel) (by rw [c_19]; decide +kernel) (by decide) ?_
    refine lv_aload_n hx hb d_XPr_perform_430 rfl (lv_at hl 0 rfl) ?_
    refine va_get (v := .ref (a 8)) hx hb hts iX_Pr hown hw.2.1 hw.1 5 rfl rfl 3 (by decide) (hts _ kX_Pr_44) (fun _ h => h) rfl d_XPr_perform_431 ?_
    refine lv_aload_n hx hb d_XPr_perform_434 rfl (lv_at hl 1 rfl) ?_
    refine z_wi (z_runV (As := [.ref (a 6)]) (rest := []) ⟨hx, hb, hml, hown, hts⟩ (c_XTr_perform l D a k u0) (qX_Pr_95 hts (by decide)) hw 8 rfl rfl hl.1 rfl (lv_room (Nat.le_of_ble_eq_true rfl)) d_XPr_perform_435 hcs) hw hS (fun x_21 u_20 H locs ex_21 hw hS => ?_)
    have hf := hf.trans (pr_eq ex_21)
    exact hret x_21 _ _ _ _ _ d_XPr_perform_438 hw hS hf
  have hf := hf.trans (if_neg c_19)
  by_cases c_22 : x_1 = (67 : Int32)
  · have hf := hf.trans (if_pos c_22)
    refine lv_lookup (off := 426) (tgt := 430) hx hb d_XPr_perform_4 (by decide +kernel) (by rw [c_22]; decide +kernel) (by decide) ?_
    refine lv_aload_n hx hb d_XPr_perform_430 rfl (lv_at hl 0 rfl) ?_
    refine va_get (v := .ref (a 8)) hx hb hts iX_Pr hown hw.2.1 hw.1 5 rfl rfl 3 (by decide) (hts _ kX_Pr_44) (fun _ h => h) rfl d_XPr_perform_431 ?_
    refine lv_aload_n hx hb d_XPr_perform_434 rfl (lv_at hl 1 rfl) ?_
    refine z_wi (z_runV (As := [.ref (a 6)]) (rest := []) ⟨hx, hb, hml, hown, hts⟩ (c_XTr_perform l D a k u0) (qX_Pr_95 hts (by decide)) hw 8 rfl rfl hl.1 rfl (lv_room (Nat.le_of_ble_eq_true rfl)) d_XPr_perform_435 hcs) hw hS (fun x_24 u_23 H locs ex_24 hw hS => ?_)
    have hf := hf.trans (pr_eq ex_24)
    exact hret x_24 _ _ _ _ _ d_XPr_perform_438 hw hS hf
  have hf := hf.trans (if_neg c_22)
  by_cases c_25 : x_1 = (69 : Int32)
  · have hf := hf.trans (if_pos c_25)
    refine lv_lookup (off := 417) (tgt := 421) hx hb d_XPr_perform_4 (by decide +kernel) (by rw [c_25]; decide +kernel) (by decide) ?_
    refine lv_aload_n hx hb d_XPr_perform_421 rfl (lv_at hl 0 rfl) ?_
    refine va_get (v := .ref (a 9)) hx hb hts iX_Pr hown hw.2.1 hw.1 5 rfl rfl 4 (by decide) (hts _ kX_Pr_51) (fun _ h => h) rfl d_XPr_perform_422 ?_
    refine lv_aload_n hx hb d_XPr_perform_425 rfl (lv_at hl 1 rfl) ?_
    refine z_wi (z_runV (As := [.ref (a 6)]) (rest := []) ⟨hx, hb, hml, hown, hts⟩ (c_XBr_perform l D a k u0) (qX_Pr_94 hts (by decide)) hw 9 rfl rfl hl.1 rfl (lv_room (Nat.le_of_ble_eq_true rfl)) d_XPr_perform_426 hcs) hw hS (fun x_27 u_26 H locs ex_27 hw hS => ?_)
    have hf := hf.trans (pr_eq ex_27)
    exact hret x_27 _ _ _ _ _ d_XPr_perform_429 hw hS hf
  have hf := hf.trans (if_neg c_25)
  by_cases c_28 : x_1 = (70 : Int32)
  · have hf := hf.trans (if_pos c_28)
    refine lv_lookup (off := 417) (tgt := 421) hx hb d_XPr_perform_4 (by decide +kernel) (by rw [c_28]; decide +kernel) (by decide) ?_
    refine lv_aload_n hx hb d_XPr_perform_421 rfl (lv_at hl 0 rfl) ?_
    refine va_get (v := .ref (a 9)) hx hb hts iX_Pr hown hw.2.1 hw.1 5 rfl rfl 4 (by decide) (hts _ kX_Pr_51) (fun _ h => h) rfl d_XPr_perform_422 ?_
    refine lv_aload_n hx hb d_XPr_perform_425 rfl (lv_at hl 1 rfl) ?_
    refine z_wi (z_runV (As := [.ref (a 6)]) (rest := []) ⟨hx, hb, hml, hown, hts⟩ (c_XBr_perform l D a k u0) (qX_Pr_94 hts (by decide)) hw 9 rfl rfl hl.1 rfl (lv_room (Nat.le_of_ble_eq_true rfl)) d_XPr_perform_426 hcs) hw hS (fun x_30 u_29 H locs ex_30 hw hS => ?_)
    have hf := hf.trans (pr_eq ex_30)
    exact hret x_30 _ _ _ _ _ d_XPr_perform_429 hw hS hf
  have hf := hf.trans (if_neg c_28)
  by_cases c_31 : x_1 = (71 : Int32)
  · have hf := hf.trans (if_pos c_31)
    refine lv_lookup (off := 417) (tgt := 421) hx hb d_XPr_perform_4 (by decide +kernel) (by rw [c_31]; decide +kernel) (by decide) ?_
    refine lv_aload_n hx hb d_XPr_perform_421 rfl (lv_at hl 0 rfl) ?_
    refine va_get (v := .ref (a 9)) hx hb hts iX_Pr hown hw.2.1 hw.1 5 rfl rfl 4 (by decide) (hts _ kX_Pr_51) (fun _ h => h) rfl d_XPr_perform_422 ?_
    refine lv_aload_n hx hb d_XPr_perform_425 rfl (lv_at hl 1 rfl) ?_
    refine z_wi (z_runV (As := [.ref (a 6)]) (rest := []) ⟨hx, hb, hml, hown, hts⟩ (c_XBr_perform l D a k u0) (qX_Pr_94 hts (by decide)) hw 9 rfl rfl hl.1 rfl (lv_room (Nat.le_of_ble_eq_true rfl)) d_XPr_perform_426 hcs) hw hS (fun x_33 u_32 H locs ex_33 hw hS => ?_)
    have hf := hf.trans (pr_eq ex_33)
    exact hret x_33 _ _ _ _ _ d_XPr_perform_429 hw hS hf
  have hf := hf.trans (if_neg c_31)
  by_cases c_34 : x_1 = (72 : Int32)
  · have hf := hf.trans (if_pos c_34)
    refine lv_lookup (off := 435) (tgt := 439) hx hb d_XPr_perform_4 (by decide +kernel) (by rw [c_34]; decide +kernel) (by decide) ?_
    refine lv_aload_n hx hb d_XPr_perform_439 rfl (lv_at hl 0 rfl) ?_
    refine va_get (v := .ref (a 7)) hx hb hts iX_Pr hown hw.2.1 hw.1 5 rfl rfl 2 (by decide) (hts _ kX_Pr_37) (fun _ h => h) rfl d_XPr_perform_440 ?_
    refine lv_aload_n hx hb d_XPr_perform_443 rfl (lv_at hl 1 rfl) ?_
    refine z_wi (z_runV (As := [.ref (a 6)]) (rest := []) ⟨hx, hb, hml, hown, hts⟩ (c_XAr_withHalf l D a k u0) (qX_Pr_96 hts (by decide)) hw 7 rfl rfl hl.1 rfl (lv_room (Nat.le_of_ble_eq_true rfl)) d_XPr_perform_444 hcs) hw hS (fun x_36 u_35 H locs ex_36 hw hS => ?_)
    have hf := hf.trans (pr_eq ex_36)
    exact hret x_36 _ _ _ _ _ d_XPr_perform_447 hw hS hf
  have hf := hf.trans (if_neg c_34)
  by_cases c_37 : x_1 = (73 : Int32)
  · have hf := hf.trans (if_pos c_37)
    refine lv_lookup (off := 435) (tgt := 439) hx hb d_XPr_perform_4 (by decide +kernel) (by rw [c_37]; decide +kernel) (by decide) ?_
    refine lv_aload_n hx hb d_XPr_perform_439 rfl (lv_at hl 0 rfl) ?_
    refine va_get (v := .ref (a 7)) hx hb hts iX_Pr hown hw.2.1 hw.1 5 rfl rfl 2 (by decide) (hts _ kX_Pr_37) (fun _ h => h) rfl d_XPr_perform_440 ?_
    refine lv_aload_n hx hb d_XPr_perform_443 rfl (lv_at hl 1 rfl) ?_
    refine z_wi (z_runV (As := [.ref (a 6)]) (rest := []) ⟨hx, hb, hml, hown, hts⟩ (c_XAr_withHalf l D a k u0) (qX_Pr_96 hts (by decide)) hw 7 rfl rfl hl.1 rfl (lv_room (Nat.le_of_ble_eq_true rfl)) d_XPr_perform_444 hcs) hw hS (fun x_39 u_38 H locs ex_39 hw hS => ?_)
    have hf := hf.trans (pr_eq ex_39)
    exact hret x_39 _ _ _ _ _ d_XPr_perform_447 hw hS hf
  have hf := hf.trans (if_neg c_37)
  by_cases c_40 : x_1 = (74 : Int32)
  · have hf := hf.trans (if_pos c_40)
    refine lv_lookup (off := 435) (tgt := 439) hx hb d_XPr_perform_4 (by decide +kernel) (by rw [c_40]; decide +kernel) (by decide) ?_
    refine lv_aload_n hx hb d_XPr_perform_439 rfl (lv_at hl 0 rfl) ?_
    refine va_get (v := .ref (a 7)) hx hb hts iX_Pr hown hw.2.1 hw.1 5 rfl rfl 2 (by decide) (hts _ kX_Pr_37) (fun _ h => h) rfl d_XPr_perform_440 ?_
    refine lv_aload_n hx hb d_XPr_perform_443 rfl (lv_at hl 1 rfl) ?_
    refine z_wi (z_runV (As := [.ref (a 6)]) (rest := []) ⟨hx, hb, hml, hown, hts⟩ (c_XAr_withHalf l D a k u0) (qX_Pr_96 hts (by decide)) hw 7 rfl rfl hl.1 rfl (lv_room (Nat.le_of_ble_eq_true rfl)) d_XPr_perform_444 hcs) hw hS (fun x_42 u_41 H locs ex_42 hw hS => ?_)
    have hf := hf.trans (pr_eq ex_42)
    exact hret x_42 _ _ _ _ _ d_XPr_perform_447 hw hS hf
  have hf := hf.trans (if_neg c_40)
  by_cases c_43 : x_1 = (75 : Int32)
  · have hf := hf.trans (if_pos c_43)
    refine lv_lookup (off := 435) (tgt := 439) hx hb d_XPr_perform_4 (by decide +kernel) (by rw [c_43]; decide +kernel) (by decide) ?_
    refine lv_aload_n hx hb d_XPr_perform_439 rfl (lv_at hl 0 rfl) ?_
    refine va_get (v := .ref (a 7)) hx hb hts iX_Pr hown hw.2.1 hw.1 5 rfl rfl 2 (by decide) (hts _ kX_Pr_37) (fun _ h => h) rfl d_XPr_perform_440 ?_
    refine lv_aload_n hx hb d_XPr_perform_443 rfl (lv_at hl 1 rfl) ?_
    refine z_wi (z_runV (As := [.ref (a 6)]) (rest := []) ⟨hx, hb, hml, hown, hts⟩ (c_XAr_withHalf l D a k u0) (qX_Pr_96 hts (by decide)) hw 7 rfl rfl hl.1 rfl (lv_room (Nat.le_of_ble_eq_true rfl)) d_XPr_perform_444 hcs) hw hS (fun x_45 u_44 H locs ex_45 hw hS => ?_)
    have hf := hf.trans (pr_eq ex_45)
    exact hret x_45 _ _ _ _ _ d_XPr_perform_447 hw hS hf
  have hf := hf.trans (if_neg c_43)
  by_cases c_46 : x_1 = (76 : Int32)
  · have hf := hf.trans (if_pos c_46)
    refine lv_lookup (off := 435) (tgt := 439) hx hb d_XPr_perform_4 (by decide +kernel) (by rw [c_46]; decide +kernel) (by decide) ?_
    refine lv_aload_n hx hb d_XPr_perform_439 rfl (lv_at hl 0 rfl) ?_
    refine va_get (v := .ref (a 7)) hx hb hts iX_Pr hown hw.2.1 hw.1 5 rfl rfl 2 (by decide) (hts _ kX_Pr_37) (fun _ h => h) rfl d_XPr_perform_440 ?_
    refine lv_aload_n hx hb d_XPr_perform_443 rfl (lv_at hl 1 rfl) ?_
    refine z_wi (z_runV (As := [.ref (a 6)]) (rest := []) ⟨hx, hb, hml, hown, hts⟩ (c_XAr_withHalf l D a k u0) (qX_Pr_96 hts (by decide)) hw 7 rfl rfl hl.1 rfl (lv_room (Nat.le_of_ble_eq_true rfl)) d_XPr_perform_444 hcs) hw hS (fun x_48 u_47 H locs ex_48 hw hS => ?_)
    have hf := hf.trans (pr_eq ex_48)
    exact hret x_48 _ _ _ _ _ d_XPr_perform_447 hw hS hf
  have hf := hf.trans (if_neg c_46)
  by_cases c_49 : x_1 = (78 : Int32)
  · have hf := hf.trans (if_pos c_49)
    refine lv_lookup (off := 444) (tgt := 448) hx hb d_XPr_perform_4 (by decide +kernel) (by rw [c_49]; decide +kernel) (by decide) ?_
    refine lv_aload_n hx hb d_XPr_perform_448 rfl (lv_at hl 0 rfl) ?_
    refine va_get (v := .ref (a 11)) hx hb hts iX_Pr hown hw.2.1 hw.1 5 rfl rfl 6 (by decide) (hts _ kX_Pr_65) (fun _ h => h) rfl d_XPr_perform_449 ?_
    refine lv_aload_n hx hb d_XPr_perform_452 rfl (lv_at hl 1 rfl) ?_
    refine z_wi (z_runV (As := [.ref (a 6)]) (rest := []) ⟨hx, hb, hml, hown, hts⟩ (c_XDe_convert l D a k u0) (qX_Pr_99 hts (by decide)) hw 11 rfl rfl hl.1 rfl (lv_room (Nat.le_of_ble_eq_true rfl)) d_XPr_perform_453 hcs) hw hS (fun x_51 u_50 H locs ex_51 hw hS => ?_)
    have hf := hf.trans (pr_eq ex_51)
    exact hret x_51 _ _ _ _ _ d_XPr_perform_456 hw hS hf
  have hf := hf.trans (if_neg c_49)
  by_cases c_52 : x_1 = (79 : Int32)
  · have hf := hf.trans (if_pos c_52)
    refine lv_lookup (off := 444) (tgt := 448) hx hb d_XPr_perform_4 (by decide +kernel) (by rw [c_52]; decide +kernel) (by decide) ?_
    refine lv_aload_n hx hb d_XPr_perform_448 rfl (lv_at hl 0 rfl) ?_
    refine va_get (v := .ref (a 11)) hx hb hts iX_Pr hown hw.2.1 hw.1 5 rfl rfl 6 (by decide) (hts _ kX_Pr_65) (fun _ h => h) rfl d_XPr_perform_449 ?_
    refine lv_aload_n hx hb d_XPr_perform_452 rfl (lv_at hl 1 rfl) ?_
    refine z_wi (z_runV (As := [.ref (a 6)]) (rest := []) ⟨hx, hb, hml, hown, hts⟩ (c_XDe_convert l D a k u0) (qX_Pr_99 hts (by decide)) hw 11 rfl rfl hl.1 rfl (lv_room (Nat.le_of_ble_eq_true rfl)) d_XPr_perform_453 hcs) hw hS (fun x_54 u_53 H locs ex_54 hw hS => ?_)
    have hf := hf.trans (pr_eq ex_54)
    exact hret x_54 _ _ _ _ _ d_XPr_perform_456 hw hS hf
  have hf := hf.trans (if_neg c_52)
  by_cases c_55 : x_1 = (80 : Int32)
  · have hf := hf.trans (if_pos c_55)
    refine lv_lookup (off := 426) (tgt := 430) hx hb d_XPr_perform_4 (by decide +kernel) (by rw [c_55]; decide +kernel) (by decide) ?_
    refine lv_aload_n hx hb d_XPr_perform_430 rfl (lv_at hl 0 rfl) ?_
    refine va_get (v := .ref (a 8)) hx hb hts iX_Pr hown hw.2.1 hw.1 5 rfl rfl 3 (by decide) (hts _ kX_Pr_44) (fun _ h => h) rfl d_XPr_perform_431 ?_
    refine lv_aload_n hx hb d_XPr_perform_434 rfl (lv_at hl 1 rfl) ?_
    refine z_wi (z_runV (As := [.ref (a 6)]) (rest := []) ⟨hx, hb, hml, hown, hts⟩ (c_XTr_perform l D a k u0) (qX_Pr_95 hts (by decide)) hw 8 rfl rfl hl.1 rfl (lv_room (Nat.le_of_ble_eq_true rfl)) d_XPr_perform_435 hcs) hw hS (fun x_57 u_56 H locs ex_57 hw hS => ?_)
    have hf := hf.trans (pr_eq ex_57)
    exact hret x_57 _ _ _ _ _ d_XPr_perform_438 hw hS hf
  have hf := hf.trans (if_neg c_55)
  by_cases c_58 : x_1 = (134 : Int32)
  · have hf := hf.trans (if_pos c_58)
    refine lv_lookup (off := 417) (tgt := 421) hx hb d_XPr_perform_4 (by decide +kernel) (by rw [c_58]; decide +kernel) (by decide) ?_
    refine lv_aload_n hx hb d_XPr_perform_421 rfl (lv_at hl 0 rfl) ?_
    refine va_get (v := .ref (a 9)) hx hb hts iX_Pr hown hw.2.1 hw.1 5 rfl rfl 4 (by decide) (hts _ kX_Pr_51) (fun _ h => h) rfl d_XPr_perform_422 ?_
    refine lv_aload_n hx hb d_XPr_perform_425 rfl (lv_at hl 1 rfl) ?_
    refine z_wi (z_runV (As := [.ref (a 6)]) (rest := []) ⟨hx, hb, hml, hown, hts⟩ (c_XBr_perform l D a k u0) (qX_Pr_94 hts (by decide)) hw 9 rfl rfl hl.1 rfl (lv_room (Nat.le_of_ble_eq_true rfl)) d_XPr_perform_426 hcs) hw hS (fun x_60 u_59 H locs ex_60 hw hS => ?_)
    have hf := hf.trans (pr_eq ex_60)
    exact hret x_60 _ _ _ _ _ d_XPr_perform_429 hw hS hf
  have hf := hf.trans (if_neg c_58)
  by_cases c_61 : x_1 = (135 : Int32)
  · have hf := hf.trans (if_pos c_61)
    refine lv_lookup (off := 417) (tgt := 421) hx hb d_XPr_perform_4 (by decide +kernel) (by rw [c_61]; decide +kernel) (by decide) ?_
    refine lv_aload_n hx hb d_XPr_perform_421 rfl (lv_at hl 0 rfl) ?_
    refine va_get (v := .ref (a 9)) hx hb hts iX_Pr hown hw.2.1 hw.1 5 rfl rfl 4 (by decide) (hts _ kX_Pr_51) (fun _ h => h) rfl d_XPr_perform_422 ?_
    refine lv_aload_n hx hb d_XPr_perform_425 rfl (lv_at hl 1 rfl) ?_
    refine z_wi (z_runV (As := [.ref (a 6)]) (rest := []) ⟨hx, hb, hml, hown, hts⟩ (c_XBr_perform l D a k u0) (qX_Pr_94 hts (by decide)) hw 9 rfl rfl hl.1 rfl (lv_room (Nat.le_of_ble_eq_true rfl)) d_XPr_perform_426 hcs) hw hS (fun x_63 u_62 H locs ex_63 hw hS => ?_)
    have hf := hf.trans (pr_eq ex_63)
    exact hret x_63 _ _ _ _ _ d_XPr_perform_429 hw hS hf
  have hf := hf.trans (if_neg c_61)
  by_cases c_64 : x_1 = (136 : Int32)
  · have hf := hf.trans (if_pos c_64)
    refine lv_lookup (off := 453) (tgt := 457) hx hb d_XPr_perform_4 (by decide +kernel) (by rw [c_64]; decide +kernel) (by decide) ?_
    refine lv_aload_n hx hb d_XPr_perform_457 rfl (lv_at hl 0 rfl) ?_
    refine va_get (v := .ref (a 7)) hx hb hts iX_Pr hown hw.2.1 hw.1 5 rfl rfl 2 (by decide) (hts _ kX_Pr_37) (fun _ h => h) rfl d_XPr_perform_458 ?_
    refine lv_aload_n hx hb d_XPr_perform_461 rfl (lv_at hl 1 rfl) ?_
    refine z_wi (z_runV (As := [.ref (a 6)]) (rest := []) ⟨hx, hb, hml, hown, hts⟩ (c_XAr_shift l D a k u0) (qX_Pr_102 hts (by decide)) hw 7 rfl rfl hl.1 rfl (lv_room (Nat.le_of_ble_eq_true rfl)) d_XPr_perform_462 hcs) hw hS (fun x_66 u_65 H locs ex_66 hw hS => ?_)
    have hf := hf.trans (pr_eq ex_66)
    exact hret x_66 _ _ _ _ _ d_XPr_perform_465 hw hS hf
  have hf := hf.trans (if_neg c_64)
  by_cases c_67 : x_1 = (137 : Int32)
  · have hf := hf.trans (if_pos c_67)
    refine lv_lookup (off := 453) (tgt := 457) hx hb d_XPr_perform_4 (by decide +kernel) (by rw [c_67]; decide +kernel) (by decide) ?_
    refine lv_aload_n hx hb d_XPr_perform_457 rfl (lv_at hl 0 rfl) ?_
    refine va_get (v := .ref (a 7)) hx hb hts iX_Pr hown hw.2.1 hw.1 5 rfl rfl 2 (by decide) (hts _ kX_Pr_37) (fun _ h => h) rfl d_XPr_perform_458 ?_
    refine lv_aload_n hx hb d_XPr_perform_461 rfl (lv_at hl 1 rfl) ?_
    refine z_wi (z_runV (As := [.ref (a 6)]) (rest := []) ⟨hx, hb, hml, hown, hts⟩ (c_XAr_shift l D a k u0) (qX_Pr_102 hts (by decide)) hw 7 rfl rfl hl.1 rfl (lv_room (Nat.le_of_ble_eq_true rfl)) d_XPr_perform_462 hcs) hw hS (fun x_69 u_68 H locs ex_69 hw hS => ?_)
    have hf := hf.trans (pr_eq ex_69)
    exact hret x_69 _ _ _ _ _ d_XPr_perform_465 hw hS hf
  have hf := hf.trans (if_neg c_67)
  by_cases c_70 : x_1 = (138 : Int32)
  · have hf := hf.trans (if_pos c_70)
    refine lv_lookup (off := 453) (tgt := 457) hx hb d_XPr_perform_4 (by decide +kernel) (by rw [c_70]; decide +kernel) (by decide) ?_
    refine lv_aload_n hx hb d_XPr_perform_457 rfl (lv_at hl 0 rfl) ?_
    refine va_get (v := .ref (a 7)) hx hb hts iX_Pr hown hw.2.1 hw.1 5 rfl rfl 2 (by decide) (hts _ kX_Pr_37) (fun _ h => h) rfl d_XPr_perform_458 ?_
    refine lv_aload_n hx hb d_XPr_perform_461 rfl (lv_at hl 1 rfl) ?_
    refine z_wi (z_runV (As := [.ref (a 6)]) (rest := []) ⟨hx, hb, hml, hown, hts⟩ (c_XAr_shift l D a k u0) (qX_Pr_102 hts (by decide)) hw 7 rfl rfl hl.1 rfl (lv_room (Nat.le_of_ble_eq_true rfl)) d_XPr_perform_462 hcs) hw hS (fun x_72 u_71 H locs ex_72 hw hS => ?_)
    have hf := hf.trans (pr_eq ex_72)
    exact hret x_72 _ _ _ _ _ d_XPr_perform_465 hw hS hf
  have hf := hf.trans (if_neg c_70)
  by_cases c_73 : x_1 = (139 : Int32)
  · have hf := hf.trans (if_pos c_73)
    refine lv_lookup (off := 453) (tgt := 457) hx hb d_XPr_perform_4 (by decide +kernel) (by rw [c_73]; decide +kernel) (by decide) ?_
    refine lv_aload_n hx hb d_XPr_perform_457 rfl (lv_at hl 0 rfl) ?_
    refine va_get (v := .ref (a 7)) hx hb hts iX_Pr hown hw.2.1 hw.1 5 rfl rfl 2 (by decide) (hts _ kX_Pr_37) (fun _ h => h) rfl d_XPr_perform_458 ?_
    refine lv_aload_n hx hb d_XPr_perform_461 rfl (lv_at hl 1 rfl) ?_
    refine z_wi (z_runV (As := [.ref (a 6)]) (rest := []) ⟨hx, hb, hml, hown, hts⟩ (c_XAr_shift l D a k u0) (qX_Pr_102 hts (by decide)) hw 7 rfl rfl hl.1 rfl (lv_room (Nat.le_of_ble_eq_true rfl)) d_XPr_perform_462 hcs) hw hS (fun x_75 u_74 H locs ex_75 hw hS => ?_)
    have hf := hf.trans (pr_eq ex_75)
    exact hret x_75 _ _ _ _ _ d_XPr_perform_465 hw hS hf
  have hf := hf.trans (if_neg c_73)
  by_cases c_76 : x_1 = (144 : Int32)
  · have hf := hf.trans (if_pos c_76)
    refine lv_lookup (off := 426) (tgt := 430) hx hb d_XPr_perform_4 (by decide +kernel) (by rw [c_76]; decide +kernel) (by decide) ?_
    refine lv_aload_n hx hb d_XPr_perform_430 rfl (lv_at hl 0 rfl) ?_
    refine va_get (v := .ref (a 8)) hx hb hts iX_Pr hown hw.2.1 hw.1 5 rfl rfl 3 (by decide) (hts _ kX_Pr_44) (fun _ h => h) rfl d_XPr_perform_431 ?_
    refine lv_aload_n hx hb d_XPr_perform_434 rfl (lv_at hl 1 rfl) ?_
    refine z_wi (z_runV (As := [.ref (a 6)]) (rest := []) ⟨hx, hb, hml, hown, hts⟩ (c_XTr_perform l D a k u0) (qX_Pr_95 hts (by decide)) hw 8 rfl rfl hl.1 rfl (lv_room (Nat.le_of_ble_eq_true rfl)) d_XPr_perform_435 hcs) hw hS (fun x_78 u_77 H locs ex_78 hw hS => ?_)
    have hf := hf.trans (pr_eq ex_78)
    exact hret x_78 _ _ _ _ _ d_XPr_perform_438 hw hS hf
  have hf := hf.trans (if_neg c_76)
  by_cases c_79 : x_1 = (145 : Int32)
  · have hf := hf.trans (if_pos c_79)
    refine lv_lookup (off := 462) (tgt := 466) hx hb d_XPr_perform_4 (by decide +kernel) (by rw [c_79]; decide +kernel) (by decide) ?_
    refine lv_aload_n hx hb d_XPr_perform_466 rfl (lv_at hl 0 rfl) ?_
    refine va_get (v := .ref (a 10)) hx hb hts iX_Pr hown hw.2.1 hw.1 5 rfl rfl 5 (by decide) (hts _ kX_Pr_58) (fun _ h => h) rfl d_XPr_perform_467 ?_
    refine lv_aload_n hx hb d_XPr_perform_470 rfl (lv_at hl 1 rfl) ?_
    refine z_wi (z_runV (As := [.ref (a 6)]) (rest := []) ⟨hx, hb, hml, hown, hts⟩ (c_XOc_withImmediate l D a k u0) (qX_Pr_105 hts (by decide)) hw 10 rfl rfl hl.1 rfl (lv_room (Nat.le_of_ble_eq_true rfl)) d_XPr_perform_471 hcs) hw hS (fun x_81 u_80 H locs ex_81 hw hS => ?_)
    have hf := hf.trans (pr_eq ex_81)
    exact hret x_81 _ _ _ _ _ d_XPr_perform_474 hw hS hf
  have hf := hf.trans (if_neg c_79)
  by_cases c_82 : x_1 = (146 : Int32)
  · have hf := hf.trans (if_pos c_82)
    refine lv_lookup (off := 462) (tgt := 466) hx hb d_XPr_perform_4 (by decide +kernel) (by rw [c_82]; decide +kernel) (by decide) ?_
    refine lv_aload_n hx hb d_XPr_perform_466 rfl (lv_at hl 0 rfl) ?_
    refine va_get (v := .ref (a 10)) hx hb hts iX_Pr hown hw.2.1 hw.1 5 rfl rfl 5 (by decide) (hts _ kX_Pr_58) (fun _ h => h) rfl d_XPr_perform_467 ?_
    refine lv_aload_n hx hb d_XPr_perform_470 rfl (lv_at hl 1 rfl) ?_
    refine z_wi (z_runV (As := [.ref (a 6)]) (rest := []) ⟨hx, hb, hml, hown, hts⟩ (c_XOc_withImmediate l D a k u0) (qX_Pr_105 hts (by decide)) hw 10 rfl rfl hl.1 rfl (lv_room (Nat.le_of_ble_eq_true rfl)) d_XPr_perform_471 hcs) hw hS (fun x_84 u_83 H locs ex_84 hw hS => ?_)
    have hf := hf.trans (pr_eq ex_84)
    exact hret x_84 _ _ _ _ _ d_XPr_perform_474 hw hS hf
  have hf := hf.trans (if_neg c_82)
  by_cases c_85 : x_1 = (148 : Int32)
  · have hf := hf.trans (if_pos c_85)
    refine lv_lookup (off := 462) (tgt := 466) hx hb d_XPr_perform_4 (by decide +kernel) (by rw [c_85]; decide +kernel) (by decide) ?_
    refine lv_aload_n hx hb d_XPr_perform_466 rfl (lv_at hl 0 rfl) ?_
    refine va_get (v := .ref (a 10)) hx hb hts iX_Pr hown hw.2.1 hw.1 5 rfl rfl 5 (by decide) (hts _ kX_Pr_58) (fun _ h => h) rfl d_XPr_perform_467 ?_
    refine lv_aload_n hx hb d_XPr_perform_470 rfl (lv_at hl 1 rfl) ?_
    refine z_wi (z_runV (As := [.ref (a 6)]) (rest := []) ⟨hx, hb, hml, hown, hts⟩ (c_XOc_withImmediate l D a k u0) (qX_Pr_105 hts (by decide)) hw 10 rfl rfl hl.1 rfl (lv_room (Nat.le_of_ble_eq_true rfl)) d_XPr_perform_471 hcs) hw hS (fun x_87 u_86 H locs ex_87 hw hS => ?_)
    have hf := hf.trans (pr_eq ex_87)
    exact hret x_87 _ _ _ _ _ d_XPr_perform_474 hw hS hf
  have hf := hf.trans (if_neg c_85)
  by_cases c_88 : x_1 = (149 : Int32)
  · have hf := hf.trans (if_pos c_88)
    refine lv_lookup (off := 462) (tgt := 466) hx hb d_XPr_perform_4 (by decide +kernel) (by rw [c_88]; decide +kernel) (by decide) ?_
    refine lv_aload_n hx hb d_XPr_perform_466 rfl (lv_at hl 0 rfl) ?_
    refine va_get (v := .ref (a 10)) hx hb hts iX_Pr hown hw.2.1 hw.1 5 rfl rfl 5 (by decide) (hts _ kX_Pr_58) (fun _ h => h) rfl d_XPr_perform_467 ?_
    refine lv_aload_n hx hb d_XPr_perform_470 rfl (lv_at hl 1 rfl) ?_
    refine z_wi (z_runV (As := [.ref (a 6)]) (rest := []) ⟨hx, hb, hml, hown, hts⟩ (c_XOc_withImmediate l D a k u0) (qX_Pr_105 hts (by decide)) hw 10 rfl rfl hl.1 rfl (lv_room (Nat.le_of_ble_eq_true rfl)) d_XPr_perform_471 hcs) hw hS (fun x_90 u_89 H locs ex_90 hw hS => ?_)
    have hf := hf.trans (pr_eq ex_90)
    exact hret x_90 _ _ _ _ _ d_XPr_perform_474 hw hS hf
  have hf := hf.trans (if_neg c_88)
  by_cases c_91 : x_1 = (150 : Int32)
  · have hf := hf.trans (if_pos c_91)
    refine lv_lookup (off := 462) (tgt := 466) hx hb d_XPr_perform_4 (by decide +kernel) (by rw [c_91]; decide +kernel) (by decide) ?_
    refine lv_aload_n hx hb d_XPr_perform_466 rfl (lv_at hl 0 rfl) ?_
    refine va_get (v := .ref (a 10)) hx hb hts iX_Pr hown hw.2.1 hw.1 5 rfl rfl 5 (by decide) (hts _ kX_Pr_58) (fun _ h => h) rfl d_XPr_perform_467 ?_
    refine lv_aload_n hx hb d_XPr_perform_470 rfl (lv_at hl 1 rfl) ?_
    refine z_wi (z_runV (As := [.ref (a 6)]) (rest := []) ⟨hx, hb, hml, hown, hts⟩ (c_XOc_withImmediate l D a k u0) (qX_Pr_105 hts (by decide)) hw 10 rfl rfl hl.1 rfl (lv_room (Nat.le_of_ble_eq_true rfl)) d_XPr_perform_471 hcs) hw hS (fun x_93 u_92 H locs ex_93 hw hS => ?_)
    have hf := hf.trans (pr_eq ex_93)
    exact hret x_93 _ _ _ _ _ d_XPr_perform_474 hw hS hf
  have hf := hf.trans (if_neg c_91)
  by_cases c_94 : x_1 = (151 : Int32)
  · have hf := hf.trans (if_pos c_94)
    refine lv_lookup (off := 462) (tgt := 466) hx hb d_XPr_perform_4 (by decide +kernel) (by rw [c_94]; decide +kernel) (by decide) ?_
    refine lv_aload_n hx hb d_XPr_perform_466 rfl (lv_at hl 0 rfl) ?_
    refine va_get (v := .ref (a 10)) hx hb hts iX_Pr hown hw.2.1 hw.1 5 rfl rfl 5 (by decide) (hts _ kX_Pr_58) (fun _ h => h) rfl d_XPr_perform_467 ?_
    refine lv_aload_n hx hb d_XPr_perform_470 rfl (lv_at hl 1 rfl) ?_
    refine z_wi (z_runV (As := [.ref (a 6)]) (rest := []) ⟨hx, hb, hml, hown, hts⟩ (c_XOc_withImmediate l D a k u0) (qX_Pr_105 hts (by decide)) hw 10 rfl rfl hl.1 rfl (lv_room (Nat.le_of_ble_eq_true rfl)) d_XPr_perform_471 hcs) hw hS (fun x_96 u_95 H locs ex_96 hw hS => ?_)
    have hf := hf.trans (pr_eq ex_96)
    exact hret x_96 _ _ _ _ _ d_XPr_perform_474 hw hS hf
  have hf := hf.trans (if_neg c_94)
  by_cases c_97 : x_1 = (152 : Int32)
  · have hf := hf.trans (if_pos c_97)
    refine lv_lookup (off := 426) (tgt := 430) hx hb d_XPr_perform_4 (by decide +kernel) (by rw [c_97]; decide +kernel) (by decide) ?_
    refine lv_aload_n hx hb d_XPr_perform_430 rfl (lv_at hl 0 rfl) ?_
    refine va_get (v := .ref (a 8)) hx hb hts iX_Pr hown hw.2.1 hw.1 5 rfl rfl 3 (by decide) (hts _ kX_Pr_44) (fun _ h => h) rfl d_XPr_perform_431 ?_
    refine lv_aload_n hx hb d_XPr_perform_434 rfl (lv_at hl 1 rfl) ?_
    refine z_wi (z_runV (As := [.ref (a 6)]) (rest := []) ⟨hx, hb, hml, hown, hts⟩ (c_XTr_perform l D a k u0) (qX_Pr_95 hts (by decide)) hw 8 rfl rfl hl.1 rfl (lv_room (Nat.le_of_ble_eq_true rfl)) d_XPr_perform_435 hcs) hw hS (fun x_99 u_98 H locs ex_99 hw hS => ?_)
    have hf := hf.trans (pr_eq ex_99)
    exact hret x_99 _ _ _ _ _ d_XPr_perform_438 hw hS hf
  have hf := hf.trans (if_neg c_97)
  by_cases c_100 : x_1 = (209 : Int32)
  · have hf := hf.trans (if_pos c_100)
    refine lv_lookup (off := 471) (tgt := 475) hx hb d_XPr_perform_4 (by decide +kernel) (by rw [c_100]; decide +kernel) (by decide) ?_
    refine lv_aload_n hx hb d_XPr_perform_475 rfl (lv_at hl 0 rfl) ?_
    refine va_get (v := .ref (a 10)) hx hb hts iX_Pr hown hw.2.1 hw.1 5 rfl rfl 5 (by decide) (hts _ kX_Pr_58) (fun _ h => h) rfl d_XPr_perform_476 ?_
    refine lv_aload_n hx hb d_XPr_perform_479 rfl (lv_at hl 1 rfl) ?_
    refine z_wi (z_runV (As := [.ref (a 6)]) (rest := []) ⟨hx, hb, hml, hown, hts⟩ (c_XOc_withField l D a k u0) (qX_Pr_108 hts (by decide)) hw 10 rfl rfl hl.1 rfl (lv_room (Nat.le_of_ble_eq_true rfl)) d_XPr_perform_480 hcs) hw hS (fun x_102 u_101 H locs ex_102 hw hS => ?_)
    have hf := hf.trans (pr_eq ex_102)
    exact hret x_102 _ _ _ _ _ d_XPr_perform_483 hw hS hf
  have hf := hf.trans (if_neg c_100)
  by_cases c_103 : x_1 = (210 : Int32)
  · have hf := hf.trans (if_pos c_103)
    refine lv_lookup (off := 471) (tgt := 475) hx hb d_XPr_perform_4 (by decide +kernel) (by rw [c_103]; decide +kernel) (by decide) ?_
    refine lv_aload_n hx hb d_XPr_perform_475 rfl (lv_at hl 0 rfl) ?_
    refine va_get (v := .ref (a 10)) hx hb hts iX_Pr hown hw.2.1 hw.1 5 rfl rfl 5 (by decide) (hts _ kX_Pr_58) (fun _ h => h) rfl d_XPr_perform_476 ?_
    refine lv_aload_n hx hb d_XPr_perform_479 rfl (lv_at hl 1 rfl) ?_
    refine z_wi (z_runV (As := [.ref (a 6)]) (rest := []) ⟨hx, hb, hml, hown, hts⟩ (c_XOc_withField l D a k u0) (qX_Pr_108 hts (by decide)) hw 10 rfl rfl hl.1 rfl (lv_room (Nat.le_of_ble_eq_true rfl)) d_XPr_perform_480 hcs) hw hS (fun x_105 u_104 H locs ex_105 hw hS => ?_)
    have hf := hf.trans (pr_eq ex_105)
    exact hret x_105 _ _ _ _ _ d_XPr_perform_483 hw hS hf
  have hf := hf.trans (if_neg c_103)
  by_cases c_106 : x_1 = (211 : Int32)
  · have hf := hf.trans (if_pos c_106)
    refine lv_lookup (off := 471) (tgt := 475) hx hb d_XPr_perform_4 (by decide +kernel) (by rw [c_106]; decide +kernel) (by decide) ?_
    refine lv_aload_n hx hb d_XPr_perform_475 rfl (lv_at hl 0 rfl) ?_
    refine va_get (v := .ref (a 10)) hx hb hts iX_Pr hown hw.2.1 hw.1 5 rfl rfl 5 (by decide) (hts _ kX_Pr_58) (fun _ h => h) rfl d_XPr_perform_476 ?_
    refine lv_aload_n hx hb d_XPr_perform_479 rfl (lv_at hl 1 rfl) ?_
    refine z_wi (z_runV (As := [.ref (a 6)]) (rest := []) ⟨hx, hb, hml, hown, hts⟩ (c_XOc_withField l D a k u0) (qX_Pr_108 hts (by decide)) hw 10 rfl rfl hl.1 rfl (lv_room (Nat.le_of_ble_eq_true rfl)) d_XPr_perform_480 hcs) hw hS (fun x_108 u_107 H locs ex_108 hw hS => ?_)
    have hf := hf.trans (pr_eq ex_108)
    exact hret x_108 _ _ _ _ _ d_XPr_perform_483 hw hS hf
  have hf := hf.trans (if_neg c_106)
  by_cases c_109 : x_1 = (212 : Int32)
  · have hf := hf.trans (if_pos c_109)
    refine lv_lookup (off := 471) (tgt := 475) hx hb d_XPr_perform_4 (by decide +kernel) (by rw [c_109]; decide +kernel) (by decide) ?_
    refine lv_aload_n hx hb d_XPr_perform_475 rfl (lv_at hl 0 rfl) ?_
    refine va_get (v := .ref (a 10)) hx hb hts iX_Pr hown hw.2.1 hw.1 5 rfl rfl 5 (by decide) (hts _ kX_Pr_58) (fun _ h => h) rfl d_XPr_perform_476 ?_
    refine lv_aload_n hx hb d_XPr_perform_479 rfl (lv_at hl 1 rfl) ?_
    refine z_wi (z_runV (As := [.ref (a 6)]) (rest := []) ⟨hx, hb, hml, hown, hts⟩ (c_XOc_withField l D a k u0) (qX_Pr_108 hts (by decide)) hw 10 rfl rfl hl.1 rfl (lv_room (Nat.le_of_ble_eq_true rfl)) d_XPr_perform_480 hcs) hw hS (fun x_111 u_110 H locs ex_111 hw hS => ?_)
    have hf := hf.trans (pr_eq ex_111)
    exact hret x_111 _ _ _ _ _ d_XPr_perform_483 hw hS hf
  have hf := hf.trans (if_neg c_109)
  by_cases c_112 : x_1 = (213 : Int32)
  · have hf := hf.trans (if_pos c_112)
    refine lv_lookup (off := 471) (tgt := 475) hx hb d_XPr_perform_4 (by decide +kernel) (by rw [c_112]; decide +kernel) (by decide) ?_
    refine lv_aload_n hx hb d_XPr_perform_475 rfl (lv_at hl 0 rfl) ?_
    refine va_get (v := .ref (a 10)) hx hb hts iX_Pr hown hw.2.1 hw.1 5 rfl rfl 5 (by decide) (hts _ kX_Pr_58) (fun _ h => h) rfl d_XPr_perform_476 ?_
    refine lv_aload_n hx hb d_XPr_perform_479 rfl (lv_at hl 1 rfl) ?_
    refine z_wi (z_runV (As := [.ref (a 6)]) (rest := []) ⟨hx, hb, hml, hown, hts⟩ (c_XOc_withField l D a k u0) (qX_Pr_108 hts (by decide)) hw 10 rfl rfl hl.1 rfl (lv_room (Nat.le_of_ble_eq_true rfl)) d_XPr_perform_480 hcs) hw hS (fun x_114 u_113 H locs ex_114 hw hS => ?_)
    have hf := hf.trans (pr_eq ex_114)
    exact hret x_114 _ _ _ _ _ d_XPr_perform_483 hw hS hf
  have hf := hf.trans (if_neg c_112)
  by_cases c_115 : x_1 = (214 : Int32)
  · have hf := hf.trans (if_pos c_115)
    refine lv_lookup (off := 471) (tgt := 475) hx hb d_XPr_perform_4 (by decide +kernel) (by rw [c_115]; decide +kernel) (by decide) ?_
    refine lv_aload_n hx hb d_XPr_perform_475 rfl (lv_at hl 0 rfl) ?_
    refine va_get (v := .ref (a 10)) hx hb hts iX_Pr hown hw.2.1 hw.1 5 rfl rfl 5 (by decide) (hts _ kX_Pr_58) (fun _ h => h) rfl d_XPr_perform_476 ?_
    refine lv_aload_n hx hb d_XPr_perform_479 rfl (lv_at hl 1 rfl) ?_
    refine z_wi (z_runV (As := [.ref (a 6)]) (rest := []) ⟨hx, hb, hml, hown, hts⟩ (c_XOc_withField l D a k u0) (qX_Pr_108 hts (by decide)) hw 10 rfl rfl hl.1 rfl (lv_room (Nat.le_of_ble_eq_true rfl)) d_XPr_perform_480 hcs) hw hS (fun x_117 u_116 H locs ex_117 hw hS => ?_)
    have hf := hf.trans (pr_eq ex_117)
    exact hret x_117 _ _ _ _ _ d_XPr_perform_483 hw hS hf
  have hf := hf.trans (if_neg c_115)
  by_cases c_118 : x_1 = (215 : Int32)
  · have hf := hf.trans (if_pos c_118)
    refine lv_lookup (off := 471) (tgt := 475) hx hb d_XPr_perform_4 (by decide +kernel) (by rw [c_118]; decide +kernel) (by decide) ?_
    refine lv_aload_n hx hb d_XPr_perform_475 rfl (lv_at hl 0 rfl) ?_
    refine va_get (v := .ref (a 10)) hx hb hts iX_Pr hown hw.2.1 hw.1 5 rfl rfl 5 (by decide) (hts _ kX_Pr_58) (fun _ h => h) rfl d_XPr_perform_476 ?_
    refine lv_aload_n hx hb d_XPr_perform_479 rfl (lv_at hl 1 rfl) ?_
    refine z_wi (z_runV (As := [.ref (a 6)]) (rest := []) ⟨hx, hb, hml, hown, hts⟩ (c_XOc_withField l D a k u0) (qX_Pr_108 hts (by decide)) hw 10 rfl rfl hl.1 rfl (lv_room (Nat.le_of_ble_eq_true rfl)) d_XPr_perform_480 hcs) hw hS (fun x_120 u_119 H locs ex_120 hw hS => ?_)
    have hf := hf.trans (pr_eq ex_120)
    exact hret x_120 _ _ _ _ _ d_XPr_perform_483 hw hS hf
  have hf := hf.trans (if_neg c_118)
  by_cases c_121 : x_1 = (220 : Int32)
  · have hf := hf.trans (if_pos c_121)
    refine lv_lookup (off := 471) (tgt := 475) hx hb d_XPr_perform_4 (by decide +kernel) (by rw [c_121]; decide +kernel) (by decide) ?_
    refine lv_aload_n hx hb d_XPr_perform_475 rfl (lv_at hl 0 rfl) ?_
    refine va_get (v := .ref (a 10)) hx hb hts iX_Pr hown hw.2.1 hw.1 5 rfl rfl 5 (by decide) (hts _ kX_Pr_58) (fun _ h => h) rfl d_XPr_perform_476 ?_
    refine lv_aload_n hx hb d_XPr_perform_479 rfl (lv_at hl 1 rfl) ?_
    refine z_wi (z_runV (As := [.ref (a 6)]) (rest := []) ⟨hx, hb, hml, hown, hts⟩ (c_XOc_withField l D a k u0) (qX_Pr_108 hts (by decide)) hw 10 rfl rfl hl.1 rfl (lv_room (Nat.le_of_ble_eq_true rfl)) d_XPr_perform_480 hcs) hw hS (fun x_123 u_122 H locs ex_123 hw hS => ?_)
    have hf := hf.trans (pr_eq ex_123)
    exact hret x_123 _ _ _ _ _ d_XPr_perform_483 hw hS hf
  have hf := hf.trans (if_neg c_121)
  by_cases c_124 : x_1 = (242 : Int32)
  · have hf := hf.trans (if_pos c_124)
    refine lv_lookup (off := 480) (tgt := 484) hx hb d_XPr_perform_4 (by decide +kernel) (by rw [c_124]; decide +kernel) (by decide) ?_
    refine lv_aload_n hx hb d_XPr_perform_484 rfl (lv_at hl 0 rfl) ?_
    refine va_get (v := .ref (a 11)) hx hb hts iX_Pr hown hw.2.1 hw.1 5 rfl rfl 6 (by decide) (hts _ kX_Pr_65) (fun _ h => h) rfl d_XPr_perform_485 ?_
    refine lv_aload_n hx hb d_XPr_perform_488 rfl (lv_at hl 1 rfl) ?_
    refine z_wi (z_runV (As := [.ref (a 6)]) (rest := []) ⟨hx, hb, hml, hown, hts⟩ (c_XDe_changeForm l D a k u0) (qX_Pr_111 hts (by decide)) hw 11 rfl rfl hl.1 rfl (lv_room (Nat.le_of_ble_eq_true rfl)) d_XPr_perform_489 hcs) hw hS (fun x_126 u_125 H locs ex_126 hw hS => ?_)
    have hf := hf.trans (pr_eq ex_126)
    exact hret x_126 _ _ _ _ _ d_XPr_perform_492 hw hS hf
  have hf := hf.trans (if_neg c_124)
  by_cases c_127 : x_1 = (243 : Int32)
  · have hf := hf.trans (if_pos c_127)
    refine lv_lookup (off := 480) (tgt := 484) hx hb d_XPr_perform_4 (by decide +kernel) (by rw [c_127]; decide +kernel) (by decide) ?_
    refine lv_aload_n hx hb d_XPr_perform_484 rfl (lv_at hl 0 rfl) ?_
    refine va_get (v := .ref (a 11)) hx hb hts iX_Pr hown hw.2.1 hw.1 5 rfl rfl 6 (by decide) (hts _ kX_Pr_65) (fun _ h => h) rfl d_XPr_perform_485 ?_
    refine lv_aload_n hx hb d_XPr_perform_488 rfl (lv_at hl 1 rfl) ?_
    refine z_wi (z_runV (As := [.ref (a 6)]) (rest := []) ⟨hx, hb, hml, hown, hts⟩ (c_XDe_changeForm l D a k u0) (qX_Pr_111 hts (by decide)) hw 11 rfl rfl hl.1 rfl (lv_room (Nat.le_of_ble_eq_true rfl)) d_XPr_perform_489 hcs) hw hS (fun x_129 u_128 H locs ex_129 hw hS => ?_)
    have hf := hf.trans (pr_eq ex_129)
    exact hret x_129 _ _ _ _ _ d_XPr_perform_492 hw hS hf
  have hf := hf.trans (if_neg c_127)
  by_cases c_130 : x_1 = (248 : Int32)
  · have hf := hf.trans (if_pos c_130)
    refine lv_lookup (off := 489) (tgt := 493) hx hb d_XPr_perform_4 (by decide +kernel) (by rw [c_130]; decide +kernel) (by decide) ?_
    refine lv_aload_n hx hb d_XPr_perform_493 rfl (lv_at hl 0 rfl) ?_
    refine va_get (v := .ref (a 11)) hx hb hts iX_Pr hown hw.2.1 hw.1 5 rfl rfl 6 (by decide) (hts _ kX_Pr_65) (fun _ h => h) rfl d_XPr_perform_494 ?_
    refine lv_aload_n hx hb d_XPr_perform_497 rfl (lv_at hl 1 rfl) ?_
    refine z_wi (z_runV (As := [.ref (a 6)]) (rest := []) ⟨hx, hb, hml, hown, hts⟩ (c_XDe_calculate l D a k u0) (qX_Pr_114 hts (by decide)) hw 11 rfl rfl hl.1 rfl (lv_room (Nat.le_of_ble_eq_true rfl)) d_XPr_perform_498 hcs) hw hS (fun x_132 u_131 H locs ex_132 hw hS => ?_)
    have hf := hf.trans (pr_eq ex_132)
    exact hret x_132 _ _ _ _ _ d_XPr_perform_501 hw hS hf
  have hf := hf.trans (if_neg c_130)
  by_cases c_133 : x_1 = (249 : Int32)
  · have hf := hf.trans (if_pos c_133)
    refine lv_lookup (off := 489) (tgt := 493) hx hb d_XPr_perform_4 (by decide +kernel) (by rw [c_133]; decide +kernel) (by decide) ?_
    refine lv_aload_n hx hb d_XPr_perform_493 rfl (lv_at hl 0 rfl) ?_
    refine va_get (v := .ref (a 11)) hx hb hts iX_Pr hown hw.2.1 hw.1 5 rfl rfl 6 (by decide) (hts _ kX_Pr_65) (fun _ h => h) rfl d_XPr_perform_494 ?_
    refine lv_aload_n hx hb d_XPr_perform_497 rfl (lv_at hl 1 rfl) ?_
    refine z_wi (z_runV (As := [.ref (a 6)]) (rest := []) ⟨hx, hb, hml, hown, hts⟩ (c_XDe_calculate l D a k u0) (qX_Pr_114 hts (by decide)) hw 11 rfl rfl hl.1 rfl (lv_room (Nat.le_of_ble_eq_true rfl)) d_XPr_perform_498 hcs) hw hS (fun x_135 u_134 H locs ex_135 hw hS => ?_)
    have hf := hf.trans (pr_eq ex_135)
    exact hret x_135 _ _ _ _ _ d_XPr_perform_501 hw hS hf
  have hf := hf.trans (if_neg c_133)
  by_cases c_136 : x_1 = (250 : Int32)
  · have hf := hf.trans (if_pos c_136)
    refine lv_lookup (off := 489) (tgt := 493) hx hb d_XPr_perform_4 (by decide +kernel) (by rw [c_136]; decide +kernel) (by decide) ?_
    refine lv_aload_n hx hb d_XPr_perform_493 rfl (lv_at hl 0 rfl) ?_
    refine va_get (v := .ref (a 11)) hx hb hts iX_Pr hown hw.2.1 hw.1 5 rfl rfl 6 (by decide) (hts _ kX_Pr_65) (fun _ h => h) rfl d_XPr_perform_494 ?_
    refine lv_aload_n hx hb d_XPr_perform_497 rfl (lv_at hl 1 rfl) ?_
    refine z_wi (z_runV (As := [.ref (a 6)]) (rest := []) ⟨hx, hb, hml, hown, hts⟩ (c_XDe_calculate l D a k u0) (qX_Pr_114 hts (by decide)) hw 11 rfl rfl hl.1 rfl (lv_room (Nat.le_of_ble_eq_true rfl)) d_XPr_perform_498 hcs) hw hS (fun x_138 u_137 H locs ex_138 hw hS => ?_)
    have hf := hf.trans (pr_eq ex_138)
    exact hret x_138 _ _ _ _ _ d_XPr_perform_501 hw hS hf
  have hf := hf.trans (if_neg c_136)
  by_cases c_139 : x_1 = (251 : Int32)
  · have hf := hf.trans (if_pos c_139)
    refine lv_lookup (off := 489) (tgt := 493) hx hb d_XPr_perform_4 (by decide +kernel) (by rw [c_139]; decide +kernel) (by decide) ?_
    refine lv_aload_n hx hb d_XPr_perform_493 rfl (lv_at hl 0 rfl) ?_
    refine va_get (v := .ref (a 11)) hx hb hts iX_Pr hown hw.2.1 hw.1 5 rfl rfl 6 (by decide) (hts _ kX_Pr_65) (fun _ h => h) rfl d_XPr_perform_494 ?_
    refine lv_aload_n hx hb d_XPr_perform_497 rfl (lv_at hl 1 rfl) ?_
    refine z_wi (z_runV (As := [.ref (a 6)]) (rest := []) ⟨hx, hb, hml, hown, hts⟩ (c_XDe_calculate l D a k u0) (qX_Pr_114 hts (by decide)) hw 11 rfl rfl hl.1 rfl (lv_room (Nat.le_of_ble_eq_true rfl)) d_XPr_perform_498 hcs) hw hS (fun x_141 u_140 H locs ex_141 hw hS => ?_)
    have hf := hf.trans (pr_eq ex_141)
    exact hret x_141 _ _ _ _ _ d_XPr_perform_501 hw hS hf
  have hf := hf.trans (if_neg c_139)
  by_cases c_142 : x_1 = (252 : Int32)
  · have hf := hf.trans (if_pos c_142)
    refine lv_lookup (off := 489) (tgt := 493) hx hb d_XPr_perform_4 (by decide +kernel) (by rw [c_142]; decide +kernel) (by decide) ?_
    refine lv_aload_n hx hb d_XPr_perform_493 rfl (lv_at hl 0 rfl) ?_
    refine va_get (v := .ref (a 11)) hx hb hts iX_Pr hown hw.2.1 hw.1 5 rfl rfl 6 (by decide) (hts _ kX_Pr_65) (fun _ h => h) rfl d_XPr_perform_494 ?_
    refine lv_aload_n hx hb d_XPr_perform_497 rfl (lv_at hl 1 rfl) ?_
    refine z_wi (z_runV (As := [.ref (a 6)]) (rest := []) ⟨hx, hb, hml, hown, hts⟩ (c_XDe_calculate l D a k u0) (qX_Pr_114 hts (by decide)) hw 11 rfl rfl hl.1 rfl (lv_room (Nat.le_of_ble_eq_true rfl)) d_XPr_perform_498 hcs) hw hS (fun x_144 u_143 H locs ex_144 hw hS => ?_)
    have hf := hf.trans (pr_eq ex_144)
    exact hret x_144 _ _ _ _ _ d_XPr_perform_501 hw hS hf
  have hf := hf.trans (if_neg c_142)
  by_cases c_145 : x_1 = (253 : Int32)
  · have hf := hf.trans (if_pos c_145)
    refine lv_lookup (off := 489) (tgt := 493) hx hb d_XPr_perform_4 (by decide +kernel) (by rw [c_145]; decide +kernel) (by decide) ?_
    refine lv_aload_n hx hb d_XPr_perform_493 rfl (lv_at hl 0 rfl) ?_
    refine va_get (v := .ref (a 11)) hx hb hts iX_Pr hown hw.2.1 hw.1 5 rfl rfl 6 (by decide) (hts _ kX_Pr_65) (fun _ h => h) rfl d_XPr_perform_494 ?_
    refine lv_aload_n hx hb d_XPr_perform_497 rfl (lv_at hl 1 rfl) ?_
    refine z_wi (z_runV (As := [.ref (a 6)]) (rest := []) ⟨hx, hb, hml, hown, hts⟩ (c_XDe_calculate l D a k u0) (qX_Pr_114 hts (by decide)) hw 11 rfl rfl hl.1 rfl (lv_room (Nat.le_of_ble_eq_true rfl)) d_XPr_perform_498 hcs) hw hS (fun x_147 u_146 H locs ex_147 hw hS => ?_)
    have hf := hf.trans (pr_eq ex_147)
    exact hret x_147 _ _ _ _ _ d_XPr_perform_501 hw hS hf
  have hf := hf.trans (if_neg c_145)
  refine lv_lookup (off := 498) (tgt := 502) hx hb d_XPr_perform_4 (by decide +kernel) (by rw [lv_osw c_2 (by decide +kernel), lv_osw c_5 (by decide +kernel), lv_osw c_8 (by decide +kernel), lv_osw c_11 (by decide +kernel), lv_osw c_13 (by decide +kernel), lv_osw c_16 (by decide +kernel), lv_osw c_19 (by decide +kernel), lv_osw c_22 (by decide +kernel), lv_osw c_25 (by decide +kernel), lv_osw c_28 (by decide +kernel), lv_osw c_31 (by decide +kernel), lv_osw c_34 (by decide +kernel), lv_osw c_37 (by decide +kernel), lv_osw c_40 (by decide +kernel), lv_osw c_43 (by decide +kernel), lv_osw c_46 (by decide +kernel), lv_osw c_49 (by decide +kernel), lv_osw c_52 (by decide +kernel), lv_osw c_55 (by decide +kernel), lv_osw c_58 (by decide +kernel), lv_osw c_61 (by decide +kernel), lv_osw c_64 (by decide +kernel), lv_osw c_67 (by decide +kernel), lv_osw c_70 (by decide +kernel), lv_osw c_73 (by decide +kernel), lv_osw c_76 (by decide +kernel), lv_osw c_79 (by decide +kernel), lv_osw c_82 (by decide +kernel), lv_osw c_85 (by decide +kernel), lv_osw c_88 (by decide +kernel), lv_osw c_91 (by decide +kernel), lv_osw c_94 (by decide +kernel), lv_osw c_97 (by decide +kernel), lv_osw c_100 (by decide +kernel), lv_osw c_103 (by decide +kernel), lv_osw c_106 (by decide +kernel), lv_osw c_109 (by decide +kernel), lv_osw c_112 (by decide +kernel), lv_osw c_115 (by decide +kernel), lv_osw c_118 (by decide +kernel), lv_osw c_121 (by decide +kernel), lv_osw c_124 (by decide +kernel), lv_osw c_127 (by decide +kernel), lv_osw c_130 (by decide +kernel), lv_osw c_133 (by decide +kernel), lv_osw c_136 (by decide +kernel), lv_osw c_139 (by decide +kernel), lv_osw c_142 (by decide +kernel), lv_osw c_145 (by decide +kernel)]; rfl) (by decide) ?_
  refine lv_aload_n hx hb d_XPr_perform_502 rfl (lv_at hl 0 rfl) ?_
  refine lv_aload_n hx hb d_XPr_perform_503 rfl (lv_at hl 1 rfl) ?_
  refine z_wi (z_runV (As := [.ref (a 6)]) (rest := []) ⟨hx, hb, hml, hown, hts⟩ (c_XPr_performRegular l D a k u0) (qX_Pr_117 hts (by decide)) hw 5 rfl rfl hl.1 rfl (lv_room (Nat.le_of_ble_eq_true rfl)) d_XPr_perform_504 hcs) hw hS (fun x_149 u_148 H locs ex_149 hw hS => ?_)
  have hf := hf.trans (pr_eq ex_149)
  exact hret x_149 _ _ _ _ _ d_XPr_perform_507 hw hS hf
def f_XPr_step (u0 : XS)  : Int32 × XS := nm (xF u0 0) (fun (x_1 : Int32) => pr (f_XIn_fetch u0) (fun (x_3 : Int32) (u_2 : XS) => jn (fun (K_6 : Int32 → XS → Int32 × XS) => if x_3 = (0 : Int32) then nm (xsF u_2 0 (xF u_2 10)) (fun (u_19 : XS) => pr (f_XPr_perform u_19) (fun (x_21 : Int32) (u_20 : XS) => K_6 x_21 u_20)) else K_6 x_3 u_2) (fun (x_4 : Int32) (u_5 : XS) => jn (fun (K_8 : XS → Int32 × XS) => jn (fun (K_12 : Int32 × XS) => if x_4 = (0 : Int32) then K_12 else if x_4 = (8 : Int32) then K_12 else if x_4 = (10 : Int32) then K_12 else nm (xsF u_5 0 x_1) (fun (u_17 : XS) => K_8 u_17)) (nm (xsF u_5 11 ((xF u_5 11) + (1 : Int32))) (fun (u_13 : XS) => K_8 u_13))) (fun (u_7 : XS) => if x_4 = (0 : Int32) then (x_4, u_7) else nm (xsF u_7 12 ((xF u_7 12) + (1 : Int32))) (fun (u_10 : XS) => nm (xsF u_10 13 x_4) (fun (u_11 : XS) => (x_4, u_11)))))))
set_option maxHeartbeats 4000000 in
set_option maxRecDepth 100000 in
theorem c_XPr_step (l : Launch) (D : va_G) (a : Nat → Nat) (k : Nat → ClassId) (u0 : XS)  : zMi l y_XPr_step w_XPr_step rm_XPr_step D clX (tyX k) nwX (xW a k) [.ref (a 5)] u0 (f_XPr_step u0) := by
  generalize hF : f_XPr_step u0 = F
  have hf := hF.symm
  unfold f_XPr_step at hf
  refine zMi_of (cc := b_XPr_step) (maxL := 3) (own := RX_Pr) (by decide) rfl rfl (Nat.le_of_ble_eq_true rfl) ?_
  intro p e R st m args below meth c A H locs Q ls hR hx hb hml hown hts hw hS hret hl
  subst hR
  have hcs : 0 ≤ (rm_XPr_step).cells ∧ 0 ≤ (rm_XPr_step).slots := ⟨Nat.zero_le _, Nat.zero_le _⟩
  have hl : lv_has ls 3 [(0, .ref (a 5))] := hl
  refine lv_aload_n hx hb d_XPr_step_0 rfl (lv_at hl 0 rfl) ?_
  refine va_get (v := .ref (a 1)) hx hb hts iX_Pr hown hw.2.1 hw.1 5 rfl rfl 0 (by decide) (hts _ kX_Pr_28) (fun _ h => h) rfl d_XPr_step_1 ?_
  refine va_getN (v := .int (xF u0 0)) hx hb hts iX_St hown hw.2.1 hw.1 1 rfl rfl 2 (by decide) (va_Nw.use rfl (hw.2.2.2 _ kX_Pr_69).2) (fun _ h => h) rfl d_XPr_step_4 ?_
  refine lv_topi (fun x_1 ex_1 => ?_)
  have hf := hf.trans (nm_eq ex_1)
  refine lv_istore_n (lv' := [(1, .int x_1), (0, .ref (a 5))]) hx hb d_XPr_step_7 rfl hl (by decide) rfl (fun ls hl => ?_)
  refine lv_aload_n hx hb d_XPr_step_8 rfl (lv_at hl 1 rfl) ?_
  refine va_get (v := .ref (a 6)) hx hb hts iX_Pr hown hw.2.1 hw.1 5 rfl rfl 1 (by decide) (hts _ kX_Pr_12) (fun _ h => h) rfl d_XPr_step_9 ?_
  refine lv_aload_n hx hb d_XPr_step_12 rfl (lv_at hl 1 rfl) ?_
  refine va_get (v := .ref (a 1)) hx hb hts iX_Pr hown hw.2.1 hw.1 5 rfl rfl 0 (by decide) (hts _ kX_Pr_28) (fun _ h => h) rfl d_XPr_step_13 ?_
  refine z_wi (z_runV (As := [.ref (a 1)]) (rest := []) ⟨hx, hb, hml, hown, hts⟩ (c_XIn_fetch l D a k u0) (qX_Pr_74 hts (by decide)) hw 6 rfl rfl hl.1 rfl (lv_room (Nat.le_of_ble_eq_true rfl)) d_XPr_step_16 hcs) hw hS (fun x_3 u_2 H locs ex_3 hw hS => ?_)
  have hf := hf.trans (pr_eq ex_3)
  refine lv_istore_n (lv' := [(2, .int x_3), (1, .int x_1), (0, .ref (a 5))]) hx hb d_XPr_step_19 rfl hl (by decide) rfl (fun ls hl => ?_)
  refine lv_iload_n hx hb d_XPr_step_20 rfl (lv_at hl 0 rfl) ?_
  refine jn_cut hf (fun (K_6 : Int32 → XS → Int32 × XS) => ∀ (x_4 : Int32) (u_5 : XS), ∀ (H : Heap) (locs : List Loc), zW D clX (tyX k) nwX (xW a k) A st u_5 H → va_S A st.heap H locs → ∀ (ls : Array Slot), lv_has ls 3 [(0, .ref (a 5)), (1, .int x_1), (2, .int x_4)] → F = K_6 x_4 u_5 → W p l e rm_XPr_step st m args below meth c H locs 0 0 Q (F0 m 47 ls [])) ?_ ?_
  · intro x_4 u_5 H locs hw hS ls hl hf
    refine lv_iload_n hx hb d_XPr_step_47 rfl (lv_at hl 2 rfl) ?_
    refine jn_cut hf (fun (K_8 : XS → Int32 × XS) => ∀ (u_7 : XS), ∀ (H : Heap) (locs : List Loc), zW D clX (tyX k) nwX (xW a k) A st u_7 H → va_S A st.heap H locs → ∀ (ls : Array Slot), lv_has ls 3 [(0, .ref (a 5)), (2, .int x_4)] → F = K_8 u_7 → W p l e rm_XPr_step st m args below meth c H locs 0 0 Q (F0 m 84 ls [])) ?_ ?_
    · intro u_7 H locs hw hS ls hl hf
      refine lv_iload_n hx hb d_XPr_step_84 rfl (lv_at hl 1 rfl) ?_
      refine lv_if_eq (tgt := 103) hx hb d_XPr_step_85 (by decide) (fun c_9 => ?_) (fun c_9 => ?_)
      · have hf := hf.trans (if_pos c_9)
        refine lv_iload_n hx hb d_XPr_step_103 rfl (lv_at hl 1 rfl) ?_
        exact hret x_4 _ _ _ _ _ d_XPr_step_104 hw hS hf
      · have hf := hf.trans (if_neg c_9)
        refine lv_aload_n hx hb d_XPr_step_88 rfl (lv_at hl 0 rfl) ?_
        refine lv_dup hx hb d_XPr_step_89 rfl ?_
        refine va_get (v := .int (xF u_7 12)) hx hb hts iX_Pr hown hw.2.1 hw.1 5 rfl rfl 8 (by decide) (hts _ kX_Pr_22) (fun _ h => h) rfl d_XPr_step_90 ?_
        refine lv_iconst (v := (1 : Int32)) hx hb d_XPr_step_93 (by decide) ?_
        refine lv_iadd hx hb d_XPr_step_94 ?_
        refine z_put (u' := xsF u_7 12 ((xF u_7 12) + (1 : Int32))) hx hb hts iX_Pr tX_Pr tX_Pr_ok nX_Pr hown hw hS 5 rfl rfl 8 (by decide) (hts _ kX_Pr_22) (fun _ h => h) rfl rfl (Nat.le_of_ble_eq_true rfl) rfl d_XPr_step_95 (fun u_10 H locs eu_10 hw hS => ?_)
        have hf := hf.trans (nm_eq eu_10)
        refine lv_aload_n hx hb d_XPr_step_98 rfl (lv_at hl 0 rfl) ?_
        refine lv_iload_n hx hb d_XPr_step_99 rfl (lv_at hl 1 rfl) ?_
        refine z_put (u' := xsF u_10 13 x_4) hx hb hts iX_Pr tX_Pr tX_Pr_ok nX_Pr hown hw hS 5 rfl rfl 9 (by decide) (hts _ kX_Pr_25) (fun _ h => h) rfl rfl (Nat.le_of_ble_eq_true rfl) rfl d_XPr_step_100 (fun u_11 H locs eu_11 hw hS => ?_)
        have hf := hf.trans (nm_eq eu_11)
        refine lv_iload_n hx hb d_XPr_step_103 rfl (lv_at hl 1 rfl) ?_
        exact hret x_4 _ _ _ _ _ d_XPr_step_104 hw hS hf
    · intro K_8 hK_8 hf
      refine jn_cut hf (fun (K_12 : Int32 × XS) => ∀ (ls : Array Slot), lv_has ls 3 [(0, .ref (a 5)), (2, .int x_4)] → F = K_12 → W p l e rm_XPr_step st m args below meth c H locs 0 0 Q (F0 m 63 ls [])) ?_ ?_
      · intro ls hl hf
        refine lv_aload_n hx hb d_XPr_step_63 rfl (lv_at hl 0 rfl) ?_
        refine lv_dup hx hb d_XPr_step_64 rfl ?_
        refine va_get (v := .int (xF u_5 11)) hx hb hts iX_Pr hown hw.2.1 hw.1 5 rfl rfl 7 (by decide) (hts _ kX_Pr_18) (fun _ h => h) rfl d_XPr_step_65 ?_
        refine lv_iconst (v := (1 : Int32)) hx hb d_XPr_step_68 (by decide) ?_
        refine lv_iadd hx hb d_XPr_step_69 ?_
        refine z_put (u' := xsF u_5 11 ((xF u_5 11) + (1 : Int32))) hx hb hts iX_Pr tX_Pr tX_Pr_ok nX_Pr hown hw hS 5 rfl rfl 7 (by decide) (hts _ kX_Pr_18) (fun _ h => h) rfl rfl (Nat.le_of_ble_eq_true rfl) rfl d_XPr_step_70 (fun u_13 H locs eu_13 hw hS => ?_)
        have hf := hf.trans (nm_eq eu_13)
        refine lv_goto (tgt := 84) hx hb d_XPr_step_73 (by decide) ?_
        exact hK_8 u_13 _ _ hw hS _ (lv_sub hl [0, 1] rfl) hf
      · intro K_12 hK_12 hf
        refine lv_if_eq (tgt := 63) hx hb d_XPr_step_48 (by decide) (fun c_14 => ?_) (fun c_14 => ?_)
        · have hf := hf.trans (if_pos c_14)
          exact hK_12 _ (lv_sub hl [0, 2] rfl) hf
        · have hf := hf.trans (if_neg c_14)
          refine lv_iload_n hx hb d_XPr_step_51 rfl (lv_at hl 2 rfl) ?_
          refine lv_bipush (v := (8 : Int32)) hx hb d_XPr_step_52 (by decide) ?_
          refine lv_icmp_eq (tgt := 63) hx hb d_XPr_step_54 (by decide) (fun c_15 => ?_) (fun c_15 => ?_)
          · have hf := hf.trans (if_pos c_15)
            exact hK_12 _ (lv_sub hl [0, 2] rfl) hf
          · have hf := hf.trans (if_neg c_15)
            refine lv_iload_n hx hb d_XPr_step_57 rfl (lv_at hl 2 rfl) ?_
            refine lv_bipush (v := (10 : Int32)) hx hb d_XPr_step_58 (by decide) ?_
            refine lv_icmp_ne (tgt := 76) hx hb d_XPr_step_60 (by decide) (fun c_16 => ?_) (fun c_16 => ?_)
            · have hf := hf.trans (if_neg c_16)
              refine lv_aload_n hx hb d_XPr_step_76 rfl (lv_at hl 0 rfl) ?_
              refine va_get (v := .ref (a 1)) hx hb hts iX_Pr hown hw.2.1 hw.1 5 rfl rfl 0 (by decide) (hts _ kX_Pr_28) (fun _ h => h) rfl d_XPr_step_77 ?_
              refine lv_iload_n hx hb d_XPr_step_80 rfl (lv_at hl 1 rfl) ?_
              refine z_putN (u' := xsF u_5 0 x_1) hx hb hts iX_St tX_St tX_St_ok nX_St hown hw hS 1 rfl rfl 2 (by decide) (va_Nw.use rfl (hw.2.2.2 _ kX_Pr_69).2) (fun _ h => h) rfl rfl (Nat.le_of_ble_eq_true rfl) rfl d_XPr_step_81 (fun u_17 H locs eu_17 hw hS => ?_)
              have hf := hf.trans (nm_eq eu_17)
              exact hK_8 u_17 _ _ hw hS _ (lv_sub hl [0, 2] rfl) hf
            · have hf := hf.trans (if_pos c_16)
              exact hK_12 _ (lv_sub hl [0, 2] rfl) hf
  · intro K_6 hK_6 hf
    refine lv_if_ne (tgt := 47) hx hb d_XPr_step_21 (by decide) (fun c_18 => ?_) (fun c_18 => ?_)
    · have hf := hf.trans (if_neg c_18)
      exact hK_6 x_3 u_2 _ _ hw hS _ (lv_sub hl [2, 1, 0] rfl) hf
    · have hf := hf.trans (if_pos c_18)
      refine lv_aload_n hx hb d_XPr_step_24 rfl (lv_at hl 2 rfl) ?_
      refine va_get (v := .ref (a 1)) hx hb hts iX_Pr hown hw.2.1 hw.1 5 rfl rfl 0 (by decide) (hts _ kX_Pr_28) (fun _ h => h) rfl d_XPr_step_25 ?_
      refine lv_aload_n hx hb d_XPr_step_28 rfl (lv_at hl 2 rfl) ?_
      refine va_get (v := .ref (a 6)) hx hb hts iX_Pr hown hw.2.1 hw.1 5 rfl rfl 1 (by decide) (hts _ kX_Pr_12) (fun _ h => h) rfl d_XPr_step_29 ?_
      refine va_getN (v := .int (xF u_2 10)) hx hb hts iX_In hown hw.2.1 hw.1 6 rfl rfl 6 (by decide) (va_Nw.use rfl (hw.2.2.2 _ kX_Pr_78).2) (fun _ h => h) rfl d_XPr_step_32 ?_
      refine z_putN (u' := xsF u_2 0 (xF u_2 10)) hx hb hts iX_St tX_St tX_St_ok nX_St hown hw hS 1 rfl rfl 2 (by decide) (va_Nw.use rfl (hw.2.2.2 _ kX_Pr_69).2) (fun _ h => h) rfl rfl (Nat.le_of_ble_eq_true rfl) rfl d_XPr_step_35 (fun u_19 H locs eu_19 hw hS => ?_)
      have hf := hf.trans (nm_eq eu_19)
      refine lv_aload_n hx hb d_XPr_step_38 rfl (lv_at hl 2 rfl) ?_
      refine lv_aload_n hx hb d_XPr_step_39 rfl (lv_at hl 2 rfl) ?_
      refine va_get (v := .ref (a 6)) hx hb hts iX_Pr hown hw.2.1 hw.1 5 rfl rfl 1 (by decide) (hts _ kX_Pr_12) (fun _ h => h) rfl d_XPr_step_40 ?_
      refine z_wi (z_runV (As := [.ref (a 6)]) (rest := []) ⟨hx, hb, hml, hown, hts⟩ (c_XPr_perform l D a k u_19) (qX_Pr_81 hts (by decide)) hw 5 rfl rfl hl.1 rfl (lv_room (Nat.le_of_ble_eq_true rfl)) d_XPr_step_43 hcs) hw hS (fun x_21 u_20 H locs ex_21 hw hS => ?_)
      have hf := hf.trans (pr_eq ex_21)
      refine lv_istore_n (lv' := [(2, .int x_21), (1, .int x_1), (0, .ref (a 5))]) hx hb d_XPr_step_46 rfl hl (by decide) rfl (fun ls hl => ?_)
      exact hK_6 x_21 u_20 _ _ hw hS _ (lv_sub hl [2, 1, 0] rfl) hf
