set_option maxHeartbeats 4000000 in
set_option maxRecDepth 100000 in
theorem c_MMo_translates (l : Launch) (D : va_G) (a : Nat → Nat) (k : Nat → ClassId) (u0 : MS) (x1 : Int32) (F : Bool × MS) (hf : f_MMo_translates u0 x1 = some F) : zMz l y_MMo_translates w_MMo_translates rm_MMo_translates D clM (tyM k) nwM (mW a k) [.ref (a 0), .int x1] u0 F := by
  have hf := hf.symm
  unfold f_MMo_translates at hf
  refine zMz_of (cc := b_MMo_translates) (maxL := 5) (own := RM_Mo) (by decide) rfl rfl (Nat.le_of_ble_eq_true rfl) ?_
  intro p e R st m args below meth c A H locs Q ls hR hx hb hml hown hts hw hS hret hl
  subst hR
  have hcs : 0 ≤ (rm_MMo_translates).cells ∧ 0 ≤ (rm_MMo_translates).slots := ⟨Nat.zero_le _, Nat.zero_le _⟩
  have hl : lv_has ls 5 [(0, .ref (a 0)), (1, .int x1)] := hl
  refine lv_iconst (v := (0 : Int32)) hx hb d_MMo_translates_0 (by decide) ?_
  refine lv_istore_n (lv' := [(2, .int (0 : Int32)), (0, .ref (a 0)), (1, .int x1)]) hx hb d_MMo_translates_1 rfl hl (by decide) rfl (fun ls hl => ?_)
  refine jn_cut hf (fun (K_2 : MS → Option (Bool × MS)) => ∀ (u_1 : MS), ∀ (H : Heap) (locs : List Loc), zW D clM (tyM k) nwM (mW a k) A st u_1 H → va_S A st.heap H locs → ∀ (ls : Array Slot), lv_has ls 5 [(0, .ref (a 0)), (1, .int x1)] → some F = K_2 u_1 → W p l e rm_MMo_translates st m args below meth c H locs 0 0 Q (F0 m 30 ls [])) ?_ ?_
  · intro u_1 H locs hw hS ls hl hf
    refine lv_iconst (v := (1 : Int32)) hx hb d_MMo_translates_30 (by decide) ?_
    refine lv_istore_n (lv' := [(2, .int (1 : Int32)), (0, .ref (a 0)), (1, .int x1)]) hx hb d_MMo_translates_31 rfl hl (by decide) rfl (fun ls hl => ?_)
    refine lv_iconst (v := (0 : Int32)) hx hb d_MMo_translates_32 (by decide) ?_
    refine lv_istore_n (lv' := [(3, .int (0 : Int32)), (2, .int (1 : Int32)), (0, .ref (a 0)), (1, .int x1)]) hx hb d_MMo_translates_33 rfl hl (by decide) rfl (fun ls hl => ?_)
    refine jn_cut hf (fun (K_5 : Bool → MS → Option (Bool × MS)) => ∀ (z_3 : Bool) (u_4 : MS), ∀ (H : Heap) (locs : List Loc), zW D clM (tyM k) nwM (mW a k) A st u_4 H → va_S A st.heap H locs → ∀ (ls : Array Slot), lv_has ls 5 [(0, .ref (a 0)), (1, .int x1), (2, .int (bI z_3))] → some F = K_5 z_3 u_4 → W p l e rm_MMo_translates st m args below meth c H locs 0 0 Q (F0 m 99 ls [])) ?_ ?_
    · intro z_3 u_4 H locs hw hS ls hl hf
      refine lv_iconst (v := (0 : Int32)) hx hb d_MMo_translates_99 (by decide) ?_
      refine lv_istore_n (lv' := [(3, .int (0 : Int32)), (0, .ref (a 0)), (1, .int x1), (2, .int (bI z_3))]) hx hb d_MMo_translates_100 rfl hl (by decide) rfl (fun ls hl => ?_)
      refine lp_cut (fun (_ : Nat) (L_8 : Int32 → MS → Option (Bool × MS)) => ∀ (x_6 : Int32) (u_7 : MS), ∀ (H : Heap) (locs : List Loc), zW D clM (tyM k) nwM (mW a k) A st u_7 H → va_S A st.heap H locs → ∀ (ls : Array Slot), lv_has ls 5 [(0, .ref (a 0)), (1, .int x1), (2, .int (bI z_3)), (3, .int x_6)] → some F = L_8 x_6 u_7 → W p l e rm_MMo_translates st m args below meth c H locs 0 0 Q (F0 m 101 ls [])) ?_ ?_ fuelM (0 : Int32) u_4 _ _ hw hS _ (lv_sub hl [1, 2, 3, 0] rfl) hf
      · intro _ _ _ _ _ _ _ _ hf; cases hf
      · intro _ L_8 hL_8 x_6 u_7 H locs hw hS ls hl hf
        unfold g_MMo_translates_101 at hf
        refine lv_iload_n hx hb d_MMo_translates_101 rfl (lv_at hl 3 rfl) ?_
        refine lv_iload_n hx hb d_MMo_translates_102 rfl (lv_at hl 1 rfl) ?_
        refine lv_icmp_ge (tgt := 133) hx hb d_MMo_translates_103 (by decide) (fun c_9 => ?_) (fun c_9 => ?_)
        · have hf := hf.trans (if_pos c_9)
          refine lv_iload_n hx hb d_MMo_translates_133 rfl (lv_at hl 2 rfl) ?_
          exact hret z_3 _ _ _ _ _ d_MMo_translates_134 hw hS (Option.some.inj hf)
        · have hf := hf.trans (if_neg c_9)
          refine lv_iload_n hx hb d_MMo_translates_106 rfl (lv_at hl 2 rfl) ?_
          refine lv_if_ne (tgt := 133) hx hb d_MMo_translates_107 (by decide) (fun c_10 => ?_) (fun c_10 => ?_)
          · have hf := hf.trans (if_neg c_10)
            refine lv_iload_n hx hb d_MMo_translates_133 rfl (lv_at hl 2 rfl) ?_
            exact hret z_3 _ _ _ _ _ d_MMo_translates_134 hw hS (Option.some.inj hf)
          · have hf := hf.trans (if_pos c_10)
            refine lv_aload_n hx hb d_MMo_translates_110 rfl (lv_at hl 0 rfl) ?_
            refine va_get (v := .ref (a 1)) hx hb hts iM_Mo hown hw.2.1 hw.1 0 rfl rfl 0 (by decide) (hts _ kM_Mo_7) (fun _ h => h) rfl d_MMo_translates_111 ?_
            refine lv_aload_n hx hb d_MMo_translates_114 rfl (lv_at hl 0 rfl) ?_
            refine va_get (v := .int (mF u_7 11)) hx hb hts iM_Mo hown hw.2.1 hw.1 0 rfl rfl 19 (by decide) (hts _ kM_Mo_149) (fun _ h => h) rfl d_MMo_translates_115 ?_
            refine lv_iload_n hx hb d_MMo_translates_118 rfl (lv_at hl 3 rfl) ?_
            refine lv_iadd hx hb d_MMo_translates_119 ?_
            refine lv_aload_n hx hb d_MMo_translates_120 rfl (lv_at hl 0 rfl) ?_
            refine va_get (v := .ref (a 3)) hx hb hts iM_Mo hown hw.2.1 hw.1 0 rfl rfl 2 (by decide) (hts _ kM_Mo_16) (fun _ h => h) rfl d_MMo_translates_121 ?_
            refine lv_iload_n hx hb d_MMo_translates_124 rfl (lv_at hl 3 rfl) ?_
            obtain ⟨i_11, hf⟩ := ckI_inv hf
            refine va_iald hx hb hw.2.1 hw.1 3 2 rfl rfl i_11 d_MMo_translates_125 ?_
            obtain ⟨i_13, hf⟩ := ckI_inv hf
            refine z_iast (u' := msA u_7 1 (Int32.toNatClampNeg ((mF u_7 11) + x_6)) (mA u_7 3 (Int32.toNatClampNeg x_6))) hx hb hw hS 1 0 rfl rfl i_13 rfl d_MMo_translates_126 (fun u_12 H locs eu_12 hw hS => ?_)
            have hf := hf.trans (nm_eq eu_12)
            obtain ⟨x_14, ex_14⟩ : ∃ y : Int32, y = x_6 + (1 : Int32) := ⟨_, rfl⟩
            have hf := hf.trans (nm_eq ex_14)
            refine lv_iinc (v := x_14) (lv' := [(3, .int x_14), (0, .ref (a 0)), (1, .int x1), (2, .int (bI z_3))]) hx hb d_MMo_translates_127 hl (k := 3) rfl (by rw [ex_14]; rfl) (by decide) rfl (fun ls hl => ?_)
            refine lv_goto (tgt := 101) hx hb d_MMo_translates_130 (by decide) ?_
            exact hL_8 x_14 u_12 _ _ hw hS _ (lv_sub hl [1, 2, 3, 0] rfl) hf
    · intro K_5 hK_5 hf
      refine lp_cut (fun (_ : Nat) (L_18 : Bool → Int32 → MS → Option (Bool × MS)) => ∀ (z_15 : Bool) (x_16 : Int32) (u_17 : MS), ∀ (H : Heap) (locs : List Loc), zW D clM (tyM k) nwM (mW a k) A st u_17 H → va_S A st.heap H locs → ∀ (ls : Array Slot), lv_has ls 5 [(0, .ref (a 0)), (1, .int x1), (2, .int (bI z_15)), (3, .int x_16)] → some F = L_18 z_15 x_16 u_17 → W p l e rm_MMo_translates st m args below meth c H locs 0 0 Q (F0 m 34 ls [])) ?_ ?_ fuelM true (0 : Int32) u_1 _ _ hw hS _ (lv_sub hl [2, 3, 1, 0] rfl) hf
      · intro _ _ _ _ _ _ _ _ _ hf; cases hf
      · intro _ L_18 hL_18 z_15 x_16 u_17 H locs hw hS ls hl hf
        unfold g_MMo_translates_34 at hf
        refine lv_iload_n hx hb d_MMo_translates_34 rfl (lv_at hl 3 rfl) ?_
        refine lv_iload_n hx hb d_MMo_translates_35 rfl (lv_at hl 1 rfl) ?_
        refine lv_icmp_ge (tgt := 99) hx hb d_MMo_translates_36 (by decide) (fun c_19 => ?_) (fun c_19 => ?_)
        · have hf := hf.trans (if_pos c_19)
          exact hK_5 z_15 u_17 _ _ hw hS _ (lv_sub hl [0, 1, 2] rfl) hf
        · have hf := hf.trans (if_neg c_19)
          refine lv_iload_n hx hb d_MMo_translates_39 rfl (lv_at hl 2 rfl) ?_
          refine lv_if_eq (tgt := 99) hx hb d_MMo_translates_40 (by decide) (fun c_20 => ?_) (fun c_20 => ?_)
          · have hf := hf.trans (if_pos c_20)
            exact hK_5 z_15 u_17 _ _ hw hS _ (lv_sub hl [0, 1, 2] rfl) hf
          · have hf := hf.trans (if_neg c_20)
            refine lv_aload_n hx hb d_MMo_translates_43 rfl (lv_at hl 0 rfl) ?_
            refine va_get (v := .int (mF u_17 12)) hx hb hts iM_Mo hown hw.2.1 hw.1 0 rfl rfl 20 (by decide) (hts _ kM_Mo_152) (fun _ h => h) rfl d_MMo_translates_44 ?_
            refine lv_aload_n hx hb d_MMo_translates_47 rfl (lv_at hl 0 rfl) ?_
            refine va_get (v := .ref (a 1)) hx hb hts iM_Mo hown hw.2.1 hw.1 0 rfl rfl 0 (by decide) (hts _ kM_Mo_7) (fun _ h => h) rfl d_MMo_translates_48 ?_
            refine lv_aload_n hx hb d_MMo_translates_51 rfl (lv_at hl 0 rfl) ?_
            refine va_get (v := .int (mF u_17 11)) hx hb hts iM_Mo hown hw.2.1 hw.1 0 rfl rfl 19 (by decide) (hts _ kM_Mo_149) (fun _ h => h) rfl d_MMo_translates_52 ?_
            refine lv_iload_n hx hb d_MMo_translates_55 rfl (lv_at hl 3 rfl) ?_
            refine lv_iadd hx hb d_MMo_translates_56 ?_
            obtain ⟨i_21, hf⟩ := ckI_inv hf
            refine va_iald hx hb hw.2.1 hw.1 1 0 rfl rfl i_21 d_MMo_translates_57 ?_
            refine lv_iadd hx hb d_MMo_translates_58 ?_
            refine lv_ldc (v := (16777215 : Int32)) hx hb hown (hts _ kM_Mo_93) d_MMo_translates_59 ?_
            refine lv_iand hx hb d_MMo_translates_61 ?_
            refine lv_topi (fun x_22 ex_22 => ?_)
            have hf := hf.trans (nm_eq ex_22)
            refine lv_istore (lv' := [(4, .int x_22), (0, .ref (a 0)), (1, .int x1), (2, .int (bI z_15)), (3, .int x_16)]) hx hb d_MMo_translates_62 hl (by decide) rfl (fun ls hl => ?_)
            refine lv_iload hx hb d_MMo_translates_64 (lv_at hl 0 rfl) ?_
            refine lv_iconst (v := (1 : Int32)) hx hb d_MMo_translates_66 (by decide) ?_
            obtain ⟨z_23, ez_23, hf⟩ := bd1_inv hf
            refine z_rV (V := .int (bI z_23)) (z_runS (As := [.int x_22, .int (1 : Int32)]) (rest := []) ⟨hx, hb, hml, hown, hts⟩ (c_MMo_lies l D a k u_17 x_22 (1 : Int32) z_23 ez_23) (qM_Mo_53 hts (by decide)) hw  hl.1 rfl (lv_room (Nat.le_of_ble_eq_true rfl)) d_MMo_translates_67 hcs) ?_
            refine lv_istore_n (lv' := [(2, .int (bI z_23)), (4, .int x_22), (0, .ref (a 0)), (1, .int x1), (3, .int x_16)]) hx hb d_MMo_translates_70 rfl hl (by decide) rfl (fun ls hl => ?_)
            refine lv_iload_n hx hb d_MMo_translates_71 rfl (lv_at hl 0 rfl) ?_
            refine jn_cut hf (fun (K_25 : MS → Option (Bool × MS)) => ∀ (u_24 : MS), ∀ (H : Heap) (locs : List Loc), zW D clM (tyM k) nwM (mW a k) A st u_24 H → va_S A st.heap H locs → ∀ (ls : Array Slot), lv_has ls 5 [(0, .ref (a 0)), (1, .int x1), (2, .int (bI z_23)), (3, .int x_16)] → some F = K_25 u_24 → W p l e rm_MMo_translates st m args below meth c H locs 0 0 Q (F0 m 93 ls [])) ?_ ?_
            · intro u_24 H locs hw hS ls hl hf
              obtain ⟨x_26, ex_26⟩ : ∃ y : Int32, y = x_16 + (1 : Int32) := ⟨_, rfl⟩
              have hf := hf.trans (nm_eq ex_26)
              refine lv_iinc (v := x_26) (lv' := [(3, .int x_26), (0, .ref (a 0)), (1, .int x1), (2, .int (bI z_23))]) hx hb d_MMo_translates_93 hl (k := 3) rfl (by rw [ex_26]; rfl) (by decide) rfl (fun ls hl => ?_)
              refine lv_goto (tgt := 34) hx hb d_MMo_translates_96 (by decide) ?_
              exact hL_18 z_23 x_26 u_24 _ _ hw hS _ (lv_sub hl [1, 2, 3, 0] rfl) hf
            · intro K_25 hK_25 hf
              refine lv_if_eq (tgt := 93) hx hb d_MMo_translates_72 (by decide) (fun c_27 => ?_) (fun c_27 => ?_)
              · have hf := hf.trans (if_pos c_27)
                exact hK_25 u_17 _ _ hw hS _ (lv_sub hl [2, 3, 0, 4] rfl) hf
              · have hf := hf.trans (if_neg c_27)
                refine lv_aload_n hx hb d_MMo_translates_75 rfl (lv_at hl 2 rfl) ?_
                refine va_get (v := .ref (a 1)) hx hb hts iM_Mo hown hw.2.1 hw.1 0 rfl rfl 0 (by decide) (hts _ kM_Mo_7) (fun _ h => h) rfl d_MMo_translates_76 ?_
                refine lv_aload_n hx hb d_MMo_translates_79 rfl (lv_at hl 2 rfl) ?_
                refine va_get (v := .int (mF u_17 11)) hx hb hts iM_Mo hown hw.2.1 hw.1 0 rfl rfl 19 (by decide) (hts _ kM_Mo_149) (fun _ h => h) rfl d_MMo_translates_80 ?_
                refine lv_iload_n hx hb d_MMo_translates_83 rfl (lv_at hl 4 rfl) ?_
                refine lv_iadd hx hb d_MMo_translates_84 ?_
                refine lv_aload_n hx hb d_MMo_translates_85 rfl (lv_at hl 2 rfl) ?_
                refine va_get (v := .ref (a 1)) hx hb hts iM_Mo hown hw.2.1 hw.1 0 rfl rfl 0 (by decide) (hts _ kM_Mo_7) (fun _ h => h) rfl d_MMo_translates_86 ?_
                refine lv_iload hx hb d_MMo_translates_89 (lv_at hl 1 rfl) ?_
                obtain ⟨i_28, hf⟩ := ckI_inv hf
                refine va_iald hx hb hw.2.1 hw.1 1 0 rfl rfl i_28 d_MMo_translates_91 ?_
                obtain ⟨i_30, hf⟩ := ckI_inv hf
                refine z_iast (u' := msA u_17 1 (Int32.toNatClampNeg ((mF u_17 11) + x_16)) (mA u_17 1 (Int32.toNatClampNeg x_22))) hx hb hw hS 1 0 rfl rfl i_30 rfl d_MMo_translates_92 (fun u_29 H locs eu_29 hw hS => ?_)
                have hf := hf.trans (nm_eq eu_29)
                exact hK_25 u_29 _ _ hw hS _ (lv_sub hl [2, 3, 0, 4] rfl) hf
  · intro K_2 hK_2 hf
    refine lp_cut (fun (_ : Nat) (L_33 : Int32 → MS → Option (Bool × MS)) => ∀ (x_31 : Int32) (u_32 : MS), ∀ (H : Heap) (locs : List Loc), zW D clM (tyM k) nwM (mW a k) A st u_32 H → va_S A st.heap H locs → ∀ (ls : Array Slot), lv_has ls 5 [(0, .ref (a 0)), (1, .int x1), (2, .int x_31)] → some F = L_33 x_31 u_32 → W p l e rm_MMo_translates st m args below meth c H locs 0 0 Q (F0 m 2 ls [])) ?_ ?_ fuelM (0 : Int32) u0 _ _ hw hS _ (lv_sub hl [1, 2, 0] rfl) hf
    · intro _ _ _ _ _ _ _ _ hf; cases hf
    · intro _ L_33 hL_33 x_31 u_32 H locs hw hS ls hl hf
      unfold g_MMo_translates_2 at hf
      refine lv_iload_n hx hb d_MMo_translates_2 rfl (lv_at hl 2 rfl) ?_
      refine lv_iload_n hx hb d_MMo_translates_3 rfl (lv_at hl 1 rfl) ?_
      refine lv_icmp_ge (tgt := 30) hx hb d_MMo_translates_4 (by decide) (fun c_34 => ?_) (fun c_34 => ?_)
      · have hf := hf.trans (if_pos c_34)
        exact hK_2 u_32 _ _ hw hS _ (lv_sub hl [0, 1] rfl) hf
      · have hf := hf.trans (if_neg c_34)
        refine lv_aload_n hx hb d_MMo_translates_7 rfl (lv_at hl 0 rfl) ?_
        refine va_get (v := .ref (a 3)) hx hb hts iM_Mo hown hw.2.1 hw.1 0 rfl rfl 2 (by decide) (hts _ kM_Mo_16) (fun _ h => h) rfl d_MMo_translates_8 ?_
        refine lv_iload_n hx hb d_MMo_translates_11 rfl (lv_at hl 2 rfl) ?_
        refine lv_aload_n hx hb d_MMo_translates_12 rfl (lv_at hl 0 rfl) ?_
        refine va_get (v := .ref (a 1)) hx hb hts iM_Mo hown hw.2.1 hw.1 0 rfl rfl 0 (by decide) (hts _ kM_Mo_7) (fun _ h => h) rfl d_MMo_translates_13 ?_
        refine lv_aload_n hx hb d_MMo_translates_16 rfl (lv_at hl 0 rfl) ?_
        refine va_get (v := .int (mF u_32 11)) hx hb hts iM_Mo hown hw.2.1 hw.1 0 rfl rfl 19 (by decide) (hts _ kM_Mo_149) (fun _ h => h) rfl d_MMo_translates_17 ?_
        refine lv_iload_n hx hb d_MMo_translates_20 rfl (lv_at hl 2 rfl) ?_
        refine lv_iadd hx hb d_MMo_translates_21 ?_
        obtain ⟨i_35, hf⟩ := ckI_inv hf
        refine va_iald hx hb hw.2.1 hw.1 1 0 rfl rfl i_35 d_MMo_translates_22 ?_
        obtain ⟨i_37, hf⟩ := ckI_inv hf
        refine z_iast (u' := msA u_32 3 (Int32.toNatClampNeg x_31) (mA u_32 1 (Int32.toNatClampNeg ((mF u_32 11) + x_31)))) hx hb hw hS 3 2 rfl rfl i_37 rfl d_MMo_translates_23 (fun u_36 H locs eu_36 hw hS => ?_)
        have hf := hf.trans (nm_eq eu_36)
        obtain ⟨x_38, ex_38⟩ : ∃ y : Int32, y = x_31 + (1 : Int32) := ⟨_, rfl⟩
        have hf := hf.trans (nm_eq ex_38)
        refine lv_iinc (v := x_38) (lv' := [(2, .int x_38), (0, .ref (a 0)), (1, .int x1)]) hx hb d_MMo_translates_24 hl (k := 2) rfl (by rw [ex_38]; rfl) (by decide) rfl (fun ls hl => ?_)
        refine lv_goto (tgt := 2) hx hb d_MMo_translates_27 (by decide) ?_
        exact hL_33 x_38 u_36 _ _ hw hS _ (lv_sub hl [1, 2, 0] rfl) hf
set_option maxHeartbeats 4000000 in
set_option maxRecDepth 100000 in
theorem c_MMo_isZero_6 (l : Launch) (D : va_G) (a : Nat → Nat) (k : Nat → ClassId) (u0 : MS)  (F : Bool) (hf : f_MMo_isZero 6 u0 = some F) : zRz l y_MMo_isZero w_MMo_isZero rm_MMo_isZero D clM (tyM k) nwM (mW a k) [.ref (a 6)] u0 F := by
  have hf := hf.symm
  unfold f_MMo_isZero at hf
  refine zRz_of (cc := b_MMo_isZero) (maxL := 2) (own := RM_Mo) (by decide) rfl rfl (Nat.le_of_ble_eq_true rfl) ?_
  intro p e R st m args below meth c H locs Q ls hR hx hb hml hown hts hw hret hl
  subst hR
  have hcs : 0 ≤ (rm_MMo_isZero).cells ∧ 0 ≤ (rm_MMo_isZero).slots := ⟨Nat.zero_le _, Nat.zero_le _⟩
  have hl : lv_has ls 2 [(0, .ref (a 6))] := hl
  refine lv_iconst (v := (0 : Int32)) hx hb d_MMo_isZero_0 (by decide) ?_
  refine lv_istore_n (lv' := [(1, .int (0 : Int32)), (0, .ref (a 6))]) hx hb d_MMo_isZero_1 rfl hl (by decide) rfl (fun ls hl => ?_)
  refine lp_cut (fun (_ : Nat) (L_2 : Int32 → Option (Bool)) => ∀ (x_1 : Int32), ∀ (ls : Array Slot), lv_has ls 2 [(0, .ref (a 6)), (1, .int x_1)] → some F = L_2 x_1 → W p l e rm_MMo_isZero st m args below meth c H locs 0 0 Q (F0 m 2 ls [])) ?_ ?_ fuelM (0 : Int32) _ (lv_sub hl [1, 0] rfl) hf
  · intro _ _ _ hf; cases hf
  · intro _ L_2 hL_2 x_1 ls hl hf
    unfold g_MMo_isZero_2 at hf
    refine lv_iload_n hx hb d_MMo_isZero_2 rfl (lv_at hl 1 rfl) ?_
    refine lv_bipush (v := (32 : Int32)) hx hb d_MMo_isZero_3 (by decide) ?_
    refine lv_icmp_ge (tgt := 22) hx hb d_MMo_isZero_5 (by decide) (fun c_3 => ?_) (fun c_3 => ?_)
    · have hf := hf.trans (if_pos c_3)
      refine lv_iconst (v := (1 : Int32)) hx hb d_MMo_isZero_22 (by decide) ?_
      exact hret true _ _ d_MMo_isZero_23 (Option.some.inj hf)
    · have hf := hf.trans (if_neg c_3)
      refine lv_aload_n hx hb d_MMo_isZero_8 rfl (lv_at hl 0 rfl) ?_
      refine lv_iload_n hx hb d_MMo_isZero_9 rfl (lv_at hl 1 rfl) ?_
      obtain ⟨i_4, hf⟩ := ckI_inv hf
      refine va_iald hx hb hw.2.1 hw.1 6 5 rfl rfl i_4 d_MMo_isZero_10 ?_
      refine lv_if_eq (tgt := 16) hx hb d_MMo_isZero_11 (by decide) (fun c_5 => ?_) (fun c_5 => ?_)
      · have hf := hf.trans (if_pos c_5)
        obtain ⟨x_6, ex_6⟩ : ∃ y : Int32, y = x_1 + (1 : Int32) := ⟨_, rfl⟩
        have hf := hf.trans (nm_eq ex_6)
        refine lv_iinc (v := x_6) (lv' := [(1, .int x_6), (0, .ref (a 6))]) hx hb d_MMo_isZero_16 hl (k := 1) rfl (by rw [ex_6]; rfl) (by decide) rfl (fun ls hl => ?_)
        refine lv_goto (tgt := 2) hx hb d_MMo_isZero_19 (by decide) ?_
        exact hL_2 x_6 _ (lv_sub hl [1, 0] rfl) hf
      · have hf := hf.trans (if_neg c_5)
        refine lv_iconst (v := (0 : Int32)) hx hb d_MMo_isZero_14 (by decide) ?_
        exact hret false _ _ d_MMo_isZero_15 (Option.some.inj hf)
set_option maxHeartbeats 4000000 in
set_option maxRecDepth 100000 in
theorem c_MMo_isZero_5 (l : Launch) (D : va_G) (a : Nat → Nat) (k : Nat → ClassId) (u0 : MS)  (F : Bool) (hf : f_MMo_isZero 5 u0 = some F) : zRz l y_MMo_isZero w_MMo_isZero rm_MMo_isZero D clM (tyM k) nwM (mW a k) [.ref (a 5)] u0 F := by
  have hf := hf.symm
  unfold f_MMo_isZero at hf
  refine zRz_of (cc := b_MMo_isZero) (maxL := 2) (own := RM_Mo) (by decide) rfl rfl (Nat.le_of_ble_eq_true rfl) ?_
  intro p e R st m args below meth c H locs Q ls hR hx hb hml hown hts hw hret hl
  subst hR
  have hcs : 0 ≤ (rm_MMo_isZero).cells ∧ 0 ≤ (rm_MMo_isZero).slots := ⟨Nat.zero_le _, Nat.zero_le _⟩
  have hl : lv_has ls 2 [(0, .ref (a 5))] := hl
  refine lv_iconst (v := (0 : Int32)) hx hb d_MMo_isZero_0 (by decide) ?_
  refine lv_istore_n (lv' := [(1, .int (0 : Int32)), (0, .ref (a 5))]) hx hb d_MMo_isZero_1 rfl hl (by decide) rfl (fun ls hl => ?_)
  refine lp_cut (fun (_ : Nat) (L_2 : Int32 → Option (Bool)) => ∀ (x_1 : Int32), ∀ (ls : Array Slot), lv_has ls 2 [(0, .ref (a 5)), (1, .int x_1)] → some F = L_2 x_1 → W p l e rm_MMo_isZero st m args below meth c H locs 0 0 Q (F0 m 2 ls [])) ?_ ?_ fuelM (0 : Int32) _ (lv_sub hl [1, 0] rfl) hf
  · intro _ _ _ hf; cases hf
  · intro _ L_2 hL_2 x_1 ls hl hf
    unfold g_MMo_isZero_2 at hf
    refine lv_iload_n hx hb d_MMo_isZero_2 rfl (lv_at hl 1 rfl) ?_
    refine lv_bipush (v := (32 : Int32)) hx hb d_MMo_isZero_3 (by decide) ?_
    refine lv_icmp_ge (tgt := 22) hx hb d_MMo_isZero_5 (by decide) (fun c_3 => ?_) (fun c_3 => ?_)
    · have hf := hf.trans (if_pos c_3)
      refine lv_iconst (v := (1 : Int32)) hx hb d_MMo_isZero_22 (by decide) ?_
      exact hret true _ _ d_MMo_isZero_23 (Option.some.inj hf)
    · have hf := hf.trans (if_neg c_3)
      refine lv_aload_n hx hb d_MMo_isZero_8 rfl (lv_at hl 0 rfl) ?_
      refine lv_iload_n hx hb d_MMo_isZero_9 rfl (lv_at hl 1 rfl) ?_
      obtain ⟨i_4, hf⟩ := ckI_inv hf
      refine va_iald hx hb hw.2.1 hw.1 5 4 rfl rfl i_4 d_MMo_isZero_10 ?_
      refine lv_if_eq (tgt := 16) hx hb d_MMo_isZero_11 (by decide) (fun c_5 => ?_) (fun c_5 => ?_)
      · have hf := hf.trans (if_pos c_5)
        obtain ⟨x_6, ex_6⟩ : ∃ y : Int32, y = x_1 + (1 : Int32) := ⟨_, rfl⟩
        have hf := hf.trans (nm_eq ex_6)
        refine lv_iinc (v := x_6) (lv' := [(1, .int x_6), (0, .ref (a 5))]) hx hb d_MMo_isZero_16 hl (k := 1) rfl (by rw [ex_6]; rfl) (by decide) rfl (fun ls hl => ?_)
        refine lv_goto (tgt := 2) hx hb d_MMo_isZero_19 (by decide) ?_
        exact hL_2 x_6 _ (lv_sub hl [1, 0] rfl) hf
      · have hf := hf.trans (if_neg c_5)
        refine lv_iconst (v := (0 : Int32)) hx hb d_MMo_isZero_14 (by decide) ?_
        exact hret false _ _ d_MMo_isZero_15 (Option.some.inj hf)
set_option maxHeartbeats 4000000 in
set_option maxRecDepth 100000 in
theorem c_MMo_notBelow (l : Launch) (D : va_G) (a : Nat → Nat) (k : Nat → ClassId) (u0 : MS)  (F : Bool) (hf : f_MMo_notBelow u0 = some F) : zRz l y_MMo_notBelow w_MMo_notBelow rm_MMo_notBelow D clM (tyM k) nwM (mW a k) [.ref (a 0)] u0 F := by
  have hf := hf.symm
  unfold f_MMo_notBelow at hf
  refine zRz_of (cc := b_MMo_notBelow) (maxL := 2) (own := RM_Mo) (by decide) rfl rfl (Nat.le_of_ble_eq_true rfl) ?_
  intro p e R st m args below meth c H locs Q ls hR hx hb hml hown hts hw hret hl
  subst hR
  have hcs : 0 ≤ (rm_MMo_notBelow).cells ∧ 0 ≤ (rm_MMo_notBelow).slots := ⟨Nat.zero_le _, Nat.zero_le _⟩
  have hl : lv_has ls 2 [(0, .ref (a 0))] := hl
  refine lv_bipush (v := (31 : Int32)) hx hb d_MMo_notBelow_0 (by decide) ?_
  refine lv_istore_n (lv' := [(1, .int (31 : Int32)), (0, .ref (a 0))]) hx hb d_MMo_notBelow_2 rfl hl (by decide) rfl (fun ls hl => ?_)
  refine jn_cut hf (fun (K_2 : Int32 → Option (Bool)) => ∀ (x_1 : Int32), ∀ (ls : Array Slot), lv_has ls 2 [(0, .ref (a 0)), (1, .int x_1)] → some F = K_2 x_1 → W p l e rm_MMo_notBelow st m args below meth c H locs 0 0 Q (F0 m 22 ls [])) ?_ ?_
  · intro x_1 ls hl hf
    refine lv_aload_n hx hb d_MMo_notBelow_22 rfl (lv_at hl 0 rfl) ?_
    refine va_get (v := .ref (a 7)) hx hb hts iM_Mo hown hw.2.1 hw.1 0 rfl rfl 6 (by decide) (hts _ kM_Mo_28) (fun _ h => h) rfl d_MMo_notBelow_23 ?_
    refine lv_iload_n hx hb d_MMo_notBelow_26 rfl (lv_at hl 1 rfl) ?_
    obtain ⟨i_3, hf⟩ := ckI_inv hf
    refine va_iald hx hb hw.2.1 hw.1 7 6 rfl rfl i_3 d_MMo_notBelow_27 ?_
    refine lv_aload_n hx hb d_MMo_notBelow_28 rfl (lv_at hl 0 rfl) ?_
    refine va_get (v := .ref (a 8)) hx hb hts iM_Mo hown hw.2.1 hw.1 0 rfl rfl 7 (by decide) (hts _ kM_Mo_31) (fun _ h => h) rfl d_MMo_notBelow_29 ?_
    refine lv_iload_n hx hb d_MMo_notBelow_32 rfl (lv_at hl 1 rfl) ?_
    obtain ⟨i_4, hf⟩ := ckI_inv hf
    refine va_iald hx hb hw.2.1 hw.1 8 7 rfl rfl i_4 d_MMo_notBelow_33 ?_
    refine lv_icmp_le (tgt := 41) hx hb d_MMo_notBelow_34 (by decide) (fun c_5 => ?_) (fun c_5 => ?_)
    · have hf := hf.trans (if_pos c_5)
      refine lv_iconst (v := (0 : Int32)) hx hb d_MMo_notBelow_41 (by decide) ?_
      exact hret false _ _ d_MMo_notBelow_42 (Option.some.inj hf)
    · have hf := hf.trans (if_neg c_5)
      refine lv_iconst (v := (1 : Int32)) hx hb d_MMo_notBelow_37 (by decide) ?_
      refine lv_goto (tgt := 42) hx hb d_MMo_notBelow_38 (by decide) ?_
      exact hret true _ _ d_MMo_notBelow_42 (Option.some.inj hf)
  · intro K_2 hK_2 hf
    refine lp_cut (fun (_ : Nat) (L_7 : Int32 → Option (Bool)) => ∀ (x_6 : Int32), ∀ (ls : Array Slot), lv_has ls 2 [(0, .ref (a 0)), (1, .int x_6)] → some F = L_7 x_6 → W p l e rm_MMo_notBelow st m args below meth c H locs 0 0 Q (F0 m 3 ls [])) ?_ ?_ fuelM (31 : Int32) _ (lv_sub hl [1, 0] rfl) hf
    · intro _ _ _ hf; cases hf
    · intro _ L_7 hL_7 x_6 ls hl hf
      unfold g_MMo_notBelow_3 at hf
      refine lv_iload_n hx hb d_MMo_notBelow_3 rfl (lv_at hl 1 rfl) ?_
      refine lv_if_lt (tgt := 49) hx hb d_MMo_notBelow_4 (by decide) (fun c_8 => ?_) (fun c_8 => ?_)
      · have hf := hf.trans (if_pos c_8)
        refine lv_iconst (v := (1 : Int32)) hx hb d_MMo_notBelow_49 (by decide) ?_
        exact hret true _ _ d_MMo_notBelow_50 (Option.some.inj hf)
      · have hf := hf.trans (if_neg c_8)
        refine lv_aload_n hx hb d_MMo_notBelow_7 rfl (lv_at hl 0 rfl) ?_
        refine va_get (v := .ref (a 7)) hx hb hts iM_Mo hown hw.2.1 hw.1 0 rfl rfl 6 (by decide) (hts _ kM_Mo_28) (fun _ h => h) rfl d_MMo_notBelow_8 ?_
        refine lv_iload_n hx hb d_MMo_notBelow_11 rfl (lv_at hl 1 rfl) ?_
        obtain ⟨i_9, hf⟩ := ckI_inv hf
        refine va_iald hx hb hw.2.1 hw.1 7 6 rfl rfl i_9 d_MMo_notBelow_12 ?_
        refine lv_aload_n hx hb d_MMo_notBelow_13 rfl (lv_at hl 0 rfl) ?_
        refine va_get (v := .ref (a 8)) hx hb hts iM_Mo hown hw.2.1 hw.1 0 rfl rfl 7 (by decide) (hts _ kM_Mo_31) (fun _ h => h) rfl d_MMo_notBelow_14 ?_
        refine lv_iload_n hx hb d_MMo_notBelow_17 rfl (lv_at hl 1 rfl) ?_
        obtain ⟨i_10, hf⟩ := ckI_inv hf
        refine va_iald hx hb hw.2.1 hw.1 8 7 rfl rfl i_10 d_MMo_notBelow_18 ?_
        refine lv_icmp_eq (tgt := 43) hx hb d_MMo_notBelow_19 (by decide) (fun c_11 => ?_) (fun c_11 => ?_)
        · have hf := hf.trans (if_pos c_11)
          obtain ⟨x_12, ex_12⟩ : ∃ y : Int32, y = x_6 + (-1 : Int32) := ⟨_, rfl⟩
          have hf := hf.trans (nm_eq ex_12)
          refine lv_iinc (v := x_12) (lv' := [(1, .int x_12), (0, .ref (a 0))]) hx hb d_MMo_notBelow_43 hl (k := 1) rfl (by rw [ex_12]; rfl) (by decide) rfl (fun ls hl => ?_)
          refine lv_goto (tgt := 3) hx hb d_MMo_notBelow_46 (by decide) ?_
          exact hL_7 x_12 _ (lv_sub hl [1, 0] rfl) hf
        · have hf := hf.trans (if_neg c_11)
          exact hK_2 x_6 _ (lv_sub hl [0, 1] rfl) hf
set_option maxHeartbeats 4000000 in
set_option maxRecDepth 100000 in
theorem c_MMo_adds_6_6_4 (l : Launch) (D : va_G) (a : Nat → Nat) (k : Nat → ClassId) (u0 : MS) (x3 : Int32) (x4 : Int32) (F : MS) (hf : f_MMo_adds 6 6 4 u0 x3 x4 = some F) : zMv l y_MMo_adds w_MMo_adds rm_MMo_adds D clM (tyM k) nwM (mW a k) [.ref (a 6), .ref (a 6), .ref (a 4), .int x3, .int x4] u0 F := by
  have hf := hf.symm
  unfold f_MMo_adds at hf
  refine zMv_of (cc := b_MMo_adds) (maxL := 8) (own := RM_Mo) (by decide) rfl rfl (Nat.le_of_ble_eq_true rfl) ?_
  intro p e R st m args below meth c A H locs Q ls hR hx hb hml hown hts hw hS hret hl
  subst hR
  have hcs : 0 ≤ (rm_MMo_adds).cells ∧ 0 ≤ (rm_MMo_adds).slots := ⟨Nat.zero_le _, Nat.zero_le _⟩
  have hl : lv_has ls 8 [(0, .ref (a 6)), (1, .ref (a 6)), (2, .ref (a 4)), (3, .int x3), (4, .int x4)] := hl
  refine lv_iconst (v := (0 : Int32)) hx hb d_MMo_adds_0 (by decide) ?_
  refine lv_istore (lv' := [(5, .int (0 : Int32)), (0, .ref (a 6)), (1, .ref (a 6)), (2, .ref (a 4)), (3, .int x3), (4, .int x4)]) hx hb d_MMo_adds_1 hl (by decide) rfl (fun ls hl => ?_)
  refine lv_iconst (v := (0 : Int32)) hx hb d_MMo_adds_3 (by decide) ?_
  refine lv_istore (lv' := [(6, .int (0 : Int32)), (5, .int (0 : Int32)), (0, .ref (a 6)), (1, .ref (a 6)), (2, .ref (a 4)), (3, .int x3), (4, .int x4)]) hx hb d_MMo_adds_4 hl (by decide) rfl (fun ls hl => ?_)
  refine lp_cut (fun (_ : Nat) (L_4 : Int32 → Int32 → MS → Option (MS)) => ∀ (x_1 : Int32) (x_2 : Int32) (u_3 : MS), ∀ (H : Heap) (locs : List Loc), zW D clM (tyM k) nwM (mW a k) A st u_3 H → va_S A st.heap H locs → ∀ (ls : Array Slot), lv_has ls 8 [(0, .ref (a 6)), (1, .ref (a 6)), (2, .ref (a 4)), (3, .int x3), (4, .int x4), (5, .int x_1), (6, .int x_2)] → some F = L_4 x_1 x_2 u_3 → W p l e rm_MMo_adds st m args below meth c H locs 0 0 Q (F0 m 6 ls [])) ?_ ?_ fuelM (0 : Int32) (0 : Int32) u0 _ _ hw hS _ (lv_sub hl [2, 3, 4, 5, 6, 1, 0] rfl) hf
  · intro _ _ _ _ _ _ _ _ _ hf; cases hf
  · intro _ L_4 hL_4 x_1 x_2 u_3 H locs hw hS ls hl hf
    unfold g_MMo_adds_6 at hf
    refine lv_iload hx hb d_MMo_adds_6 (lv_at hl 6 rfl) ?_
    refine lv_bipush (v := (32 : Int32)) hx hb d_MMo_adds_8 (by decide) ?_
    refine lv_icmp_ge (tgt := 83) hx hb d_MMo_adds_10 (by decide) (fun c_5 => ?_) (fun c_5 => ?_)
    · have hf := hf.trans (if_pos c_5)
      exact hret _ _ _ _ _ d_MMo_adds_83 hw hS (Option.some.inj hf)
    · have hf := hf.trans (if_neg c_5)
      refine lv_aload_n hx hb d_MMo_adds_13 rfl (lv_at hl 1 rfl) ?_
      refine lv_iload hx hb d_MMo_adds_14 (lv_at hl 6 rfl) ?_
      obtain ⟨i_6, hf⟩ := ckI_inv hf
      refine va_iald hx hb hw.2.1 hw.1 6 5 rfl rfl i_6 d_MMo_adds_16 ?_
      refine lv_iload hx hb d_MMo_adds_17 (lv_at hl 6 rfl) ?_
      refine lv_iload hx hb d_MMo_adds_19 (lv_at hl 4 rfl) ?_
      refine jn_cut hf (fun (K_8 : Int32 → Option (MS)) => ∀ (x_7 : Int32), ∀ (ls : Array Slot), lv_has ls 8 [(0, .ref (a 6)), (1, .ref (a 6)), (2, .ref (a 4)), (3, .int x3), (4, .int x4), (5, .int x_1), (6, .int x_2)] → some F = K_8 x_7 → W p l e rm_MMo_adds st m args below meth c H locs 0 0 Q (F0 m 37 ls [.int x_7, .int (mA u_3 6 (Int32.toNatClampNeg x_2))])) ?_ ?_
      · intro x_7 ls hl hf
        refine lv_iadd hx hb d_MMo_adds_37 ?_
        refine lv_iload hx hb d_MMo_adds_38 (lv_at hl 5 rfl) ?_
        refine lv_iadd hx hb d_MMo_adds_40 ?_
        refine lv_topi (fun x_9 ex_9 => ?_)
        have hf := hf.trans (nm_eq ex_9)
        refine lv_istore (lv' := [(7, .int x_9), (0, .ref (a 6)), (1, .ref (a 6)), (2, .ref (a 4)), (3, .int x3), (4, .int x4), (5, .int x_1), (6, .int x_2)]) hx hb d_MMo_adds_41 hl (by decide) rfl (fun ls hl => ?_)
        refine lv_iload hx hb d_MMo_adds_43 (lv_at hl 0 rfl) ?_
        refine lv_bipush (v := (10 : Int32)) hx hb d_MMo_adds_45 (by decide) ?_
        refine lv_idiv hx hb d_MMo_adds_47 (by decide) ?_
        refine lv_topi (fun x_10 ex_10 => ?_)
        have hf := hf.trans (nm_eq ex_10)
        refine lv_istore (lv' := [(5, .int x_10), (7, .int x_9), (0, .ref (a 6)), (1, .ref (a 6)), (2, .ref (a 4)), (3, .int x3), (4, .int x4), (6, .int x_2)]) hx hb d_MMo_adds_48 hl (by decide) rfl (fun ls hl => ?_)
        refine lv_iload hx hb d_MMo_adds_50 (lv_at hl 1 rfl) ?_
        refine lv_bipush (v := (10 : Int32)) hx hb d_MMo_adds_52 (by decide) ?_
        refine lv_iload hx hb d_MMo_adds_54 (lv_at hl 0 rfl) ?_
        refine lv_imul hx hb d_MMo_adds_56 ?_
        refine lv_isub hx hb d_MMo_adds_57 ?_
        refine lv_topi (fun x_11 ex_11 => ?_)
        have hf := hf.trans (nm_eq ex_11)
        refine lv_istore (lv' := [(7, .int x_11), (5, .int x_10), (0, .ref (a 6)), (1, .ref (a 6)), (2, .ref (a 4)), (3, .int x3), (4, .int x4), (6, .int x_2)]) hx hb d_MMo_adds_58 hl (by decide) rfl (fun ls hl => ?_)
        refine lv_iload hx hb d_MMo_adds_60 (lv_at hl 0 rfl) ?_
        refine jn_cut hf (fun (K_14 : Int32 → Int32 → Option (MS)) => ∀ (x_12 : Int32) (x_13 : Int32), ∀ (ls : Array Slot), lv_has ls 8 [(0, .ref (a 6)), (1, .ref (a 6)), (2, .ref (a 4)), (3, .int x3), (4, .int x4), (5, .int x_12), (6, .int x_2), (7, .int x_13)] → some F = K_14 x_12 x_13 → W p l e rm_MMo_adds st m args below meth c H locs 0 0 Q (F0 m 71 ls [])) ?_ ?_
        · intro x_12 x_13 ls hl hf
          refine lv_aload_n hx hb d_MMo_adds_71 rfl (lv_at hl 0 rfl) ?_
          refine lv_iload hx hb d_MMo_adds_72 (lv_at hl 6 rfl) ?_
          refine lv_iload hx hb d_MMo_adds_74 (lv_at hl 7 rfl) ?_
          obtain ⟨i_16, hf⟩ := ckI_inv hf
          refine z_iast (u' := msA u_3 6 (Int32.toNatClampNeg x_2) x_13) hx hb hw hS 6 5 rfl rfl i_16 rfl d_MMo_adds_76 (fun u_15 H locs eu_15 hw hS => ?_)
          have hf := hf.trans (nm_eq eu_15)
          obtain ⟨x_17, ex_17⟩ : ∃ y : Int32, y = x_2 + (1 : Int32) := ⟨_, rfl⟩
          have hf := hf.trans (nm_eq ex_17)
          refine lv_iinc (v := x_17) (lv' := [(6, .int x_17), (0, .ref (a 6)), (1, .ref (a 6)), (2, .ref (a 4)), (3, .int x3), (4, .int x4), (5, .int x_12), (7, .int x_13)]) hx hb d_MMo_adds_77 hl (k := 6) rfl (by rw [ex_17]; rfl) (by decide) rfl (fun ls hl => ?_)
          refine lv_goto (tgt := 6) hx hb d_MMo_adds_80 (by decide) ?_
          exact hL_4 x_12 x_17 u_15 _ _ hw hS _ (lv_sub hl [1, 2, 3, 4, 5, 6, 0] rfl) hf
        · intro K_14 hK_14 hf
          refine lv_if_ge (tgt := 71) hx hb d_MMo_adds_62 (by decide) (fun c_18 => ?_) (fun c_18 => ?_)
          · have hf := hf.trans (if_pos c_18)
            exact hK_14 x_10 x_11 _ (lv_sub hl [2, 3, 4, 5, 6, 1, 7, 0] rfl) hf
          · have hf := hf.trans (if_neg c_18)
            obtain ⟨x_19, ex_19⟩ : ∃ y : Int32, y = x_11 + (10 : Int32) := ⟨_, rfl⟩
            have hf := hf.trans (nm_eq ex_19)
            refine lv_iinc (v := x_19) (lv' := [(7, .int x_19), (5, .int x_10), (0, .ref (a 6)), (1, .ref (a 6)), (2, .ref (a 4)), (3, .int x3), (4, .int x4), (6, .int x_2)]) hx hb d_MMo_adds_65 hl (k := 0) rfl (by rw [ex_19]; rfl) (by decide) rfl (fun ls hl => ?_)
            obtain ⟨x_20, ex_20⟩ : ∃ y : Int32, y = x_10 + (-1 : Int32) := ⟨_, rfl⟩
            have hf := hf.trans (nm_eq ex_20)
            refine lv_iinc (v := x_20) (lv' := [(5, .int x_20), (7, .int x_19), (0, .ref (a 6)), (1, .ref (a 6)), (2, .ref (a 4)), (3, .int x3), (4, .int x4), (6, .int x_2)]) hx hb d_MMo_adds_68 hl (k := 1) rfl (by rw [ex_20]; rfl) (by decide) rfl (fun ls hl => ?_)
            exact hK_14 x_20 x_19 _ (lv_sub hl [2, 3, 4, 5, 6, 0, 7, 1] rfl) hf
      · intro K_8 hK_8 hf
        refine lv_icmp_lt (tgt := 36) hx hb d_MMo_adds_21 (by decide) (fun c_21 => ?_) (fun c_21 => ?_)
        · have hf := hf.trans (if_pos c_21)
          refine lv_iconst (v := (0 : Int32)) hx hb d_MMo_adds_36 (by decide) ?_
          exact hK_8 (0 : Int32) _ (lv_sub hl [0, 1, 2, 3, 4, 5, 6] rfl) hf
        · have hf := hf.trans (if_neg c_21)
          refine lv_iload_n hx hb d_MMo_adds_24 rfl (lv_at hl 3 rfl) ?_
          refine lv_aload_n hx hb d_MMo_adds_25 rfl (lv_at hl 2 rfl) ?_
          refine lv_iload hx hb d_MMo_adds_26 (lv_at hl 6 rfl) ?_
          refine lv_iload hx hb d_MMo_adds_28 (lv_at hl 4 rfl) ?_
          refine lv_isub hx hb d_MMo_adds_30 ?_
          obtain ⟨i_22, hf⟩ := ckI_inv hf
          refine va_iald hx hb hw.2.1 hw.1 4 3 rfl rfl i_22 d_MMo_adds_31 ?_
          refine lv_imul hx hb d_MMo_adds_32 ?_
          refine lv_goto (tgt := 37) hx hb d_MMo_adds_33 (by decide) ?_
          exact hK_8 (x3 * (mA u_3 4 (Int32.toNatClampNeg (x_2 - x4)))) _ (lv_sub hl [0, 1, 2, 3, 4, 5, 6] rfl) hf
set_option maxHeartbeats 4000000 in
set_option maxRecDepth 100000 in
theorem c_MMo_adds_6_4_5 (l : Launch) (D : va_G) (a : Nat → Nat) (k : Nat → ClassId) (u0 : MS) (x3 : Int32) (x4 : Int32) (F : MS) (hf : f_MMo_adds 6 4 5 u0 x3 x4 = some F) : zMv l y_MMo_adds w_MMo_adds rm_MMo_adds D clM (tyM k) nwM (mW a k) [.ref (a 6), .ref (a 4), .ref (a 5), .int x3, .int x4] u0 F := by
  have hf := hf.symm
  unfold f_MMo_adds at hf
  refine zMv_of (cc := b_MMo_adds) (maxL := 8) (own := RM_Mo) (by decide) rfl rfl (Nat.le_of_ble_eq_true rfl) ?_
  intro p e R st m args below meth c A H locs Q ls hR hx hb hml hown hts hw hS hret hl
  subst hR
  have hcs : 0 ≤ (rm_MMo_adds).cells ∧ 0 ≤ (rm_MMo_adds).slots := ⟨Nat.zero_le _, Nat.zero_le _⟩
  have hl : lv_has ls 8 [(0, .ref (a 6)), (1, .ref (a 4)), (2, .ref (a 5)), (3, .int x3), (4, .int x4)] := hl
  refine lv_iconst (v := (0 : Int32)) hx hb d_MMo_adds_0 (by decide) ?_
  refine lv_istore (lv' := [(5, .int (0 : Int32)), (0, .ref (a 6)), (1, .ref (a 4)), (2, .ref (a 5)), (3, .int x3), (4, .int x4)]) hx hb d_MMo_adds_1 hl (by decide) rfl (fun ls hl => ?_)
  refine lv_iconst (v := (0 : Int32)) hx hb d_MMo_adds_3 (by decide) ?_
  refine lv_istore (lv' := [(6, .int (0 : Int32)), (5, .int (0 : Int32)), (0, .ref (a 6)), (1, .ref (a 4)), (2, .ref (a 5)), (3, .int x3), (4, .int x4)]) hx hb d_MMo_adds_4 hl (by decide) rfl (fun ls hl => ?_)
  refine lp_cut (fun (_ : Nat) (L_4 : Int32 → Int32 → MS → Option (MS)) => ∀ (x_1 : Int32) (x_2 : Int32) (u_3 : MS), ∀ (H : Heap) (locs : List Loc), zW D clM (tyM k) nwM (mW a k) A st u_3 H → va_S A st.heap H locs → ∀ (ls : Array Slot), lv_has ls 8 [(0, .ref (a 6)), (1, .ref (a 4)), (2, .ref (a 5)), (3, .int x3), (4, .int x4), (5, .int x_1), (6, .int x_2)] → some F = L_4 x_1 x_2 u_3 → W p l e rm_MMo_adds st m args below meth c H locs 0 0 Q (F0 m 6 ls [])) ?_ ?_ fuelM (0 : Int32) (0 : Int32) u0 _ _ hw hS _ (lv_sub hl [2, 3, 4, 5, 6, 1, 0] rfl) hf
  · intro _ _ _ _ _ _ _ _ _ hf; cases hf
  · intro _ L_4 hL_4 x_1 x_2 u_3 H locs hw hS ls hl hf
    unfold g_MMo_adds_6 at hf
    refine lv_iload hx hb d_MMo_adds_6 (lv_at hl 6 rfl) ?_
    refine lv_bipush (v := (32 : Int32)) hx hb d_MMo_adds_8 (by decide) ?_
    refine lv_icmp_ge (tgt := 83) hx hb d_MMo_adds_10 (by decide) (fun c_5 => ?_) (fun c_5 => ?_)
    · have hf := hf.trans (if_pos c_5)
      exact hret _ _ _ _ _ d_MMo_adds_83 hw hS (Option.some.inj hf)
    · have hf := hf.trans (if_neg c_5)
      refine lv_aload_n hx hb d_MMo_adds_13 rfl (lv_at hl 1 rfl) ?_
      refine lv_iload hx hb d_MMo_adds_14 (lv_at hl 6 rfl) ?_
      obtain ⟨i_6, hf⟩ := ckI_inv hf
      refine va_iald hx hb hw.2.1 hw.1 4 3 rfl rfl i_6 d_MMo_adds_16 ?_
      refine lv_iload hx hb d_MMo_adds_17 (lv_at hl 6 rfl) ?_
      refine lv_iload hx hb d_MMo_adds_19 (lv_at hl 4 rfl) ?_
      refine jn_cut hf (fun (K_8 : Int32 → Option (MS)) => ∀ (x_7 : Int32), ∀ (ls : Array Slot), lv_has ls 8 [(0, .ref (a 6)), (1, .ref (a 4)), (2, .ref (a 5)), (3, .int x3), (4, .int x4), (5, .int x_1), (6, .int x_2)] → some F = K_8 x_7 → W p l e rm_MMo_adds st m args below meth c H locs 0 0 Q (F0 m 37 ls [.int x_7, .int (mA u_3 4 (Int32.toNatClampNeg x_2))])) ?_ ?_
      · intro x_7 ls hl hf
        refine lv_iadd hx hb d_MMo_adds_37 ?_
        refine lv_iload hx hb d_MMo_adds_38 (lv_at hl 5 rfl) ?_
        refine lv_iadd hx hb d_MMo_adds_40 ?_
        refine lv_topi (fun x_9 ex_9 => ?_)
        have hf := hf.trans (nm_eq ex_9)
        refine lv_istore (lv' := [(7, .int x_9), (0, .ref (a 6)), (1, .ref (a 4)), (2, .ref (a 5)), (3, .int x3), (4, .int x4), (5, .int x_1), (6, .int x_2)]) hx hb d_MMo_adds_41 hl (by decide) rfl (fun ls hl => ?_)
        refine lv_iload hx hb d_MMo_adds_43 (lv_at hl 0 rfl) ?_
        refine lv_bipush (v := (10 : Int32)) hx hb d_MMo_adds_45 (by decide) ?_
        refine lv_idiv hx hb d_MMo_adds_47 (by decide) ?_
        refine lv_topi (fun x_10 ex_10 => ?_)
        have hf := hf.trans (nm_eq ex_10)
        refine lv_istore (lv' := [(5, .int x_10), (7, .int x_9), (0, .ref (a 6)), (1, .ref (a 4)), (2, .ref (a 5)), (3, .int x3), (4, .int x4), (6, .int x_2)]) hx hb d_MMo_adds_48 hl (by decide) rfl (fun ls hl => ?_)
        refine lv_iload hx hb d_MMo_adds_50 (lv_at hl 1 rfl) ?_
        refine lv_bipush (v := (10 : Int32)) hx hb d_MMo_adds_52 (by decide) ?_
        refine lv_iload hx hb d_MMo_adds_54 (lv_at hl 0 rfl) ?_
        refine lv_imul hx hb d_MMo_adds_56 ?_
        refine lv_isub hx hb d_MMo_adds_57 ?_
        refine lv_topi (fun x_11 ex_11 => ?_)
        have hf := hf.trans (nm_eq ex_11)
        refine lv_istore (lv' := [(7, .int x_11), (5, .int x_10), (0, .ref (a 6)), (1, .ref (a 4)), (2, .ref (a 5)), (3, .int x3), (4, .int x4), (6, .int x_2)]) hx hb d_MMo_adds_58 hl (by decide) rfl (fun ls hl => ?_)
        refine lv_iload hx hb d_MMo_adds_60 (lv_at hl 0 rfl) ?_
        refine jn_cut hf (fun (K_14 : Int32 → Int32 → Option (MS)) => ∀ (x_12 : Int32) (x_13 : Int32), ∀ (ls : Array Slot), lv_has ls 8 [(0, .ref (a 6)), (1, .ref (a 4)), (2, .ref (a 5)), (3, .int x3), (4, .int x4), (5, .int x_12), (6, .int x_2), (7, .int x_13)] → some F = K_14 x_12 x_13 → W p l e rm_MMo_adds st m args below meth c H locs 0 0 Q (F0 m 71 ls [])) ?_ ?_
        · intro x_12 x_13 ls hl hf
          refine lv_aload_n hx hb d_MMo_adds_71 rfl (lv_at hl 0 rfl) ?_
          refine lv_iload hx hb d_MMo_adds_72 (lv_at hl 6 rfl) ?_
          refine lv_iload hx hb d_MMo_adds_74 (lv_at hl 7 rfl) ?_
          obtain ⟨i_16, hf⟩ := ckI_inv hf
          refine z_iast (u' := msA u_3 6 (Int32.toNatClampNeg x_2) x_13) hx hb hw hS 6 5 rfl rfl i_16 rfl d_MMo_adds_76 (fun u_15 H locs eu_15 hw hS => ?_)
          have hf := hf.trans (nm_eq eu_15)
          obtain ⟨x_17, ex_17⟩ : ∃ y : Int32, y = x_2 + (1 : Int32) := ⟨_, rfl⟩
          have hf := hf.trans (nm_eq ex_17)
          refine lv_iinc (v := x_17) (lv' := [(6, .int x_17), (0, .ref (a 6)), (1, .ref (a 4)), (2, .ref (a 5)), (3, .int x3), (4, .int x4), (5, .int x_12), (7, .int x_13)]) hx hb d_MMo_adds_77 hl (k := 6) rfl (by rw [ex_17]; rfl) (by decide) rfl (fun ls hl => ?_)
          refine lv_goto (tgt := 6) hx hb d_MMo_adds_80 (by decide) ?_
          exact hL_4 x_12 x_17 u_15 _ _ hw hS _ (lv_sub hl [1, 2, 3, 4, 5, 6, 0] rfl) hf
        · intro K_14 hK_14 hf
          refine lv_if_ge (tgt := 71) hx hb d_MMo_adds_62 (by decide) (fun c_18 => ?_) (fun c_18 => ?_)
          · have hf := hf.trans (if_pos c_18)
            exact hK_14 x_10 x_11 _ (lv_sub hl [2, 3, 4, 5, 6, 1, 7, 0] rfl) hf
          · have hf := hf.trans (if_neg c_18)
            obtain ⟨x_19, ex_19⟩ : ∃ y : Int32, y = x_11 + (10 : Int32) := ⟨_, rfl⟩
            have hf := hf.trans (nm_eq ex_19)
            refine lv_iinc (v := x_19) (lv' := [(7, .int x_19), (5, .int x_10), (0, .ref (a 6)), (1, .ref (a 4)), (2, .ref (a 5)), (3, .int x3), (4, .int x4), (6, .int x_2)]) hx hb d_MMo_adds_65 hl (k := 0) rfl (by rw [ex_19]; rfl) (by decide) rfl (fun ls hl => ?_)
            obtain ⟨x_20, ex_20⟩ : ∃ y : Int32, y = x_10 + (-1 : Int32) := ⟨_, rfl⟩
            have hf := hf.trans (nm_eq ex_20)
            refine lv_iinc (v := x_20) (lv' := [(5, .int x_20), (7, .int x_19), (0, .ref (a 6)), (1, .ref (a 4)), (2, .ref (a 5)), (3, .int x3), (4, .int x4), (6, .int x_2)]) hx hb d_MMo_adds_68 hl (k := 1) rfl (by rw [ex_20]; rfl) (by decide) rfl (fun ls hl => ?_)
            exact hK_14 x_20 x_19 _ (lv_sub hl [2, 3, 4, 5, 6, 0, 7, 1] rfl) hf
      · intro K_8 hK_8 hf
        refine lv_icmp_lt (tgt := 36) hx hb d_MMo_adds_21 (by decide) (fun c_21 => ?_) (fun c_21 => ?_)
        · have hf := hf.trans (if_pos c_21)
          refine lv_iconst (v := (0 : Int32)) hx hb d_MMo_adds_36 (by decide) ?_
          exact hK_8 (0 : Int32) _ (lv_sub hl [0, 1, 2, 3, 4, 5, 6] rfl) hf
        · have hf := hf.trans (if_neg c_21)
          refine lv_iload_n hx hb d_MMo_adds_24 rfl (lv_at hl 3 rfl) ?_
          refine lv_aload_n hx hb d_MMo_adds_25 rfl (lv_at hl 2 rfl) ?_
          refine lv_iload hx hb d_MMo_adds_26 (lv_at hl 6 rfl) ?_
          refine lv_iload hx hb d_MMo_adds_28 (lv_at hl 4 rfl) ?_
          refine lv_isub hx hb d_MMo_adds_30 ?_
          obtain ⟨i_22, hf⟩ := ckI_inv hf
          refine va_iald hx hb hw.2.1 hw.1 5 4 rfl rfl i_22 d_MMo_adds_31 ?_
          refine lv_imul hx hb d_MMo_adds_32 ?_
          refine lv_goto (tgt := 37) hx hb d_MMo_adds_33 (by decide) ?_
          exact hK_8 (x3 * (mA u_3 5 (Int32.toNatClampNeg (x_2 - x4)))) _ (lv_sub hl [0, 1, 2, 3, 4, 5, 6] rfl) hf
set_option maxHeartbeats 4000000 in
set_option maxRecDepth 100000 in
theorem c_MMo_adds_6_5_4 (l : Launch) (D : va_G) (a : Nat → Nat) (k : Nat → ClassId) (u0 : MS) (x3 : Int32) (x4 : Int32) (F : MS) (hf : f_MMo_adds 6 5 4 u0 x3 x4 = some F) : zMv l y_MMo_adds w_MMo_adds rm_MMo_adds D clM (tyM k) nwM (mW a k) [.ref (a 6), .ref (a 5), .ref (a 4), .int x3, .int x4] u0 F := by
  have hf := hf.symm
  unfold f_MMo_adds at hf
  refine zMv_of (cc := b_MMo_adds) (maxL := 8) (own := RM_Mo) (by decide) rfl rfl (Nat.le_of_ble_eq_true rfl) ?_
  intro p e R st m args below meth c A H locs Q ls hR hx hb hml hown hts hw hS hret hl
  subst hR
  have hcs : 0 ≤ (rm_MMo_adds).cells ∧ 0 ≤ (rm_MMo_adds).slots := ⟨Nat.zero_le _, Nat.zero_le _⟩
  have hl : lv_has ls 8 [(0, .ref (a 6)), (1, .ref (a 5)), (2, .ref (a 4)), (3, .int x3), (4, .int x4)] := hl
  refine lv_iconst (v := (0 : Int32)) hx hb d_MMo_adds_0 (by decide) ?_
  refine lv_istore (lv' := [(5, .int (0 : Int32)), (0, .ref (a 6)), (1, .ref (a 5)), (2, .ref (a 4)), (3, .int x3), (4, .int x4)]) hx hb d_MMo_adds_1 hl (by decide) rfl (fun ls hl => ?_)
  refine lv_iconst (v := (0 : Int32)) hx hb d_MMo_adds_3 (by decide) ?_
  refine lv_istore (lv' := [(6, .int (0 : Int32)), (5, .int (0 : Int32)), (0, .ref (a 6)), (1, .ref (a 5)), (2, .ref (a 4)), (3, .int x3), (4, .int x4)]) hx hb d_MMo_adds_4 hl (by decide) rfl (fun ls hl => ?_)
  refine lp_cut (fun (_ : Nat) (L_4 : Int32 → Int32 → MS → Option (MS)) => ∀ (x_1 : Int32) (x_2 : Int32) (u_3 : MS), ∀ (H : Heap) (locs : List Loc), zW D clM (tyM k) nwM (mW a k) A st u_3 H → va_S A st.heap H locs → ∀ (ls : Array Slot), lv_has ls 8 [(0, .ref (a 6)), (1, .ref (a 5)), (2, .ref (a 4)), (3, .int x3), (4, .int x4), (5, .int x_1), (6, .int x_2)] → some F = L_4 x_1 x_2 u_3 → W p l e rm_MMo_adds st m args below meth c H locs 0 0 Q (F0 m 6 ls [])) ?_ ?_ fuelM (0 : Int32) (0 : Int32) u0 _ _ hw hS _ (lv_sub hl [2, 3, 4, 5, 6, 1, 0] rfl) hf
  · intro _ _ _ _ _ _ _ _ _ hf; cases hf
  · intro _ L_4 hL_4 x_1 x_2 u_3 H locs hw hS ls hl hf
    unfold g_MMo_adds_6 at hf
    refine lv_iload hx hb d_MMo_adds_6 (lv_at hl 6 rfl) ?_
    refine lv_bipush (v := (32 : Int32)) hx hb d_MMo_adds_8 (by decide) ?_
    refine lv_icmp_ge (tgt := 83) hx hb d_MMo_adds_10 (by decide) (fun c_5 => ?_) (fun c_5 => ?_)
    · have hf := hf.trans (if_pos c_5)
      exact hret _ _ _ _ _ d_MMo_adds_83 hw hS (Option.some.inj hf)
    · have hf := hf.trans (if_neg c_5)
      refine lv_aload_n hx hb d_MMo_adds_13 rfl (lv_at hl 1 rfl) ?_
      refine lv_iload hx hb d_MMo_adds_14 (lv_at hl 6 rfl) ?_
      obtain ⟨i_6, hf⟩ := ckI_inv hf
      refine va_iald hx hb hw.2.1 hw.1 5 4 rfl rfl i_6 d_MMo_adds_16 ?_
      refine lv_iload hx hb d_MMo_adds_17 (lv_at hl 6 rfl) ?_
      refine lv_iload hx hb d_MMo_adds_19 (lv_at hl 4 rfl) ?_
      refine jn_cut hf (fun (K_8 : Int32 → Option (MS)) => ∀ (x_7 : Int32), ∀ (ls : Array Slot), lv_has ls 8 [(0, .ref (a 6)), (1, .ref (a 5)), (2, .ref (a 4)), (3, .int x3), (4, .int x4), (5, .int x_1), (6, .int x_2)] → some F = K_8 x_7 → W p l e rm_MMo_adds st m args below meth c H locs 0 0 Q (F0 m 37 ls [.int x_7, .int (mA u_3 5 (Int32.toNatClampNeg x_2))])) ?_ ?_
      · intro x_7 ls hl hf
        refine lv_iadd hx hb d_MMo_adds_37 ?_
        refine lv_iload hx hb d_MMo_adds_38 (lv_at hl 5 rfl) ?_
        refine lv_iadd hx hb d_MMo_adds_40 ?_
        refine lv_topi (fun x_9 ex_9 => ?_)
        have hf := hf.trans (nm_eq ex_9)
        refine lv_istore (lv' := [(7, .int x_9), (0, .ref (a 6)), (1, .ref (a 5)), (2, .ref (a 4)), (3, .int x3), (4, .int x4), (5, .int x_1), (6, .int x_2)]) hx hb d_MMo_adds_41 hl (by decide) rfl (fun ls hl => ?_)
        refine lv_iload hx hb d_MMo_adds_43 (lv_at hl 0 rfl) ?_
        refine lv_bipush (v := (10 : Int32)) hx hb d_MMo_adds_45 (by decide) ?_
        refine lv_idiv hx hb d_MMo_adds_47 (by decide) ?_
        refine lv_topi (fun x_10 ex_10 => ?_)
        have hf := hf.trans (nm_eq ex_10)
        refine lv_istore (lv' := [(5, .int x_10), (7, .int x_9), (0, .ref (a 6)), (1, .ref (a 5)), (2, .ref (a 4)), (3, .int x3), (4, .int x4), (6, .int x_2)]) hx hb d_MMo_adds_48 hl (by decide) rfl (fun ls hl => ?_)
        refine lv_iload hx hb d_MMo_adds_50 (lv_at hl 1 rfl) ?_
        refine lv_bipush (v := (10 : Int32)) hx hb d_MMo_adds_52 (by decide) ?_
        refine lv_iload hx hb d_MMo_adds_54 (lv_at hl 0 rfl) ?_
        refine lv_imul hx hb d_MMo_adds_56 ?_
        refine lv_isub hx hb d_MMo_adds_57 ?_
        refine lv_topi (fun x_11 ex_11 => ?_)
        have hf := hf.trans (nm_eq ex_11)
        refine lv_istore (lv' := [(7, .int x_11), (5, .int x_10), (0, .ref (a 6)), (1, .ref (a 5)), (2, .ref (a 4)), (3, .int x3), (4, .int x4), (6, .int x_2)]) hx hb d_MMo_adds_58 hl (by decide) rfl (fun ls hl => ?_)
        refine lv_iload hx hb d_MMo_adds_60 (lv_at hl 0 rfl) ?_
        refine jn_cut hf (fun (K_14 : Int32 → Int32 → Option (MS)) => ∀ (x_12 : Int32) (x_13 : Int32), ∀ (ls : Array Slot), lv_has ls 8 [(0, .ref (a 6)), (1, .ref (a 5)), (2, .ref (a 4)), (3, .int x3), (4, .int x4), (5, .int x_12), (6, .int x_2), (7, .int x_13)] → some F = K_14 x_12 x_13 → W p l e rm_MMo_adds st m args below meth c H locs 0 0 Q (F0 m 71 ls [])) ?_ ?_
        · intro x_12 x_13 ls hl hf
          refine lv_aload_n hx hb d_MMo_adds_71 rfl (lv_at hl 0 rfl) ?_
          refine lv_iload hx hb d_MMo_adds_72 (lv_at hl 6 rfl) ?_
          refine lv_iload hx hb d_MMo_adds_74 (lv_at hl 7 rfl) ?_
          obtain ⟨i_16, hf⟩ := ckI_inv hf
          refine z_iast (u' := msA u_3 6 (Int32.toNatClampNeg x_2) x_13) hx hb hw hS 6 5 rfl rfl i_16 rfl d_MMo_adds_76 (fun u_15 H locs eu_15 hw hS => ?_)
          have hf := hf.trans (nm_eq eu_15)
          obtain ⟨x_17, ex_17⟩ : ∃ y : Int32, y = x_2 + (1 : Int32) := ⟨_, rfl⟩
          have hf := hf.trans (nm_eq ex_17)
          refine lv_iinc (v := x_17) (lv' := [(6, .int x_17), (0, .ref (a 6)), (1, .ref (a 5)), (2, .ref (a 4)), (3, .int x3), (4, .int x4), (5, .int x_12), (7, .int x_13)]) hx hb d_MMo_adds_77 hl (k := 6) rfl (by rw [ex_17]; rfl) (by decide) rfl (fun ls hl => ?_)
          refine lv_goto (tgt := 6) hx hb d_MMo_adds_80 (by decide) ?_
          exact hL_4 x_12 x_17 u_15 _ _ hw hS _ (lv_sub hl [1, 2, 3, 4, 5, 6, 0] rfl) hf
        · intro K_14 hK_14 hf
          refine lv_if_ge (tgt := 71) hx hb d_MMo_adds_62 (by decide) (fun c_18 => ?_) (fun c_18 => ?_)
          · have hf := hf.trans (if_pos c_18)
            exact hK_14 x_10 x_11 _ (lv_sub hl [2, 3, 4, 5, 6, 1, 7, 0] rfl) hf
          · have hf := hf.trans (if_neg c_18)
            obtain ⟨x_19, ex_19⟩ : ∃ y : Int32, y = x_11 + (10 : Int32) := ⟨_, rfl⟩
            have hf := hf.trans (nm_eq ex_19)
            refine lv_iinc (v := x_19) (lv' := [(7, .int x_19), (5, .int x_10), (0, .ref (a 6)), (1, .ref (a 5)), (2, .ref (a 4)), (3, .int x3), (4, .int x4), (6, .int x_2)]) hx hb d_MMo_adds_65 hl (k := 0) rfl (by rw [ex_19]; rfl) (by decide) rfl (fun ls hl => ?_)
            obtain ⟨x_20, ex_20⟩ : ∃ y : Int32, y = x_10 + (-1 : Int32) := ⟨_, rfl⟩
            have hf := hf.trans (nm_eq ex_20)
            refine lv_iinc (v := x_20) (lv' := [(5, .int x_20), (7, .int x_19), (0, .ref (a 6)), (1, .ref (a 5)), (2, .ref (a 4)), (3, .int x3), (4, .int x4), (6, .int x_2)]) hx hb d_MMo_adds_68 hl (k := 1) rfl (by rw [ex_20]; rfl) (by decide) rfl (fun ls hl => ?_)
            exact hK_14 x_20 x_19 _ (lv_sub hl [2, 3, 4, 5, 6, 0, 7, 1] rfl) hf
      · intro K_8 hK_8 hf
        refine lv_icmp_lt (tgt := 36) hx hb d_MMo_adds_21 (by decide) (fun c_21 => ?_) (fun c_21 => ?_)
        · have hf := hf.trans (if_pos c_21)
          refine lv_iconst (v := (0 : Int32)) hx hb d_MMo_adds_36 (by decide) ?_
          exact hK_8 (0 : Int32) _ (lv_sub hl [0, 1, 2, 3, 4, 5, 6] rfl) hf
        · have hf := hf.trans (if_neg c_21)
          refine lv_iload_n hx hb d_MMo_adds_24 rfl (lv_at hl 3 rfl) ?_
          refine lv_aload_n hx hb d_MMo_adds_25 rfl (lv_at hl 2 rfl) ?_
          refine lv_iload hx hb d_MMo_adds_26 (lv_at hl 6 rfl) ?_
          refine lv_iload hx hb d_MMo_adds_28 (lv_at hl 4 rfl) ?_
          refine lv_isub hx hb d_MMo_adds_30 ?_
          obtain ⟨i_22, hf⟩ := ckI_inv hf
          refine va_iald hx hb hw.2.1 hw.1 4 3 rfl rfl i_22 d_MMo_adds_31 ?_
          refine lv_imul hx hb d_MMo_adds_32 ?_
          refine lv_goto (tgt := 37) hx hb d_MMo_adds_33 (by decide) ?_
          exact hK_8 (x3 * (mA u_3 4 (Int32.toNatClampNeg (x_2 - x4)))) _ (lv_sub hl [0, 1, 2, 3, 4, 5, 6] rfl) hf
set_option maxHeartbeats 4000000 in
set_option maxRecDepth 100000 in
theorem c_MMo_adds_7_7_5 (l : Launch) (D : va_G) (a : Nat → Nat) (k : Nat → ClassId) (u0 : MS) (x3 : Int32) (x4 : Int32) (F : MS) (hf : f_MMo_adds 7 7 5 u0 x3 x4 = some F) : zMv l y_MMo_adds w_MMo_adds rm_MMo_adds D clM (tyM k) nwM (mW a k) [.ref (a 7), .ref (a 7), .ref (a 5), .int x3, .int x4] u0 F := by
  have hf := hf.symm
  unfold f_MMo_adds at hf
  refine zMv_of (cc := b_MMo_adds) (maxL := 8) (own := RM_Mo) (by decide) rfl rfl (Nat.le_of_ble_eq_true rfl) ?_
  intro p e R st m args below meth c A H locs Q ls hR hx hb hml hown hts hw hS hret hl
  subst hR
  have hcs : 0 ≤ (rm_MMo_adds).cells ∧ 0 ≤ (rm_MMo_adds).slots := ⟨Nat.zero_le _, Nat.zero_le _⟩
  have hl : lv_has ls 8 [(0, .ref (a 7)), (1, .ref (a 7)), (2, .ref (a 5)), (3, .int x3), (4, .int x4)] := hl
  refine lv_iconst (v := (0 : Int32)) hx hb d_MMo_adds_0 (by decide) ?_
  refine lv_istore (lv' := [(5, .int (0 : Int32)), (0, .ref (a 7)), (1, .ref (a 7)), (2, .ref (a 5)), (3, .int x3), (4, .int x4)]) hx hb d_MMo_adds_1 hl (by decide) rfl (fun ls hl => ?_)
  refine lv_iconst (v := (0 : Int32)) hx hb d_MMo_adds_3 (by decide) ?_
  refine lv_istore (lv' := [(6, .int (0 : Int32)), (5, .int (0 : Int32)), (0, .ref (a 7)), (1, .ref (a 7)), (2, .ref (a 5)), (3, .int x3), (4, .int x4)]) hx hb d_MMo_adds_4 hl (by decide) rfl (fun ls hl => ?_)
  refine lp_cut (fun (_ : Nat) (L_4 : Int32 → Int32 → MS → Option (MS)) => ∀ (x_1 : Int32) (x_2 : Int32) (u_3 : MS), ∀ (H : Heap) (locs : List Loc), zW D clM (tyM k) nwM (mW a k) A st u_3 H → va_S A st.heap H locs → ∀ (ls : Array Slot), lv_has ls 8 [(0, .ref (a 7)), (1, .ref (a 7)), (2, .ref (a 5)), (3, .int x3), (4, .int x4), (5, .int x_1), (6, .int x_2)] → some F = L_4 x_1 x_2 u_3 → W p l e rm_MMo_adds st m args below meth c H locs 0 0 Q (F0 m 6 ls [])) ?_ ?_ fuelM (0 : Int32) (0 : Int32) u0 _ _ hw hS _ (lv_sub hl [2, 3, 4, 5, 6, 1, 0] rfl) hf
  · intro _ _ _ _ _ _ _ _ _ hf; cases hf
  · intro _ L_4 hL_4 x_1 x_2 u_3 H locs hw hS ls hl hf
    unfold g_MMo_adds_6 at hf
    refine lv_iload hx hb d_MMo_adds_6 (lv_at hl 6 rfl) ?_
    refine lv_bipush (v := (32 : Int32)) hx hb d_MMo_adds_8 (by decide) ?_
    refine lv_icmp_ge (tgt := 83) hx hb d_MMo_adds_10 (by decide) (fun c_5 => ?_) (fun c_5 => ?_)
    · have hf := hf.trans (if_pos c_5)
      exact hret _ _ _ _ _ d_MMo_adds_83 hw hS (Option.some.inj hf)
    · have hf := hf.trans (if_neg c_5)
      refine lv_aload_n hx hb d_MMo_adds_13 rfl (lv_at hl 1 rfl) ?_
      refine lv_iload hx hb d_MMo_adds_14 (lv_at hl 6 rfl) ?_
      obtain ⟨i_6, hf⟩ := ckI_inv hf
      refine va_iald hx hb hw.2.1 hw.1 7 6 rfl rfl i_6 d_MMo_adds_16 ?_
      refine lv_iload hx hb d_MMo_adds_17 (lv_at hl 6 rfl) ?_
      refine lv_iload hx hb d_MMo_adds_19 (lv_at hl 4 rfl) ?_
      refine jn_cut hf (fun (K_8 : Int32 → Option (MS)) => ∀ (x_7 : Int32), ∀ (ls : Array Slot), lv_has ls 8 [(0, .ref (a 7)), (1, .ref (a 7)), (2, .ref (a 5)), (3, .int x3), (4, .int x4), (5, .int x_1), (6, .int x_2)] → some F = K_8 x_7 → W p l e rm_MMo_adds st m args below meth c H locs 0 0 Q (F0 m 37 ls [.int x_7, .int (mA u_3 7 (Int32.toNatClampNeg x_2))])) ?_ ?_
      · intro x_7 ls hl hf
        refine lv_iadd hx hb d_MMo_adds_37 ?_
        refine lv_iload hx hb d_MMo_adds_38 (lv_at hl 5 rfl) ?_
        refine lv_iadd hx hb d_MMo_adds_40 ?_
        refine lv_topi (fun x_9 ex_9 => ?_)
        have hf := hf.trans (nm_eq ex_9)
        refine lv_istore (lv' := [(7, .int x_9), (0, .ref (a 7)), (1, .ref (a 7)), (2, .ref (a 5)), (3, .int x3), (4, .int x4), (5, .int x_1), (6, .int x_2)]) hx hb d_MMo_adds_41 hl (by decide) rfl (fun ls hl => ?_)
        refine lv_iload hx hb d_MMo_adds_43 (lv_at hl 0 rfl) ?_
        refine lv_bipush (v := (10 : Int32)) hx hb d_MMo_adds_45 (by decide) ?_
        refine lv_idiv hx hb d_MMo_adds_47 (by decide) ?_
        refine lv_topi (fun x_10 ex_10 => ?_)
        have hf := hf.trans (nm_eq ex_10)
        refine lv_istore (lv' := [(5, .int x_10), (7, .int x_9), (0, .ref (a 7)), (1, .ref (a 7)), (2, .ref (a 5)), (3, .int x3), (4, .int x4), (6, .int x_2)]) hx hb d_MMo_adds_48 hl (by decide) rfl (fun ls hl => ?_)
        refine lv_iload hx hb d_MMo_adds_50 (lv_at hl 1 rfl) ?_
        refine lv_bipush (v := (10 : Int32)) hx hb d_MMo_adds_52 (by decide) ?_
        refine lv_iload hx hb d_MMo_adds_54 (lv_at hl 0 rfl) ?_
        refine lv_imul hx hb d_MMo_adds_56 ?_
        refine lv_isub hx hb d_MMo_adds_57 ?_
        refine lv_topi (fun x_11 ex_11 => ?_)
        have hf := hf.trans (nm_eq ex_11)
        refine lv_istore (lv' := [(7, .int x_11), (5, .int x_10), (0, .ref (a 7)), (1, .ref (a 7)), (2, .ref (a 5)), (3, .int x3), (4, .int x4), (6, .int x_2)]) hx hb d_MMo_adds_58 hl (by decide) rfl (fun ls hl => ?_)
        refine lv_iload hx hb d_MMo_adds_60 (lv_at hl 0 rfl) ?_
        refine jn_cut hf (fun (K_14 : Int32 → Int32 → Option (MS)) => ∀ (x_12 : Int32) (x_13 : Int32), ∀ (ls : Array Slot), lv_has ls 8 [(0, .ref (a 7)), (1, .ref (a 7)), (2, .ref (a 5)), (3, .int x3), (4, .int x4), (5, .int x_12), (6, .int x_2), (7, .int x_13)] → some F = K_14 x_12 x_13 → W p l e rm_MMo_adds st m args below meth c H locs 0 0 Q (F0 m 71 ls [])) ?_ ?_
        · intro x_12 x_13 ls hl hf
          refine lv_aload_n hx hb d_MMo_adds_71 rfl (lv_at hl 0 rfl) ?_
          refine lv_iload hx hb d_MMo_adds_72 (lv_at hl 6 rfl) ?_
          refine lv_iload hx hb d_MMo_adds_74 (lv_at hl 7 rfl) ?_
          obtain ⟨i_16, hf⟩ := ckI_inv hf
          refine z_iast (u' := msA u_3 7 (Int32.toNatClampNeg x_2) x_13) hx hb hw hS 7 6 rfl rfl i_16 rfl d_MMo_adds_76 (fun u_15 H locs eu_15 hw hS => ?_)
          have hf := hf.trans (nm_eq eu_15)
          obtain ⟨x_17, ex_17⟩ : ∃ y : Int32, y = x_2 + (1 : Int32) := ⟨_, rfl⟩
          have hf := hf.trans (nm_eq ex_17)
          refine lv_iinc (v := x_17) (lv' := [(6, .int x_17), (0, .ref (a 7)), (1, .ref (a 7)), (2, .ref (a 5)), (3, .int x3), (4, .int x4), (5, .int x_12), (7, .int x_13)]) hx hb d_MMo_adds_77 hl (k := 6) rfl (by rw [ex_17]; rfl) (by decide) rfl (fun ls hl => ?_)
          refine lv_goto (tgt := 6) hx hb d_MMo_adds_80 (by decide) ?_
          exact hL_4 x_12 x_17 u_15 _ _ hw hS _ (lv_sub hl [1, 2, 3, 4, 5, 6, 0] rfl) hf
        · intro K_14 hK_14 hf
          refine lv_if_ge (tgt := 71) hx hb d_MMo_adds_62 (by decide) (fun c_18 => ?_) (fun c_18 => ?_)
          · have hf := hf.trans (if_pos c_18)
            exact hK_14 x_10 x_11 _ (lv_sub hl [2, 3, 4, 5, 6, 1, 7, 0] rfl) hf
          · have hf := hf.trans (if_neg c_18)
            obtain ⟨x_19, ex_19⟩ : ∃ y : Int32, y = x_11 + (10 : Int32) := ⟨_, rfl⟩
            have hf := hf.trans (nm_eq ex_19)
            refine lv_iinc (v := x_19) (lv' := [(7, .int x_19), (5, .int x_10), (0, .ref (a 7)), (1, .ref (a 7)), (2, .ref (a 5)), (3, .int x3), (4, .int x4), (6, .int x_2)]) hx hb d_MMo_adds_65 hl (k := 0) rfl (by rw [ex_19]; rfl) (by decide) rfl (fun ls hl => ?_)
            obtain ⟨x_20, ex_20⟩ : ∃ y : Int32, y = x_10 + (-1 : Int32) := ⟨_, rfl⟩
            have hf := hf.trans (nm_eq ex_20)
            refine lv_iinc (v := x_20) (lv' := [(5, .int x_20), (7, .int x_19), (0, .ref (a 7)), (1, .ref (a 7)), (2, .ref (a 5)), (3, .int x3), (4, .int x4), (6, .int x_2)]) hx hb d_MMo_adds_68 hl (k := 1) rfl (by rw [ex_20]; rfl) (by decide) rfl (fun ls hl => ?_)
            exact hK_14 x_20 x_19 _ (lv_sub hl [2, 3, 4, 5, 6, 0, 7, 1] rfl) hf
      · intro K_8 hK_8 hf
        refine lv_icmp_lt (tgt := 36) hx hb d_MMo_adds_21 (by decide) (fun c_21 => ?_) (fun c_21 => ?_)
        · have hf := hf.trans (if_pos c_21)
          refine lv_iconst (v := (0 : Int32)) hx hb d_MMo_adds_36 (by decide) ?_
          exact hK_8 (0 : Int32) _ (lv_sub hl [0, 1, 2, 3, 4, 5, 6] rfl) hf
        · have hf := hf.trans (if_neg c_21)
          refine lv_iload_n hx hb d_MMo_adds_24 rfl (lv_at hl 3 rfl) ?_
          refine lv_aload_n hx hb d_MMo_adds_25 rfl (lv_at hl 2 rfl) ?_
          refine lv_iload hx hb d_MMo_adds_26 (lv_at hl 6 rfl) ?_
          refine lv_iload hx hb d_MMo_adds_28 (lv_at hl 4 rfl) ?_
          refine lv_isub hx hb d_MMo_adds_30 ?_
          obtain ⟨i_22, hf⟩ := ckI_inv hf
          refine va_iald hx hb hw.2.1 hw.1 5 4 rfl rfl i_22 d_MMo_adds_31 ?_
          refine lv_imul hx hb d_MMo_adds_32 ?_
          refine lv_goto (tgt := 37) hx hb d_MMo_adds_33 (by decide) ?_
          exact hK_8 (x3 * (mA u_3 5 (Int32.toNatClampNeg (x_2 - x4)))) _ (lv_sub hl [0, 1, 2, 3, 4, 5, 6] rfl) hf
set_option maxHeartbeats 4000000 in
set_option maxRecDepth 100000 in
theorem c_MMo_quotient (l : Launch) (D : va_G) (a : Nat → Nat) (k : Nat → ClassId) (u0 : MS) (x1 : Int32) (F : Bool × MS) (hf : f_MMo_quotient u0 x1 = some F) : zMz l y_MMo_quotient w_MMo_quotient rm_MMo_quotient D clM (tyM k) nwM (mW a k) [.ref (a 0), .int x1] u0 F := by
  have hf := hf.symm
  unfold f_MMo_quotient at hf
  refine zMz_of (cc := b_MMo_quotient) (maxL := 6) (own := RM_Mo) (by decide) rfl rfl (Nat.le_of_ble_eq_true rfl) ?_
  intro p e R st m args below meth c A H locs Q ls hR hx hb hml hown hts hw hS hret hl
  subst hR
  have hcs : 0 ≤ (rm_MMo_quotient).cells ∧ 0 ≤ (rm_MMo_quotient).slots := ⟨Nat.zero_le _, Nat.zero_le _⟩
  have hl : lv_has ls 6 [(0, .ref (a 0)), (1, .int x1)] := hl
  refine lv_iconst (v := (0 : Int32)) hx hb d_MMo_quotient_0 (by decide) ?_
  refine lv_istore_n (lv' := [(2, .int (0 : Int32)), (0, .ref (a 0)), (1, .int x1)]) hx hb d_MMo_quotient_1 rfl hl (by decide) rfl (fun ls hl => ?_)
  refine jn_cut hf (fun (K_2 : MS → Option (Bool × MS)) => ∀ (u_1 : MS), ∀ (H : Heap) (locs : List Loc), zW D clM (tyM k) nwM (mW a k) A st u_1 H → va_S A st.heap H locs → ∀ (ls : Array Slot), lv_has ls 6 [(0, .ref (a 0)), (1, .int x1)] → some F = K_2 u_1 → W p l e rm_MMo_quotient st m args below meth c H locs 0 0 Q (F0 m 33 ls [])) ?_ ?_
  · intro u_1 H locs hw hS ls hl hf
    refine lv_iconst (v := (1 : Int32)) hx hb d_MMo_quotient_33 (by decide) ?_
    refine lv_istore_n (lv' := [(2, .int (1 : Int32)), (0, .ref (a 0)), (1, .int x1)]) hx hb d_MMo_quotient_34 rfl hl (by decide) rfl (fun ls hl => ?_)
    refine lv_bipush (v := (15 : Int32)) hx hb d_MMo_quotient_35 (by decide) ?_
    refine lv_istore_n (lv' := [(3, .int (15 : Int32)), (2, .int (1 : Int32)), (0, .ref (a 0)), (1, .int x1)]) hx hb d_MMo_quotient_37 rfl hl (by decide) rfl (fun ls hl => ?_)
    refine lp_cut (fun (_ : Nat) (L_6 : Bool → Int32 → MS → Option (Bool × MS)) => ∀ (z_3 : Bool) (x_4 : Int32) (u_5 : MS), ∀ (H : Heap) (locs : List Loc), zW D clM (tyM k) nwM (mW a k) A st u_5 H → va_S A st.heap H locs → ∀ (ls : Array Slot), lv_has ls 6 [(0, .ref (a 0)), (1, .int x1), (2, .int (bI z_3)), (3, .int x_4)] → some F = L_6 z_3 x_4 u_5 → W p l e rm_MMo_quotient st m args below meth c H locs 0 0 Q (F0 m 38 ls [])) ?_ ?_ fuelM true (15 : Int32) u_1 _ _ hw hS _ (lv_sub hl [2, 3, 1, 0] rfl) hf
    · intro _ _ _ _ _ _ _ _ _ hf; cases hf
    · intro _ L_6 hL_6 z_3 x_4 u_5 H locs hw hS ls hl hf
      unfold g_MMo_quotient_38 at hf
      refine lv_iload_n hx hb d_MMo_quotient_38 rfl (lv_at hl 3 rfl) ?_
      refine lv_if_lt (tgt := 161) hx hb d_MMo_quotient_39 (by decide) (fun c_7 => ?_) (fun c_7 => ?_)
      · have hf := hf.trans (if_pos c_7)
        refine lv_iload_n hx hb d_MMo_quotient_161 rfl (lv_at hl 2 rfl) ?_
        exact hret z_3 _ _ _ _ _ d_MMo_quotient_162 hw hS (Option.some.inj hf)
      · have hf := hf.trans (if_neg c_7)
        refine lv_iconst (v := (1 : Int32)) hx hb d_MMo_quotient_42 (by decide) ?_
        refine lv_istore (lv' := [(4, .int (1 : Int32)), (0, .ref (a 0)), (1, .int x1), (2, .int (bI z_3)), (3, .int x_4)]) hx hb d_MMo_quotient_43 hl (by decide) rfl (fun ls hl => ?_)
        refine jn_cut hf (fun (K_9 : MS → Option (Bool × MS)) => ∀ (u_8 : MS), ∀ (H : Heap) (locs : List Loc), zW D clM (tyM k) nwM (mW a k) A st u_8 H → va_S A st.heap H locs → ∀ (ls : Array Slot), lv_has ls 6 [(0, .ref (a 0)), (1, .int x1), (2, .int (bI z_3)), (3, .int x_4)] → some F = K_9 u_8 → W p l e rm_MMo_quotient st m args below meth c H locs 0 0 Q (F0 m 133 ls [])) ?_ ?_
        · intro u_8 H locs hw hS ls hl hf
          refine lv_iload_n hx hb d_MMo_quotient_133 rfl (lv_at hl 2 rfl) ?_
          refine lv_aload_n hx hb d_MMo_quotient_134 rfl (lv_at hl 0 rfl) ?_
          refine va_get (v := .ref (a 6)) hx hb hts iM_Mo hown hw.2.1 hw.1 0 rfl rfl 5 (by decide) (hts _ kM_Mo_25) (fun _ h => h) rfl d_MMo_quotient_135 ?_
          refine lv_iload_n hx hb d_MMo_quotient_138 rfl (lv_at hl 3 rfl) ?_
          obtain ⟨i_10, hf⟩ := ckI_inv hf
          refine va_iald hx hb hw.2.1 hw.1 6 5 rfl rfl i_10 d_MMo_quotient_139 ?_
          refine jn_cut hf (fun (K_12 : Bool → Option (Bool × MS)) => ∀ (z_11 : Bool), ∀ (ls : Array Slot), lv_has ls 6 [(0, .ref (a 0)), (1, .int x1), (3, .int x_4)] → some F = K_12 z_11 → W p l e rm_MMo_quotient st m args below meth c H locs 0 0 Q (F0 m 153 ls [.int (bI z_11), .int (bI z_3)])) ?_ ?_
          · intro z_11 ls hl hf
            refine lv_iand hx hb d_MMo_quotient_153 ?_
            refine z_iandz ?_
            refine z_topz (fun z_13 ez_13 => ?_)
            have hf := hf.trans (nm_eq ez_13)
            refine lv_istore_n (lv' := [(2, .int (bI z_13)), (0, .ref (a 0)), (1, .int x1), (3, .int x_4)]) hx hb d_MMo_quotient_154 rfl hl (by decide) rfl (fun ls hl => ?_)
            obtain ⟨x_14, ex_14⟩ : ∃ y : Int32, y = x_4 + (-1 : Int32) := ⟨_, rfl⟩
            have hf := hf.trans (nm_eq ex_14)
            refine lv_iinc (v := x_14) (lv' := [(3, .int x_14), (2, .int (bI z_13)), (0, .ref (a 0)), (1, .int x1)]) hx hb d_MMo_quotient_155 hl (k := 3) rfl (by rw [ex_14]; rfl) (by decide) rfl (fun ls hl => ?_)
            refine lv_goto (tgt := 38) hx hb d_MMo_quotient_158 (by decide) ?_
            exact hL_6 z_13 x_14 u_8 _ _ hw hS _ (lv_sub hl [2, 3, 1, 0] rfl) hf
          · intro K_12 hK_12 hf
            refine jn_cut hf (fun (K_15 : Option (Bool × MS)) => ∀ (ls : Array Slot), lv_has ls 6 [(0, .ref (a 0)), (1, .int x1), (3, .int x_4)] → some F = K_15 → W p l e rm_MMo_quotient st m args below meth c H locs 0 0 Q (F0 m 148 ls [.int (bI z_3)])) ?_ ?_
            · intro ls hl hf
              refine lv_iconst (v := (1 : Int32)) hx hb d_MMo_quotient_148 (by decide) ?_
              refine lv_goto (tgt := 153) hx hb d_MMo_quotient_149 (by decide) ?_
              exact hK_12 true _ (lv_sub hl [0, 1, 2] rfl) hf
            · intro K_15 hK_15 hf
              refine lv_if_eq (tgt := 148) hx hb d_MMo_quotient_140 (by decide) (fun c_16 => ?_) (fun c_16 => ?_)
              · have hf := hf.trans (if_pos c_16)
                exact hK_15 _ (lv_sub hl [0, 1, 3] rfl) hf
              · have hf := hf.trans (if_neg c_16)
                refine lv_iload_n hx hb d_MMo_quotient_143 rfl (lv_at hl 3 rfl) ?_
                refine lv_iload_n hx hb d_MMo_quotient_144 rfl (lv_at hl 1 rfl) ?_
                refine lv_icmp_ge (tgt := 152) hx hb d_MMo_quotient_145 (by decide) (fun c_17 => ?_) (fun c_17 => ?_)
                · have hf := hf.trans (if_pos c_17)
                  refine lv_iconst (v := (0 : Int32)) hx hb d_MMo_quotient_152 (by decide) ?_
                  exact hK_12 false _ (lv_sub hl [0, 1, 3] rfl) hf
                · have hf := hf.trans (if_neg c_17)
                  exact hK_15 _ (lv_sub hl [0, 1, 3] rfl) hf
        · intro K_9 hK_9 hf
          refine lp_cut (fun (_ : Nat) (L_20 : Bool → MS → Option (Bool × MS)) => ∀ (z_18 : Bool) (u_19 : MS), ∀ (H : Heap) (locs : List Loc), zW D clM (tyM k) nwM (mW a k) A st u_19 H → va_S A st.heap H locs → ∀ (ls : Array Slot), lv_has ls 6 [(0, .ref (a 0)), (1, .int x1), (2, .int (bI z_3)), (3, .int x_4), (4, .int (bI z_18))] → some F = L_20 z_18 u_19 → W p l e rm_MMo_quotient st m args below meth c H locs 0 0 Q (F0 m 45 ls [])) ?_ ?_ fuelM true u_5 _ _ hw hS _ (lv_sub hl [1, 2, 3, 4, 0] rfl) hf
          · intro _ _ _ _ _ _ _ _ hf; cases hf
          · intro _ L_20 hL_20 z_18 u_19 H locs hw hS ls hl hf
            unfold g_MMo_quotient_45 at hf
            refine lv_iload hx hb d_MMo_quotient_45 (lv_at hl 4 rfl) ?_
            refine lv_if_eq (tgt := 133) hx hb d_MMo_quotient_47 (by decide) (fun c_21 => ?_) (fun c_21 => ?_)
            · have hf := hf.trans (if_pos c_21)
              exact hK_9 u_19 _ _ hw hS _ (lv_sub hl [0, 1, 2, 3] rfl) hf
            · have hf := hf.trans (if_neg c_21)
              refine lv_iconst (v := (0 : Int32)) hx hb d_MMo_quotient_50 (by decide) ?_
              refine lv_istore (lv' := [(5, .int (0 : Int32)), (0, .ref (a 0)), (1, .int x1), (2, .int (bI z_3)), (3, .int x_4), (4, .int (bI z_18))]) hx hb d_MMo_quotient_51 hl (by decide) rfl (fun ls hl => ?_)
              refine jn_cut hf (fun (K_23 : MS → Option (Bool × MS)) => ∀ (u_22 : MS), ∀ (H : Heap) (locs : List Loc), zW D clM (tyM k) nwM (mW a k) A st u_22 H → va_S A st.heap H locs → ∀ (ls : Array Slot), lv_has ls 6 [(0, .ref (a 0)), (1, .int x1), (2, .int (bI z_3)), (3, .int x_4)] → some F = K_23 u_22 → W p l e rm_MMo_quotient st m args below meth c H locs 0 0 Q (F0 m 92 ls [])) ?_ ?_
              · intro u_22 H locs hw hS ls hl hf
                refine lv_aload_n hx hb d_MMo_quotient_92 rfl (lv_at hl 0 rfl) ?_
                obtain ⟨z_24, ez_24, hf⟩ := bd1_inv hf
                refine z_rV (V := .int (bI z_24)) (z_runV (As := []) (rest := []) ⟨hx, hb, hml, hown, hts⟩ (c_MMo_notBelow l D a k u_22 z_24 ez_24) (qM_Mo_208 hts (by decide)) hw 0 rfl rfl hl.1 rfl (lv_room (Nat.le_of_ble_eq_true rfl)) d_MMo_quotient_93 hcs) ?_
                refine lv_istore (lv' := [(4, .int (bI z_24)), (0, .ref (a 0)), (1, .int x1), (2, .int (bI z_3)), (3, .int x_4)]) hx hb d_MMo_quotient_96 hl (by decide) rfl (fun ls hl => ?_)
                refine lv_iload hx hb d_MMo_quotient_98 (lv_at hl 0 rfl) ?_
                refine lv_if_eq (tgt := 45) hx hb d_MMo_quotient_100 (by decide) (fun c_25 => ?_) (fun c_25 => ?_)
                · have hf := hf.trans (if_pos c_25)
                  exact hL_20 z_24 u_22 _ _ hw hS _ (lv_sub hl [1, 2, 3, 4, 0] rfl) hf
                · have hf := hf.trans (if_neg c_25)
                  refine lv_aload_n hx hb d_MMo_quotient_103 rfl (lv_at hl 1 rfl) ?_
                  refine va_get (v := .ref (a 7)) hx hb hts iM_Mo hown hw.2.1 hw.1 0 rfl rfl 6 (by decide) (hts _ kM_Mo_28) (fun _ h => h) rfl d_MMo_quotient_104 ?_
                  refine lv_aload_n hx hb d_MMo_quotient_107 rfl (lv_at hl 1 rfl) ?_
                  refine va_get (v := .ref (a 7)) hx hb hts iM_Mo hown hw.2.1 hw.1 0 rfl rfl 6 (by decide) (hts _ kM_Mo_28) (fun _ h => h) rfl d_MMo_quotient_108 ?_
                  refine lv_aload_n hx hb d_MMo_quotient_111 rfl (lv_at hl 1 rfl) ?_
                  refine va_get (v := .ref (a 5)) hx hb hts iM_Mo hown hw.2.1 hw.1 0 rfl rfl 4 (by decide) (hts _ kM_Mo_22) (fun _ h => h) rfl d_MMo_quotient_112 ?_
                  refine lv_iconst (v := (-1 : Int32)) hx hb d_MMo_quotient_115 (by decide) ?_
                  refine lv_iload_n hx hb d_MMo_quotient_116 rfl (lv_at hl 4 rfl) ?_
                  obtain ⟨u_26, eu_26, hf⟩ := bd1_inv hf
                  refine z_wv' (u' := u_26) (z_runS (As := [.ref (a 7), .ref (a 7), .ref (a 5), .int (-1 : Int32), .int x_4]) (rest := []) ⟨hx, hb, hml, hown, hts⟩ (c_MMo_adds_7_7_5 l D a k u_22 (-1 : Int32) x_4 u_26 eu_26) (qM_Mo_212 hts (by decide)) hw  hl.1 rfl (lv_room (Nat.le_of_ble_eq_true rfl)) d_MMo_quotient_117 hcs) hw hS (fun H locs hw hS => ?_)
                  refine lv_aload_n hx hb d_MMo_quotient_120 rfl (lv_at hl 1 rfl) ?_
                  refine va_get (v := .ref (a 6)) hx hb hts iM_Mo hown hw.2.1 hw.1 0 rfl rfl 5 (by decide) (hts _ kM_Mo_25) (fun _ h => h) rfl d_MMo_quotient_121 ?_
                  refine lv_iload_n hx hb d_MMo_quotient_124 rfl (lv_at hl 4 rfl) ?_
                  refine lv_dup2_11 hx hb d_MMo_quotient_125 rfl rfl ?_
                  obtain ⟨i_27, hf⟩ := ckI_inv hf
                  refine va_iald hx hb hw.2.1 hw.1 6 5 rfl rfl i_27 d_MMo_quotient_126 ?_
                  refine lv_iconst (v := (1 : Int32)) hx hb d_MMo_quotient_127 (by decide) ?_
                  refine lv_iadd hx hb d_MMo_quotient_128 ?_
                  obtain ⟨i_29, hf⟩ := ckI_inv hf
                  refine z_iast (u' := msA u_26 6 (Int32.toNatClampNeg x_4) ((mA u_26 6 (Int32.toNatClampNeg x_4)) + (1 : Int32))) hx hb hw hS 6 5 rfl rfl i_29 rfl d_MMo_quotient_129 (fun u_28 H locs eu_28 hw hS => ?_)
                  have hf := hf.trans (nm_eq eu_28)
                  refine lv_goto (tgt := 45) hx hb d_MMo_quotient_130 (by decide) ?_
                  exact hL_20 z_24 u_28 _ _ hw hS _ (lv_sub hl [1, 2, 3, 4, 0] rfl) hf
              · intro K_23 hK_23 hf
                refine lp_cut (fun (_ : Nat) (L_32 : Int32 → MS → Option (Bool × MS)) => ∀ (x_30 : Int32) (u_31 : MS), ∀ (H : Heap) (locs : List Loc), zW D clM (tyM k) nwM (mW a k) A st u_31 H → va_S A st.heap H locs → ∀ (ls : Array Slot), lv_has ls 6 [(0, .ref (a 0)), (1, .int x1), (2, .int (bI z_3)), (3, .int x_4), (5, .int x_30)] → some F = L_32 x_30 u_31 → W p l e rm_MMo_quotient st m args below meth c H locs 0 0 Q (F0 m 53 ls [])) ?_ ?_ fuelM (0 : Int32) u_19 _ _ hw hS _ (lv_sub hl [1, 2, 3, 4, 0] rfl) hf
                · intro _ _ _ _ _ _ _ _ hf; cases hf
                · intro _ L_32 hL_32 x_30 u_31 H locs hw hS ls hl hf
                  unfold g_MMo_quotient_53 at hf
                  refine lv_iload hx hb d_MMo_quotient_53 (lv_at hl 4 rfl) ?_
                  refine lv_bipush (v := (32 : Int32)) hx hb d_MMo_quotient_55 (by decide) ?_
                  refine lv_icmp_ge (tgt := 92) hx hb d_MMo_quotient_57 (by decide) (fun c_33 => ?_) (fun c_33 => ?_)
                  · have hf := hf.trans (if_pos c_33)
                    exact hK_23 u_31 _ _ hw hS _ (lv_sub hl [0, 1, 2, 3] rfl) hf
                  · have hf := hf.trans (if_neg c_33)
                    refine lv_aload_n hx hb d_MMo_quotient_60 rfl (lv_at hl 0 rfl) ?_
                    refine va_get (v := .ref (a 8)) hx hb hts iM_Mo hown hw.2.1 hw.1 0 rfl rfl 7 (by decide) (hts _ kM_Mo_31) (fun _ h => h) rfl d_MMo_quotient_61 ?_
                    refine lv_iload hx hb d_MMo_quotient_64 (lv_at hl 4 rfl) ?_
                    refine lv_iload hx hb d_MMo_quotient_66 (lv_at hl 4 rfl) ?_
                    refine lv_iload_n hx hb d_MMo_quotient_68 rfl (lv_at hl 3 rfl) ?_
                    refine jn_cut hf (fun (K_35 : Int32 → Option (Bool × MS)) => ∀ (x_34 : Int32), ∀ (ls : Array Slot), lv_has ls 6 [(0, .ref (a 0)), (1, .int x1), (2, .int (bI z_3)), (3, .int x_4), (5, .int x_30)] → some F = K_35 x_34 → W p l e rm_MMo_quotient st m args below meth c H locs 0 0 Q (F0 m 85 ls [.int x_34, .int x_30, .ref (a 8)])) ?_ ?_
                    · intro x_34 ls hl hf
                      obtain ⟨i_37, hf⟩ := ckI_inv hf
                      refine z_iast (u' := msA u_31 8 (Int32.toNatClampNeg x_30) x_34) hx hb hw hS 8 7 rfl rfl i_37 rfl d_MMo_quotient_85 (fun u_36 H locs eu_36 hw hS => ?_)
                      have hf := hf.trans (nm_eq eu_36)
                      obtain ⟨x_38, ex_38⟩ : ∃ y : Int32, y = x_30 + (1 : Int32) := ⟨_, rfl⟩
                      have hf := hf.trans (nm_eq ex_38)
                      refine lv_iinc (v := x_38) (lv' := [(5, .int x_38), (0, .ref (a 0)), (1, .int x1), (2, .int (bI z_3)), (3, .int x_4)]) hx hb d_MMo_quotient_86 hl (k := 4) rfl (by rw [ex_38]; rfl) (by decide) rfl (fun ls hl => ?_)
                      refine lv_goto (tgt := 53) hx hb d_MMo_quotient_89 (by decide) ?_
                      exact hL_32 x_38 u_36 _ _ hw hS _ (lv_sub hl [1, 2, 3, 4, 0] rfl) hf
                    · intro K_35 hK_35 hf
                      refine lv_icmp_lt (tgt := 84) hx hb d_MMo_quotient_69 (by decide) (fun c_39 => ?_) (fun c_39 => ?_)
                      · have hf := hf.trans (if_pos c_39)
                        refine lv_iconst (v := (0 : Int32)) hx hb d_MMo_quotient_84 (by decide) ?_
                        exact hK_35 (0 : Int32) _ (lv_sub hl [0, 1, 2, 3, 4] rfl) hf
                      · have hf := hf.trans (if_neg c_39)
                        refine lv_aload_n hx hb d_MMo_quotient_72 rfl (lv_at hl 0 rfl) ?_
                        refine va_get (v := .ref (a 5)) hx hb hts iM_Mo hown hw.2.1 hw.1 0 rfl rfl 4 (by decide) (hts _ kM_Mo_22) (fun _ h => h) rfl d_MMo_quotient_73 ?_
                        refine lv_iload hx hb d_MMo_quotient_76 (lv_at hl 4 rfl) ?_
                        refine lv_iload_n hx hb d_MMo_quotient_78 rfl (lv_at hl 3 rfl) ?_
                        refine lv_isub hx hb d_MMo_quotient_79 ?_
                        obtain ⟨i_40, hf⟩ := ckI_inv hf
                        refine va_iald hx hb hw.2.1 hw.1 5 4 rfl rfl i_40 d_MMo_quotient_80 ?_
                        refine lv_goto (tgt := 85) hx hb d_MMo_quotient_81 (by decide) ?_
                        exact hK_35 (mA u_31 5 (Int32.toNatClampNeg (x_30 - x_4))) _ (lv_sub hl [0, 1, 2, 3, 4] rfl) hf
  · intro K_2 hK_2 hf
    refine lp_cut (fun (_ : Nat) (L_43 : Int32 → MS → Option (Bool × MS)) => ∀ (x_41 : Int32) (u_42 : MS), ∀ (H : Heap) (locs : List Loc), zW D clM (tyM k) nwM (mW a k) A st u_42 H → va_S A st.heap H locs → ∀ (ls : Array Slot), lv_has ls 6 [(0, .ref (a 0)), (1, .int x1), (2, .int x_41)] → some F = L_43 x_41 u_42 → W p l e rm_MMo_quotient st m args below meth c H locs 0 0 Q (F0 m 2 ls [])) ?_ ?_ fuelM (0 : Int32) u0 _ _ hw hS _ (lv_sub hl [1, 2, 0] rfl) hf
    · intro _ _ _ _ _ _ _ _ hf; cases hf
    · intro _ L_43 hL_43 x_41 u_42 H locs hw hS ls hl hf
      unfold g_MMo_quotient_2 at hf
      refine lv_iload_n hx hb d_MMo_quotient_2 rfl (lv_at hl 2 rfl) ?_
      refine lv_bipush (v := (32 : Int32)) hx hb d_MMo_quotient_3 (by decide) ?_
      refine lv_icmp_ge (tgt := 33) hx hb d_MMo_quotient_5 (by decide) (fun c_44 => ?_) (fun c_44 => ?_)
      · have hf := hf.trans (if_pos c_44)
        exact hK_2 u_42 _ _ hw hS _ (lv_sub hl [0, 1] rfl) hf
      · have hf := hf.trans (if_neg c_44)
        refine lv_aload_n hx hb d_MMo_quotient_8 rfl (lv_at hl 0 rfl) ?_
        refine va_get (v := .ref (a 7)) hx hb hts iM_Mo hown hw.2.1 hw.1 0 rfl rfl 6 (by decide) (hts _ kM_Mo_28) (fun _ h => h) rfl d_MMo_quotient_9 ?_
        refine lv_iload_n hx hb d_MMo_quotient_12 rfl (lv_at hl 2 rfl) ?_
        refine lv_aload_n hx hb d_MMo_quotient_13 rfl (lv_at hl 0 rfl) ?_
        refine va_get (v := .ref (a 4)) hx hb hts iM_Mo hown hw.2.1 hw.1 0 rfl rfl 3 (by decide) (hts _ kM_Mo_19) (fun _ h => h) rfl d_MMo_quotient_14 ?_
        refine lv_iload_n hx hb d_MMo_quotient_17 rfl (lv_at hl 2 rfl) ?_
        obtain ⟨i_45, hf⟩ := ckI_inv hf
        refine va_iald hx hb hw.2.1 hw.1 4 3 rfl rfl i_45 d_MMo_quotient_18 ?_
        obtain ⟨i_47, hf⟩ := ckI_inv hf
        refine z_iast (u' := msA u_42 7 (Int32.toNatClampNeg x_41) (mA u_42 4 (Int32.toNatClampNeg x_41))) hx hb hw hS 7 6 rfl rfl i_47 rfl d_MMo_quotient_19 (fun u_46 H locs eu_46 hw hS => ?_)
        have hf := hf.trans (nm_eq eu_46)
        refine lv_aload_n hx hb d_MMo_quotient_20 rfl (lv_at hl 0 rfl) ?_
        refine va_get (v := .ref (a 6)) hx hb hts iM_Mo hown hw.2.1 hw.1 0 rfl rfl 5 (by decide) (hts _ kM_Mo_25) (fun _ h => h) rfl d_MMo_quotient_21 ?_
        refine lv_iload_n hx hb d_MMo_quotient_24 rfl (lv_at hl 2 rfl) ?_
        refine lv_iconst (v := (0 : Int32)) hx hb d_MMo_quotient_25 (by decide) ?_
        obtain ⟨i_49, hf⟩ := ckI_inv hf
        refine z_iast (u' := msA u_46 6 (Int32.toNatClampNeg x_41) (0 : Int32)) hx hb hw hS 6 5 rfl rfl i_49 rfl d_MMo_quotient_26 (fun u_48 H locs eu_48 hw hS => ?_)
        have hf := hf.trans (nm_eq eu_48)
        obtain ⟨x_50, ex_50⟩ : ∃ y : Int32, y = x_41 + (1 : Int32) := ⟨_, rfl⟩
        have hf := hf.trans (nm_eq ex_50)
        refine lv_iinc (v := x_50) (lv' := [(2, .int x_50), (0, .ref (a 0)), (1, .int x1)]) hx hb d_MMo_quotient_27 hl (k := 2) rfl (by rw [ex_50]; rfl) (by decide) rfl (fun ls hl => ?_)
        refine lv_goto (tgt := 2) hx hb d_MMo_quotient_30 (by decide) ?_
        exact hL_43 x_50 u_48 _ _ hw hS _ (lv_sub hl [1, 2, 0] rfl) hf
