set_option maxHeartbeats 4000000 in
set_option maxRecDepth 100000 in
theorem c_MMo_unpacks_6 (l : Launch) (D : va_G) (a : Nat → Nat) (k : Nat → ClassId) (u0 : MS) (x1 : Int32) (x2 : Int32) (z4 : Bool) (F : MS) (hf : f_MMo_unpacks 6 u0 x1 x2 z4 = some F) : zMv l y_MMo_unpacks w_MMo_unpacks rm_MMo_unpacks D clM (tyM k) nwM (mW a k) [.ref (a 0), .int x1, .int x2, .ref (a 6), .int (bI z4)] u0 F := by
  have hf := hf.symm
  unfold f_MMo_unpacks at hf
  refine zMv_of (cc := b_MMo_unpacks) (maxL := 9) (own := RM_Mo) (by decide) rfl rfl (Nat.le_of_ble_eq_true rfl) ?_
  intro p e R st m args below meth c A H locs Q ls hR hx hb hml hown hts hw hS hret hl
  subst hR
  have hcs : 0 ≤ (rm_MMo_unpacks).cells ∧ 0 ≤ (rm_MMo_unpacks).slots := ⟨Nat.zero_le _, Nat.zero_le _⟩
  have hl : lv_has ls 9 [(0, .ref (a 0)), (1, .int x1), (2, .int x2), (3, .ref (a 6)), (4, .int (bI z4))] := hl
  refine lv_iconst (v := (0 : Int32)) hx hb d_MMo_unpacks_0 (by decide) ?_
  refine lv_istore (lv' := [(5, .int (0 : Int32)), (0, .ref (a 0)), (1, .int x1), (2, .int x2), (3, .ref (a 6)), (4, .int (bI z4))]) hx hb d_MMo_unpacks_1 hl (by decide) rfl (fun ls hl => ?_)
  refine lp_cut (fun (_ : Nat) (L_3 : Int32 → MS → Option (MS)) => ∀ (x_1 : Int32) (u_2 : MS), ∀ (H : Heap) (locs : List Loc), zW D clM (tyM k) nwM (mW a k) A st u_2 H → va_S A st.heap H locs → ∀ (ls : Array Slot), lv_has ls 9 [(0, .ref (a 0)), (1, .int x1), (2, .int x2), (3, .ref (a 6)), (4, .int (bI z4)), (5, .int x_1)] → some F = L_3 x_1 u_2 → W p l e rm_MMo_unpacks st m args below meth c H locs 0 0 Q (F0 m 3 ls [])) ?_ ?_ fuelM (0 : Int32) u0 _ _ hw hS _ (lv_sub hl [1, 2, 3, 4, 5, 0] rfl) hf
  · intro _ _ _ _ _ _ _ _ hf; cases hf
  · intro _ L_3 hL_3 x_1 u_2 H locs hw hS ls hl hf
    unfold g_MMo_unpacks_3 at hf
    refine lv_iload hx hb d_MMo_unpacks_3 (lv_at hl 5 rfl) ?_
    refine lv_iload_n hx hb d_MMo_unpacks_5 rfl (lv_at hl 2 rfl) ?_
    refine lv_icmp_ge (tgt := 77) hx hb d_MMo_unpacks_6 (by decide) (fun c_4 => ?_) (fun c_4 => ?_)
    · have hf := hf.trans (if_pos c_4)
      exact hret _ _ _ _ _ d_MMo_unpacks_77 hw hS (Option.some.inj hf)
    · have hf := hf.trans (if_neg c_4)
      refine lv_iload_n hx hb d_MMo_unpacks_9 rfl (lv_at hl 2 rfl) ?_
      refine lv_iconst (v := (1 : Int32)) hx hb d_MMo_unpacks_10 (by decide) ?_
      refine lv_isub hx hb d_MMo_unpacks_11 ?_
      refine lv_iload hx hb d_MMo_unpacks_12 (lv_at hl 5 rfl) ?_
      refine lv_isub hx hb d_MMo_unpacks_14 ?_
      refine lv_topi (fun x_5 ex_5 => ?_)
      have hf := hf.trans (nm_eq ex_5)
      refine lv_istore (lv' := [(6, .int x_5), (0, .ref (a 0)), (1, .int x1), (2, .int x2), (3, .ref (a 6)), (4, .int (bI z4)), (5, .int x_1)]) hx hb d_MMo_unpacks_15 hl (by decide) rfl (fun ls hl => ?_)
      refine lv_aload_n hx hb d_MMo_unpacks_17 rfl (lv_at hl 4 rfl) ?_
      refine lv_iconst (v := (2 : Int32)) hx hb d_MMo_unpacks_18 (by decide) ?_
      refine lv_iload hx hb d_MMo_unpacks_19 (lv_at hl 0 rfl) ?_
      refine lv_imul hx hb d_MMo_unpacks_21 ?_
      obtain ⟨i_6, hf⟩ := ckI_inv hf
      refine va_iald hx hb hw.2.1 hw.1 6 5 rfl rfl i_6 d_MMo_unpacks_22 ?_
      refine lv_topi (fun x_7 ex_7 => ?_)
      have hf := hf.trans (nm_eq ex_7)
      refine lv_istore (lv' := [(7, .int x_7), (6, .int x_5), (0, .ref (a 0)), (1, .int x1), (2, .int x2), (3, .ref (a 6)), (4, .int (bI z4)), (5, .int x_1)]) hx hb d_MMo_unpacks_23 hl (by decide) rfl (fun ls hl => ?_)
      refine lv_iload hx hb d_MMo_unpacks_25 (lv_at hl 1 rfl) ?_
      refine jn_cut hf (fun (K_9 : Int32 → Option (MS)) => ∀ (x_8 : Int32), ∀ (ls : Array Slot), lv_has ls 9 [(0, .ref (a 0)), (1, .int x1), (2, .int x2), (3, .ref (a 6)), (4, .int (bI z4)), (5, .int x_1), (7, .int x_7)] → some F = K_9 x_8 → W p l e rm_MMo_unpacks st m args below meth c H locs 0 0 Q (F0 m 53 ls [.int x_8])) ?_ ?_
      · intro x_8 ls hl hf
        refine lv_istore (lv' := [(8, .int x_8), (0, .ref (a 0)), (1, .int x1), (2, .int x2), (3, .ref (a 6)), (4, .int (bI z4)), (5, .int x_1), (7, .int x_7)]) hx hb d_MMo_unpacks_53 hl (by decide) rfl (fun ls hl => ?_)
        refine lv_aload_n hx hb d_MMo_unpacks_55 rfl (lv_at hl 1 rfl) ?_
        refine va_get (v := .ref (a 1)) hx hb hts iM_Mo hown hw.2.1 hw.1 0 rfl rfl 0 (by decide) (hts _ kM_Mo_7) (fun _ h => h) rfl d_MMo_unpacks_56 ?_
        refine lv_iload_n hx hb d_MMo_unpacks_59 rfl (lv_at hl 2 rfl) ?_
        refine lv_iload hx hb d_MMo_unpacks_60 (lv_at hl 6 rfl) ?_
        refine lv_iadd hx hb d_MMo_unpacks_62 ?_
        refine lv_iload hx hb d_MMo_unpacks_63 (lv_at hl 7 rfl) ?_
        refine lv_iconst (v := (4 : Int32)) hx hb d_MMo_unpacks_65 (by decide) ?_
        refine lv_ishl hx hb d_MMo_unpacks_66 ?_
        refine lv_iload hx hb d_MMo_unpacks_67 (lv_at hl 0 rfl) ?_
        refine lv_ior hx hb d_MMo_unpacks_69 ?_
        obtain ⟨i_11, hf⟩ := ckI_inv hf
        refine z_iast (u' := msA u_2 1 (Int32.toNatClampNeg (x1 + x_1)) ((x_7 <<< ((4 : Int32) &&& 31)) ||| x_8)) hx hb hw hS 1 0 rfl rfl i_11 rfl d_MMo_unpacks_70 (fun u_10 H locs eu_10 hw hS => ?_)
        have hf := hf.trans (nm_eq eu_10)
        obtain ⟨x_12, ex_12⟩ : ∃ y : Int32, y = x_1 + (1 : Int32) := ⟨_, rfl⟩
        have hf := hf.trans (nm_eq ex_12)
        refine lv_iinc (v := x_12) (lv' := [(5, .int x_12), (8, .int x_8), (0, .ref (a 0)), (1, .int x1), (2, .int x2), (3, .ref (a 6)), (4, .int (bI z4)), (7, .int x_7)]) hx hb d_MMo_unpacks_71 hl (k := 6) rfl (by rw [ex_12]; rfl) (by decide) rfl (fun ls hl => ?_)
        refine lv_goto (tgt := 3) hx hb d_MMo_unpacks_74 (by decide) ?_
        exact hL_3 x_12 u_10 _ _ hw hS _ (lv_sub hl [2, 3, 4, 5, 6, 0] rfl) hf
      · intro K_9 hK_9 hf
        refine lv_if_ne (tgt := 45) hx hb d_MMo_unpacks_27 (by decide) (fun c_13 => ?_) (fun c_13 => ?_)
        · have hf := hf.trans (if_neg c_13)
          refine lv_aload_n hx hb d_MMo_unpacks_45 rfl (lv_at hl 5 rfl) ?_
          refine lv_iconst (v := (2 : Int32)) hx hb d_MMo_unpacks_46 (by decide) ?_
          refine lv_iload hx hb d_MMo_unpacks_47 (lv_at hl 1 rfl) ?_
          refine lv_imul hx hb d_MMo_unpacks_49 ?_
          refine lv_iconst (v := (1 : Int32)) hx hb d_MMo_unpacks_50 (by decide) ?_
          refine lv_isub hx hb d_MMo_unpacks_51 ?_
          obtain ⟨i_14, hf⟩ := ckI_inv hf
          refine va_iald hx hb hw.2.1 hw.1 6 5 rfl rfl i_14 d_MMo_unpacks_52 ?_
          exact hK_9 (mA u_2 6 (Int32.toNatClampNeg (((2 : Int32) * x_5) - (1 : Int32)))) _ (lv_sub hl [2, 3, 4, 5, 6, 7, 0] rfl) hf
        · have hf := hf.trans (if_pos c_13)
          refine lv_iload hx hb d_MMo_unpacks_30 (lv_at hl 6 rfl) ?_
          refine lv_if_eq (tgt := 40) hx hb d_MMo_unpacks_32 (by decide) (fun c_15 => ?_) (fun c_15 => ?_)
          · have hf := hf.trans (if_pos c_15)
            refine lv_bipush (v := (12 : Int32)) hx hb d_MMo_unpacks_40 (by decide) ?_
            refine lv_goto (tgt := 53) hx hb d_MMo_unpacks_42 (by decide) ?_
            exact hK_9 (12 : Int32) _ (lv_sub hl [2, 3, 4, 5, 6, 7, 0] rfl) hf
          · have hf := hf.trans (if_neg c_15)
            refine lv_bipush (v := (13 : Int32)) hx hb d_MMo_unpacks_35 (by decide) ?_
            refine lv_goto (tgt := 53) hx hb d_MMo_unpacks_37 (by decide) ?_
            exact hK_9 (13 : Int32) _ (lv_sub hl [2, 3, 4, 5, 6, 7, 0] rfl) hf
set_option maxHeartbeats 4000000 in
set_option maxRecDepth 100000 in
theorem c_MMo_unpacks_7 (l : Launch) (D : va_G) (a : Nat → Nat) (k : Nat → ClassId) (u0 : MS) (x1 : Int32) (x2 : Int32) (z4 : Bool) (F : MS) (hf : f_MMo_unpacks 7 u0 x1 x2 z4 = some F) : zMv l y_MMo_unpacks w_MMo_unpacks rm_MMo_unpacks D clM (tyM k) nwM (mW a k) [.ref (a 0), .int x1, .int x2, .ref (a 7), .int (bI z4)] u0 F := by
  have hf := hf.symm
  unfold f_MMo_unpacks at hf
  refine zMv_of (cc := b_MMo_unpacks) (maxL := 9) (own := RM_Mo) (by decide) rfl rfl (Nat.le_of_ble_eq_true rfl) ?_
  intro p e R st m args below meth c A H locs Q ls hR hx hb hml hown hts hw hS hret hl
  subst hR
  have hcs : 0 ≤ (rm_MMo_unpacks).cells ∧ 0 ≤ (rm_MMo_unpacks).slots := ⟨Nat.zero_le _, Nat.zero_le _⟩
  have hl : lv_has ls 9 [(0, .ref (a 0)), (1, .int x1), (2, .int x2), (3, .ref (a 7)), (4, .int (bI z4))] := hl
  refine lv_iconst (v := (0 : Int32)) hx hb d_MMo_unpacks_0 (by decide) ?_
  refine lv_istore (lv' := [(5, .int (0 : Int32)), (0, .ref (a 0)), (1, .int x1), (2, .int x2), (3, .ref (a 7)), (4, .int (bI z4))]) hx hb d_MMo_unpacks_1 hl (by decide) rfl (fun ls hl => ?_)
  refine lp_cut (fun (_ : Nat) (L_3 : Int32 → MS → Option (MS)) => ∀ (x_1 : Int32) (u_2 : MS), ∀ (H : Heap) (locs : List Loc), zW D clM (tyM k) nwM (mW a k) A st u_2 H → va_S A st.heap H locs → ∀ (ls : Array Slot), lv_has ls 9 [(0, .ref (a 0)), (1, .int x1), (2, .int x2), (3, .ref (a 7)), (4, .int (bI z4)), (5, .int x_1)] → some F = L_3 x_1 u_2 → W p l e rm_MMo_unpacks st m args below meth c H locs 0 0 Q (F0 m 3 ls [])) ?_ ?_ fuelM (0 : Int32) u0 _ _ hw hS _ (lv_sub hl [1, 2, 3, 4, 5, 0] rfl) hf
  · intro _ _ _ _ _ _ _ _ hf; cases hf
  · intro _ L_3 hL_3 x_1 u_2 H locs hw hS ls hl hf
    unfold g_MMo_unpacks_3 at hf
    refine lv_iload hx hb d_MMo_unpacks_3 (lv_at hl 5 rfl) ?_
    refine lv_iload_n hx hb d_MMo_unpacks_5 rfl (lv_at hl 2 rfl) ?_
    refine lv_icmp_ge (tgt := 77) hx hb d_MMo_unpacks_6 (by decide) (fun c_4 => ?_) (fun c_4 => ?_)
    · have hf := hf.trans (if_pos c_4)
      exact hret _ _ _ _ _ d_MMo_unpacks_77 hw hS (Option.some.inj hf)
    · have hf := hf.trans (if_neg c_4)
      refine lv_iload_n hx hb d_MMo_unpacks_9 rfl (lv_at hl 2 rfl) ?_
      refine lv_iconst (v := (1 : Int32)) hx hb d_MMo_unpacks_10 (by decide) ?_
      refine lv_isub hx hb d_MMo_unpacks_11 ?_
      refine lv_iload hx hb d_MMo_unpacks_12 (lv_at hl 5 rfl) ?_
      refine lv_isub hx hb d_MMo_unpacks_14 ?_
      refine lv_topi (fun x_5 ex_5 => ?_)
      have hf := hf.trans (nm_eq ex_5)
      refine lv_istore (lv' := [(6, .int x_5), (0, .ref (a 0)), (1, .int x1), (2, .int x2), (3, .ref (a 7)), (4, .int (bI z4)), (5, .int x_1)]) hx hb d_MMo_unpacks_15 hl (by decide) rfl (fun ls hl => ?_)
      refine lv_aload_n hx hb d_MMo_unpacks_17 rfl (lv_at hl 4 rfl) ?_
      refine lv_iconst (v := (2 : Int32)) hx hb d_MMo_unpacks_18 (by decide) ?_
      refine lv_iload hx hb d_MMo_unpacks_19 (lv_at hl 0 rfl) ?_
      refine lv_imul hx hb d_MMo_unpacks_21 ?_
      obtain ⟨i_6, hf⟩ := ckI_inv hf
      refine va_iald hx hb hw.2.1 hw.1 7 6 rfl rfl i_6 d_MMo_unpacks_22 ?_
      refine lv_topi (fun x_7 ex_7 => ?_)
      have hf := hf.trans (nm_eq ex_7)
      refine lv_istore (lv' := [(7, .int x_7), (6, .int x_5), (0, .ref (a 0)), (1, .int x1), (2, .int x2), (3, .ref (a 7)), (4, .int (bI z4)), (5, .int x_1)]) hx hb d_MMo_unpacks_23 hl (by decide) rfl (fun ls hl => ?_)
      refine lv_iload hx hb d_MMo_unpacks_25 (lv_at hl 1 rfl) ?_
      refine jn_cut hf (fun (K_9 : Int32 → Option (MS)) => ∀ (x_8 : Int32), ∀ (ls : Array Slot), lv_has ls 9 [(0, .ref (a 0)), (1, .int x1), (2, .int x2), (3, .ref (a 7)), (4, .int (bI z4)), (5, .int x_1), (7, .int x_7)] → some F = K_9 x_8 → W p l e rm_MMo_unpacks st m args below meth c H locs 0 0 Q (F0 m 53 ls [.int x_8])) ?_ ?_
      · intro x_8 ls hl hf
        refine lv_istore (lv' := [(8, .int x_8), (0, .ref (a 0)), (1, .int x1), (2, .int x2), (3, .ref (a 7)), (4, .int (bI z4)), (5, .int x_1), (7, .int x_7)]) hx hb d_MMo_unpacks_53 hl (by decide) rfl (fun ls hl => ?_)
        refine lv_aload_n hx hb d_MMo_unpacks_55 rfl (lv_at hl 1 rfl) ?_
        refine va_get (v := .ref (a 1)) hx hb hts iM_Mo hown hw.2.1 hw.1 0 rfl rfl 0 (by decide) (hts _ kM_Mo_7) (fun _ h => h) rfl d_MMo_unpacks_56 ?_
        refine lv_iload_n hx hb d_MMo_unpacks_59 rfl (lv_at hl 2 rfl) ?_
        refine lv_iload hx hb d_MMo_unpacks_60 (lv_at hl 6 rfl) ?_
        refine lv_iadd hx hb d_MMo_unpacks_62 ?_
        refine lv_iload hx hb d_MMo_unpacks_63 (lv_at hl 7 rfl) ?_
        refine lv_iconst (v := (4 : Int32)) hx hb d_MMo_unpacks_65 (by decide) ?_
        refine lv_ishl hx hb d_MMo_unpacks_66 ?_
        refine lv_iload hx hb d_MMo_unpacks_67 (lv_at hl 0 rfl) ?_
        refine lv_ior hx hb d_MMo_unpacks_69 ?_
        obtain ⟨i_11, hf⟩ := ckI_inv hf
        refine z_iast (u' := msA u_2 1 (Int32.toNatClampNeg (x1 + x_1)) ((x_7 <<< ((4 : Int32) &&& 31)) ||| x_8)) hx hb hw hS 1 0 rfl rfl i_11 rfl d_MMo_unpacks_70 (fun u_10 H locs eu_10 hw hS => ?_)
        have hf := hf.trans (nm_eq eu_10)
        obtain ⟨x_12, ex_12⟩ : ∃ y : Int32, y = x_1 + (1 : Int32) := ⟨_, rfl⟩
        have hf := hf.trans (nm_eq ex_12)
        refine lv_iinc (v := x_12) (lv' := [(5, .int x_12), (8, .int x_8), (0, .ref (a 0)), (1, .int x1), (2, .int x2), (3, .ref (a 7)), (4, .int (bI z4)), (7, .int x_7)]) hx hb d_MMo_unpacks_71 hl (k := 6) rfl (by rw [ex_12]; rfl) (by decide) rfl (fun ls hl => ?_)
        refine lv_goto (tgt := 3) hx hb d_MMo_unpacks_74 (by decide) ?_
        exact hL_3 x_12 u_10 _ _ hw hS _ (lv_sub hl [2, 3, 4, 5, 6, 0] rfl) hf
      · intro K_9 hK_9 hf
        refine lv_if_ne (tgt := 45) hx hb d_MMo_unpacks_27 (by decide) (fun c_13 => ?_) (fun c_13 => ?_)
        · have hf := hf.trans (if_neg c_13)
          refine lv_aload_n hx hb d_MMo_unpacks_45 rfl (lv_at hl 5 rfl) ?_
          refine lv_iconst (v := (2 : Int32)) hx hb d_MMo_unpacks_46 (by decide) ?_
          refine lv_iload hx hb d_MMo_unpacks_47 (lv_at hl 1 rfl) ?_
          refine lv_imul hx hb d_MMo_unpacks_49 ?_
          refine lv_iconst (v := (1 : Int32)) hx hb d_MMo_unpacks_50 (by decide) ?_
          refine lv_isub hx hb d_MMo_unpacks_51 ?_
          obtain ⟨i_14, hf⟩ := ckI_inv hf
          refine va_iald hx hb hw.2.1 hw.1 7 6 rfl rfl i_14 d_MMo_unpacks_52 ?_
          exact hK_9 (mA u_2 7 (Int32.toNatClampNeg (((2 : Int32) * x_5) - (1 : Int32)))) _ (lv_sub hl [2, 3, 4, 5, 6, 7, 0] rfl) hf
        · have hf := hf.trans (if_pos c_13)
          refine lv_iload hx hb d_MMo_unpacks_30 (lv_at hl 6 rfl) ?_
          refine lv_if_eq (tgt := 40) hx hb d_MMo_unpacks_32 (by decide) (fun c_15 => ?_) (fun c_15 => ?_)
          · have hf := hf.trans (if_pos c_15)
            refine lv_bipush (v := (12 : Int32)) hx hb d_MMo_unpacks_40 (by decide) ?_
            refine lv_goto (tgt := 53) hx hb d_MMo_unpacks_42 (by decide) ?_
            exact hK_9 (12 : Int32) _ (lv_sub hl [2, 3, 4, 5, 6, 7, 0] rfl) hf
          · have hf := hf.trans (if_neg c_15)
            refine lv_bipush (v := (13 : Int32)) hx hb d_MMo_unpacks_35 (by decide) ?_
            refine lv_goto (tgt := 53) hx hb d_MMo_unpacks_37 (by decide) ?_
            exact hK_9 (13 : Int32) _ (lv_sub hl [2, 3, 4, 5, 6, 7, 0] rfl) hf
set_option maxHeartbeats 4000000 in
set_option maxRecDepth 100000 in
theorem c_MMo_against_4_5 (l : Launch) (D : va_G) (a : Nat → Nat) (k : Nat → ClassId) (u0 : MS)  (F : Int32) (hf : f_MMo_against 4 5 u0 = some F) : zRi l y_MMo_against w_MMo_against rm_MMo_against D clM (tyM k) nwM (mW a k) [.ref (a 4), .ref (a 5)] u0 F := by
  have hf := hf.symm
  unfold f_MMo_against at hf
  refine zRi_of (cc := b_MMo_against) (maxL := 3) (own := RM_Mo) (by decide) rfl rfl (Nat.le_of_ble_eq_true rfl) ?_
  intro p e R st m args below meth c H locs Q ls hR hx hb hml hown hts hw hret hl
  subst hR
  have hcs : 0 ≤ (rm_MMo_against).cells ∧ 0 ≤ (rm_MMo_against).slots := ⟨Nat.zero_le _, Nat.zero_le _⟩
  have hl : lv_has ls 3 [(0, .ref (a 4)), (1, .ref (a 5))] := hl
  refine lv_bipush (v := (31 : Int32)) hx hb d_MMo_against_0 (by decide) ?_
  refine lv_istore_n (lv' := [(2, .int (31 : Int32)), (0, .ref (a 4)), (1, .ref (a 5))]) hx hb d_MMo_against_2 rfl hl (by decide) rfl (fun ls hl => ?_)
  refine jn_cut hf (fun (K_2 : Int32 → Option (Int32)) => ∀ (x_1 : Int32), ∀ (ls : Array Slot), lv_has ls 3 [(0, .ref (a 4)), (1, .ref (a 5)), (2, .int x_1)] → some F = K_2 x_1 → W p l e rm_MMo_against st m args below meth c H locs 0 0 Q (F0 m 16 ls [])) ?_ ?_
  · intro x_1 ls hl hf
    refine lv_aload_n hx hb d_MMo_against_16 rfl (lv_at hl 0 rfl) ?_
    refine lv_iload_n hx hb d_MMo_against_17 rfl (lv_at hl 2 rfl) ?_
    obtain ⟨i_3, hf⟩ := ckI_inv hf
    refine va_iald hx hb hw.2.1 hw.1 4 3 rfl rfl i_3 d_MMo_against_18 ?_
    refine lv_aload_n hx hb d_MMo_against_19 rfl (lv_at hl 1 rfl) ?_
    refine lv_iload_n hx hb d_MMo_against_20 rfl (lv_at hl 2 rfl) ?_
    obtain ⟨i_4, hf⟩ := ckI_inv hf
    refine va_iald hx hb hw.2.1 hw.1 5 4 rfl rfl i_4 d_MMo_against_21 ?_
    refine lv_icmp_ge (tgt := 29) hx hb d_MMo_against_22 (by decide) (fun c_5 => ?_) (fun c_5 => ?_)
    · have hf := hf.trans (if_pos c_5)
      refine lv_iconst (v := (1 : Int32)) hx hb d_MMo_against_29 (by decide) ?_
      exact hret (1 : Int32) _ _ d_MMo_against_30 (Option.some.inj hf)
    · have hf := hf.trans (if_neg c_5)
      refine lv_iconst (v := (-1 : Int32)) hx hb d_MMo_against_25 (by decide) ?_
      refine lv_goto (tgt := 30) hx hb d_MMo_against_26 (by decide) ?_
      exact hret (-1 : Int32) _ _ d_MMo_against_30 (Option.some.inj hf)
  · intro K_2 hK_2 hf
    refine lp_cut (fun (_ : Nat) (L_7 : Int32 → Option (Int32)) => ∀ (x_6 : Int32), ∀ (ls : Array Slot), lv_has ls 3 [(0, .ref (a 4)), (1, .ref (a 5)), (2, .int x_6)] → some F = L_7 x_6 → W p l e rm_MMo_against st m args below meth c H locs 0 0 Q (F0 m 3 ls [])) ?_ ?_ fuelM (31 : Int32) _ (lv_sub hl [1, 2, 0] rfl) hf
    · intro _ _ _ hf; cases hf
    · intro _ L_7 hL_7 x_6 ls hl hf
      unfold g_MMo_against_3 at hf
      refine lv_iload_n hx hb d_MMo_against_3 rfl (lv_at hl 2 rfl) ?_
      refine lv_if_lt (tgt := 37) hx hb d_MMo_against_4 (by decide) (fun c_8 => ?_) (fun c_8 => ?_)
      · have hf := hf.trans (if_pos c_8)
        refine lv_iconst (v := (0 : Int32)) hx hb d_MMo_against_37 (by decide) ?_
        exact hret (0 : Int32) _ _ d_MMo_against_38 (Option.some.inj hf)
      · have hf := hf.trans (if_neg c_8)
        refine lv_aload_n hx hb d_MMo_against_7 rfl (lv_at hl 0 rfl) ?_
        refine lv_iload_n hx hb d_MMo_against_8 rfl (lv_at hl 2 rfl) ?_
        obtain ⟨i_9, hf⟩ := ckI_inv hf
        refine va_iald hx hb hw.2.1 hw.1 4 3 rfl rfl i_9 d_MMo_against_9 ?_
        refine lv_aload_n hx hb d_MMo_against_10 rfl (lv_at hl 1 rfl) ?_
        refine lv_iload_n hx hb d_MMo_against_11 rfl (lv_at hl 2 rfl) ?_
        obtain ⟨i_10, hf⟩ := ckI_inv hf
        refine va_iald hx hb hw.2.1 hw.1 5 4 rfl rfl i_10 d_MMo_against_12 ?_
        refine lv_icmp_eq (tgt := 31) hx hb d_MMo_against_13 (by decide) (fun c_11 => ?_) (fun c_11 => ?_)
        · have hf := hf.trans (if_pos c_11)
          obtain ⟨x_12, ex_12⟩ : ∃ y : Int32, y = x_6 + (-1 : Int32) := ⟨_, rfl⟩
          have hf := hf.trans (nm_eq ex_12)
          refine lv_iinc (v := x_12) (lv' := [(2, .int x_12), (0, .ref (a 4)), (1, .ref (a 5))]) hx hb d_MMo_against_31 hl (k := 2) rfl (by rw [ex_12]; rfl) (by decide) rfl (fun ls hl => ?_)
          refine lv_goto (tgt := 3) hx hb d_MMo_against_34 (by decide) ?_
          exact hL_7 x_12 _ (lv_sub hl [1, 2, 0] rfl) hf
        · have hf := hf.trans (if_neg c_11)
          exact hK_2 x_6 _ (lv_sub hl [0, 1, 2] rfl) hf
set_option maxHeartbeats 4000000 in
set_option maxRecDepth 100000 in
theorem c_MMo_decimal (l : Launch) (D : va_G) (a : Nat → Nat) (k : Nat → ClassId) (u0 : MS) (x1 : Int32) (z2 : Bool) (F : MS) (hf : f_MMo_decimal u0 x1 z2 = some F) : zMv l y_MMo_decimal w_MMo_decimal rm_MMo_decimal D clM (tyM k) nwM (mW a k) [.ref (a 0), .int x1, .int (bI z2)] u0 F := by
  have hf := hf.symm
  unfold f_MMo_decimal at hf
  refine zMv_of (cc := b_MMo_decimal) (maxL := 6) (own := RM_Mo) (by decide) rfl rfl (Nat.le_of_ble_eq_true rfl) ?_
  intro p e R st m args below meth c A H locs Q ls hR hx hb hml hown hts hw hS hret hl
  subst hR
  have hcs : 0 ≤ (rm_MMo_decimal).cells ∧ 0 ≤ (rm_MMo_decimal).slots := ⟨Nat.zero_le _, Nat.zero_le _⟩
  have hl : lv_has ls 6 [(0, .ref (a 0)), (1, .int x1), (2, .int (bI z2))] := hl
  refine lv_aload_n hx hb d_MMo_decimal_0 rfl (lv_at hl 0 rfl) ?_
  refine va_get (v := .ref (a 6)) hx hb hts iM_Mo hown hw.2.1 hw.1 0 rfl rfl 5 (by decide) (hts _ kM_Mo_25) (fun _ h => h) rfl d_MMo_decimal_1 ?_
  obtain ⟨z_1, ez_1, hf⟩ := bd1_inv hf
  refine z_rV (V := .int (bI z_1)) (z_runS (As := [.ref (a 6)]) (rest := []) ⟨hx, hb, hml, hown, hts⟩ (c_MMo_isZero_6 l D a k u0 z_1 ez_1) (qM_Mo_199 hts (by decide)) hw  hl.1 rfl (lv_room (Nat.le_of_ble_eq_true rfl)) d_MMo_decimal_4 hcs) ?_
  refine lv_istore_n (lv' := [(3, .int (bI z_1)), (0, .ref (a 0)), (1, .int x1), (2, .int (bI z2))]) hx hb d_MMo_decimal_7 rfl hl (by decide) rfl (fun ls hl => ?_)
  refine lv_iconst (v := (1 : Int32)) hx hb d_MMo_decimal_8 (by decide) ?_
  refine lv_istore (lv' := [(4, .int (1 : Int32)), (3, .int (bI z_1)), (0, .ref (a 0)), (1, .int x1), (2, .int (bI z2))]) hx hb d_MMo_decimal_9 hl (by decide) rfl (fun ls hl => ?_)
  refine lv_iconst (v := (2 : Int32)) hx hb d_MMo_decimal_11 (by decide) ?_
  refine lv_iload_n hx hb d_MMo_decimal_12 rfl (lv_at hl 3 rfl) ?_
  refine lv_imul hx hb d_MMo_decimal_13 ?_
  refine lv_iconst (v := (1 : Int32)) hx hb d_MMo_decimal_14 (by decide) ?_
  refine lv_isub hx hb d_MMo_decimal_15 ?_
  refine lv_topi (fun x_2 ex_2 => ?_)
  have hf := hf.trans (nm_eq ex_2)
  refine lv_istore (lv' := [(5, .int x_2), (4, .int (1 : Int32)), (3, .int (bI z_1)), (0, .ref (a 0)), (1, .int x1), (2, .int (bI z2))]) hx hb d_MMo_decimal_16 hl (by decide) rfl (fun ls hl => ?_)
  refine jn_cut hf (fun (K_4 : Bool → Option (MS)) => ∀ (z_3 : Bool), ∀ (ls : Array Slot), lv_has ls 6 [(0, .ref (a 0)), (1, .int x1), (2, .int (bI z2)), (3, .int (bI z_1)), (4, .int (bI z_3))] → some F = K_4 z_3 → W p l e rm_MMo_decimal st m args below meth c H locs 0 0 Q (F0 m 51 ls [])) ?_ ?_
  · intro z_3 ls hl hf
    refine lv_aload_n hx hb d_MMo_decimal_51 rfl (lv_at hl 0 rfl) ?_
    refine lv_aload_n hx hb d_MMo_decimal_52 rfl (lv_at hl 0 rfl) ?_
    refine va_get (v := .int (mF u0 11)) hx hb hts iM_Mo hown hw.2.1 hw.1 0 rfl rfl 19 (by decide) (hts _ kM_Mo_149) (fun _ h => h) rfl d_MMo_decimal_53 ?_
    refine lv_iload_n hx hb d_MMo_decimal_56 rfl (lv_at hl 1 rfl) ?_
    refine lv_aload_n hx hb d_MMo_decimal_57 rfl (lv_at hl 0 rfl) ?_
    refine va_get (v := .ref (a 6)) hx hb hts iM_Mo hown hw.2.1 hw.1 0 rfl rfl 5 (by decide) (hts _ kM_Mo_25) (fun _ h => h) rfl d_MMo_decimal_58 ?_
    refine lv_iload_n hx hb d_MMo_decimal_61 rfl (lv_at hl 2 rfl) ?_
    refine jn_cut hf (fun (K_6 : Bool → Option (MS)) => ∀ (z_5 : Bool), ∀ (ls : Array Slot), lv_has ls 6 [(0, .ref (a 0)), (2, .int (bI z2)), (3, .int (bI z_1)), (4, .int (bI z_3))] → some F = K_6 z_5 → W p l e rm_MMo_decimal st m args below meth c H locs 0 0 Q (F0 m 79 ls [.int (bI z_5), .ref (a 6), .int x1, .int (mF u0 11), .ref (a 0)])) ?_ ?_
    · intro z_5 ls hl hf
      obtain ⟨u_7, eu_7, hf⟩ := bd1_inv hf
      refine z_wv' (u' := u_7) (z_runV (As := [.int (mF u0 11), .int x1, .ref (a 6), .int (bI z_5)]) (rest := []) ⟨hx, hb, hml, hown, hts⟩ (c_MMo_unpacks_6 l D a k u0 (mF u0 11) x1 z_5 u_7 eu_7) (qM_Mo_216 hts (by decide)) hw 0 rfl rfl hl.1 rfl (lv_room (Nat.le_of_ble_eq_true rfl)) d_MMo_decimal_79 hcs) hw hS (fun H locs hw hS => ?_)
      refine lv_aload_n hx hb d_MMo_decimal_82 rfl (lv_at hl 0 rfl) ?_
      refine lv_iload hx hb d_MMo_decimal_83 (lv_at hl 3 rfl) ?_
      refine jn_cut hf (fun (K_9 : Int32 → Option (MS)) => ∀ (x_8 : Int32), ∀ (ls : Array Slot), lv_has ls 6 [(0, .ref (a 0)), (4, .int (bI z_3))] → some F = K_9 x_8 → W p l e rm_MMo_decimal st m args below meth c H locs 0 0 Q (F0 m 109 ls [.int x_8, .ref (a 0)])) ?_ ?_
      · intro x_8 ls hl hf
        refine z_put (u' := msF u_7 1 x_8) hx hb hts iM_Mo tM_Mo tM_Mo_ok nM_Mo hown hw hS 0 rfl rfl 9 (by decide) (hts _ kM_Mo_73) (fun _ h => h) rfl rfl (Nat.le_of_ble_eq_true rfl) rfl d_MMo_decimal_109 (fun u_10 H locs eu_10 hw hS => ?_)
        have hf := hf.trans (nm_eq eu_10)
        refine lv_iload hx hb d_MMo_decimal_112 (lv_at hl 1 rfl) ?_
        refine lv_if_ne (tgt := 132) hx hb d_MMo_decimal_114 (by decide) (fun c_11 => ?_) (fun c_11 => ?_)
        · have hf := hf.trans (if_neg c_11)
          exact hret _ _ _ _ _ d_MMo_decimal_132 hw hS (Option.some.inj hf)
        · have hf := hf.trans (if_pos c_11)
          refine lv_aload_n hx hb d_MMo_decimal_117 rfl (lv_at hl 0 rfl) ?_
          refine va_get (v := .int (mF u_10 3)) hx hb hts iM_Mo hown hw.2.1 hw.1 0 rfl rfl 11 (by decide) (hts _ kM_Mo_70) (fun _ h => h) rfl d_MMo_decimal_118 ?_
          refine lv_iconst (v := (2 : Int32)) hx hb d_MMo_decimal_121 (by decide) ?_
          refine lv_iand hx hb d_MMo_decimal_122 ?_
          refine lv_if_le (tgt := 132) hx hb d_MMo_decimal_123 (by decide) (fun c_12 => ?_) (fun c_12 => ?_)
          · have hf := hf.trans (if_pos c_12)
            exact hret _ _ _ _ _ d_MMo_decimal_132 hw hS (Option.some.inj hf)
          · have hf := hf.trans (if_neg c_12)
            refine lv_aload_n hx hb d_MMo_decimal_126 rfl (lv_at hl 0 rfl) ?_
            refine lv_bipush (v := (10 : Int32)) hx hb d_MMo_decimal_127 (by decide) ?_
            refine z_put (u' := msF u_10 13 (10 : Int32)) hx hb hts iM_Mo tM_Mo tM_Mo_ok nM_Mo hown hw hS 0 rfl rfl 21 (by decide) (hts _ kM_Mo_86) (fun _ h => h) rfl rfl (Nat.le_of_ble_eq_true rfl) rfl d_MMo_decimal_129 (fun u_13 H locs eu_13 hw hS => ?_)
            have hf := hf.trans (nm_eq eu_13)
            exact hret _ _ _ _ _ d_MMo_decimal_132 hw hS (Option.some.inj hf)
      · intro K_9 hK_9 hf
        refine lv_if_ne (tgt := 92) hx hb d_MMo_decimal_85 (by decide) (fun c_14 => ?_) (fun c_14 => ?_)
        · have hf := hf.trans (if_neg c_14)
          refine lv_iload_n hx hb d_MMo_decimal_92 rfl (lv_at hl 2 rfl) ?_
          refine lv_if_eq (tgt := 100) hx hb d_MMo_decimal_93 (by decide) (fun c_15 => ?_) (fun c_15 => ?_)
          · have hf := hf.trans (if_pos c_15)
            refine lv_iload_n hx hb d_MMo_decimal_100 rfl (lv_at hl 1 rfl) ?_
            refine lv_if_eq (tgt := 108) hx hb d_MMo_decimal_101 (by decide) (fun c_16 => ?_) (fun c_16 => ?_)
            · have hf := hf.trans (if_pos c_16)
              refine lv_iconst (v := (2 : Int32)) hx hb d_MMo_decimal_108 (by decide) ?_
              exact hK_9 (2 : Int32) _ (lv_sub hl [0, 3] rfl) hf
            · have hf := hf.trans (if_neg c_16)
              refine lv_iconst (v := (1 : Int32)) hx hb d_MMo_decimal_104 (by decide) ?_
              refine lv_goto (tgt := 109) hx hb d_MMo_decimal_105 (by decide) ?_
              exact hK_9 (1 : Int32) _ (lv_sub hl [0, 3] rfl) hf
          · have hf := hf.trans (if_neg c_15)
            refine lv_iconst (v := (0 : Int32)) hx hb d_MMo_decimal_96 (by decide) ?_
            refine lv_goto (tgt := 109) hx hb d_MMo_decimal_97 (by decide) ?_
            exact hK_9 (0 : Int32) _ (lv_sub hl [0, 3] rfl) hf
        · have hf := hf.trans (if_pos c_14)
          refine lv_iconst (v := (3 : Int32)) hx hb d_MMo_decimal_88 (by decide) ?_
          refine lv_goto (tgt := 109) hx hb d_MMo_decimal_89 (by decide) ?_
          exact hK_9 (3 : Int32) _ (lv_sub hl [0, 3] rfl) hf
    · intro K_6 hK_6 hf
      refine jn_cut hf (fun (K_17 : Option (MS)) => ∀ (ls : Array Slot), lv_has ls 6 [(0, .ref (a 0)), (2, .int (bI z2)), (3, .int (bI z_1)), (4, .int (bI z_3))] → some F = K_17 → W p l e rm_MMo_decimal st m args below meth c H locs 0 0 Q (F0 m 78 ls [.ref (a 6), .int x1, .int (mF u0 11), .ref (a 0)])) ?_ ?_
      · intro ls hl hf
        refine lv_iconst (v := (0 : Int32)) hx hb d_MMo_decimal_78 (by decide) ?_
        exact hK_6 false _ (lv_sub hl [0, 1, 2, 3] rfl) hf
      · intro K_17 hK_17 hf
        refine lv_if_eq (tgt := 78) hx hb d_MMo_decimal_62 (by decide) (fun c_18 => ?_) (fun c_18 => ?_)
        · have hf := hf.trans (if_pos c_18)
          exact hK_17 _ (lv_sub hl [0, 2, 3, 4] rfl) hf
        · have hf := hf.trans (if_neg c_18)
          refine lv_iload_n hx hb d_MMo_decimal_65 rfl (lv_at hl 3 rfl) ?_
          refine jn_cut hf (fun (K_19 : Option (MS)) => ∀ (ls : Array Slot), lv_has ls 6 [(0, .ref (a 0)), (2, .int (bI z2)), (3, .int (bI z_1)), (4, .int (bI z_3))] → some F = K_19 → W p l e rm_MMo_decimal st m args below meth c H locs 0 0 Q (F0 m 74 ls [.ref (a 6), .int x1, .int (mF u0 11), .ref (a 0)])) ?_ ?_
          · intro ls hl hf
            refine lv_iconst (v := (1 : Int32)) hx hb d_MMo_decimal_74 (by decide) ?_
            refine lv_goto (tgt := 79) hx hb d_MMo_decimal_75 (by decide) ?_
            exact hK_6 true _ (lv_sub hl [0, 1, 2, 3] rfl) hf
          · intro K_19 hK_19 hf
            refine lv_if_eq (tgt := 74) hx hb d_MMo_decimal_66 (by decide) (fun c_20 => ?_) (fun c_20 => ?_)
            · have hf := hf.trans (if_pos c_20)
              exact hK_19 _ (lv_sub hl [0, 2, 3, 4] rfl) hf
            · have hf := hf.trans (if_neg c_20)
              refine lv_iload hx hb d_MMo_decimal_69 (lv_at hl 4 rfl) ?_
              refine lv_if_ne (tgt := 78) hx hb d_MMo_decimal_71 (by decide) (fun c_21 => ?_) (fun c_21 => ?_)
              · have hf := hf.trans (if_neg c_21)
                exact hK_17 _ (lv_sub hl [0, 2, 3, 4] rfl) hf
              · have hf := hf.trans (if_pos c_21)
                exact hK_19 _ (lv_sub hl [0, 2, 3, 4] rfl) hf
  · intro K_4 hK_4 hf
    refine lp_cut (fun (_ : Nat) (L_24 : Bool → Int32 → Option (MS)) => ∀ (z_22 : Bool) (x_23 : Int32), ∀ (ls : Array Slot), lv_has ls 6 [(0, .ref (a 0)), (1, .int x1), (2, .int (bI z2)), (3, .int (bI z_1)), (4, .int (bI z_22)), (5, .int x_23)] → some F = L_24 z_22 x_23 → W p l e rm_MMo_decimal st m args below meth c H locs 0 0 Q (F0 m 18 ls [])) ?_ ?_ fuelM true x_2 _ (lv_sub hl [3, 4, 5, 2, 1, 0] rfl) hf
    · intro _ _ _ _ hf; cases hf
    · intro _ L_24 hL_24 z_22 x_23 ls hl hf
      unfold g_MMo_decimal_18 at hf
      refine lv_iload hx hb d_MMo_decimal_18 (lv_at hl 5 rfl) ?_
      refine lv_bipush (v := (32 : Int32)) hx hb d_MMo_decimal_20 (by decide) ?_
      refine lv_icmp_ge (tgt := 51) hx hb d_MMo_decimal_22 (by decide) (fun c_25 => ?_) (fun c_25 => ?_)
      · have hf := hf.trans (if_pos c_25)
        exact hK_4 z_22 _ (lv_sub hl [0, 1, 2, 3, 4] rfl) hf
      · have hf := hf.trans (if_neg c_25)
        refine lv_iload hx hb d_MMo_decimal_25 (lv_at hl 4 rfl) ?_
        refine lv_aload_n hx hb d_MMo_decimal_27 rfl (lv_at hl 0 rfl) ?_
        refine va_get (v := .ref (a 6)) hx hb hts iM_Mo hown hw.2.1 hw.1 0 rfl rfl 5 (by decide) (hts _ kM_Mo_25) (fun _ h => h) rfl d_MMo_decimal_28 ?_
        refine lv_iload hx hb d_MMo_decimal_31 (lv_at hl 5 rfl) ?_
        obtain ⟨i_26, hf⟩ := ckI_inv hf
        refine va_iald hx hb hw.2.1 hw.1 6 5 rfl rfl i_26 d_MMo_decimal_33 ?_
        refine jn_cut hf (fun (K_28 : Bool → Option (MS)) => ∀ (z_27 : Bool), ∀ (ls : Array Slot), lv_has ls 6 [(0, .ref (a 0)), (1, .int x1), (2, .int (bI z2)), (3, .int (bI z_1)), (5, .int x_23)] → some F = K_28 z_27 → W p l e rm_MMo_decimal st m args below meth c H locs 0 0 Q (F0 m 42 ls [.int (bI z_27), .int (bI z_22)])) ?_ ?_
        · intro z_27 ls hl hf
          refine lv_iand hx hb d_MMo_decimal_42 ?_
          refine z_iandz ?_
          refine z_topz (fun z_29 ez_29 => ?_)
          have hf := hf.trans (nm_eq ez_29)
          refine lv_istore (lv' := [(4, .int (bI z_29)), (0, .ref (a 0)), (1, .int x1), (2, .int (bI z2)), (3, .int (bI z_1)), (5, .int x_23)]) hx hb d_MMo_decimal_43 hl (by decide) rfl (fun ls hl => ?_)
          obtain ⟨x_30, ex_30⟩ : ∃ y : Int32, y = x_23 + (1 : Int32) := ⟨_, rfl⟩
          have hf := hf.trans (nm_eq ex_30)
          refine lv_iinc (v := x_30) (lv' := [(5, .int x_30), (4, .int (bI z_29)), (0, .ref (a 0)), (1, .int x1), (2, .int (bI z2)), (3, .int (bI z_1))]) hx hb d_MMo_decimal_45 hl (k := 5) rfl (by rw [ex_30]; rfl) (by decide) rfl (fun ls hl => ?_)
          refine lv_goto (tgt := 18) hx hb d_MMo_decimal_48 (by decide) ?_
          exact hL_24 z_29 x_30 _ (lv_sub hl [2, 3, 4, 5, 1, 0] rfl) hf
        · intro K_28 hK_28 hf
          refine lv_if_ne (tgt := 41) hx hb d_MMo_decimal_34 (by decide) (fun c_31 => ?_) (fun c_31 => ?_)
          · have hf := hf.trans (if_neg c_31)
            refine lv_iconst (v := (0 : Int32)) hx hb d_MMo_decimal_41 (by decide) ?_
            exact hK_28 false _ (lv_sub hl [0, 1, 2, 3, 5] rfl) hf
          · have hf := hf.trans (if_pos c_31)
            refine lv_iconst (v := (1 : Int32)) hx hb d_MMo_decimal_37 (by decide) ?_
            refine lv_goto (tgt := 42) hx hb d_MMo_decimal_38 (by decide) ?_
            exact hK_28 true _ (lv_sub hl [0, 1, 2, 3, 5] rfl) hf
set_option maxHeartbeats 4000000 in
set_option maxRecDepth 100000 in
theorem c_MMo_together (l : Launch) (D : va_G) (a : Nat → Nat) (k : Nat → ClassId) (u0 : MS) (x1 : Int32) (z2 : Bool) (z3 : Bool) (F : MS) (hf : f_MMo_together u0 x1 z2 z3 = some F) : zMv l y_MMo_together w_MMo_together rm_MMo_together D clM (tyM k) nwM (mW a k) [.ref (a 0), .int x1, .int (bI z2), .int (bI z3)] u0 F := by
  have hf := hf.symm
  unfold f_MMo_together at hf
  refine zMv_of (cc := b_MMo_together) (maxL := 4) (own := RM_Mo) (by decide) rfl rfl (Nat.le_of_ble_eq_true rfl) ?_
  intro p e R st m args below meth c A H locs Q ls hR hx hb hml hown hts hw hS hret hl
  subst hR
  have hcs : 0 ≤ (rm_MMo_together).cells ∧ 0 ≤ (rm_MMo_together).slots := ⟨Nat.zero_le _, Nat.zero_le _⟩
  have hl : lv_has ls 4 [(0, .ref (a 0)), (1, .int x1), (2, .int (bI z2)), (3, .int (bI z3))] := hl
  refine lv_iload_n hx hb d_MMo_together_0 rfl (lv_at hl 2 rfl) ?_
  refine lv_iload_n hx hb d_MMo_together_1 rfl (lv_at hl 3 rfl) ?_
  refine lv_icmp_ne (tgt := 31) hx hb d_MMo_together_2 (by decide) (fun c_1 => ?_) (fun c_1 => ?_)
  · have hf := hf.trans (if_neg c_1)
    refine lv_aload_n hx hb d_MMo_together_31 rfl (lv_at hl 0 rfl) ?_
    refine va_get (v := .ref (a 4)) hx hb hts iM_Mo hown hw.2.1 hw.1 0 rfl rfl 3 (by decide) (hts _ kM_Mo_19) (fun _ h => h) rfl d_MMo_together_32 ?_
    refine lv_aload_n hx hb d_MMo_together_35 rfl (lv_at hl 0 rfl) ?_
    refine va_get (v := .ref (a 5)) hx hb hts iM_Mo hown hw.2.1 hw.1 0 rfl rfl 4 (by decide) (hts _ kM_Mo_22) (fun _ h => h) rfl d_MMo_together_36 ?_
    obtain ⟨x_2, ex_2, hf⟩ := bd1_inv hf
    refine z_rV (V := .int x_2) (z_runS (As := [.ref (a 4), .ref (a 5)]) (rest := []) ⟨hx, hb, hml, hown, hts⟩ (c_MMo_against_4_5 l D a k u0 x_2 ex_2) (qM_Mo_224 hts (by decide)) hw  hl.1 rfl (lv_room (Nat.le_of_ble_eq_true rfl)) d_MMo_together_39 hcs) ?_
    refine lv_if_ge (tgt := 71) hx hb d_MMo_together_42 (by decide) (fun c_3 => ?_) (fun c_3 => ?_)
    · have hf := hf.trans (if_pos c_3)
      refine lv_aload_n hx hb d_MMo_together_71 rfl (lv_at hl 0 rfl) ?_
      refine va_get (v := .ref (a 6)) hx hb hts iM_Mo hown hw.2.1 hw.1 0 rfl rfl 5 (by decide) (hts _ kM_Mo_25) (fun _ h => h) rfl d_MMo_together_72 ?_
      refine lv_aload_n hx hb d_MMo_together_75 rfl (lv_at hl 0 rfl) ?_
      refine va_get (v := .ref (a 4)) hx hb hts iM_Mo hown hw.2.1 hw.1 0 rfl rfl 3 (by decide) (hts _ kM_Mo_19) (fun _ h => h) rfl d_MMo_together_76 ?_
      refine lv_aload_n hx hb d_MMo_together_79 rfl (lv_at hl 0 rfl) ?_
      refine va_get (v := .ref (a 5)) hx hb hts iM_Mo hown hw.2.1 hw.1 0 rfl rfl 4 (by decide) (hts _ kM_Mo_22) (fun _ h => h) rfl d_MMo_together_80 ?_
      refine lv_iconst (v := (-1 : Int32)) hx hb d_MMo_together_83 (by decide) ?_
      refine lv_iconst (v := (0 : Int32)) hx hb d_MMo_together_84 (by decide) ?_
      obtain ⟨u_4, eu_4, hf⟩ := bd1_inv hf
      refine z_wv' (u' := u_4) (z_runS (As := [.ref (a 6), .ref (a 4), .ref (a 5), .int (-1 : Int32), .int (0 : Int32)]) (rest := []) ⟨hx, hb, hml, hown, hts⟩ (c_MMo_adds_6_4_5 l D a k u0 (-1 : Int32) (0 : Int32) u_4 eu_4) (qM_Mo_212 hts (by decide)) hw  hl.1 rfl (lv_room (Nat.le_of_ble_eq_true rfl)) d_MMo_together_85 hcs) hw hS (fun H locs hw hS => ?_)
      refine lv_aload_n hx hb d_MMo_together_88 rfl (lv_at hl 0 rfl) ?_
      refine lv_iload_n hx hb d_MMo_together_89 rfl (lv_at hl 1 rfl) ?_
      refine lv_iload_n hx hb d_MMo_together_90 rfl (lv_at hl 2 rfl) ?_
      obtain ⟨u_5, eu_5, hf⟩ := bd1_inv hf
      refine z_wv' (u' := u_5) (z_runV (As := [.int x1, .int (bI z2)]) (rest := []) ⟨hx, hb, hml, hown, hts⟩ (c_MMo_decimal l D a k u_4 x1 z2 u_5 eu_5) (qM_Mo_220 hts (by decide)) hw 0 rfl rfl hl.1 rfl (lv_room (Nat.le_of_ble_eq_true rfl)) d_MMo_together_91 hcs) hw hS (fun H locs hw hS => ?_)
      exact hret _ _ _ _ _ d_MMo_together_94 hw hS (Option.some.inj hf)
    · have hf := hf.trans (if_neg c_3)
      refine lv_aload_n hx hb d_MMo_together_45 rfl (lv_at hl 0 rfl) ?_
      refine va_get (v := .ref (a 6)) hx hb hts iM_Mo hown hw.2.1 hw.1 0 rfl rfl 5 (by decide) (hts _ kM_Mo_25) (fun _ h => h) rfl d_MMo_together_46 ?_
      refine lv_aload_n hx hb d_MMo_together_49 rfl (lv_at hl 0 rfl) ?_
      refine va_get (v := .ref (a 5)) hx hb hts iM_Mo hown hw.2.1 hw.1 0 rfl rfl 4 (by decide) (hts _ kM_Mo_22) (fun _ h => h) rfl d_MMo_together_50 ?_
      refine lv_aload_n hx hb d_MMo_together_53 rfl (lv_at hl 0 rfl) ?_
      refine va_get (v := .ref (a 4)) hx hb hts iM_Mo hown hw.2.1 hw.1 0 rfl rfl 3 (by decide) (hts _ kM_Mo_19) (fun _ h => h) rfl d_MMo_together_54 ?_
      refine lv_iconst (v := (-1 : Int32)) hx hb d_MMo_together_57 (by decide) ?_
      refine lv_iconst (v := (0 : Int32)) hx hb d_MMo_together_58 (by decide) ?_
      obtain ⟨u_6, eu_6, hf⟩ := bd1_inv hf
      refine z_wv' (u' := u_6) (z_runS (As := [.ref (a 6), .ref (a 5), .ref (a 4), .int (-1 : Int32), .int (0 : Int32)]) (rest := []) ⟨hx, hb, hml, hown, hts⟩ (c_MMo_adds_6_5_4 l D a k u0 (-1 : Int32) (0 : Int32) u_6 eu_6) (qM_Mo_212 hts (by decide)) hw  hl.1 rfl (lv_room (Nat.le_of_ble_eq_true rfl)) d_MMo_together_59 hcs) hw hS (fun H locs hw hS => ?_)
      refine lv_aload_n hx hb d_MMo_together_62 rfl (lv_at hl 0 rfl) ?_
      refine lv_iload_n hx hb d_MMo_together_63 rfl (lv_at hl 1 rfl) ?_
      refine lv_iload_n hx hb d_MMo_together_64 rfl (lv_at hl 3 rfl) ?_
      obtain ⟨u_7, eu_7, hf⟩ := bd1_inv hf
      refine z_wv' (u' := u_7) (z_runV (As := [.int x1, .int (bI z3)]) (rest := []) ⟨hx, hb, hml, hown, hts⟩ (c_MMo_decimal l D a k u_6 x1 z3 u_7 eu_7) (qM_Mo_220 hts (by decide)) hw 0 rfl rfl hl.1 rfl (lv_room (Nat.le_of_ble_eq_true rfl)) d_MMo_together_65 hcs) hw hS (fun H locs hw hS => ?_)
      refine lv_goto (tgt := 94) hx hb d_MMo_together_68 (by decide) ?_
      exact hret _ _ _ _ _ d_MMo_together_94 hw hS (Option.some.inj hf)
  · have hf := hf.trans (if_pos c_1)
    refine lv_aload_n hx hb d_MMo_together_5 rfl (lv_at hl 0 rfl) ?_
    refine va_get (v := .ref (a 6)) hx hb hts iM_Mo hown hw.2.1 hw.1 0 rfl rfl 5 (by decide) (hts _ kM_Mo_25) (fun _ h => h) rfl d_MMo_together_6 ?_
    refine lv_aload_n hx hb d_MMo_together_9 rfl (lv_at hl 0 rfl) ?_
    refine va_get (v := .ref (a 4)) hx hb hts iM_Mo hown hw.2.1 hw.1 0 rfl rfl 3 (by decide) (hts _ kM_Mo_19) (fun _ h => h) rfl d_MMo_together_10 ?_
    refine lv_aload_n hx hb d_MMo_together_13 rfl (lv_at hl 0 rfl) ?_
    refine va_get (v := .ref (a 5)) hx hb hts iM_Mo hown hw.2.1 hw.1 0 rfl rfl 4 (by decide) (hts _ kM_Mo_22) (fun _ h => h) rfl d_MMo_together_14 ?_
    refine lv_iconst (v := (1 : Int32)) hx hb d_MMo_together_17 (by decide) ?_
    refine lv_iconst (v := (0 : Int32)) hx hb d_MMo_together_18 (by decide) ?_
    obtain ⟨u_8, eu_8, hf⟩ := bd1_inv hf
    refine z_wv' (u' := u_8) (z_runS (As := [.ref (a 6), .ref (a 4), .ref (a 5), .int (1 : Int32), .int (0 : Int32)]) (rest := []) ⟨hx, hb, hml, hown, hts⟩ (c_MMo_adds_6_4_5 l D a k u0 (1 : Int32) (0 : Int32) u_8 eu_8) (qM_Mo_212 hts (by decide)) hw  hl.1 rfl (lv_room (Nat.le_of_ble_eq_true rfl)) d_MMo_together_19 hcs) hw hS (fun H locs hw hS => ?_)
    refine lv_aload_n hx hb d_MMo_together_22 rfl (lv_at hl 0 rfl) ?_
    refine lv_iload_n hx hb d_MMo_together_23 rfl (lv_at hl 1 rfl) ?_
    refine lv_iload_n hx hb d_MMo_together_24 rfl (lv_at hl 2 rfl) ?_
    obtain ⟨u_9, eu_9, hf⟩ := bd1_inv hf
    refine z_wv' (u' := u_9) (z_runV (As := [.int x1, .int (bI z2)]) (rest := []) ⟨hx, hb, hml, hown, hts⟩ (c_MMo_decimal l D a k u_8 x1 z2 u_9 eu_9) (qM_Mo_220 hts (by decide)) hw 0 rfl rfl hl.1 rfl (lv_room (Nat.le_of_ble_eq_true rfl)) d_MMo_together_25 hcs) hw hS (fun H locs hw hS => ?_)
    refine lv_goto (tgt := 94) hx hb d_MMo_together_28 (by decide) ?_
    exact hret _ _ _ _ _ d_MMo_together_94 hw hS (Option.some.inj hf)
set_option maxHeartbeats 4000000 in
set_option maxRecDepth 100000 in
theorem c_MMo_digits (l : Launch) (D : va_G) (a : Nat → Nat) (k : Nat → ClassId) (u0 : MS)  (F : MS) (hf : f_MMo_digits u0 = some F) : zMv l y_MMo_digits w_MMo_digits rm_MMo_digits D clM (tyM k) nwM (mW a k) [.ref (a 0)] u0 F := by
  have hf := hf.symm
  unfold f_MMo_digits at hf
  refine zMv_of (cc := b_MMo_digits) (maxL := 8) (own := RM_Mo) (by decide) rfl rfl (Nat.le_of_ble_eq_true rfl) ?_
  intro p e R st m args below meth c A H locs Q ls hR hx hb hml hown hts hw hS hret hl
  subst hR
  have hcs : 0 ≤ (rm_MMo_digits).cells ∧ 0 ≤ (rm_MMo_digits).slots := ⟨Nat.zero_le _, Nat.zero_le _⟩
  have hl : lv_has ls 8 [(0, .ref (a 0))] := hl
  refine lv_aload_n hx hb d_MMo_digits_0 rfl (lv_at hl 0 rfl) ?_
  obtain ⟨x_1, ex_1, hf⟩ := bd1_inv hf
  refine z_rV (V := .int x_1) (z_runV (As := []) (rest := []) ⟨hx, hb, hml, hown, hts⟩ (c_MMo_high l D a k u0 x_1 ex_1) (qM_Mo_163 hts (by decide)) hw 0 rfl rfl hl.1 rfl (lv_room (Nat.le_of_ble_eq_true rfl)) d_MMo_digits_1 hcs) ?_
  refine lv_iconst (v := (1 : Int32)) hx hb d_MMo_digits_4 (by decide) ?_
  refine lv_iadd hx hb d_MMo_digits_5 ?_
  refine lv_topi (fun x_2 ex_2 => ?_)
  have hf := hf.trans (nm_eq ex_2)
  refine lv_istore_n (lv' := [(1, .int x_2), (0, .ref (a 0))]) hx hb d_MMo_digits_6 rfl hl (by decide) rfl (fun ls hl => ?_)
  refine lv_aload_n hx hb d_MMo_digits_7 rfl (lv_at hl 1 rfl) ?_
  obtain ⟨x_3, ex_3, hf⟩ := bd1_inv hf
  refine z_rV (V := .int x_3) (z_runV (As := []) (rest := []) ⟨hx, hb, hml, hown, hts⟩ (c_MMo_low l D a k u0 x_3 ex_3) (qM_Mo_159 hts (by decide)) hw 0 rfl rfl hl.1 rfl (lv_room (Nat.le_of_ble_eq_true rfl)) d_MMo_digits_8 hcs) ?_
  refine lv_iconst (v := (1 : Int32)) hx hb d_MMo_digits_11 (by decide) ?_
  refine lv_iadd hx hb d_MMo_digits_12 ?_
  refine lv_topi (fun x_4 ex_4 => ?_)
  have hf := hf.trans (nm_eq ex_4)
  refine lv_istore_n (lv' := [(2, .int x_4), (1, .int x_2), (0, .ref (a 0))]) hx hb d_MMo_digits_13 rfl hl (by decide) rfl (fun ls hl => ?_)
  refine lv_aload_n hx hb d_MMo_digits_14 rfl (lv_at hl 2 rfl) ?_
  refine va_get (v := .int (mF u0 8)) hx hb hts iM_Mo hown hw.2.1 hw.1 0 rfl rfl 16 (by decide) (hts _ kM_Mo_132) (fun _ h => h) rfl d_MMo_digits_15 ?_
  refine lv_sipush (v := (248 : Int32)) hx hb d_MMo_digits_18 (by decide) ?_
  refine jn_cut hf (fun (K_6 : Bool → Option (MS)) => ∀ (z_5 : Bool), ∀ (ls : Array Slot), lv_has ls 8 [(0, .ref (a 0)), (1, .int x_2), (2, .int x_4)] → some F = K_6 z_5 → W p l e rm_MMo_digits st m args below meth c H locs 0 0 Q (F0 m 41 ls [.int (bI z_5)])) ?_ ?_
  · intro z_5 ls hl hf
    refine lv_istore_n (lv' := [(3, .int (bI z_5)), (0, .ref (a 0)), (1, .int x_2), (2, .int x_4)]) hx hb d_MMo_digits_41 rfl hl (by decide) rfl (fun ls hl => ?_)
    refine lv_aload_n hx hb d_MMo_digits_42 rfl (lv_at hl 1 rfl) ?_
    refine lv_aload_n hx hb d_MMo_digits_43 rfl (lv_at hl 1 rfl) ?_
    refine va_get (v := .int (mF u0 12)) hx hb hts iM_Mo hown hw.2.1 hw.1 0 rfl rfl 20 (by decide) (hts _ kM_Mo_152) (fun _ h => h) rfl d_MMo_digits_44 ?_
    refine lv_iload_n hx hb d_MMo_digits_47 rfl (lv_at hl 3 rfl) ?_
    obtain ⟨z_7, ez_7, hf⟩ := bd1_inv hf
    refine z_rV (V := .int (bI z_7)) (z_runV (As := [.int (mF u0 12), .int x_4]) (rest := []) ⟨hx, hb, hml, hown, hts⟩ (c_MMo_isMinus l D a k u0 (mF u0 12) x_4 z_7 ez_7) (qM_Mo_186 hts (by decide)) hw 0 rfl rfl hl.1 rfl (lv_room (Nat.le_of_ble_eq_true rfl)) d_MMo_digits_48 hcs) ?_
    refine lv_istore (lv' := [(4, .int (bI z_7)), (3, .int (bI z_5)), (0, .ref (a 0)), (1, .int x_2), (2, .int x_4)]) hx hb d_MMo_digits_51 hl (by decide) rfl (fun ls hl => ?_)
    refine lv_aload_n hx hb d_MMo_digits_53 rfl (lv_at hl 2 rfl) ?_
    refine va_get (v := .int (mF u0 8)) hx hb hts iM_Mo hown hw.2.1 hw.1 0 rfl rfl 16 (by decide) (hts _ kM_Mo_132) (fun _ h => h) rfl d_MMo_digits_54 ?_
    refine lv_topi (fun x_8 ex_8 => ?_)
    have hf := hf.trans (nm_eq ex_8)
    by_cases c_9 : x_8 = (248 : Int32)
    · have hf := hf.trans (if_pos c_9)
      refine lv_tableIn (off := 35) (tgt := 92) hx hb d_MMo_digits_57 (by rw [c_9]; decide +kernel) (by rw [c_9]; decide +kernel) (by rw [c_9]; decide +kernel) (by decide) ?_
      refine lv_iconst (v := (0 : Int32)) hx hb d_MMo_digits_92 (by decide) ?_
      refine lv_istore (lv' := [(5, .int (0 : Int32)), (4, .int (bI z_7)), (3, .int (bI z_5)), (0, .ref (a 0)), (1, .int x_2), (2, .int x_4)]) hx hb d_MMo_digits_93 hl (by decide) rfl (fun ls hl => ?_)
      refine jn_cut hf (fun (K_11 : MS → Option (MS)) => ∀ (u_10 : MS), ∀ (H : Heap) (locs : List Loc), zW D clM (tyM k) nwM (mW a k) A st u_10 H → va_S A st.heap H locs → ∀ (ls : Array Slot), lv_has ls 8 [(0, .ref (a 0)), (1, .int x_2), (4, .int (bI z_7))] → some F = K_11 u_10 → W p l e rm_MMo_digits st m args below meth c H locs 0 0 Q (F0 m 122 ls [])) ?_ ?_
      · intro u_10 H locs hw hS ls hl hf
        refine lv_aload_n hx hb d_MMo_digits_122 rfl (lv_at hl 0 rfl) ?_
        refine lv_iload_n hx hb d_MMo_digits_123 rfl (lv_at hl 1 rfl) ?_
        refine lv_iload hx hb d_MMo_digits_124 (lv_at hl 2 rfl) ?_
        obtain ⟨u_12, eu_12, hf⟩ := bd1_inv hf
        refine z_wv' (u' := u_12) (z_runV (As := [.int x_2, .int (bI z_7)]) (rest := []) ⟨hx, hb, hml, hown, hts⟩ (c_MMo_decimal l D a k u_10 x_2 z_7 u_12 eu_12) (qM_Mo_220 hts (by decide)) hw 0 rfl rfl hl.1 rfl (lv_room (Nat.le_of_ble_eq_true rfl)) d_MMo_digits_126 hcs) hw hS (fun H locs hw hS => ?_)
        refine lv_goto (tgt := 347) hx hb d_MMo_digits_129 (by decide) ?_
        exact hret _ _ _ _ _ d_MMo_digits_347 hw hS (Option.some.inj hf)
      · intro K_11 hK_11 hf
        refine lp_cut (fun (_ : Nat) (L_15 : Int32 → MS → Option (MS)) => ∀ (x_13 : Int32) (u_14 : MS), ∀ (H : Heap) (locs : List Loc), zW D clM (tyM k) nwM (mW a k) A st u_14 H → va_S A st.heap H locs → ∀ (ls : Array Slot), lv_has ls 8 [(0, .ref (a 0)), (1, .int x_2), (4, .int (bI z_7)), (5, .int x_13)] → some F = L_15 x_13 u_14 → W p l e rm_MMo_digits st m args below meth c H locs 0 0 Q (F0 m 95 ls [])) ?_ ?_ fuelM (0 : Int32) u0 _ _ hw hS _ (lv_sub hl [3, 4, 1, 0] rfl) hf
        · intro _ _ _ _ _ _ _ _ hf; cases hf
        · intro _ L_15 hL_15 x_13 u_14 H locs hw hS ls hl hf
          unfold g_MMo_digits_95 at hf
          refine lv_iload hx hb d_MMo_digits_95 (lv_at hl 3 rfl) ?_
          refine lv_bipush (v := (32 : Int32)) hx hb d_MMo_digits_97 (by decide) ?_
          refine lv_icmp_ge (tgt := 122) hx hb d_MMo_digits_99 (by decide) (fun c_16 => ?_) (fun c_16 => ?_)
          · have hf := hf.trans (if_pos c_16)
            exact hK_11 u_14 _ _ hw hS _ (lv_sub hl [0, 1, 2] rfl) hf
          · have hf := hf.trans (if_neg c_16)
            refine lv_aload_n hx hb d_MMo_digits_102 rfl (lv_at hl 0 rfl) ?_
            refine va_get (v := .ref (a 6)) hx hb hts iM_Mo hown hw.2.1 hw.1 0 rfl rfl 5 (by decide) (hts _ kM_Mo_25) (fun _ h => h) rfl d_MMo_digits_103 ?_
            refine lv_iload hx hb d_MMo_digits_106 (lv_at hl 3 rfl) ?_
            refine lv_aload_n hx hb d_MMo_digits_108 rfl (lv_at hl 0 rfl) ?_
            refine va_get (v := .ref (a 5)) hx hb hts iM_Mo hown hw.2.1 hw.1 0 rfl rfl 4 (by decide) (hts _ kM_Mo_22) (fun _ h => h) rfl d_MMo_digits_109 ?_
            refine lv_iload hx hb d_MMo_digits_112 (lv_at hl 3 rfl) ?_
            obtain ⟨i_17, hf⟩ := ckI_inv hf
            refine va_iald hx hb hw.2.1 hw.1 5 4 rfl rfl i_17 d_MMo_digits_114 ?_
            obtain ⟨i_19, hf⟩ := ckI_inv hf
            refine z_iast (u' := msA u_14 6 (Int32.toNatClampNeg x_13) (mA u_14 5 (Int32.toNatClampNeg x_13))) hx hb hw hS 6 5 rfl rfl i_19 rfl d_MMo_digits_115 (fun u_18 H locs eu_18 hw hS => ?_)
            have hf := hf.trans (nm_eq eu_18)
            obtain ⟨x_20, ex_20⟩ : ∃ y : Int32, y = x_13 + (1 : Int32) := ⟨_, rfl⟩
            have hf := hf.trans (nm_eq ex_20)
            refine lv_iinc (v := x_20) (lv' := [(5, .int x_20), (0, .ref (a 0)), (1, .int x_2), (4, .int (bI z_7))]) hx hb d_MMo_digits_116 hl (k := 3) rfl (by rw [ex_20]; rfl) (by decide) rfl (fun ls hl => ?_)
            refine lv_goto (tgt := 95) hx hb d_MMo_digits_119 (by decide) ?_
            exact hL_15 x_20 u_18 _ _ hw hS _ (lv_sub hl [1, 2, 3, 0] rfl) hf
    have hf := hf.trans (if_neg c_9)
    by_cases c_21 : x_8 = (249 : Int32)
    · have hf := hf.trans (if_pos c_21)
      refine lv_tableIn (off := 105) (tgt := 162) hx hb d_MMo_digits_57 (by rw [c_21]; decide +kernel) (by rw [c_21]; decide +kernel) (by rw [c_21]; decide +kernel) (by decide) ?_
      refine lv_aload_n hx hb d_MMo_digits_162 rfl (lv_at hl 2 rfl) ?_
      refine va_get (v := .ref (a 4)) hx hb hts iM_Mo hown hw.2.1 hw.1 0 rfl rfl 3 (by decide) (hts _ kM_Mo_19) (fun _ h => h) rfl d_MMo_digits_163 ?_
      refine lv_iload_n hx hb d_MMo_digits_166 rfl (lv_at hl 1 rfl) ?_
      obtain ⟨y_22, ey_22, hf⟩ := bd1_inv hf
      refine z_rV (V := .long y_22) (z_runS (As := [.ref (a 4), .int (bI z_5)]) (rest := []) ⟨hx, hb, hml, hown, hts⟩ (c_MMo_value_4 l D a k u0 z_5 y_22 ey_22) (qM_Mo_189 hts (by decide)) hw  hl.1 rfl (lv_room (Nat.le_of_ble_eq_true rfl)) d_MMo_digits_167 hcs) ?_
      refine lv_aload_n hx hb d_MMo_digits_170 rfl (lv_at hl 2 rfl) ?_
      refine va_get (v := .ref (a 5)) hx hb hts iM_Mo hown hw.2.1 hw.1 0 rfl rfl 4 (by decide) (hts _ kM_Mo_22) (fun _ h => h) rfl d_MMo_digits_171 ?_
      refine lv_iload hx hb d_MMo_digits_174 (lv_at hl 0 rfl) ?_
      obtain ⟨y_23, ey_23, hf⟩ := bd1_inv hf
      refine z_rV (V := .long y_23) (z_runS (As := [.ref (a 5), .int (bI z_7)]) (rest := [.long y_22]) ⟨hx, hb, hml, hown, hts⟩ (c_MMo_value_5 l D a k u0 z_7 y_23 ey_23) (qM_Mo_189 hts (by decide)) hw  hl.1 rfl (lv_room (Nat.le_of_ble_eq_true rfl)) d_MMo_digits_176 hcs) ?_
      refine lv_lsub hx hb d_MMo_digits_179 ?_
      refine lv_topl (fun y_24 ey_24 => ?_)
      have hf := hf.trans (nm_eq ey_24)
      refine lv_lstore (lv' := [(5, .long y_24), (4, .int (bI z_7)), (3, .int (bI z_5)), (0, .ref (a 0)), (1, .int x_2), (2, .int x_4)]) hx hb d_MMo_digits_180 hl (by decide) rfl (fun ls hl => ?_)
      refine lv_aload_n hx hb d_MMo_digits_182 rfl (lv_at hl 3 rfl) ?_
      refine lv_lload hx hb d_MMo_digits_183 (lv_at hl 0 rfl) ?_
      refine lv_lconst (v := 0) hx hb d_MMo_digits_185 (by decide) ?_
      refine z_lcmp_ne (tgt := 194) hx hb d_MMo_digits_186 d_MMo_digits_187 (by decide) (fun c_25 => ?_) (fun c_25 => ?_)
      · have hf := hf.trans (if_neg c_25)
        refine lv_lload hx hb d_MMo_digits_194 (lv_at hl 0 rfl) ?_
        refine lv_lconst (v := 0) hx hb d_MMo_digits_196 (by decide) ?_
        refine z_lcmp_ge (tgt := 205) hx hb d_MMo_digits_197 d_MMo_digits_198 (by decide) (fun c_26 => ?_) (fun c_26 => ?_)
        · have hf := hf.trans (if_pos c_26)
          refine lv_iconst (v := (2 : Int32)) hx hb d_MMo_digits_205 (by decide) ?_
          refine z_put (u' := msF u0 1 (2 : Int32)) hx hb hts iM_Mo tM_Mo tM_Mo_ok nM_Mo hown hw hS 0 rfl rfl 9 (by decide) (hts _ kM_Mo_73) (fun _ h => h) rfl rfl (Nat.le_of_ble_eq_true rfl) rfl d_MMo_digits_206 (fun u_27 H locs eu_27 hw hS => ?_)
          have hf := hf.trans (nm_eq eu_27)
          refine lv_goto (tgt := 347) hx hb d_MMo_digits_209 (by decide) ?_
          exact hret _ _ _ _ _ d_MMo_digits_347 hw hS (Option.some.inj hf)
        · have hf := hf.trans (if_neg c_26)
          refine lv_iconst (v := (1 : Int32)) hx hb d_MMo_digits_201 (by decide) ?_
          refine lv_goto (tgt := 206) hx hb d_MMo_digits_202 (by decide) ?_
          refine z_put (u' := msF u0 1 (1 : Int32)) hx hb hts iM_Mo tM_Mo tM_Mo_ok nM_Mo hown hw hS 0 rfl rfl 9 (by decide) (hts _ kM_Mo_73) (fun _ h => h) rfl rfl (Nat.le_of_ble_eq_true rfl) rfl d_MMo_digits_206 (fun u_28 H locs eu_28 hw hS => ?_)
          have hf := hf.trans (nm_eq eu_28)
          refine lv_goto (tgt := 347) hx hb d_MMo_digits_209 (by decide) ?_
          exact hret _ _ _ _ _ d_MMo_digits_347 hw hS (Option.some.inj hf)
      · have hf := hf.trans (if_pos c_25)
        refine lv_iconst (v := (0 : Int32)) hx hb d_MMo_digits_190 (by decide) ?_
        refine lv_goto (tgt := 206) hx hb d_MMo_digits_191 (by decide) ?_
        refine z_put (u' := msF u0 1 (0 : Int32)) hx hb hts iM_Mo tM_Mo tM_Mo_ok nM_Mo hown hw hS 0 rfl rfl 9 (by decide) (hts _ kM_Mo_73) (fun _ h => h) rfl rfl (Nat.le_of_ble_eq_true rfl) rfl d_MMo_digits_206 (fun u_29 H locs eu_29 hw hS => ?_)
        have hf := hf.trans (nm_eq eu_29)
        refine lv_goto (tgt := 347) hx hb d_MMo_digits_209 (by decide) ?_
        exact hret _ _ _ _ _ d_MMo_digits_347 hw hS (Option.some.inj hf)
    have hf := hf.trans (if_neg c_21)
    by_cases c_30 : x_8 = (250 : Int32)
    · have hf := hf.trans (if_pos c_30)
      refine lv_tableIn (off := 75) (tgt := 132) hx hb d_MMo_digits_57 (by rw [c_30]; decide +kernel) (by rw [c_30]; decide +kernel) (by rw [c_30]; decide +kernel) (by decide) ?_
      refine lv_aload_n hx hb d_MMo_digits_132 rfl (lv_at hl 2 rfl) ?_
      refine lv_iload_n hx hb d_MMo_digits_133 rfl (lv_at hl 3 rfl) ?_
      refine lv_iload_n hx hb d_MMo_digits_134 rfl (lv_at hl 1 rfl) ?_
      refine lv_iload hx hb d_MMo_digits_135 (lv_at hl 0 rfl) ?_
      obtain ⟨u_31, eu_31, hf⟩ := bd1_inv hf
      refine z_wv' (u' := u_31) (z_runV (As := [.int x_2, .int (bI z_5), .int (bI z_7)]) (rest := []) ⟨hx, hb, hml, hown, hts⟩ (c_MMo_together l D a k u0 x_2 z_5 z_7 u_31 eu_31) (qM_Mo_228 hts (by decide)) hw 0 rfl rfl hl.1 rfl (lv_room (Nat.le_of_ble_eq_true rfl)) d_MMo_digits_137 hcs) hw hS (fun H locs hw hS => ?_)
      refine lv_goto (tgt := 347) hx hb d_MMo_digits_140 (by decide) ?_
      exact hret _ _ _ _ _ d_MMo_digits_347 hw hS (Option.some.inj hf)
    have hf := hf.trans (if_neg c_30)
    by_cases c_32 : x_8 = (251 : Int32)
    · have hf := hf.trans (if_pos c_32)
      refine lv_tableIn (off := 86) (tgt := 143) hx hb d_MMo_digits_57 (by rw [c_32]; decide +kernel) (by rw [c_32]; decide +kernel) (by rw [c_32]; decide +kernel) (by decide) ?_
      refine lv_aload_n hx hb d_MMo_digits_143 rfl (lv_at hl 2 rfl) ?_
      refine lv_iload_n hx hb d_MMo_digits_144 rfl (lv_at hl 3 rfl) ?_
      refine lv_iload_n hx hb d_MMo_digits_145 rfl (lv_at hl 1 rfl) ?_
      refine lv_iload hx hb d_MMo_digits_146 (lv_at hl 0 rfl) ?_
      refine lv_if_ne (tgt := 155) hx hb d_MMo_digits_148 (by decide) (fun c_33 => ?_) (fun c_33 => ?_)
      · have hf := hf.trans (if_neg c_33)
        refine lv_iconst (v := (0 : Int32)) hx hb d_MMo_digits_155 (by decide) ?_
        obtain ⟨u_34, eu_34, hf⟩ := bd1_inv hf
        refine z_wv' (u' := u_34) (z_runV (As := [.int x_2, .int (bI z_5), .int (0 : Int32)]) (rest := []) ⟨hx, hb, hml, hown, hts⟩ (c_MMo_together l D a k u0 x_2 z_5 false u_34 eu_34) (qM_Mo_228 hts (by decide)) hw 0 rfl rfl hl.1 rfl (lv_room (Nat.le_of_ble_eq_true rfl)) d_MMo_digits_156 hcs) hw hS (fun H locs hw hS => ?_)
        refine lv_goto (tgt := 347) hx hb d_MMo_digits_159 (by decide) ?_
        exact hret _ _ _ _ _ d_MMo_digits_347 hw hS (Option.some.inj hf)
      · have hf := hf.trans (if_pos c_33)
        refine lv_iconst (v := (1 : Int32)) hx hb d_MMo_digits_151 (by decide) ?_
        refine lv_goto (tgt := 156) hx hb d_MMo_digits_152 (by decide) ?_
        obtain ⟨u_35, eu_35, hf⟩ := bd1_inv hf
        refine z_wv' (u' := u_35) (z_runV (As := [.int x_2, .int (bI z_5), .int (1 : Int32)]) (rest := []) ⟨hx, hb, hml, hown, hts⟩ (c_MMo_together l D a k u0 x_2 z_5 true u_35 eu_35) (qM_Mo_228 hts (by decide)) hw 0 rfl rfl hl.1 rfl (lv_room (Nat.le_of_ble_eq_true rfl)) d_MMo_digits_156 hcs) hw hS (fun H locs hw hS => ?_)
        refine lv_goto (tgt := 347) hx hb d_MMo_digits_159 (by decide) ?_
        exact hret _ _ _ _ _ d_MMo_digits_347 hw hS (Option.some.inj hf)
    have hf := hf.trans (if_neg c_32)
    by_cases c_36 : x_8 = (252 : Int32)
    · have hf := hf.trans (if_pos c_36)
      refine lv_tableIn (off := 155) (tgt := 212) hx hb d_MMo_digits_57 (by rw [c_36]; decide +kernel) (by rw [c_36]; decide +kernel) (by rw [c_36]; decide +kernel) (by decide) ?_
      refine lv_iconst (v := (0 : Int32)) hx hb d_MMo_digits_212 (by decide) ?_
      refine lv_istore (lv' := [(7, .int (0 : Int32)), (4, .int (bI z_7)), (3, .int (bI z_5)), (0, .ref (a 0)), (1, .int x_2), (2, .int x_4)]) hx hb d_MMo_digits_213 hl (by decide) rfl (fun ls hl => ?_)
      refine jn_cut hf (fun (K_38 : MS → Option (MS)) => ∀ (u_37 : MS), ∀ (H : Heap) (locs : List Loc), zW D clM (tyM k) nwM (mW a k) A st u_37 H → va_S A st.heap H locs → ∀ (ls : Array Slot), lv_has ls 8 [(0, .ref (a 0)), (1, .int x_2), (3, .int (bI z_5)), (4, .int (bI z_7))] → some F = K_38 u_37 → W p l e rm_MMo_digits st m args below meth c H locs 0 0 Q (F0 m 236 ls [])) ?_ ?_
      · intro u_37 H locs hw hS ls hl hf
        refine lv_iconst (v := (0 : Int32)) hx hb d_MMo_digits_236 (by decide) ?_
        refine lv_istore (lv' := [(7, .int (0 : Int32)), (0, .ref (a 0)), (1, .int x_2), (3, .int (bI z_5)), (4, .int (bI z_7))]) hx hb d_MMo_digits_237 hl (by decide) rfl (fun ls hl => ?_)
        refine jn_cut hf (fun (K_40 : MS → Option (MS)) => ∀ (u_39 : MS), ∀ (H : Heap) (locs : List Loc), zW D clM (tyM k) nwM (mW a k) A st u_39 H → va_S A st.heap H locs → ∀ (ls : Array Slot), lv_has ls 8 [(0, .ref (a 0)), (1, .int x_2), (3, .int (bI z_5)), (4, .int (bI z_7))] → some F = K_40 u_39 → W p l e rm_MMo_digits st m args below meth c H locs 0 0 Q (F0 m 276 ls [])) ?_ ?_
        · intro u_39 H locs hw hS ls hl hf
          refine lv_aload_n hx hb d_MMo_digits_276 rfl (lv_at hl 0 rfl) ?_
          refine lv_aload_n hx hb d_MMo_digits_277 rfl (lv_at hl 0 rfl) ?_
          refine va_get (v := .int (mF u_39 11)) hx hb hts iM_Mo hown hw.2.1 hw.1 0 rfl rfl 19 (by decide) (hts _ kM_Mo_149) (fun _ h => h) rfl d_MMo_digits_278 ?_
          refine lv_iload_n hx hb d_MMo_digits_281 rfl (lv_at hl 1 rfl) ?_
          refine lv_aload_n hx hb d_MMo_digits_282 rfl (lv_at hl 0 rfl) ?_
          refine va_get (v := .ref (a 6)) hx hb hts iM_Mo hown hw.2.1 hw.1 0 rfl rfl 5 (by decide) (hts _ kM_Mo_25) (fun _ h => h) rfl d_MMo_digits_283 ?_
          refine lv_iload_n hx hb d_MMo_digits_286 rfl (lv_at hl 2 rfl) ?_
          refine lv_iload hx hb d_MMo_digits_287 (lv_at hl 3 rfl) ?_
          refine lv_icmp_eq (tgt := 296) hx hb d_MMo_digits_289 (by decide) (fun c_41 => ?_) (fun c_41 => ?_)
          · have hf := hf.trans (if_pos c_41)
            refine lv_iconst (v := (0 : Int32)) hx hb d_MMo_digits_296 (by decide) ?_
            obtain ⟨u_42, eu_42, hf⟩ := bd1_inv hf
            refine z_wv' (u' := u_42) (z_runV (As := [.int (mF u_39 11), .int x_2, .ref (a 6), .int (0 : Int32)]) (rest := []) ⟨hx, hb, hml, hown, hts⟩ (c_MMo_unpacks_6 l D a k u_39 (mF u_39 11) x_2 false u_42 eu_42) (qM_Mo_216 hts (by decide)) hw 0 rfl rfl hl.1 rfl (lv_room (Nat.le_of_ble_eq_true rfl)) d_MMo_digits_297 hcs) hw hS (fun H locs hw hS => ?_)
            refine lv_goto (tgt := 347) hx hb d_MMo_digits_300 (by decide) ?_
            exact hret _ _ _ _ _ d_MMo_digits_347 hw hS (Option.some.inj hf)
          · have hf := hf.trans (if_neg c_41)
            refine lv_iconst (v := (1 : Int32)) hx hb d_MMo_digits_292 (by decide) ?_
            refine lv_goto (tgt := 297) hx hb d_MMo_digits_293 (by decide) ?_
            obtain ⟨u_43, eu_43, hf⟩ := bd1_inv hf
            refine z_wv' (u' := u_43) (z_runV (As := [.int (mF u_39 11), .int x_2, .ref (a 6), .int (1 : Int32)]) (rest := []) ⟨hx, hb, hml, hown, hts⟩ (c_MMo_unpacks_6 l D a k u_39 (mF u_39 11) x_2 true u_43 eu_43) (qM_Mo_216 hts (by decide)) hw 0 rfl rfl hl.1 rfl (lv_room (Nat.le_of_ble_eq_true rfl)) d_MMo_digits_297 hcs) hw hS (fun H locs hw hS => ?_)
            refine lv_goto (tgt := 347) hx hb d_MMo_digits_300 (by decide) ?_
            exact hret _ _ _ _ _ d_MMo_digits_347 hw hS (Option.some.inj hf)
        · intro K_40 hK_40 hf
          refine lp_cut (fun (_ : Nat) (L_46 : Int32 → MS → Option (MS)) => ∀ (x_44 : Int32) (u_45 : MS), ∀ (H : Heap) (locs : List Loc), zW D clM (tyM k) nwM (mW a k) A st u_45 H → va_S A st.heap H locs → ∀ (ls : Array Slot), lv_has ls 8 [(0, .ref (a 0)), (1, .int x_2), (3, .int (bI z_5)), (4, .int (bI z_7)), (7, .int x_44)] → some F = L_46 x_44 u_45 → W p l e rm_MMo_digits st m args below meth c H locs 0 0 Q (F0 m 239 ls [])) ?_ ?_ fuelM (0 : Int32) u_37 _ _ hw hS _ (lv_sub hl [1, 2, 3, 4, 0] rfl) hf
          · intro _ _ _ _ _ _ _ _ hf; cases hf
          · intro _ L_46 hL_46 x_44 u_45 H locs hw hS ls hl hf
            unfold g_MMo_digits_239 at hf
            refine lv_iload hx hb d_MMo_digits_239 (lv_at hl 4 rfl) ?_
            refine lv_bipush (v := (16 : Int32)) hx hb d_MMo_digits_241 (by decide) ?_
            refine lv_icmp_ge (tgt := 276) hx hb d_MMo_digits_243 (by decide) (fun c_47 => ?_) (fun c_47 => ?_)
            · have hf := hf.trans (if_pos c_47)
              exact hK_40 u_45 _ _ hw hS _ (lv_sub hl [0, 1, 2, 3] rfl) hf
            · have hf := hf.trans (if_neg c_47)
              refine lv_aload_n hx hb d_MMo_digits_246 rfl (lv_at hl 0 rfl) ?_
              refine va_get (v := .ref (a 6)) hx hb hts iM_Mo hown hw.2.1 hw.1 0 rfl rfl 5 (by decide) (hts _ kM_Mo_25) (fun _ h => h) rfl d_MMo_digits_247 ?_
              refine lv_aload_n hx hb d_MMo_digits_250 rfl (lv_at hl 0 rfl) ?_
              refine va_get (v := .ref (a 6)) hx hb hts iM_Mo hown hw.2.1 hw.1 0 rfl rfl 5 (by decide) (hts _ kM_Mo_25) (fun _ h => h) rfl d_MMo_digits_251 ?_
              refine lv_aload_n hx hb d_MMo_digits_254 rfl (lv_at hl 0 rfl) ?_
              refine va_get (v := .ref (a 4)) hx hb hts iM_Mo hown hw.2.1 hw.1 0 rfl rfl 3 (by decide) (hts _ kM_Mo_19) (fun _ h => h) rfl d_MMo_digits_255 ?_
              refine lv_aload_n hx hb d_MMo_digits_258 rfl (lv_at hl 0 rfl) ?_
              refine va_get (v := .ref (a 5)) hx hb hts iM_Mo hown hw.2.1 hw.1 0 rfl rfl 4 (by decide) (hts _ kM_Mo_22) (fun _ h => h) rfl d_MMo_digits_259 ?_
              refine lv_iload hx hb d_MMo_digits_262 (lv_at hl 4 rfl) ?_
              obtain ⟨i_48, hf⟩ := ckI_inv hf
              refine va_iald hx hb hw.2.1 hw.1 5 4 rfl rfl i_48 d_MMo_digits_264 ?_
              refine lv_iload hx hb d_MMo_digits_265 (lv_at hl 4 rfl) ?_
              obtain ⟨u_49, eu_49, hf⟩ := bd1_inv hf
              refine z_wv' (u' := u_49) (z_runS (As := [.ref (a 6), .ref (a 6), .ref (a 4), .int (mA u_45 5 (Int32.toNatClampNeg x_44)), .int x_44]) (rest := []) ⟨hx, hb, hml, hown, hts⟩ (c_MMo_adds_6_6_4 l D a k u_45 (mA u_45 5 (Int32.toNatClampNeg x_44)) x_44 u_49 eu_49) (qM_Mo_212 hts (by decide)) hw  hl.1 rfl (lv_room (Nat.le_of_ble_eq_true rfl)) d_MMo_digits_267 hcs) hw hS (fun H locs hw hS => ?_)
              obtain ⟨x_50, ex_50⟩ : ∃ y : Int32, y = x_44 + (1 : Int32) := ⟨_, rfl⟩
              have hf := hf.trans (nm_eq ex_50)
              refine lv_iinc (v := x_50) (lv' := [(7, .int x_50), (0, .ref (a 0)), (1, .int x_2), (3, .int (bI z_5)), (4, .int (bI z_7))]) hx hb d_MMo_digits_270 hl (k := 4) rfl (by rw [ex_50]; rfl) (by decide) rfl (fun ls hl => ?_)
              refine lv_goto (tgt := 239) hx hb d_MMo_digits_273 (by decide) ?_
              exact hL_46 x_50 u_49 _ _ hw hS _ (lv_sub hl [1, 2, 3, 4, 0] rfl) hf
      · intro K_38 hK_38 hf
        refine lp_cut (fun (_ : Nat) (L_53 : Int32 → MS → Option (MS)) => ∀ (x_51 : Int32) (u_52 : MS), ∀ (H : Heap) (locs : List Loc), zW D clM (tyM k) nwM (mW a k) A st u_52 H → va_S A st.heap H locs → ∀ (ls : Array Slot), lv_has ls 8 [(0, .ref (a 0)), (1, .int x_2), (3, .int (bI z_5)), (4, .int (bI z_7)), (7, .int x_51)] → some F = L_53 x_51 u_52 → W p l e rm_MMo_digits st m args below meth c H locs 0 0 Q (F0 m 215 ls [])) ?_ ?_ fuelM (0 : Int32) u0 _ _ hw hS _ (lv_sub hl [3, 4, 2, 1, 0] rfl) hf
        · intro _ _ _ _ _ _ _ _ hf; cases hf
        · intro _ L_53 hL_53 x_51 u_52 H locs hw hS ls hl hf
          unfold g_MMo_digits_215 at hf
          refine lv_iload hx hb d_MMo_digits_215 (lv_at hl 4 rfl) ?_
          refine lv_bipush (v := (32 : Int32)) hx hb d_MMo_digits_217 (by decide) ?_
          refine lv_icmp_ge (tgt := 236) hx hb d_MMo_digits_219 (by decide) (fun c_54 => ?_) (fun c_54 => ?_)
          · have hf := hf.trans (if_pos c_54)
            exact hK_38 u_52 _ _ hw hS _ (lv_sub hl [0, 1, 2, 3] rfl) hf
          · have hf := hf.trans (if_neg c_54)
            refine lv_aload_n hx hb d_MMo_digits_222 rfl (lv_at hl 0 rfl) ?_
            refine va_get (v := .ref (a 6)) hx hb hts iM_Mo hown hw.2.1 hw.1 0 rfl rfl 5 (by decide) (hts _ kM_Mo_25) (fun _ h => h) rfl d_MMo_digits_223 ?_
            refine lv_iload hx hb d_MMo_digits_226 (lv_at hl 4 rfl) ?_
            refine lv_iconst (v := (0 : Int32)) hx hb d_MMo_digits_228 (by decide) ?_
            obtain ⟨i_56, hf⟩ := ckI_inv hf
            refine z_iast (u' := msA u_52 6 (Int32.toNatClampNeg x_51) (0 : Int32)) hx hb hw hS 6 5 rfl rfl i_56 rfl d_MMo_digits_229 (fun u_55 H locs eu_55 hw hS => ?_)
            have hf := hf.trans (nm_eq eu_55)
            obtain ⟨x_57, ex_57⟩ : ∃ y : Int32, y = x_51 + (1 : Int32) := ⟨_, rfl⟩
            have hf := hf.trans (nm_eq ex_57)
            refine lv_iinc (v := x_57) (lv' := [(7, .int x_57), (0, .ref (a 0)), (1, .int x_2), (3, .int (bI z_5)), (4, .int (bI z_7))]) hx hb d_MMo_digits_230 hl (k := 4) rfl (by rw [ex_57]; rfl) (by decide) rfl (fun ls hl => ?_)
            refine lv_goto (tgt := 215) hx hb d_MMo_digits_233 (by decide) ?_
            exact hL_53 x_57 u_55 _ _ hw hS _ (lv_sub hl [1, 2, 3, 4, 0] rfl) hf
    have hf := hf.trans (if_neg c_36)
    refine lv_tableOut (tgt := 303) hx hb d_MMo_digits_57 (by have := lv_neT c_9 (a := 248) (by decide +kernel); have := lv_neT c_21 (a := 249) (by decide +kernel); have := lv_neT c_30 (a := 250) (by decide +kernel); have := lv_neT c_32 (a := 251) (by decide +kernel); have := lv_neT c_36 (a := 252) (by decide +kernel); omega) (by decide) ?_
    refine lv_aload_n hx hb d_MMo_digits_303 rfl (lv_at hl 2 rfl) ?_
    refine lv_aload_n hx hb d_MMo_digits_304 rfl (lv_at hl 2 rfl) ?_
    refine va_get (v := .int (mF u0 11)) hx hb hts iM_Mo hown hw.2.1 hw.1 0 rfl rfl 19 (by decide) (hts _ kM_Mo_149) (fun _ h => h) rfl d_MMo_digits_305 ?_
    refine lv_iload_n hx hb d_MMo_digits_308 rfl (lv_at hl 3 rfl) ?_
    refine lv_iload_n hx hb d_MMo_digits_309 rfl (lv_at hl 4 rfl) ?_
    refine lv_isub hx hb d_MMo_digits_310 ?_
    refine lv_aload_n hx hb d_MMo_digits_311 rfl (lv_at hl 2 rfl) ?_
    refine va_get (v := .ref (a 6)) hx hb hts iM_Mo hown hw.2.1 hw.1 0 rfl rfl 5 (by decide) (hts _ kM_Mo_25) (fun _ h => h) rfl d_MMo_digits_312 ?_
    refine lv_iload_n hx hb d_MMo_digits_315 rfl (lv_at hl 1 rfl) ?_
    refine lv_iload hx hb d_MMo_digits_316 (lv_at hl 0 rfl) ?_
    refine jn_cut hf (fun (K_59 : Bool → Option (MS)) => ∀ (z_58 : Bool), ∀ (ls : Array Slot), lv_has ls 8 [(0, .ref (a 0)), (1, .int x_2), (2, .int x_4), (3, .int (bI z_5))] → some F = K_59 z_58 → W p l e rm_MMo_digits st m args below meth c H locs 0 0 Q (F0 m 326 ls [.int (bI z_58), .ref (a 6), .int (x_2 - x_4), .int (mF u0 11), .ref (a 0)])) ?_ ?_
    · intro z_58 ls hl hf
      obtain ⟨u_60, eu_60, hf⟩ := bd1_inv hf
      refine z_wv' (u' := u_60) (z_runV (As := [.int (mF u0 11), .int (x_2 - x_4), .ref (a 6), .int (bI z_58)]) (rest := []) ⟨hx, hb, hml, hown, hts⟩ (c_MMo_unpacks_6 l D a k u0 (mF u0 11) (x_2 - x_4) z_58 u_60 eu_60) (qM_Mo_216 hts (by decide)) hw 0 rfl rfl hl.1 rfl (lv_room (Nat.le_of_ble_eq_true rfl)) d_MMo_digits_326 hcs) hw hS (fun H locs hw hS => ?_)
      refine lv_aload_n hx hb d_MMo_digits_329 rfl (lv_at hl 0 rfl) ?_
      refine lv_aload_n hx hb d_MMo_digits_330 rfl (lv_at hl 0 rfl) ?_
      refine va_get (v := .int (mF u_60 11)) hx hb hts iM_Mo hown hw.2.1 hw.1 0 rfl rfl 19 (by decide) (hts _ kM_Mo_149) (fun _ h => h) rfl d_MMo_digits_331 ?_
      refine lv_iload_n hx hb d_MMo_digits_334 rfl (lv_at hl 1 rfl) ?_
      refine lv_iadd hx hb d_MMo_digits_335 ?_
      refine lv_iload_n hx hb d_MMo_digits_336 rfl (lv_at hl 2 rfl) ?_
      refine lv_isub hx hb d_MMo_digits_337 ?_
      refine lv_iload_n hx hb d_MMo_digits_338 rfl (lv_at hl 2 rfl) ?_
      refine lv_aload_n hx hb d_MMo_digits_339 rfl (lv_at hl 0 rfl) ?_
      refine va_get (v := .ref (a 7)) hx hb hts iM_Mo hown hw.2.1 hw.1 0 rfl rfl 6 (by decide) (hts _ kM_Mo_28) (fun _ h => h) rfl d_MMo_digits_340 ?_
      refine lv_iload_n hx hb d_MMo_digits_343 rfl (lv_at hl 3 rfl) ?_
      obtain ⟨u_61, eu_61, hf⟩ := bd1_inv hf
      refine z_wv' (u' := u_61) (z_runV (As := [.int (((mF u_60 11) + x_2) - x_4), .int x_4, .ref (a 7), .int (bI z_5)]) (rest := []) ⟨hx, hb, hml, hown, hts⟩ (c_MMo_unpacks_7 l D a k u_60 (((mF u_60 11) + x_2) - x_4) x_4 z_5 u_61 eu_61) (qM_Mo_216 hts (by decide)) hw 0 rfl rfl hl.1 rfl (lv_room (Nat.le_of_ble_eq_true rfl)) d_MMo_digits_344 hcs) hw hS (fun H locs hw hS => ?_)
      exact hret _ _ _ _ _ d_MMo_digits_347 hw hS (Option.some.inj hf)
    · intro K_59 hK_59 hf
      refine lv_icmp_eq (tgt := 325) hx hb d_MMo_digits_318 (by decide) (fun c_62 => ?_) (fun c_62 => ?_)
      · have hf := hf.trans (if_pos c_62)
        refine lv_iconst (v := (0 : Int32)) hx hb d_MMo_digits_325 (by decide) ?_
        exact hK_59 false _ (lv_sub hl [2, 3, 4, 1] rfl) hf
      · have hf := hf.trans (if_neg c_62)
        refine lv_iconst (v := (1 : Int32)) hx hb d_MMo_digits_321 (by decide) ?_
        refine lv_goto (tgt := 326) hx hb d_MMo_digits_322 (by decide) ?_
        exact hK_59 true _ (lv_sub hl [2, 3, 4, 1] rfl) hf
  · intro K_6 hK_6 hf
    refine jn_cut hf (fun (K_63 : Option (MS)) => ∀ (ls : Array Slot), lv_has ls 8 [(0, .ref (a 0)), (1, .int x_2), (2, .int x_4)] → some F = K_63 → W p l e rm_MMo_digits st m args below meth c H locs 0 0 Q (F0 m 40 ls [])) ?_ ?_
    · intro ls hl hf
      refine lv_iconst (v := (0 : Int32)) hx hb d_MMo_digits_40 (by decide) ?_
      exact hK_6 false _ (lv_sub hl [0, 1, 2] rfl) hf
    · intro K_63 hK_63 hf
      refine lv_icmp_eq (tgt := 40) hx hb d_MMo_digits_21 (by decide) (fun c_64 => ?_) (fun c_64 => ?_)
      · have hf := hf.trans (if_pos c_64)
        exact hK_63 _ (lv_sub hl [2, 1, 0] rfl) hf
      · have hf := hf.trans (if_neg c_64)
        refine lv_aload_n hx hb d_MMo_digits_24 rfl (lv_at hl 2 rfl) ?_
        refine lv_aload_n hx hb d_MMo_digits_25 rfl (lv_at hl 2 rfl) ?_
        refine va_get (v := .int (mF u0 11)) hx hb hts iM_Mo hown hw.2.1 hw.1 0 rfl rfl 19 (by decide) (hts _ kM_Mo_149) (fun _ h => h) rfl d_MMo_digits_26 ?_
        refine lv_iload_n hx hb d_MMo_digits_29 rfl (lv_at hl 1 rfl) ?_
        obtain ⟨z_65, ez_65, hf⟩ := bd1_inv hf
        refine z_rV (V := .int (bI z_65)) (z_runV (As := [.int (mF u0 11), .int x_2]) (rest := []) ⟨hx, hb, hml, hown, hts⟩ (c_MMo_isMinus l D a k u0 (mF u0 11) x_2 z_65 ez_65) (qM_Mo_186 hts (by decide)) hw 0 rfl rfl hl.1 rfl (lv_room (Nat.le_of_ble_eq_true rfl)) d_MMo_digits_30 hcs) ?_
        refine lv_if_eq (tgt := 40) hx hb d_MMo_digits_33 (by decide) (fun c_66 => ?_) (fun c_66 => ?_)
        · have hf := hf.trans (if_pos c_66)
          exact hK_63 _ (lv_sub hl [2, 1, 0] rfl) hf
        · have hf := hf.trans (if_neg c_66)
          refine lv_iconst (v := (1 : Int32)) hx hb d_MMo_digits_36 (by decide) ?_
          refine lv_goto (tgt := 41) hx hb d_MMo_digits_37 (by decide) ?_
          exact hK_6 true _ (lv_sub hl [2, 1, 0] rfl) hf
