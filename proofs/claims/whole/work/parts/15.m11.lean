set_option maxHeartbeats 4000000 in
set_option maxRecDepth 100000 in
theorem c_MMo_packed (l : Launch) (D : va_G) (a : Nat → Nat) (k : Nat → ClassId) (u0 : MS) (x1 : Int32) (x2 : Int32) (F : Int64 × MS) (hf : f_MMo_packed u0 x1 x2 = some F) : zMl l y_MMo_packed w_MMo_packed rm_MMo_packed D clM (tyM k) nwM (mW a k) [.ref (a 0), .int x1, .int x2] u0 F := by
  have hf := hf.symm
  unfold f_MMo_packed at hf
  refine zMl_of (cc := b_MMo_packed) (maxL := 4) (own := RM_Mo) (by decide) rfl rfl (Nat.le_of_ble_eq_true rfl) ?_
  intro p e R st m args below meth c A H locs Q ls hR hx hb hml hown hts hw hS hret hl
  subst hR
  have hcs : 0 ≤ (rm_MMo_packed).cells ∧ 0 ≤ (rm_MMo_packed).slots := ⟨Nat.zero_le _, Nat.zero_le _⟩
  have hl : lv_has ls 4 [(0, .ref (a 0)), (1, .int x1), (2, .int x2)] := hl
  refine lv_aload_n hx hb d_MMo_packed_0 rfl (lv_at hl 0 rfl) ?_
  refine lv_iconst (v := (0 : Int32)) hx hb d_MMo_packed_1 (by decide) ?_
  refine z_put (u' := msF u0 0 (0 : Int32)) hx hb hts iM_Mo tM_Mo tM_Mo_ok nM_Mo hown hw hS 0 rfl rfl 8 (by decide) (hts _ kM_Mo_38) (fun _ h => h) rfl rfl (Nat.le_of_ble_eq_true rfl) rfl d_MMo_packed_2 (fun u_1 H locs eu_1 hw hS => ?_)
  have hf := hf.trans (nm_eq eu_1)
  refine lv_aload_n hx hb d_MMo_packed_5 rfl (lv_at hl 0 rfl) ?_
  refine lv_iload_n hx hb d_MMo_packed_6 rfl (lv_at hl 2 rfl) ?_
  refine lv_i2l (v := Int32.toInt64 x2) hx hb d_MMo_packed_7 rfl ?_
  refine lv_lconst (v := 1) hx hb d_MMo_packed_8 (by decide) ?_
  refine lv_ldc2 (v := (8 : Int64)) hx hb hown (hts _ kM_Mo_47) d_MMo_packed_9 ?_
  obtain ⟨z_2, ez_2, hf⟩ := bd1_inv hf
  refine z_rV (V := .int (bI z_2)) (z_runS (As := [.long (Int32.toInt64 x2), .long (1 : Int64), .long (8 : Int64)]) (rest := [.ref (a 0)]) ⟨hx, hb, hml, hown, hts⟩ (c_MMo_in l D a k u_1 (Int32.toInt64 x2) (1 : Int64) (8 : Int64) z_2 ez_2) (qM_Mo_41 hts (by decide)) hw  hl.1 rfl (lv_room (Nat.le_of_ble_eq_true rfl)) d_MMo_packed_12 hcs) ?_
  refine jn_cut hf (fun (K_4 : Bool → Option (Int64 × MS)) => ∀ (z_3 : Bool), ∀ (ls : Array Slot), lv_has ls 4 [(0, .ref (a 0)), (1, .int x1), (2, .int x2)] → some F = K_4 z_3 → W p l e rm_MMo_packed st m args below meth c H locs 0 0 Q (F0 m 23 ls [.int (bI z_3), .ref (a 0)])) ?_ ?_
  · intro z_3 ls hl hf
    refine lv_iconst (v := (1 : Int32)) hx hb d_MMo_packed_23 (by decide) ?_
    obtain ⟨z_6, u_5, ez_6, hf⟩ := bd2_inv hf
    refine z_wz' (r := z_6) (u' := u_5) (z_runV (As := [.int (bI z_3), .int (1 : Int32)]) (rest := []) ⟨hx, hb, hml, hown, hts⟩ (c_MMo_fails l D a k u_1 z_3 (1 : Int32) (z_6, u_5) ez_6) (qM_Mo_49 hts (by decide)) hw 0 rfl rfl hl.1 rfl (lv_room (Nat.le_of_ble_eq_true rfl)) d_MMo_packed_24 hcs) hw hS (fun H locs hw hS => ?_)
    refine lv_if_ne (tgt := 51) hx hb d_MMo_packed_27 (by decide) (fun c_7 => ?_) (fun c_7 => ?_)
    · have hf := hf.trans (if_neg c_7)
      refine lv_lconst (v := 0) hx hb d_MMo_packed_51 (by decide) ?_
      exact hret (0 : Int64) _ _ _ _ _ d_MMo_packed_52 hw hS (Option.some.inj hf)
    · have hf := hf.trans (if_pos c_7)
      refine lv_aload_n hx hb d_MMo_packed_30 rfl (lv_at hl 0 rfl) ?_
      refine lv_iload_n hx hb d_MMo_packed_31 rfl (lv_at hl 1 rfl) ?_
      refine lv_iload_n hx hb d_MMo_packed_32 rfl (lv_at hl 2 rfl) ?_
      obtain ⟨z_8, ez_8, hf⟩ := bd1_inv hf
      refine z_rV (V := .int (bI z_8)) (z_runS (As := [.int x1, .int x2]) (rest := [.ref (a 0)]) ⟨hx, hb, hml, hown, hts⟩ (c_MMo_lies l D a k u_5 x1 x2 z_8 ez_8) (qM_Mo_53 hts (by decide)) hw  hl.1 rfl (lv_room (Nat.le_of_ble_eq_true rfl)) d_MMo_packed_33 hcs) ?_
      refine jn_cut hf (fun (K_10 : Bool → Option (Int64 × MS)) => ∀ (z_9 : Bool), ∀ (ls : Array Slot), lv_has ls 4 [(0, .ref (a 0)), (1, .int x1), (2, .int x2)] → some F = K_10 z_9 → W p l e rm_MMo_packed st m args below meth c H locs 0 0 Q (F0 m 44 ls [.int (bI z_9), .ref (a 0)])) ?_ ?_
      · intro z_9 ls hl hf
        refine lv_iconst (v := (2 : Int32)) hx hb d_MMo_packed_44 (by decide) ?_
        obtain ⟨z_12, u_11, ez_12, hf⟩ := bd2_inv hf
        refine z_wz' (r := z_12) (u' := u_11) (z_runV (As := [.int (bI z_9), .int (2 : Int32)]) (rest := []) ⟨hx, hb, hml, hown, hts⟩ (c_MMo_fails l D a k u_5 z_9 (2 : Int32) (z_12, u_11) ez_12) (qM_Mo_49 hts (by decide)) hw 0 rfl rfl hl.1 rfl (lv_room (Nat.le_of_ble_eq_true rfl)) d_MMo_packed_45 hcs) hw hS (fun H locs hw hS => ?_)
        refine lv_if_eq (tgt := 53) hx hb d_MMo_packed_48 (by decide) (fun c_13 => ?_) (fun c_13 => ?_)
        · have hf := hf.trans (if_pos c_13)
          refine lv_aload_n hx hb d_MMo_packed_53 rfl (lv_at hl 0 rfl) ?_
          refine lv_iload_n hx hb d_MMo_packed_54 rfl (lv_at hl 1 rfl) ?_
          refine lv_iload_n hx hb d_MMo_packed_55 rfl (lv_at hl 2 rfl) ?_
          refine lv_aload_n hx hb d_MMo_packed_56 rfl (lv_at hl 0 rfl) ?_
          refine va_get (v := .ref (a 4)) hx hb hts iM_Mo hown hw.2.1 hw.1 0 rfl rfl 3 (by decide) (hts _ kM_Mo_19) (fun _ h => h) rfl d_MMo_packed_57 ?_
          obtain ⟨z_15, u_14, ez_15, hf⟩ := bd2_inv hf
          refine z_wz' (r := z_15) (u' := u_14) (z_runV (As := [.int x1, .int x2, .ref (a 4)]) (rest := []) ⟨hx, hb, hml, hown, hts⟩ (c_MMo_packs_4 l D a k u_11 x1 x2 (z_15, u_14) ez_15) (qM_Mo_182 hts (by decide)) hw 0 rfl rfl hl.1 rfl (lv_room (Nat.le_of_ble_eq_true rfl)) d_MMo_packed_60 hcs) hw hS (fun H locs hw hS => ?_)
          refine lv_istore_n (lv' := [(3, .int (bI z_15)), (0, .ref (a 0)), (1, .int x1), (2, .int x2)]) hx hb d_MMo_packed_63 rfl hl (by decide) rfl (fun ls hl => ?_)
          refine lv_aload_n hx hb d_MMo_packed_64 rfl (lv_at hl 1 rfl) ?_
          refine lv_iload_n hx hb d_MMo_packed_65 rfl (lv_at hl 0 rfl) ?_
          refine jn_cut hf (fun (K_17 : Bool → Option (Int64 × MS)) => ∀ (z_16 : Bool), ∀ (ls : Array Slot), lv_has ls 4 [(0, .ref (a 0)), (1, .int x1), (2, .int x2)] → some F = K_17 z_16 → W p l e rm_MMo_packed st m args below meth c H locs 0 0 Q (F0 m 74 ls [.int (bI z_16), .ref (a 0)])) ?_ ?_
          · intro z_16 ls hl hf
            refine lv_iconst (v := (1 : Int32)) hx hb d_MMo_packed_74 (by decide) ?_
            obtain ⟨z_19, u_18, ez_19, hf⟩ := bd2_inv hf
            refine z_wz' (r := z_19) (u' := u_18) (z_runV (As := [.int (bI z_16), .int (1 : Int32)]) (rest := []) ⟨hx, hb, hml, hown, hts⟩ (c_MMo_fails l D a k u_14 z_16 (1 : Int32) (z_19, u_18) ez_19) (qM_Mo_49 hts (by decide)) hw 0 rfl rfl hl.1 rfl (lv_room (Nat.le_of_ble_eq_true rfl)) d_MMo_packed_75 hcs) hw hS (fun H locs hw hS => ?_)
            refine lv_if_eq (tgt := 85) hx hb d_MMo_packed_78 (by decide) (fun c_20 => ?_) (fun c_20 => ?_)
            · have hf := hf.trans (if_pos c_20)
              refine lv_aload_n hx hb d_MMo_packed_85 rfl (lv_at hl 0 rfl) ?_
              refine va_get (v := .ref (a 4)) hx hb hts iM_Mo hown hw.2.1 hw.1 0 rfl rfl 3 (by decide) (hts _ kM_Mo_19) (fun _ h => h) rfl d_MMo_packed_86 ?_
              refine lv_aload_n hx hb d_MMo_packed_89 rfl (lv_at hl 0 rfl) ?_
              refine lv_iload_n hx hb d_MMo_packed_90 rfl (lv_at hl 1 rfl) ?_
              refine lv_iload_n hx hb d_MMo_packed_91 rfl (lv_at hl 2 rfl) ?_
              obtain ⟨z_21, ez_21, hf⟩ := bd1_inv hf
              refine z_rV (V := .int (bI z_21)) (z_runV (As := [.int x1, .int x2]) (rest := [.ref (a 4)]) ⟨hx, hb, hml, hown, hts⟩ (c_MMo_isMinus l D a k u_18 x1 x2 z_21 ez_21) (qM_Mo_186 hts (by decide)) hw 0 rfl rfl hl.1 rfl (lv_room (Nat.le_of_ble_eq_true rfl)) d_MMo_packed_92 hcs) ?_
              obtain ⟨y_22, ey_22, hf⟩ := bd1_inv hf
              refine z_rV (V := .long y_22) (z_runS (As := [.ref (a 4), .int (bI z_21)]) (rest := []) ⟨hx, hb, hml, hown, hts⟩ (c_MMo_value_4 l D a k u_18 z_21 y_22 ey_22) (qM_Mo_189 hts (by decide)) hw  hl.1 rfl (lv_room (Nat.le_of_ble_eq_true rfl)) d_MMo_packed_95 hcs) ?_
              exact hret y_22 _ _ _ _ _ d_MMo_packed_98 hw hS (Option.some.inj hf)
            · have hf := hf.trans (if_neg c_20)
              refine lv_lconst (v := 0) hx hb d_MMo_packed_81 (by decide) ?_
              refine lv_goto (tgt := 98) hx hb d_MMo_packed_82 (by decide) ?_
              exact hret (0 : Int64) _ _ _ _ _ d_MMo_packed_98 hw hS (Option.some.inj hf)
          · intro K_17 hK_17 hf
            refine lv_if_ne (tgt := 73) hx hb d_MMo_packed_66 (by decide) (fun c_23 => ?_) (fun c_23 => ?_)
            · have hf := hf.trans (if_neg c_23)
              refine lv_iconst (v := (0 : Int32)) hx hb d_MMo_packed_73 (by decide) ?_
              exact hK_17 false _ (lv_sub hl [1, 2, 3] rfl) hf
            · have hf := hf.trans (if_pos c_23)
              refine lv_iconst (v := (1 : Int32)) hx hb d_MMo_packed_69 (by decide) ?_
              refine lv_goto (tgt := 74) hx hb d_MMo_packed_70 (by decide) ?_
              exact hK_17 true _ (lv_sub hl [1, 2, 3] rfl) hf
        · have hf := hf.trans (if_neg c_13)
          refine lv_lconst (v := 0) hx hb d_MMo_packed_51 (by decide) ?_
          exact hret (0 : Int64) _ _ _ _ _ d_MMo_packed_52 hw hS (Option.some.inj hf)
      · intro K_10 hK_10 hf
        refine lv_if_ne (tgt := 43) hx hb d_MMo_packed_36 (by decide) (fun c_24 => ?_) (fun c_24 => ?_)
        · have hf := hf.trans (if_neg c_24)
          refine lv_iconst (v := (0 : Int32)) hx hb d_MMo_packed_43 (by decide) ?_
          exact hK_10 false _ (lv_sub hl [0, 1, 2] rfl) hf
        · have hf := hf.trans (if_pos c_24)
          refine lv_iconst (v := (1 : Int32)) hx hb d_MMo_packed_39 (by decide) ?_
          refine lv_goto (tgt := 44) hx hb d_MMo_packed_40 (by decide) ?_
          exact hK_10 true _ (lv_sub hl [0, 1, 2] rfl) hf
  · intro K_4 hK_4 hf
    refine lv_if_ne (tgt := 22) hx hb d_MMo_packed_15 (by decide) (fun c_25 => ?_) (fun c_25 => ?_)
    · have hf := hf.trans (if_neg c_25)
      refine lv_iconst (v := (0 : Int32)) hx hb d_MMo_packed_22 (by decide) ?_
      exact hK_4 false _ (lv_sub hl [0, 1, 2] rfl) hf
    · have hf := hf.trans (if_pos c_25)
      refine lv_iconst (v := (1 : Int32)) hx hb d_MMo_packed_18 (by decide) ?_
      refine lv_goto (tgt := 23) hx hb d_MMo_packed_19 (by decide) ?_
      exact hK_4 true _ (lv_sub hl [0, 1, 2] rfl) hf
set_option maxHeartbeats 4000000 in
set_option maxRecDepth 100000 in
theorem c_MMo_count (l : Launch) (D : va_G) (a : Nat → Nat) (k : Nat → ClassId) (u0 : MS) (x1 : Int32) (F : Int32 × MS) (hf : f_MMo_count u0 x1 = some F) : zMi l y_MMo_count w_MMo_count rm_MMo_count D clM (tyM k) nwM (mW a k) [.ref (a 0), .int x1] u0 F := by
  have hf := hf.symm
  unfold f_MMo_count at hf
  refine zMi_of (cc := b_MMo_count) (maxL := 2) (own := RM_Mo) (by decide) rfl rfl (Nat.le_of_ble_eq_true rfl) ?_
  intro p e R st m args below meth c A H locs Q ls hR hx hb hml hown hts hw hS hret hl
  subst hR
  have hcs : 0 ≤ (rm_MMo_count).cells ∧ 0 ≤ (rm_MMo_count).slots := ⟨Nat.zero_le _, Nat.zero_le _⟩
  have hl : lv_has ls 2 [(0, .ref (a 0)), (1, .int x1)] := hl
  refine lv_aload_n hx hb d_MMo_count_0 rfl (lv_at hl 0 rfl) ?_
  refine lv_iconst (v := (0 : Int32)) hx hb d_MMo_count_1 (by decide) ?_
  refine z_put (u' := msF u0 0 (0 : Int32)) hx hb hts iM_Mo tM_Mo tM_Mo_ok nM_Mo hown hw hS 0 rfl rfl 8 (by decide) (hts _ kM_Mo_38) (fun _ h => h) rfl rfl (Nat.le_of_ble_eq_true rfl) rfl d_MMo_count_2 (fun u_1 H locs eu_1 hw hS => ?_)
  have hf := hf.trans (nm_eq eu_1)
  refine lv_aload_n hx hb d_MMo_count_5 rfl (lv_at hl 0 rfl) ?_
  refine lv_iload_n hx hb d_MMo_count_6 rfl (lv_at hl 1 rfl) ?_
  refine lv_i2l (v := Int32.toInt64 x1) hx hb d_MMo_count_7 rfl ?_
  refine lv_lconst (v := 0) hx hb d_MMo_count_8 (by decide) ?_
  refine lv_ldc2 (v := (6 : Int64)) hx hb hown (hts _ kM_Mo_307) d_MMo_count_9 ?_
  obtain ⟨z_2, ez_2, hf⟩ := bd1_inv hf
  refine z_rV (V := .int (bI z_2)) (z_runS (As := [.long (Int32.toInt64 x1), .long (0 : Int64), .long (6 : Int64)]) (rest := [.ref (a 0)]) ⟨hx, hb, hml, hown, hts⟩ (c_MMo_in l D a k u_1 (Int32.toInt64 x1) (0 : Int64) (6 : Int64) z_2 ez_2) (qM_Mo_41 hts (by decide)) hw  hl.1 rfl (lv_room (Nat.le_of_ble_eq_true rfl)) d_MMo_count_12 hcs) ?_
  refine jn_cut hf (fun (K_4 : Bool → Option (Int32 × MS)) => ∀ (z_3 : Bool), ∀ (ls : Array Slot), lv_has ls 2 [(0, .ref (a 0)), (1, .int x1)] → some F = K_4 z_3 → W p l e rm_MMo_count st m args below meth c H locs 0 0 Q (F0 m 23 ls [.int (bI z_3), .ref (a 0)])) ?_ ?_
  · intro z_3 ls hl hf
    refine lv_iconst (v := (1 : Int32)) hx hb d_MMo_count_23 (by decide) ?_
    obtain ⟨z_6, u_5, ez_6, hf⟩ := bd2_inv hf
    refine z_wz' (r := z_6) (u' := u_5) (z_runV (As := [.int (bI z_3), .int (1 : Int32)]) (rest := []) ⟨hx, hb, hml, hown, hts⟩ (c_MMo_fails l D a k u_1 z_3 (1 : Int32) (z_6, u_5) ez_6) (qM_Mo_49 hts (by decide)) hw 0 rfl rfl hl.1 rfl (lv_room (Nat.le_of_ble_eq_true rfl)) d_MMo_count_24 hcs) hw hS (fun H locs hw hS => ?_)
    refine lv_if_eq (tgt := 32) hx hb d_MMo_count_27 (by decide) (fun c_7 => ?_) (fun c_7 => ?_)
    · have hf := hf.trans (if_pos c_7)
      refine lv_iload_n hx hb d_MMo_count_32 rfl (lv_at hl 1 rfl) ?_
      by_cases c_8 : x1 = (0 : Int32)
      · have hf := hf.trans (if_pos c_8)
        refine lv_tableIn (off := 39) (tgt := 72) hx hb d_MMo_count_33 (by rw [c_8]; decide +kernel) (by rw [c_8]; decide +kernel) (by rw [c_8]; decide +kernel) (by decide) ?_
        refine lv_aload_n hx hb d_MMo_count_72 rfl (lv_at hl 0 rfl) ?_
        refine va_get (v := .int (mF u_5 2)) hx hb hts iM_Mo hown hw.2.1 hw.1 0 rfl rfl 10 (by decide) (hts _ kM_Mo_67) (fun _ h => h) rfl d_MMo_count_73 ?_
        exact hret (mF u_5 2) _ _ _ _ _ d_MMo_count_76 hw hS (Option.some.inj hf)
      have hf := hf.trans (if_neg c_8)
      by_cases c_9 : x1 = (1 : Int32)
      · have hf := hf.trans (if_pos c_9)
        refine lv_tableIn (off := 44) (tgt := 77) hx hb d_MMo_count_33 (by rw [c_9]; decide +kernel) (by rw [c_9]; decide +kernel) (by rw [c_9]; decide +kernel) (by decide) ?_
        refine lv_aload_n hx hb d_MMo_count_77 rfl (lv_at hl 0 rfl) ?_
        refine va_get (v := .int (mF u_5 1)) hx hb hts iM_Mo hown hw.2.1 hw.1 0 rfl rfl 9 (by decide) (hts _ kM_Mo_73) (fun _ h => h) rfl d_MMo_count_78 ?_
        exact hret (mF u_5 1) _ _ _ _ _ d_MMo_count_81 hw hS (Option.some.inj hf)
      have hf := hf.trans (if_neg c_9)
      by_cases c_10 : x1 = (2 : Int32)
      · have hf := hf.trans (if_pos c_10)
        refine lv_tableIn (off := 49) (tgt := 82) hx hb d_MMo_count_33 (by rw [c_10]; decide +kernel) (by rw [c_10]; decide +kernel) (by rw [c_10]; decide +kernel) (by decide) ?_
        refine lv_aload_n hx hb d_MMo_count_82 rfl (lv_at hl 0 rfl) ?_
        refine va_get (v := .int (mF u_5 3)) hx hb hts iM_Mo hown hw.2.1 hw.1 0 rfl rfl 11 (by decide) (hts _ kM_Mo_70) (fun _ h => h) rfl d_MMo_count_83 ?_
        exact hret (mF u_5 3) _ _ _ _ _ d_MMo_count_86 hw hS (Option.some.inj hf)
      have hf := hf.trans (if_neg c_10)
      by_cases c_11 : x1 = (3 : Int32)
      · have hf := hf.trans (if_pos c_11)
        refine lv_tableIn (off := 54) (tgt := 87) hx hb d_MMo_count_33 (by rw [c_11]; decide +kernel) (by rw [c_11]; decide +kernel) (by rw [c_11]; decide +kernel) (by decide) ?_
        refine lv_aload_n hx hb d_MMo_count_87 rfl (lv_at hl 0 rfl) ?_
        refine va_get (v := .int (mF u_5 4)) hx hb hts iM_Mo hown hw.2.1 hw.1 0 rfl rfl 12 (by decide) (hts _ kM_Mo_34) (fun _ h => h) rfl d_MMo_count_88 ?_
        exact hret (mF u_5 4) _ _ _ _ _ d_MMo_count_91 hw hS (Option.some.inj hf)
      have hf := hf.trans (if_neg c_11)
      by_cases c_12 : x1 = (4 : Int32)
      · have hf := hf.trans (if_pos c_12)
        refine lv_tableIn (off := 59) (tgt := 92) hx hb d_MMo_count_33 (by rw [c_12]; decide +kernel) (by rw [c_12]; decide +kernel) (by rw [c_12]; decide +kernel) (by decide) ?_
        refine lv_aload_n hx hb d_MMo_count_92 rfl (lv_at hl 0 rfl) ?_
        refine va_get (v := .int (mF u_5 5)) hx hb hts iM_Mo hown hw.2.1 hw.1 0 rfl rfl 13 (by decide) (hts _ kM_Mo_298) (fun _ h => h) rfl d_MMo_count_93 ?_
        exact hret (mF u_5 5) _ _ _ _ _ d_MMo_count_96 hw hS (Option.some.inj hf)
      have hf := hf.trans (if_neg c_12)
      by_cases c_13 : x1 = (5 : Int32)
      · have hf := hf.trans (if_pos c_13)
        refine lv_tableIn (off := 64) (tgt := 97) hx hb d_MMo_count_33 (by rw [c_13]; decide +kernel) (by rw [c_13]; decide +kernel) (by rw [c_13]; decide +kernel) (by decide) ?_
        refine lv_aload_n hx hb d_MMo_count_97 rfl (lv_at hl 0 rfl) ?_
        refine va_get (v := .int (mF u_5 6)) hx hb hts iM_Mo hown hw.2.1 hw.1 0 rfl rfl 14 (by decide) (hts _ kM_Mo_301) (fun _ h => h) rfl d_MMo_count_98 ?_
        exact hret (mF u_5 6) _ _ _ _ _ d_MMo_count_101 hw hS (Option.some.inj hf)
      have hf := hf.trans (if_neg c_13)
      refine lv_tableOut (tgt := 102) hx hb d_MMo_count_33 (by have := lv_neT c_8 (a := 0) (by decide +kernel); have := lv_neT c_9 (a := 1) (by decide +kernel); have := lv_neT c_10 (a := 2) (by decide +kernel); have := lv_neT c_11 (a := 3) (by decide +kernel); have := lv_neT c_12 (a := 4) (by decide +kernel); have := lv_neT c_13 (a := 5) (by decide +kernel); omega) (by decide) ?_
      refine lv_aload_n hx hb d_MMo_count_102 rfl (lv_at hl 0 rfl) ?_
      refine va_get (v := .int (mF u_5 7)) hx hb hts iM_Mo hown hw.2.1 hw.1 0 rfl rfl 15 (by decide) (hts _ kM_Mo_304) (fun _ h => h) rfl d_MMo_count_103 ?_
      exact hret (mF u_5 7) _ _ _ _ _ d_MMo_count_106 hw hS (Option.some.inj hf)
    · have hf := hf.trans (if_neg c_7)
      refine lv_iconst (v := (0 : Int32)) hx hb d_MMo_count_30 (by decide) ?_
      exact hret (0 : Int32) _ _ _ _ _ d_MMo_count_31 hw hS (Option.some.inj hf)
  · intro K_4 hK_4 hf
    refine lv_if_ne (tgt := 22) hx hb d_MMo_count_15 (by decide) (fun c_14 => ?_) (fun c_14 => ?_)
    · have hf := hf.trans (if_neg c_14)
      refine lv_iconst (v := (0 : Int32)) hx hb d_MMo_count_22 (by decide) ?_
      exact hK_4 false _ (lv_sub hl [0, 1] rfl) hf
    · have hf := hf.trans (if_pos c_14)
      refine lv_iconst (v := (1 : Int32)) hx hb d_MMo_count_18 (by decide) ?_
      refine lv_goto (tgt := 23) hx hb d_MMo_count_19 (by decide) ?_
      exact hK_4 true _ (lv_sub hl [0, 1] rfl) hf
