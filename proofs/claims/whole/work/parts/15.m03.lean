set_option maxHeartbeats 4000000 in
set_option maxRecDepth 100000 in
theorem c_MMo_high (l : Launch) (D : va_G) (a : Nat → Nat) (k : Nat → ClassId) (u0 : MS)  (F : Int32) (hf : f_MMo_high u0 = some F) : zRi l y_MMo_high w_MMo_high rm_MMo_high D clM (tyM k) nwM (mW a k) [.ref (a 0)] u0 F := by
  have hf := hf.symm
  unfold f_MMo_high at hf
  refine zRi_of (cc := b_MMo_high) (maxL := 1) (own := RM_Mo) (by decide) rfl rfl (Nat.le_of_ble_eq_true rfl) ?_
  intro p e R st m args below meth c H locs Q ls hR hx hb hml hown hts hw hret hl
  subst hR
  have hcs : 0 ≤ (rm_MMo_high).cells ∧ 0 ≤ (rm_MMo_high).slots := ⟨Nat.zero_le _, Nat.zero_le _⟩
  have hl : lv_has ls 1 [(0, .ref (a 0))] := hl
  refine lv_aload_n hx hb d_MMo_high_0 rfl (lv_at hl 0 rfl) ?_
  refine va_get (v := .int (mF u0 10)) hx hb hts iM_Mo hown hw.2.1 hw.1 0 rfl rfl 18 (by decide) (hts _ kM_Mo_142) (fun _ h => h) rfl d_MMo_high_1 ?_
  refine lv_iconst (v := (4 : Int32)) hx hb d_MMo_high_4 (by decide) ?_
  refine lv_ishr hx hb d_MMo_high_5 ?_
  exact hret ((mF u0 10) >>> ((4 : Int32) &&& 31)) _ _ d_MMo_high_6 (Option.some.inj hf)
set_option maxHeartbeats 4000000 in
set_option maxRecDepth 100000 in
theorem c_MMo_low (l : Launch) (D : va_G) (a : Nat → Nat) (k : Nat → ClassId) (u0 : MS)  (F : Int32) (hf : f_MMo_low u0 = some F) : zRi l y_MMo_low w_MMo_low rm_MMo_low D clM (tyM k) nwM (mW a k) [.ref (a 0)] u0 F := by
  have hf := hf.symm
  unfold f_MMo_low at hf
  refine zRi_of (cc := b_MMo_low) (maxL := 1) (own := RM_Mo) (by decide) rfl rfl (Nat.le_of_ble_eq_true rfl) ?_
  intro p e R st m args below meth c H locs Q ls hR hx hb hml hown hts hw hret hl
  subst hR
  have hcs : 0 ≤ (rm_MMo_low).cells ∧ 0 ≤ (rm_MMo_low).slots := ⟨Nat.zero_le _, Nat.zero_le _⟩
  have hl : lv_has ls 1 [(0, .ref (a 0))] := hl
  refine lv_aload_n hx hb d_MMo_low_0 rfl (lv_at hl 0 rfl) ?_
  refine va_get (v := .int (mF u0 10)) hx hb hts iM_Mo hown hw.2.1 hw.1 0 rfl rfl 18 (by decide) (hts _ kM_Mo_142) (fun _ h => h) rfl d_MMo_low_1 ?_
  refine lv_bipush (v := (15 : Int32)) hx hb d_MMo_low_4 (by decide) ?_
  refine lv_iand hx hb d_MMo_low_6 ?_
  exact hret ((mF u0 10) &&& (15 : Int32)) _ _ d_MMo_low_7 (Option.some.inj hf)
set_option maxHeartbeats 4000000 in
set_option maxRecDepth 100000 in
theorem c_MMo_width (l : Launch) (D : va_G) (a : Nat → Nat) (k : Nat → ClassId) (u0 : MS)  (F : Int32) (hf : f_MMo_width u0 = some F) : zRi l y_MMo_width w_MMo_width rm_MMo_width D clM (tyM k) nwM (mW a k) [.ref (a 0)] u0 F := by
  have hf := hf.symm
  unfold f_MMo_width at hf
  refine zRi_of (cc := b_MMo_width) (maxL := 1) (own := RM_Mo) (by decide) rfl rfl (Nat.le_of_ble_eq_true rfl) ?_
  intro p e R st m args below meth c H locs Q ls hR hx hb hml hown hts hw hret hl
  subst hR
  have hcs : 0 ≤ (rm_MMo_width).cells ∧ 0 ≤ (rm_MMo_width).slots := ⟨Nat.zero_le _, Nat.zero_le _⟩
  have hl : lv_has ls 1 [(0, .ref (a 0))] := hl
  refine lv_aload_n hx hb d_MMo_width_0 rfl (lv_at hl 0 rfl) ?_
  refine va_get (v := .int (mF u0 8)) hx hb hts iM_Mo hown hw.2.1 hw.1 0 rfl rfl 16 (by decide) (hts _ kM_Mo_132) (fun _ h => h) rfl d_MMo_width_1 ?_
  refine lv_bipush (v := (65 : Int32)) hx hb d_MMo_width_4 (by decide) ?_
  refine lv_icmp_eq (tgt := 36) hx hb d_MMo_width_6 (by decide) (fun c_1 => ?_) (fun c_1 => ?_)
  · have hf := hf.trans (if_pos c_1)
    refine lv_iconst (v := (0 : Int32)) hx hb d_MMo_width_36 (by decide) ?_
    exact hret (0 : Int32) _ _ d_MMo_width_37 (Option.some.inj hf)
  · have hf := hf.trans (if_neg c_1)
    refine lv_aload_n hx hb d_MMo_width_9 rfl (lv_at hl 0 rfl) ?_
    refine va_get (v := .int (mF u0 8)) hx hb hts iM_Mo hown hw.2.1 hw.1 0 rfl rfl 16 (by decide) (hts _ kM_Mo_132) (fun _ h => h) rfl d_MMo_width_10 ?_
    refine lv_bipush (v := (69 : Int32)) hx hb d_MMo_width_13 (by decide) ?_
    refine lv_icmp_eq (tgt := 36) hx hb d_MMo_width_15 (by decide) (fun c_2 => ?_) (fun c_2 => ?_)
    · have hf := hf.trans (if_pos c_2)
      refine lv_iconst (v := (0 : Int32)) hx hb d_MMo_width_36 (by decide) ?_
      exact hret (0 : Int32) _ _ d_MMo_width_37 (Option.some.inj hf)
    · have hf := hf.trans (if_neg c_2)
      refine lv_aload_n hx hb d_MMo_width_18 rfl (lv_at hl 0 rfl) ?_
      refine va_get (v := .int (mF u0 8)) hx hb hts iM_Mo hown hw.2.1 hw.1 0 rfl rfl 16 (by decide) (hts _ kM_Mo_132) (fun _ h => h) rfl d_MMo_width_19 ?_
      refine lv_bipush (v := (70 : Int32)) hx hb d_MMo_width_22 (by decide) ?_
      refine lv_icmp_eq (tgt := 36) hx hb d_MMo_width_24 (by decide) (fun c_3 => ?_) (fun c_3 => ?_)
      · have hf := hf.trans (if_pos c_3)
        refine lv_iconst (v := (0 : Int32)) hx hb d_MMo_width_36 (by decide) ?_
        exact hret (0 : Int32) _ _ d_MMo_width_37 (Option.some.inj hf)
      · have hf := hf.trans (if_neg c_3)
        refine lv_aload_n hx hb d_MMo_width_27 rfl (lv_at hl 0 rfl) ?_
        refine va_get (v := .int (mF u0 8)) hx hb hts iM_Mo hown hw.2.1 hw.1 0 rfl rfl 16 (by decide) (hts _ kM_Mo_132) (fun _ h => h) rfl d_MMo_width_28 ?_
        refine lv_bipush (v := (71 : Int32)) hx hb d_MMo_width_31 (by decide) ?_
        refine lv_icmp_ne (tgt := 38) hx hb d_MMo_width_33 (by decide) (fun c_4 => ?_) (fun c_4 => ?_)
        · have hf := hf.trans (if_neg c_4)
          refine lv_aload_n hx hb d_MMo_width_38 rfl (lv_at hl 0 rfl) ?_
          refine va_get (v := .int (mF u0 8)) hx hb hts iM_Mo hown hw.2.1 hw.1 0 rfl rfl 16 (by decide) (hts _ kM_Mo_132) (fun _ h => h) rfl d_MMo_width_39 ?_
          refine lv_bipush (v := (66 : Int32)) hx hb d_MMo_width_42 (by decide) ?_
          refine lv_icmp_eq (tgt := 56) hx hb d_MMo_width_44 (by decide) (fun c_5 => ?_) (fun c_5 => ?_)
          · have hf := hf.trans (if_pos c_5)
            refine lv_iconst (v := (1 : Int32)) hx hb d_MMo_width_56 (by decide) ?_
            refine lv_goto (tgt := 114) hx hb d_MMo_width_57 (by decide) ?_
            exact hret (1 : Int32) _ _ d_MMo_width_114 (Option.some.inj hf)
          · have hf := hf.trans (if_neg c_5)
            refine lv_aload_n hx hb d_MMo_width_47 rfl (lv_at hl 0 rfl) ?_
            refine va_get (v := .int (mF u0 8)) hx hb hts iM_Mo hown hw.2.1 hw.1 0 rfl rfl 16 (by decide) (hts _ kM_Mo_132) (fun _ h => h) rfl d_MMo_width_48 ?_
            refine lv_bipush (v := (67 : Int32)) hx hb d_MMo_width_51 (by decide) ?_
            refine lv_icmp_ne (tgt := 60) hx hb d_MMo_width_53 (by decide) (fun c_6 => ?_) (fun c_6 => ?_)
            · have hf := hf.trans (if_neg c_6)
              refine lv_aload_n hx hb d_MMo_width_60 rfl (lv_at hl 0 rfl) ?_
              refine va_get (v := .int (mF u0 8)) hx hb hts iM_Mo hown hw.2.1 hw.1 0 rfl rfl 16 (by decide) (hts _ kM_Mo_132) (fun _ h => h) rfl d_MMo_width_61 ?_
              refine lv_bipush (v := (64 : Int32)) hx hb d_MMo_width_64 (by decide) ?_
              refine lv_icmp_eq (tgt := 86) hx hb d_MMo_width_66 (by decide) (fun c_7 => ?_) (fun c_7 => ?_)
              · have hf := hf.trans (if_pos c_7)
                refine lv_iconst (v := (2 : Int32)) hx hb d_MMo_width_86 (by decide) ?_
                refine lv_goto (tgt := 114) hx hb d_MMo_width_87 (by decide) ?_
                exact hret (2 : Int32) _ _ d_MMo_width_114 (Option.some.inj hf)
              · have hf := hf.trans (if_neg c_7)
                refine lv_aload_n hx hb d_MMo_width_69 rfl (lv_at hl 0 rfl) ?_
                refine va_get (v := .int (mF u0 8)) hx hb hts iM_Mo hown hw.2.1 hw.1 0 rfl rfl 16 (by decide) (hts _ kM_Mo_132) (fun _ h => h) rfl d_MMo_width_70 ?_
                refine lv_i2l (v := Int32.toInt64 (mF u0 8)) hx hb d_MMo_width_73 rfl ?_
                refine lv_ldc2 (v := (72 : Int64)) hx hb hown (hts _ kM_Mo_157) d_MMo_width_74 ?_
                refine lv_ldc2 (v := (76 : Int64)) hx hb hown (hts _ kM_Mo_106) d_MMo_width_77 ?_
                obtain ⟨z_8, ez_8, hf⟩ := bd1_inv hf
                refine z_rV (V := .int (bI z_8)) (z_runS (As := [.long (Int32.toInt64 (mF u0 8)), .long (72 : Int64), .long (76 : Int64)]) (rest := []) ⟨hx, hb, hml, hown, hts⟩ (c_MMo_in l D a k u0 (Int32.toInt64 (mF u0 8)) (72 : Int64) (76 : Int64) z_8 ez_8) (qM_Mo_41 hts (by decide)) hw  hl.1 rfl (lv_room (Nat.le_of_ble_eq_true rfl)) d_MMo_width_80 hcs) ?_
                refine lv_if_eq (tgt := 90) hx hb d_MMo_width_83 (by decide) (fun c_9 => ?_) (fun c_9 => ?_)
                · have hf := hf.trans (if_pos c_9)
                  refine lv_aload_n hx hb d_MMo_width_90 rfl (lv_at hl 0 rfl) ?_
                  refine va_get (v := .int (mF u0 8)) hx hb hts iM_Mo hown hw.2.1 hw.1 0 rfl rfl 16 (by decide) (hts _ kM_Mo_132) (fun _ h => h) rfl d_MMo_width_91 ?_
                  refine lv_bipush (v := (78 : Int32)) hx hb d_MMo_width_94 (by decide) ?_
                  refine lv_icmp_eq (tgt := 108) hx hb d_MMo_width_96 (by decide) (fun c_10 => ?_) (fun c_10 => ?_)
                  · have hf := hf.trans (if_pos c_10)
                    refine lv_bipush (v := (8 : Int32)) hx hb d_MMo_width_108 (by decide) ?_
                    refine lv_goto (tgt := 114) hx hb d_MMo_width_110 (by decide) ?_
                    exact hret (8 : Int32) _ _ d_MMo_width_114 (Option.some.inj hf)
                  · have hf := hf.trans (if_neg c_10)
                    refine lv_aload_n hx hb d_MMo_width_99 rfl (lv_at hl 0 rfl) ?_
                    refine va_get (v := .int (mF u0 8)) hx hb hts iM_Mo hown hw.2.1 hw.1 0 rfl rfl 16 (by decide) (hts _ kM_Mo_132) (fun _ h => h) rfl d_MMo_width_100 ?_
                    refine lv_bipush (v := (79 : Int32)) hx hb d_MMo_width_103 (by decide) ?_
                    refine lv_icmp_ne (tgt := 113) hx hb d_MMo_width_105 (by decide) (fun c_11 => ?_) (fun c_11 => ?_)
                    · have hf := hf.trans (if_neg c_11)
                      refine lv_iconst (v := (4 : Int32)) hx hb d_MMo_width_113 (by decide) ?_
                      exact hret (4 : Int32) _ _ d_MMo_width_114 (Option.some.inj hf)
                    · have hf := hf.trans (if_pos c_11)
                      refine lv_bipush (v := (8 : Int32)) hx hb d_MMo_width_108 (by decide) ?_
                      refine lv_goto (tgt := 114) hx hb d_MMo_width_110 (by decide) ?_
                      exact hret (8 : Int32) _ _ d_MMo_width_114 (Option.some.inj hf)
                · have hf := hf.trans (if_neg c_9)
                  refine lv_iconst (v := (2 : Int32)) hx hb d_MMo_width_86 (by decide) ?_
                  refine lv_goto (tgt := 114) hx hb d_MMo_width_87 (by decide) ?_
                  exact hret (2 : Int32) _ _ d_MMo_width_114 (Option.some.inj hf)
            · have hf := hf.trans (if_pos c_6)
              refine lv_iconst (v := (1 : Int32)) hx hb d_MMo_width_56 (by decide) ?_
              refine lv_goto (tgt := 114) hx hb d_MMo_width_57 (by decide) ?_
              exact hret (1 : Int32) _ _ d_MMo_width_114 (Option.some.inj hf)
        · have hf := hf.trans (if_pos c_4)
          refine lv_iconst (v := (0 : Int32)) hx hb d_MMo_width_36 (by decide) ?_
          exact hret (0 : Int32) _ _ d_MMo_width_37 (Option.some.inj hf)
set_option maxHeartbeats 4000000 in
set_option maxRecDepth 100000 in
theorem c_MMo_divides (l : Launch) (D : va_G) (a : Nat → Nat) (k : Nat → ClassId) (u0 : MS) (x1 : Int32) (F : Bool) (hf : f_MMo_divides u0 x1 = some F) : zRz l y_MMo_divides w_MMo_divides rm_MMo_divides D clM (tyM k) nwM (mW a k) [.ref (a 0), .int x1] u0 F := by
  have hf := hf.symm
  unfold f_MMo_divides at hf
  refine zRz_of (cc := b_MMo_divides) (maxL := 4) (own := RM_Mo) (by decide) rfl rfl (Nat.le_of_ble_eq_true rfl) ?_
  intro p e R st m args below meth c H locs Q ls hR hx hb hml hown hts hw hret hl
  subst hR
  have hcs : 0 ≤ (rm_MMo_divides).cells ∧ 0 ≤ (rm_MMo_divides).slots := ⟨Nat.zero_le _, Nat.zero_le _⟩
  have hl : lv_has ls 4 [(0, .ref (a 0)), (1, .int x1)] := hl
  refine lv_aload_n hx hb d_MMo_divides_0 rfl (lv_at hl 0 rfl) ?_
  obtain ⟨x_1, ex_1, hf⟩ := bd1_inv hf
  refine z_rV (V := .int x_1) (z_runV (As := []) (rest := []) ⟨hx, hb, hml, hown, hts⟩ (c_MMo_high l D a k u0 x_1 ex_1) (qM_Mo_163 hts (by decide)) hw 0 rfl rfl hl.1 rfl (lv_room (Nat.le_of_ble_eq_true rfl)) d_MMo_divides_1 hcs) ?_
  refine lv_iconst (v := (1 : Int32)) hx hb d_MMo_divides_4 (by decide) ?_
  refine lv_iand hx hb d_MMo_divides_5 ?_
  refine lv_iconst (v := (1 : Int32)) hx hb d_MMo_divides_6 (by decide) ?_
  refine lv_icmp_ne (tgt := 12) hx hb d_MMo_divides_7 (by decide) (fun c_2 => ?_) (fun c_2 => ?_)
  · have hf := hf.trans (if_neg c_2)
    refine lv_aload_n hx hb d_MMo_divides_12 rfl (lv_at hl 0 rfl) ?_
    refine va_get (v := .ref (a 2)) hx hb hts iM_Mo hown hw.2.1 hw.1 0 rfl rfl 1 (by decide) (hts _ kM_Mo_13) (fun _ h => h) rfl d_MMo_divides_13 ?_
    refine lv_aload_n hx hb d_MMo_divides_16 rfl (lv_at hl 0 rfl) ?_
    obtain ⟨x_3, ex_3, hf⟩ := bd1_inv hf
    refine z_rV (V := .int x_3) (z_runV (As := []) (rest := [.ref (a 2)]) ⟨hx, hb, hml, hown, hts⟩ (c_MMo_high l D a k u0 x_3 ex_3) (qM_Mo_163 hts (by decide)) hw 0 rfl rfl hl.1 rfl (lv_room (Nat.le_of_ble_eq_true rfl)) d_MMo_divides_17 hcs) ?_
    obtain ⟨i_4, hf⟩ := ckI_inv hf
    refine va_iald hx hb hw.2.1 hw.1 2 1 rfl rfl i_4 d_MMo_divides_20 ?_
    refine lv_i2l (v := Int32.toInt64 (mA u0 2 (Int32.toNatClampNeg x_3))) hx hb d_MMo_divides_21 rfl ?_
    refine lv_bipush (v := (32 : Int32)) hx hb d_MMo_divides_22 (by decide) ?_
    refine lv_lshl (v := (Int32.toInt64 (mA u0 2 (Int32.toNatClampNeg x_3))) <<< (Int32.toInt64 (32 : Int32) &&& 63)) hx hb d_MMo_divides_24 rfl ?_
    refine lv_aload_n hx hb d_MMo_divides_25 rfl (lv_at hl 0 rfl) ?_
    refine va_get (v := .ref (a 2)) hx hb hts iM_Mo hown hw.2.1 hw.1 0 rfl rfl 1 (by decide) (hts _ kM_Mo_13) (fun _ h => h) rfl d_MMo_divides_26 ?_
    refine lv_aload_n hx hb d_MMo_divides_29 rfl (lv_at hl 0 rfl) ?_
    obtain ⟨x_5, ex_5, hf⟩ := bd1_inv hf
    refine z_rV (V := .int x_5) (z_runV (As := []) (rest := [.ref (a 2), .long ((Int32.toInt64 (mA u0 2 (Int32.toNatClampNeg x_3))) <<< (Int32.toInt64 (32 : Int32) &&& 63))]) ⟨hx, hb, hml, hown, hts⟩ (c_MMo_high l D a k u0 x_5 ex_5) (qM_Mo_163 hts (by decide)) hw 0 rfl rfl hl.1 rfl (lv_room (Nat.le_of_ble_eq_true rfl)) d_MMo_divides_30 hcs) ?_
    refine lv_iconst (v := (1 : Int32)) hx hb d_MMo_divides_33 (by decide) ?_
    refine lv_iadd hx hb d_MMo_divides_34 ?_
    obtain ⟨i_6, hf⟩ := ckI_inv hf
    refine va_iald hx hb hw.2.1 hw.1 2 1 rfl rfl i_6 d_MMo_divides_35 ?_
    refine lv_i2l (v := Int32.toInt64 (mA u0 2 (Int32.toNatClampNeg (x_5 + (1 : Int32))))) hx hb d_MMo_divides_36 rfl ?_
    refine lv_ldc2 (v := (4294967295 : Int64)) hx hb hown (hts _ kM_Mo_197) d_MMo_divides_37 ?_
    refine lv_land hx hb d_MMo_divides_40 ?_
    refine lv_lor hx hb d_MMo_divides_41 ?_
    refine lv_topl (fun y_7 ey_7 => ?_)
    have hf := hf.trans (nm_eq ey_7)
    refine lv_lstore_n (lv' := [(2, .long y_7), (0, .ref (a 0)), (1, .int x1)]) hx hb d_MMo_divides_42 rfl hl (by decide) rfl (fun ls hl => ?_)
    refine lv_iload_n hx hb d_MMo_divides_43 rfl (lv_at hl 2 rfl) ?_
    refine lv_if_eq (tgt := 67) hx hb d_MMo_divides_44 (by decide) (fun c_8 => ?_) (fun c_8 => ?_)
    · have hf := hf.trans (if_pos c_8)
      refine lv_iconst (v := (0 : Int32)) hx hb d_MMo_divides_67 (by decide) ?_
      exact hret false _ _ d_MMo_divides_68 (Option.some.inj hf)
    · have hf := hf.trans (if_neg c_8)
      refine lv_lload_n hx hb d_MMo_divides_47 rfl (lv_at hl 0 rfl) ?_
      refine lv_iload_n hx hb d_MMo_divides_48 rfl (lv_at hl 2 rfl) ?_
      refine lv_i2l (v := Int32.toInt64 x1) hx hb d_MMo_divides_49 rfl ?_
      obtain ⟨i_9, hf⟩ := ckN64_inv hf
      refine lv_ldiv hx hb d_MMo_divides_50 i_9 ?_
      refine lv_ldc2 (v := (-2147483648 : Int64)) hx hb hown (hts _ kM_Mo_193) d_MMo_divides_51 ?_
      refine lv_ldc2 (v := (2147483647 : Int64)) hx hb hown (hts _ kM_Mo_195) d_MMo_divides_54 ?_
      obtain ⟨z_10, ez_10, hf⟩ := bd1_inv hf
      refine z_rV (V := .int (bI z_10)) (z_runS (As := [.long (y_7 / (Int32.toInt64 x1)), .long (-2147483648 : Int64), .long (2147483647 : Int64)]) (rest := []) ⟨hx, hb, hml, hown, hts⟩ (c_MMo_in l D a k u0 (y_7 / (Int32.toInt64 x1)) (-2147483648 : Int64) (2147483647 : Int64) z_10 ez_10) (qM_Mo_41 hts (by decide)) hw  hl.1 rfl (lv_room (Nat.le_of_ble_eq_true rfl)) d_MMo_divides_57 hcs) ?_
      refine lv_if_eq (tgt := 67) hx hb d_MMo_divides_60 (by decide) (fun c_11 => ?_) (fun c_11 => ?_)
      · have hf := hf.trans (if_pos c_11)
        refine lv_iconst (v := (0 : Int32)) hx hb d_MMo_divides_67 (by decide) ?_
        exact hret false _ _ d_MMo_divides_68 (Option.some.inj hf)
      · have hf := hf.trans (if_neg c_11)
        refine lv_iconst (v := (1 : Int32)) hx hb d_MMo_divides_63 (by decide) ?_
        refine lv_goto (tgt := 68) hx hb d_MMo_divides_64 (by decide) ?_
        exact hret true _ _ d_MMo_divides_68 (Option.some.inj hf)
  · have hf := hf.trans (if_pos c_2)
    refine lv_iconst (v := (1 : Int32)) hx hb d_MMo_divides_10 (by decide) ?_
    exact hret true _ _ d_MMo_divides_11 (Option.some.inj hf)
set_option maxHeartbeats 4000000 in
set_option maxRecDepth 100000 in
theorem c_MMo_packs_4 (l : Launch) (D : va_G) (a : Nat → Nat) (k : Nat → ClassId) (u0 : MS) (x1 : Int32) (x2 : Int32) (F : Bool × MS) (hf : f_MMo_packs 4 u0 x1 x2 = some F) : zMz l y_MMo_packs w_MMo_packs rm_MMo_packs D clM (tyM k) nwM (mW a k) [.ref (a 0), .int x1, .int x2, .ref (a 4)] u0 F := by
  have hf := hf.symm
  unfold f_MMo_packs at hf
  refine zMz_of (cc := b_MMo_packs) (maxL := 8) (own := RM_Mo) (by decide) rfl rfl (Nat.le_of_ble_eq_true rfl) ?_
  intro p e R st m args below meth c A H locs Q ls hR hx hb hml hown hts hw hS hret hl
  subst hR
  have hcs : 0 ≤ (rm_MMo_packs).cells ∧ 0 ≤ (rm_MMo_packs).slots := ⟨Nat.zero_le _, Nat.zero_le _⟩
  have hl : lv_has ls 8 [(0, .ref (a 0)), (1, .int x1), (2, .int x2), (3, .ref (a 4))] := hl
  refine lv_aload_n hx hb d_MMo_packs_0 rfl (lv_at hl 0 rfl) ?_
  refine va_get (v := .ref (a 1)) hx hb hts iM_Mo hown hw.2.1 hw.1 0 rfl rfl 0 (by decide) (hts _ kM_Mo_7) (fun _ h => h) rfl d_MMo_packs_1 ?_
  refine lv_iload_n hx hb d_MMo_packs_4 rfl (lv_at hl 1 rfl) ?_
  refine lv_iload_n hx hb d_MMo_packs_5 rfl (lv_at hl 2 rfl) ?_
  refine lv_iadd hx hb d_MMo_packs_6 ?_
  refine lv_iconst (v := (1 : Int32)) hx hb d_MMo_packs_7 (by decide) ?_
  refine lv_isub hx hb d_MMo_packs_8 ?_
  obtain ⟨i_1, hf⟩ := ckI_inv hf
  refine va_iald hx hb hw.2.1 hw.1 1 0 rfl rfl i_1 d_MMo_packs_9 ?_
  refine lv_bipush (v := (15 : Int32)) hx hb d_MMo_packs_10 (by decide) ?_
  refine lv_iand hx hb d_MMo_packs_12 ?_
  refine lv_topi (fun x_2 ex_2 => ?_)
  have hf := hf.trans (nm_eq ex_2)
  refine lv_istore (lv' := [(4, .int x_2), (0, .ref (a 0)), (1, .int x1), (2, .int x2), (3, .ref (a 4))]) hx hb d_MMo_packs_13 hl (by decide) rfl (fun ls hl => ?_)
  refine lv_iload hx hb d_MMo_packs_15 (lv_at hl 0 rfl) ?_
  refine lv_bipush (v := (9 : Int32)) hx hb d_MMo_packs_17 (by decide) ?_
  refine jn_cut hf (fun (K_4 : Bool → Option (Bool × MS)) => ∀ (z_3 : Bool), ∀ (ls : Array Slot), lv_has ls 8 [(0, .ref (a 0)), (1, .int x1), (2, .int x2), (3, .ref (a 4))] → some F = K_4 z_3 → W p l e rm_MMo_packs st m args below meth c H locs 0 0 Q (F0 m 27 ls [.int (bI z_3)])) ?_ ?_
  · intro z_3 ls hl hf
    refine lv_istore (lv' := [(5, .int (bI z_3)), (0, .ref (a 0)), (1, .int x1), (2, .int x2), (3, .ref (a 4))]) hx hb d_MMo_packs_27 hl (by decide) rfl (fun ls hl => ?_)
    refine lv_iconst (v := (0 : Int32)) hx hb d_MMo_packs_29 (by decide) ?_
    refine lv_istore (lv' := [(6, .int (0 : Int32)), (5, .int (bI z_3)), (0, .ref (a 0)), (1, .int x1), (2, .int x2), (3, .ref (a 4))]) hx hb d_MMo_packs_30 hl (by decide) rfl (fun ls hl => ?_)
    refine jn_cut hf (fun (K_6 : MS → Option (Bool × MS)) => ∀ (u_5 : MS), ∀ (H : Heap) (locs : List Loc), zW D clM (tyM k) nwM (mW a k) A st u_5 H → va_S A st.heap H locs → ∀ (ls : Array Slot), lv_has ls 8 [(0, .ref (a 0)), (1, .int x1), (2, .int x2), (3, .ref (a 4)), (5, .int (bI z_3))] → some F = K_6 u_5 → W p l e rm_MMo_packs st m args below meth c H locs 0 0 Q (F0 m 50 ls [])) ?_ ?_
    · intro u_5 H locs hw hS ls hl hf
      refine lv_iconst (v := (0 : Int32)) hx hb d_MMo_packs_50 (by decide) ?_
      refine lv_istore (lv' := [(6, .int (0 : Int32)), (0, .ref (a 0)), (1, .int x1), (2, .int x2), (3, .ref (a 4)), (5, .int (bI z_3))]) hx hb d_MMo_packs_51 hl (by decide) rfl (fun ls hl => ?_)
      refine lp_cut (fun (_ : Nat) (L_10 : Bool → Int32 → MS → Option (Bool × MS)) => ∀ (z_7 : Bool) (x_8 : Int32) (u_9 : MS), ∀ (H : Heap) (locs : List Loc), zW D clM (tyM k) nwM (mW a k) A st u_9 H → va_S A st.heap H locs → ∀ (ls : Array Slot), lv_has ls 8 [(0, .ref (a 0)), (1, .int x1), (2, .int x2), (3, .ref (a 4)), (5, .int (bI z_7)), (6, .int x_8)] → some F = L_10 z_7 x_8 u_9 → W p l e rm_MMo_packs st m args below meth c H locs 0 0 Q (F0 m 53 ls [])) ?_ ?_ fuelM z_3 (0 : Int32) u_5 _ _ hw hS _ (lv_sub hl [1, 2, 3, 4, 5, 0] rfl) hf
      · intro _ _ _ _ _ _ _ _ _ hf; cases hf
      · intro _ L_10 hL_10 z_7 x_8 u_9 H locs hw hS ls hl hf
        unfold g_MMo_packs_53 at hf
        refine lv_iload hx hb d_MMo_packs_53 (lv_at hl 5 rfl) ?_
        refine lv_iconst (v := (2 : Int32)) hx hb d_MMo_packs_55 (by decide) ?_
        refine lv_iload_n hx hb d_MMo_packs_56 rfl (lv_at hl 2 rfl) ?_
        refine lv_imul hx hb d_MMo_packs_57 ?_
        refine lv_iconst (v := (1 : Int32)) hx hb d_MMo_packs_58 (by decide) ?_
        refine lv_isub hx hb d_MMo_packs_59 ?_
        refine lv_icmp_ge (tgt := 130) hx hb d_MMo_packs_60 (by decide) (fun c_11 => ?_) (fun c_11 => ?_)
        · have hf := hf.trans (if_pos c_11)
          refine lv_iload hx hb d_MMo_packs_130 (lv_at hl 4 rfl) ?_
          exact hret z_7 _ _ _ _ _ d_MMo_packs_132 hw hS (Option.some.inj hf)
        · have hf := hf.trans (if_neg c_11)
          refine lv_aload_n hx hb d_MMo_packs_63 rfl (lv_at hl 0 rfl) ?_
          refine va_get (v := .ref (a 1)) hx hb hts iM_Mo hown hw.2.1 hw.1 0 rfl rfl 0 (by decide) (hts _ kM_Mo_7) (fun _ h => h) rfl d_MMo_packs_64 ?_
          refine lv_iload_n hx hb d_MMo_packs_67 rfl (lv_at hl 1 rfl) ?_
          refine lv_iload_n hx hb d_MMo_packs_68 rfl (lv_at hl 2 rfl) ?_
          refine lv_iadd hx hb d_MMo_packs_69 ?_
          refine lv_iconst (v := (1 : Int32)) hx hb d_MMo_packs_70 (by decide) ?_
          refine lv_isub hx hb d_MMo_packs_71 ?_
          refine lv_iload hx hb d_MMo_packs_72 (lv_at hl 5 rfl) ?_
          refine lv_iconst (v := (1 : Int32)) hx hb d_MMo_packs_74 (by decide) ?_
          refine lv_iadd hx hb d_MMo_packs_75 ?_
          refine lv_iconst (v := (2 : Int32)) hx hb d_MMo_packs_76 (by decide) ?_
          refine lv_idiv hx hb d_MMo_packs_77 (by decide) ?_
          refine lv_isub hx hb d_MMo_packs_78 ?_
          obtain ⟨i_12, hf⟩ := ckI_inv hf
          refine va_iald hx hb hw.2.1 hw.1 1 0 rfl rfl i_12 d_MMo_packs_79 ?_
          refine lv_topi (fun x_13 ex_13 => ?_)
          have hf := hf.trans (nm_eq ex_13)
          refine lv_istore (lv' := [(7, .int x_13), (0, .ref (a 0)), (1, .int x1), (2, .int x2), (3, .ref (a 4)), (5, .int (bI z_7)), (6, .int x_8)]) hx hb d_MMo_packs_80 hl (by decide) rfl (fun ls hl => ?_)
          refine lv_aload_n hx hb d_MMo_packs_82 rfl (lv_at hl 4 rfl) ?_
          refine lv_iload hx hb d_MMo_packs_83 (lv_at hl 6 rfl) ?_
          refine lv_iload hx hb d_MMo_packs_85 (lv_at hl 6 rfl) ?_
          refine lv_iconst (v := (2 : Int32)) hx hb d_MMo_packs_87 (by decide) ?_
          refine lv_irem hx hb d_MMo_packs_88 (by decide) ?_
          refine jn_cut hf (fun (K_15 : Int32 → Option (Bool × MS)) => ∀ (x_14 : Int32), ∀ (ls : Array Slot), lv_has ls 8 [(0, .ref (a 0)), (1, .int x1), (2, .int x2), (3, .ref (a 4)), (5, .int (bI z_7)), (6, .int x_8)] → some F = K_15 x_14 → W p l e rm_MMo_packs st m args below meth c H locs 0 0 Q (F0 m 104 ls [.int x_14, .int x_8, .ref (a 4)])) ?_ ?_
          · intro x_14 ls hl hf
            obtain ⟨i_17, hf⟩ := ckI_inv hf
            refine z_iast (u' := msA u_9 4 (Int32.toNatClampNeg x_8) x_14) hx hb hw hS 4 3 rfl rfl i_17 rfl d_MMo_packs_104 (fun u_16 H locs eu_16 hw hS => ?_)
            have hf := hf.trans (nm_eq eu_16)
            refine lv_iload hx hb d_MMo_packs_105 (lv_at hl 4 rfl) ?_
            refine lv_aload_n hx hb d_MMo_packs_107 rfl (lv_at hl 3 rfl) ?_
            refine lv_iload hx hb d_MMo_packs_108 (lv_at hl 5 rfl) ?_
            obtain ⟨i_18, hf⟩ := ckI_inv hf
            refine va_iald hx hb hw.2.1 hw.1 4 3 rfl rfl i_18 d_MMo_packs_110 ?_
            refine lv_bipush (v := (10 : Int32)) hx hb d_MMo_packs_111 (by decide) ?_
            refine jn_cut hf (fun (K_20 : Bool → Option (Bool × MS)) => ∀ (z_19 : Bool), ∀ (ls : Array Slot), lv_has ls 8 [(0, .ref (a 0)), (1, .int x1), (2, .int x2), (3, .ref (a 4)), (6, .int x_8)] → some F = K_20 z_19 → W p l e rm_MMo_packs st m args below meth c H locs 0 0 Q (F0 m 121 ls [.int (bI z_19), .int (bI z_7)])) ?_ ?_
            · intro z_19 ls hl hf
              refine lv_iand hx hb d_MMo_packs_121 ?_
              refine z_iandz ?_
              refine z_topz (fun z_21 ez_21 => ?_)
              have hf := hf.trans (nm_eq ez_21)
              refine lv_istore (lv' := [(5, .int (bI z_21)), (0, .ref (a 0)), (1, .int x1), (2, .int x2), (3, .ref (a 4)), (6, .int x_8)]) hx hb d_MMo_packs_122 hl (by decide) rfl (fun ls hl => ?_)
              obtain ⟨x_22, ex_22⟩ : ∃ y : Int32, y = x_8 + (1 : Int32) := ⟨_, rfl⟩
              have hf := hf.trans (nm_eq ex_22)
              refine lv_iinc (v := x_22) (lv' := [(6, .int x_22), (5, .int (bI z_21)), (0, .ref (a 0)), (1, .int x1), (2, .int x2), (3, .ref (a 4))]) hx hb d_MMo_packs_124 hl (k := 5) rfl (by rw [ex_22]; rfl) (by decide) rfl (fun ls hl => ?_)
              refine lv_goto (tgt := 53) hx hb d_MMo_packs_127 (by decide) ?_
              exact hL_10 z_21 x_22 u_16 _ _ hw hS _ (lv_sub hl [2, 3, 4, 5, 1, 0] rfl) hf
            · intro K_20 hK_20 hf
              refine lv_icmp_ge (tgt := 120) hx hb d_MMo_packs_113 (by decide) (fun c_23 => ?_) (fun c_23 => ?_)
              · have hf := hf.trans (if_pos c_23)
                refine lv_iconst (v := (0 : Int32)) hx hb d_MMo_packs_120 (by decide) ?_
                exact hK_20 false _ (lv_sub hl [0, 1, 2, 3, 5] rfl) hf
              · have hf := hf.trans (if_neg c_23)
                refine lv_iconst (v := (1 : Int32)) hx hb d_MMo_packs_116 (by decide) ?_
                refine lv_goto (tgt := 121) hx hb d_MMo_packs_117 (by decide) ?_
                exact hK_20 true _ (lv_sub hl [0, 1, 2, 3, 5] rfl) hf
          · intro K_15 hK_15 hf
            refine lv_if_ne (tgt := 99) hx hb d_MMo_packs_89 (by decide) (fun c_24 => ?_) (fun c_24 => ?_)
            · have hf := hf.trans (if_neg c_24)
              refine lv_iload hx hb d_MMo_packs_99 (lv_at hl 0 rfl) ?_
              refine lv_bipush (v := (15 : Int32)) hx hb d_MMo_packs_101 (by decide) ?_
              refine lv_iand hx hb d_MMo_packs_103 ?_
              exact hK_15 (x_13 &&& (15 : Int32)) _ (lv_sub hl [1, 2, 3, 4, 5, 6] rfl) hf
            · have hf := hf.trans (if_pos c_24)
              refine lv_iload hx hb d_MMo_packs_92 (lv_at hl 0 rfl) ?_
              refine lv_iconst (v := (4 : Int32)) hx hb d_MMo_packs_94 (by decide) ?_
              refine lv_ishr hx hb d_MMo_packs_95 ?_
              refine lv_goto (tgt := 104) hx hb d_MMo_packs_96 (by decide) ?_
              exact hK_15 (x_13 >>> ((4 : Int32) &&& 31)) _ (lv_sub hl [1, 2, 3, 4, 5, 6] rfl) hf
    · intro K_6 hK_6 hf
      refine lp_cut (fun (_ : Nat) (L_27 : Int32 → MS → Option (Bool × MS)) => ∀ (x_25 : Int32) (u_26 : MS), ∀ (H : Heap) (locs : List Loc), zW D clM (tyM k) nwM (mW a k) A st u_26 H → va_S A st.heap H locs → ∀ (ls : Array Slot), lv_has ls 8 [(0, .ref (a 0)), (1, .int x1), (2, .int x2), (3, .ref (a 4)), (5, .int (bI z_3)), (6, .int x_25)] → some F = L_27 x_25 u_26 → W p l e rm_MMo_packs st m args below meth c H locs 0 0 Q (F0 m 32 ls [])) ?_ ?_ fuelM (0 : Int32) u0 _ _ hw hS _ (lv_sub hl [2, 3, 4, 5, 1, 0] rfl) hf
      · intro _ _ _ _ _ _ _ _ hf; cases hf
      · intro _ L_27 hL_27 x_25 u_26 H locs hw hS ls hl hf
        unfold g_MMo_packs_32 at hf
        refine lv_iload hx hb d_MMo_packs_32 (lv_at hl 5 rfl) ?_
        refine lv_bipush (v := (32 : Int32)) hx hb d_MMo_packs_34 (by decide) ?_
        refine lv_icmp_ge (tgt := 50) hx hb d_MMo_packs_36 (by decide) (fun c_28 => ?_) (fun c_28 => ?_)
        · have hf := hf.trans (if_pos c_28)
          exact hK_6 u_26 _ _ hw hS _ (lv_sub hl [0, 1, 2, 3, 4] rfl) hf
        · have hf := hf.trans (if_neg c_28)
          refine lv_aload_n hx hb d_MMo_packs_39 rfl (lv_at hl 3 rfl) ?_
          refine lv_iload hx hb d_MMo_packs_40 (lv_at hl 5 rfl) ?_
          refine lv_iconst (v := (0 : Int32)) hx hb d_MMo_packs_42 (by decide) ?_
          obtain ⟨i_30, hf⟩ := ckI_inv hf
          refine z_iast (u' := msA u_26 4 (Int32.toNatClampNeg x_25) (0 : Int32)) hx hb hw hS 4 3 rfl rfl i_30 rfl d_MMo_packs_43 (fun u_29 H locs eu_29 hw hS => ?_)
          have hf := hf.trans (nm_eq eu_29)
          obtain ⟨x_31, ex_31⟩ : ∃ y : Int32, y = x_25 + (1 : Int32) := ⟨_, rfl⟩
          have hf := hf.trans (nm_eq ex_31)
          refine lv_iinc (v := x_31) (lv' := [(6, .int x_31), (0, .ref (a 0)), (1, .int x1), (2, .int x2), (3, .ref (a 4)), (5, .int (bI z_3))]) hx hb d_MMo_packs_44 hl (k := 5) rfl (by rw [ex_31]; rfl) (by decide) rfl (fun ls hl => ?_)
          refine lv_goto (tgt := 32) hx hb d_MMo_packs_47 (by decide) ?_
          exact hL_27 x_31 u_29 _ _ hw hS _ (lv_sub hl [1, 2, 3, 4, 5, 0] rfl) hf
  · intro K_4 hK_4 hf
    refine lv_icmp_le (tgt := 26) hx hb d_MMo_packs_19 (by decide) (fun c_32 => ?_) (fun c_32 => ?_)
    · have hf := hf.trans (if_pos c_32)
      refine lv_iconst (v := (0 : Int32)) hx hb d_MMo_packs_26 (by decide) ?_
      exact hK_4 false _ (lv_sub hl [1, 2, 3, 4] rfl) hf
    · have hf := hf.trans (if_neg c_32)
      refine lv_iconst (v := (1 : Int32)) hx hb d_MMo_packs_22 (by decide) ?_
      refine lv_goto (tgt := 27) hx hb d_MMo_packs_23 (by decide) ?_
      exact hK_4 true _ (lv_sub hl [1, 2, 3, 4] rfl) hf
set_option maxHeartbeats 4000000 in
set_option maxRecDepth 100000 in
theorem c_MMo_packs_5 (l : Launch) (D : va_G) (a : Nat → Nat) (k : Nat → ClassId) (u0 : MS) (x1 : Int32) (x2 : Int32) (F : Bool × MS) (hf : f_MMo_packs 5 u0 x1 x2 = some F) : zMz l y_MMo_packs w_MMo_packs rm_MMo_packs D clM (tyM k) nwM (mW a k) [.ref (a 0), .int x1, .int x2, .ref (a 5)] u0 F := by
  have hf := hf.symm
  unfold f_MMo_packs at hf
  refine zMz_of (cc := b_MMo_packs) (maxL := 8) (own := RM_Mo) (by decide) rfl rfl (Nat.le_of_ble_eq_true rfl) ?_
  intro p e R st m args below meth c A H locs Q ls hR hx hb hml hown hts hw hS hret hl
  subst hR
  have hcs : 0 ≤ (rm_MMo_packs).cells ∧ 0 ≤ (rm_MMo_packs).slots := ⟨Nat.zero_le _, Nat.zero_le _⟩
  have hl : lv_has ls 8 [(0, .ref (a 0)), (1, .int x1), (2, .int x2), (3, .ref (a 5))] := hl
  refine lv_aload_n hx hb d_MMo_packs_0 rfl (lv_at hl 0 rfl) ?_
  refine va_get (v := .ref (a 1)) hx hb hts iM_Mo hown hw.2.1 hw.1 0 rfl rfl 0 (by decide) (hts _ kM_Mo_7) (fun _ h => h) rfl d_MMo_packs_1 ?_
  refine lv_iload_n hx hb d_MMo_packs_4 rfl (lv_at hl 1 rfl) ?_
  refine lv_iload_n hx hb d_MMo_packs_5 rfl (lv_at hl 2 rfl) ?_
  refine lv_iadd hx hb d_MMo_packs_6 ?_
  refine lv_iconst (v := (1 : Int32)) hx hb d_MMo_packs_7 (by decide) ?_
  refine lv_isub hx hb d_MMo_packs_8 ?_
  obtain ⟨i_1, hf⟩ := ckI_inv hf
  refine va_iald hx hb hw.2.1 hw.1 1 0 rfl rfl i_1 d_MMo_packs_9 ?_
  refine lv_bipush (v := (15 : Int32)) hx hb d_MMo_packs_10 (by decide) ?_
  refine lv_iand hx hb d_MMo_packs_12 ?_
  refine lv_topi (fun x_2 ex_2 => ?_)
  have hf := hf.trans (nm_eq ex_2)
  refine lv_istore (lv' := [(4, .int x_2), (0, .ref (a 0)), (1, .int x1), (2, .int x2), (3, .ref (a 5))]) hx hb d_MMo_packs_13 hl (by decide) rfl (fun ls hl => ?_)
  refine lv_iload hx hb d_MMo_packs_15 (lv_at hl 0 rfl) ?_
  refine lv_bipush (v := (9 : Int32)) hx hb d_MMo_packs_17 (by decide) ?_
  refine jn_cut hf (fun (K_4 : Bool → Option (Bool × MS)) => ∀ (z_3 : Bool), ∀ (ls : Array Slot), lv_has ls 8 [(0, .ref (a 0)), (1, .int x1), (2, .int x2), (3, .ref (a 5))] → some F = K_4 z_3 → W p l e rm_MMo_packs st m args below meth c H locs 0 0 Q (F0 m 27 ls [.int (bI z_3)])) ?_ ?_
  · intro z_3 ls hl hf
    refine lv_istore (lv' := [(5, .int (bI z_3)), (0, .ref (a 0)), (1, .int x1), (2, .int x2), (3, .ref (a 5))]) hx hb d_MMo_packs_27 hl (by decide) rfl (fun ls hl => ?_)
    refine lv_iconst (v := (0 : Int32)) hx hb d_MMo_packs_29 (by decide) ?_
    refine lv_istore (lv' := [(6, .int (0 : Int32)), (5, .int (bI z_3)), (0, .ref (a 0)), (1, .int x1), (2, .int x2), (3, .ref (a 5))]) hx hb d_MMo_packs_30 hl (by decide) rfl (fun ls hl => ?_)
    refine jn_cut hf (fun (K_6 : MS → Option (Bool × MS)) => ∀ (u_5 : MS), ∀ (H : Heap) (locs : List Loc), zW D clM (tyM k) nwM (mW a k) A st u_5 H → va_S A st.heap H locs → ∀ (ls : Array Slot), lv_has ls 8 [(0, .ref (a 0)), (1, .int x1), (2, .int x2), (3, .ref (a 5)), (5, .int (bI z_3))] → some F = K_6 u_5 → W p l e rm_MMo_packs st m args below meth c H locs 0 0 Q (F0 m 50 ls [])) ?_ ?_
    · intro u_5 H locs hw hS ls hl hf
      refine lv_iconst (v := (0 : Int32)) hx hb d_MMo_packs_50 (by decide) ?_
      refine lv_istore (lv' := [(6, .int (0 : Int32)), (0, .ref (a 0)), (1, .int x1), (2, .int x2), (3, .ref (a 5)), (5, .int (bI z_3))]) hx hb d_MMo_packs_51 hl (by decide) rfl (fun ls hl => ?_)
      refine lp_cut (fun (_ : Nat) (L_10 : Bool → Int32 → MS → Option (Bool × MS)) => ∀ (z_7 : Bool) (x_8 : Int32) (u_9 : MS), ∀ (H : Heap) (locs : List Loc), zW D clM (tyM k) nwM (mW a k) A st u_9 H → va_S A st.heap H locs → ∀ (ls : Array Slot), lv_has ls 8 [(0, .ref (a 0)), (1, .int x1), (2, .int x2), (3, .ref (a 5)), (5, .int (bI z_7)), (6, .int x_8)] → some F = L_10 z_7 x_8 u_9 → W p l e rm_MMo_packs st m args below meth c H locs 0 0 Q (F0 m 53 ls [])) ?_ ?_ fuelM z_3 (0 : Int32) u_5 _ _ hw hS _ (lv_sub hl [1, 2, 3, 4, 5, 0] rfl) hf
      · intro _ _ _ _ _ _ _ _ _ hf; cases hf
      · intro _ L_10 hL_10 z_7 x_8 u_9 H locs hw hS ls hl hf
        unfold g_MMo_packs_53 at hf
        refine lv_iload hx hb d_MMo_packs_53 (lv_at hl 5 rfl) ?_
        refine lv_iconst (v := (2 : Int32)) hx hb d_MMo_packs_55 (by decide) ?_
        refine lv_iload_n hx hb d_MMo_packs_56 rfl (lv_at hl 2 rfl) ?_
        refine lv_imul hx hb d_MMo_packs_57 ?_
        refine lv_iconst (v := (1 : Int32)) hx hb d_MMo_packs_58 (by decide) ?_
        refine lv_isub hx hb d_MMo_packs_59 ?_
        refine lv_icmp_ge (tgt := 130) hx hb d_MMo_packs_60 (by decide) (fun c_11 => ?_) (fun c_11 => ?_)
        · have hf := hf.trans (if_pos c_11)
          refine lv_iload hx hb d_MMo_packs_130 (lv_at hl 4 rfl) ?_
          exact hret z_7 _ _ _ _ _ d_MMo_packs_132 hw hS (Option.some.inj hf)
        · have hf := hf.trans (if_neg c_11)
          refine lv_aload_n hx hb d_MMo_packs_63 rfl (lv_at hl 0 rfl) ?_
          refine va_get (v := .ref (a 1)) hx hb hts iM_Mo hown hw.2.1 hw.1 0 rfl rfl 0 (by decide) (hts _ kM_Mo_7) (fun _ h => h) rfl d_MMo_packs_64 ?_
          refine lv_iload_n hx hb d_MMo_packs_67 rfl (lv_at hl 1 rfl) ?_
          refine lv_iload_n hx hb d_MMo_packs_68 rfl (lv_at hl 2 rfl) ?_
          refine lv_iadd hx hb d_MMo_packs_69 ?_
          refine lv_iconst (v := (1 : Int32)) hx hb d_MMo_packs_70 (by decide) ?_
          refine lv_isub hx hb d_MMo_packs_71 ?_
          refine lv_iload hx hb d_MMo_packs_72 (lv_at hl 5 rfl) ?_
          refine lv_iconst (v := (1 : Int32)) hx hb d_MMo_packs_74 (by decide) ?_
          refine lv_iadd hx hb d_MMo_packs_75 ?_
          refine lv_iconst (v := (2 : Int32)) hx hb d_MMo_packs_76 (by decide) ?_
          refine lv_idiv hx hb d_MMo_packs_77 (by decide) ?_
          refine lv_isub hx hb d_MMo_packs_78 ?_
          obtain ⟨i_12, hf⟩ := ckI_inv hf
          refine va_iald hx hb hw.2.1 hw.1 1 0 rfl rfl i_12 d_MMo_packs_79 ?_
          refine lv_topi (fun x_13 ex_13 => ?_)
          have hf := hf.trans (nm_eq ex_13)
          refine lv_istore (lv' := [(7, .int x_13), (0, .ref (a 0)), (1, .int x1), (2, .int x2), (3, .ref (a 5)), (5, .int (bI z_7)), (6, .int x_8)]) hx hb d_MMo_packs_80 hl (by decide) rfl (fun ls hl => ?_)
          refine lv_aload_n hx hb d_MMo_packs_82 rfl (lv_at hl 4 rfl) ?_
          refine lv_iload hx hb d_MMo_packs_83 (lv_at hl 6 rfl) ?_
          refine lv_iload hx hb d_MMo_packs_85 (lv_at hl 6 rfl) ?_
          refine lv_iconst (v := (2 : Int32)) hx hb d_MMo_packs_87 (by decide) ?_
          refine lv_irem hx hb d_MMo_packs_88 (by decide) ?_
          refine jn_cut hf (fun (K_15 : Int32 → Option (Bool × MS)) => ∀ (x_14 : Int32), ∀ (ls : Array Slot), lv_has ls 8 [(0, .ref (a 0)), (1, .int x1), (2, .int x2), (3, .ref (a 5)), (5, .int (bI z_7)), (6, .int x_8)] → some F = K_15 x_14 → W p l e rm_MMo_packs st m args below meth c H locs 0 0 Q (F0 m 104 ls [.int x_14, .int x_8, .ref (a 5)])) ?_ ?_
          · intro x_14 ls hl hf
            obtain ⟨i_17, hf⟩ := ckI_inv hf
            refine z_iast (u' := msA u_9 5 (Int32.toNatClampNeg x_8) x_14) hx hb hw hS 5 4 rfl rfl i_17 rfl d_MMo_packs_104 (fun u_16 H locs eu_16 hw hS => ?_)
            have hf := hf.trans (nm_eq eu_16)
            refine lv_iload hx hb d_MMo_packs_105 (lv_at hl 4 rfl) ?_
            refine lv_aload_n hx hb d_MMo_packs_107 rfl (lv_at hl 3 rfl) ?_
            refine lv_iload hx hb d_MMo_packs_108 (lv_at hl 5 rfl) ?_
            obtain ⟨i_18, hf⟩ := ckI_inv hf
            refine va_iald hx hb hw.2.1 hw.1 5 4 rfl rfl i_18 d_MMo_packs_110 ?_
            refine lv_bipush (v := (10 : Int32)) hx hb d_MMo_packs_111 (by decide) ?_
            refine jn_cut hf (fun (K_20 : Bool → Option (Bool × MS)) => ∀ (z_19 : Bool), ∀ (ls : Array Slot), lv_has ls 8 [(0, .ref (a 0)), (1, .int x1), (2, .int x2), (3, .ref (a 5)), (6, .int x_8)] → some F = K_20 z_19 → W p l e rm_MMo_packs st m args below meth c H locs 0 0 Q (F0 m 121 ls [.int (bI z_19), .int (bI z_7)])) ?_ ?_
            · intro z_19 ls hl hf
              refine lv_iand hx hb d_MMo_packs_121 ?_
              refine z_iandz ?_
              refine z_topz (fun z_21 ez_21 => ?_)
              have hf := hf.trans (nm_eq ez_21)
              refine lv_istore (lv' := [(5, .int (bI z_21)), (0, .ref (a 0)), (1, .int x1), (2, .int x2), (3, .ref (a 5)), (6, .int x_8)]) hx hb d_MMo_packs_122 hl (by decide) rfl (fun ls hl => ?_)
              obtain ⟨x_22, ex_22⟩ : ∃ y : Int32, y = x_8 + (1 : Int32) := ⟨_, rfl⟩
              have hf := hf.trans (nm_eq ex_22)
              refine lv_iinc (v := x_22) (lv' := [(6, .int x_22), (5, .int (bI z_21)), (0, .ref (a 0)), (1, .int x1), (2, .int x2), (3, .ref (a 5))]) hx hb d_MMo_packs_124 hl (k := 5) rfl (by rw [ex_22]; rfl) (by decide) rfl (fun ls hl => ?_)
              refine lv_goto (tgt := 53) hx hb d_MMo_packs_127 (by decide) ?_
              exact hL_10 z_21 x_22 u_16 _ _ hw hS _ (lv_sub hl [2, 3, 4, 5, 1, 0] rfl) hf
            · intro K_20 hK_20 hf
              refine lv_icmp_ge (tgt := 120) hx hb d_MMo_packs_113 (by decide) (fun c_23 => ?_) (fun c_23 => ?_)
              · have hf := hf.trans (if_pos c_23)
                refine lv_iconst (v := (0 : Int32)) hx hb d_MMo_packs_120 (by decide) ?_
                exact hK_20 false _ (lv_sub hl [0, 1, 2, 3, 5] rfl) hf
              · have hf := hf.trans (if_neg c_23)
                refine lv_iconst (v := (1 : Int32)) hx hb d_MMo_packs_116 (by decide) ?_
                refine lv_goto (tgt := 121) hx hb d_MMo_packs_117 (by decide) ?_
                exact hK_20 true _ (lv_sub hl [0, 1, 2, 3, 5] rfl) hf
          · intro K_15 hK_15 hf
            refine lv_if_ne (tgt := 99) hx hb d_MMo_packs_89 (by decide) (fun c_24 => ?_) (fun c_24 => ?_)
            · have hf := hf.trans (if_neg c_24)
              refine lv_iload hx hb d_MMo_packs_99 (lv_at hl 0 rfl) ?_
              refine lv_bipush (v := (15 : Int32)) hx hb d_MMo_packs_101 (by decide) ?_
              refine lv_iand hx hb d_MMo_packs_103 ?_
              exact hK_15 (x_13 &&& (15 : Int32)) _ (lv_sub hl [1, 2, 3, 4, 5, 6] rfl) hf
            · have hf := hf.trans (if_pos c_24)
              refine lv_iload hx hb d_MMo_packs_92 (lv_at hl 0 rfl) ?_
              refine lv_iconst (v := (4 : Int32)) hx hb d_MMo_packs_94 (by decide) ?_
              refine lv_ishr hx hb d_MMo_packs_95 ?_
              refine lv_goto (tgt := 104) hx hb d_MMo_packs_96 (by decide) ?_
              exact hK_15 (x_13 >>> ((4 : Int32) &&& 31)) _ (lv_sub hl [1, 2, 3, 4, 5, 6] rfl) hf
    · intro K_6 hK_6 hf
      refine lp_cut (fun (_ : Nat) (L_27 : Int32 → MS → Option (Bool × MS)) => ∀ (x_25 : Int32) (u_26 : MS), ∀ (H : Heap) (locs : List Loc), zW D clM (tyM k) nwM (mW a k) A st u_26 H → va_S A st.heap H locs → ∀ (ls : Array Slot), lv_has ls 8 [(0, .ref (a 0)), (1, .int x1), (2, .int x2), (3, .ref (a 5)), (5, .int (bI z_3)), (6, .int x_25)] → some F = L_27 x_25 u_26 → W p l e rm_MMo_packs st m args below meth c H locs 0 0 Q (F0 m 32 ls [])) ?_ ?_ fuelM (0 : Int32) u0 _ _ hw hS _ (lv_sub hl [2, 3, 4, 5, 1, 0] rfl) hf
      · intro _ _ _ _ _ _ _ _ hf; cases hf
      · intro _ L_27 hL_27 x_25 u_26 H locs hw hS ls hl hf
        unfold g_MMo_packs_32 at hf
        refine lv_iload hx hb d_MMo_packs_32 (lv_at hl 5 rfl) ?_
        refine lv_bipush (v := (32 : Int32)) hx hb d_MMo_packs_34 (by decide) ?_
        refine lv_icmp_ge (tgt := 50) hx hb d_MMo_packs_36 (by decide) (fun c_28 => ?_) (fun c_28 => ?_)
        · have hf := hf.trans (if_pos c_28)
          exact hK_6 u_26 _ _ hw hS _ (lv_sub hl [0, 1, 2, 3, 4] rfl) hf
        · have hf := hf.trans (if_neg c_28)
          refine lv_aload_n hx hb d_MMo_packs_39 rfl (lv_at hl 3 rfl) ?_
          refine lv_iload hx hb d_MMo_packs_40 (lv_at hl 5 rfl) ?_
          refine lv_iconst (v := (0 : Int32)) hx hb d_MMo_packs_42 (by decide) ?_
          obtain ⟨i_30, hf⟩ := ckI_inv hf
          refine z_iast (u' := msA u_26 5 (Int32.toNatClampNeg x_25) (0 : Int32)) hx hb hw hS 5 4 rfl rfl i_30 rfl d_MMo_packs_43 (fun u_29 H locs eu_29 hw hS => ?_)
          have hf := hf.trans (nm_eq eu_29)
          obtain ⟨x_31, ex_31⟩ : ∃ y : Int32, y = x_25 + (1 : Int32) := ⟨_, rfl⟩
          have hf := hf.trans (nm_eq ex_31)
          refine lv_iinc (v := x_31) (lv' := [(6, .int x_31), (0, .ref (a 0)), (1, .int x1), (2, .int x2), (3, .ref (a 5)), (5, .int (bI z_3))]) hx hb d_MMo_packs_44 hl (k := 5) rfl (by rw [ex_31]; rfl) (by decide) rfl (fun ls hl => ?_)
          refine lv_goto (tgt := 32) hx hb d_MMo_packs_47 (by decide) ?_
          exact hL_27 x_31 u_29 _ _ hw hS _ (lv_sub hl [1, 2, 3, 4, 5, 0] rfl) hf
  · intro K_4 hK_4 hf
    refine lv_icmp_le (tgt := 26) hx hb d_MMo_packs_19 (by decide) (fun c_32 => ?_) (fun c_32 => ?_)
    · have hf := hf.trans (if_pos c_32)
      refine lv_iconst (v := (0 : Int32)) hx hb d_MMo_packs_26 (by decide) ?_
      exact hK_4 false _ (lv_sub hl [1, 2, 3, 4] rfl) hf
    · have hf := hf.trans (if_neg c_32)
      refine lv_iconst (v := (1 : Int32)) hx hb d_MMo_packs_22 (by decide) ?_
      refine lv_goto (tgt := 27) hx hb d_MMo_packs_23 (by decide) ?_
      exact hK_4 true _ (lv_sub hl [1, 2, 3, 4] rfl) hf
set_option maxHeartbeats 4000000 in
set_option maxRecDepth 100000 in
theorem c_MMo_isMinus (l : Launch) (D : va_G) (a : Nat → Nat) (k : Nat → ClassId) (u0 : MS) (x1 : Int32) (x2 : Int32) (F : Bool) (hf : f_MMo_isMinus u0 x1 x2 = some F) : zRz l y_MMo_isMinus w_MMo_isMinus rm_MMo_isMinus D clM (tyM k) nwM (mW a k) [.ref (a 0), .int x1, .int x2] u0 F := by
  have hf := hf.symm
  unfold f_MMo_isMinus at hf
  refine zRz_of (cc := b_MMo_isMinus) (maxL := 4) (own := RM_Mo) (by decide) rfl rfl (Nat.le_of_ble_eq_true rfl) ?_
  intro p e R st m args below meth c H locs Q ls hR hx hb hml hown hts hw hret hl
  subst hR
  have hcs : 0 ≤ (rm_MMo_isMinus).cells ∧ 0 ≤ (rm_MMo_isMinus).slots := ⟨Nat.zero_le _, Nat.zero_le _⟩
  have hl : lv_has ls 4 [(0, .ref (a 0)), (1, .int x1), (2, .int x2)] := hl
  refine lv_aload_n hx hb d_MMo_isMinus_0 rfl (lv_at hl 0 rfl) ?_
  refine va_get (v := .ref (a 1)) hx hb hts iM_Mo hown hw.2.1 hw.1 0 rfl rfl 0 (by decide) (hts _ kM_Mo_7) (fun _ h => h) rfl d_MMo_isMinus_1 ?_
  refine lv_iload_n hx hb d_MMo_isMinus_4 rfl (lv_at hl 1 rfl) ?_
  refine lv_iload_n hx hb d_MMo_isMinus_5 rfl (lv_at hl 2 rfl) ?_
  refine lv_iadd hx hb d_MMo_isMinus_6 ?_
  refine lv_iconst (v := (1 : Int32)) hx hb d_MMo_isMinus_7 (by decide) ?_
  refine lv_isub hx hb d_MMo_isMinus_8 ?_
  obtain ⟨i_1, hf⟩ := ckI_inv hf
  refine va_iald hx hb hw.2.1 hw.1 1 0 rfl rfl i_1 d_MMo_isMinus_9 ?_
  refine lv_bipush (v := (15 : Int32)) hx hb d_MMo_isMinus_10 (by decide) ?_
  refine lv_iand hx hb d_MMo_isMinus_12 ?_
  refine lv_topi (fun x_2 ex_2 => ?_)
  have hf := hf.trans (nm_eq ex_2)
  refine lv_istore_n (lv' := [(3, .int x_2), (0, .ref (a 0)), (1, .int x1), (2, .int x2)]) hx hb d_MMo_isMinus_13 rfl hl (by decide) rfl (fun ls hl => ?_)
  refine lv_iload_n hx hb d_MMo_isMinus_14 rfl (lv_at hl 0 rfl) ?_
  refine lv_bipush (v := (11 : Int32)) hx hb d_MMo_isMinus_15 (by decide) ?_
  refine lv_icmp_eq (tgt := 26) hx hb d_MMo_isMinus_17 (by decide) (fun c_3 => ?_) (fun c_3 => ?_)
  · have hf := hf.trans (if_pos c_3)
    refine lv_iconst (v := (1 : Int32)) hx hb d_MMo_isMinus_26 (by decide) ?_
    refine lv_goto (tgt := 31) hx hb d_MMo_isMinus_27 (by decide) ?_
    exact hret true _ _ d_MMo_isMinus_31 (Option.some.inj hf)
  · have hf := hf.trans (if_neg c_3)
    refine lv_iload_n hx hb d_MMo_isMinus_20 rfl (lv_at hl 0 rfl) ?_
    refine lv_bipush (v := (13 : Int32)) hx hb d_MMo_isMinus_21 (by decide) ?_
    refine lv_icmp_ne (tgt := 30) hx hb d_MMo_isMinus_23 (by decide) (fun c_4 => ?_) (fun c_4 => ?_)
    · have hf := hf.trans (if_neg c_4)
      refine lv_iconst (v := (0 : Int32)) hx hb d_MMo_isMinus_30 (by decide) ?_
      exact hret false _ _ d_MMo_isMinus_31 (Option.some.inj hf)
    · have hf := hf.trans (if_pos c_4)
      refine lv_iconst (v := (1 : Int32)) hx hb d_MMo_isMinus_26 (by decide) ?_
      refine lv_goto (tgt := 31) hx hb d_MMo_isMinus_27 (by decide) ?_
      exact hret true _ _ d_MMo_isMinus_31 (Option.some.inj hf)
set_option maxHeartbeats 4000000 in
set_option maxRecDepth 100000 in
theorem c_MMo_value_4 (l : Launch) (D : va_G) (a : Nat → Nat) (k : Nat → ClassId) (u0 : MS) (z1 : Bool) (F : Int64) (hf : f_MMo_value 4 u0 z1 = some F) : zRl l y_MMo_value w_MMo_value rm_MMo_value D clM (tyM k) nwM (mW a k) [.ref (a 4), .int (bI z1)] u0 F := by
  have hf := hf.symm
  unfold f_MMo_value at hf
  refine zRl_of (cc := b_MMo_value) (maxL := 5) (own := RM_Mo) (by decide) rfl rfl (Nat.le_of_ble_eq_true rfl) ?_
  intro p e R st m args below meth c H locs Q ls hR hx hb hml hown hts hw hret hl
  subst hR
  have hcs : 0 ≤ (rm_MMo_value).cells ∧ 0 ≤ (rm_MMo_value).slots := ⟨Nat.zero_le _, Nat.zero_le _⟩
  have hl : lv_has ls 5 [(0, .ref (a 4)), (1, .int (bI z1))] := hl
  refine lv_lconst (v := 0) hx hb d_MMo_value_0 (by decide) ?_
  refine lv_lstore_n (lv' := [(2, .long (0 : Int64)), (0, .ref (a 4)), (1, .int (bI z1))]) hx hb d_MMo_value_1 rfl hl (by decide) rfl (fun ls hl => ?_)
  refine lv_bipush (v := (17 : Int32)) hx hb d_MMo_value_2 (by decide) ?_
  refine lv_istore (lv' := [(4, .int (17 : Int32)), (2, .long (0 : Int64)), (0, .ref (a 4)), (1, .int (bI z1))]) hx hb d_MMo_value_4 hl (by decide) rfl (fun ls hl => ?_)
  refine jn_cut hf (fun (K_2 : Int64 → Option (Int64)) => ∀ (y_1 : Int64), ∀ (ls : Array Slot), lv_has ls 5 [(1, .int (bI z1)), (2, .long y_1)] → some F = K_2 y_1 → W p l e rm_MMo_value st m args below meth c H locs 0 0 Q (F0 m 29 ls [])) ?_ ?_
  · intro y_1 ls hl hf
    refine lv_iload_n hx hb d_MMo_value_29 rfl (lv_at hl 0 rfl) ?_
    refine lv_if_eq (tgt := 38) hx hb d_MMo_value_30 (by decide) (fun c_3 => ?_) (fun c_3 => ?_)
    · have hf := hf.trans (if_pos c_3)
      refine lv_lload_n hx hb d_MMo_value_38 rfl (lv_at hl 1 rfl) ?_
      exact hret y_1 _ _ d_MMo_value_39 (Option.some.inj hf)
    · have hf := hf.trans (if_neg c_3)
      refine lv_lload_n hx hb d_MMo_value_33 rfl (lv_at hl 1 rfl) ?_
      refine lv_lneg hx hb d_MMo_value_34 ?_
      refine lv_goto (tgt := 39) hx hb d_MMo_value_35 (by decide) ?_
      exact hret (-y_1) _ _ d_MMo_value_39 (Option.some.inj hf)
  · intro K_2 hK_2 hf
    refine lp_cut (fun (_ : Nat) (L_6 : Int64 → Int32 → Option (Int64)) => ∀ (y_4 : Int64) (x_5 : Int32), ∀ (ls : Array Slot), lv_has ls 5 [(0, .ref (a 4)), (1, .int (bI z1)), (2, .long y_4), (4, .int x_5)] → some F = L_6 y_4 x_5 → W p l e rm_MMo_value st m args below meth c H locs 0 0 Q (F0 m 6 ls [])) ?_ ?_ fuelM (0 : Int64) (17 : Int32) _ (lv_sub hl [2, 3, 1, 0] rfl) hf
    · intro _ _ _ _ hf; cases hf
    · intro _ L_6 hL_6 y_4 x_5 ls hl hf
      unfold g_MMo_value_6 at hf
      refine lv_iload hx hb d_MMo_value_6 (lv_at hl 3 rfl) ?_
      refine lv_if_lt (tgt := 29) hx hb d_MMo_value_8 (by decide) (fun c_7 => ?_) (fun c_7 => ?_)
      · have hf := hf.trans (if_pos c_7)
        exact hK_2 y_4 _ (lv_sub hl [1, 2] rfl) hf
      · have hf := hf.trans (if_neg c_7)
        refine lv_ldc2 (v := (10 : Int64)) hx hb hown (hts _ kM_Mo_206) d_MMo_value_11 ?_
        refine lv_lload_n hx hb d_MMo_value_14 rfl (lv_at hl 2 rfl) ?_
        refine lv_lmul hx hb d_MMo_value_15 ?_
        refine lv_aload_n hx hb d_MMo_value_16 rfl (lv_at hl 0 rfl) ?_
        refine lv_iload hx hb d_MMo_value_17 (lv_at hl 3 rfl) ?_
        obtain ⟨i_8, hf⟩ := ckI_inv hf
        refine va_iald hx hb hw.2.1 hw.1 4 3 rfl rfl i_8 d_MMo_value_19 ?_
        refine lv_i2l (v := Int32.toInt64 (mA u0 4 (Int32.toNatClampNeg x_5))) hx hb d_MMo_value_20 rfl ?_
        refine lv_ladd hx hb d_MMo_value_21 ?_
        refine lv_topl (fun y_9 ey_9 => ?_)
        have hf := hf.trans (nm_eq ey_9)
        refine lv_lstore_n (lv' := [(2, .long y_9), (0, .ref (a 4)), (1, .int (bI z1)), (4, .int x_5)]) hx hb d_MMo_value_22 rfl hl (by decide) rfl (fun ls hl => ?_)
        obtain ⟨x_10, ex_10⟩ : ∃ y : Int32, y = x_5 + (-1 : Int32) := ⟨_, rfl⟩
        have hf := hf.trans (nm_eq ex_10)
        refine lv_iinc (v := x_10) (lv' := [(4, .int x_10), (2, .long y_9), (0, .ref (a 4)), (1, .int (bI z1))]) hx hb d_MMo_value_23 hl (k := 3) rfl (by rw [ex_10]; rfl) (by decide) rfl (fun ls hl => ?_)
        refine lv_goto (tgt := 6) hx hb d_MMo_value_26 (by decide) ?_
        exact hL_6 y_9 x_10 _ (lv_sub hl [2, 3, 1, 0] rfl) hf
set_option maxHeartbeats 4000000 in
set_option maxRecDepth 100000 in
theorem c_MMo_value_5 (l : Launch) (D : va_G) (a : Nat → Nat) (k : Nat → ClassId) (u0 : MS) (z1 : Bool) (F : Int64) (hf : f_MMo_value 5 u0 z1 = some F) : zRl l y_MMo_value w_MMo_value rm_MMo_value D clM (tyM k) nwM (mW a k) [.ref (a 5), .int (bI z1)] u0 F := by
  have hf := hf.symm
  unfold f_MMo_value at hf
  refine zRl_of (cc := b_MMo_value) (maxL := 5) (own := RM_Mo) (by decide) rfl rfl (Nat.le_of_ble_eq_true rfl) ?_
  intro p e R st m args below meth c H locs Q ls hR hx hb hml hown hts hw hret hl
  subst hR
  have hcs : 0 ≤ (rm_MMo_value).cells ∧ 0 ≤ (rm_MMo_value).slots := ⟨Nat.zero_le _, Nat.zero_le _⟩
  have hl : lv_has ls 5 [(0, .ref (a 5)), (1, .int (bI z1))] := hl
  refine lv_lconst (v := 0) hx hb d_MMo_value_0 (by decide) ?_
  refine lv_lstore_n (lv' := [(2, .long (0 : Int64)), (0, .ref (a 5)), (1, .int (bI z1))]) hx hb d_MMo_value_1 rfl hl (by decide) rfl (fun ls hl => ?_)
  refine lv_bipush (v := (17 : Int32)) hx hb d_MMo_value_2 (by decide) ?_
  refine lv_istore (lv' := [(4, .int (17 : Int32)), (2, .long (0 : Int64)), (0, .ref (a 5)), (1, .int (bI z1))]) hx hb d_MMo_value_4 hl (by decide) rfl (fun ls hl => ?_)
  refine jn_cut hf (fun (K_2 : Int64 → Option (Int64)) => ∀ (y_1 : Int64), ∀ (ls : Array Slot), lv_has ls 5 [(1, .int (bI z1)), (2, .long y_1)] → some F = K_2 y_1 → W p l e rm_MMo_value st m args below meth c H locs 0 0 Q (F0 m 29 ls [])) ?_ ?_
  · intro y_1 ls hl hf
    refine lv_iload_n hx hb d_MMo_value_29 rfl (lv_at hl 0 rfl) ?_
    refine lv_if_eq (tgt := 38) hx hb d_MMo_value_30 (by decide) (fun c_3 => ?_) (fun c_3 => ?_)
    · have hf := hf.trans (if_pos c_3)
      refine lv_lload_n hx hb d_MMo_value_38 rfl (lv_at hl 1 rfl) ?_
      exact hret y_1 _ _ d_MMo_value_39 (Option.some.inj hf)
    · have hf := hf.trans (if_neg c_3)
      refine lv_lload_n hx hb d_MMo_value_33 rfl (lv_at hl 1 rfl) ?_
      refine lv_lneg hx hb d_MMo_value_34 ?_
      refine lv_goto (tgt := 39) hx hb d_MMo_value_35 (by decide) ?_
      exact hret (-y_1) _ _ d_MMo_value_39 (Option.some.inj hf)
  · intro K_2 hK_2 hf
    refine lp_cut (fun (_ : Nat) (L_6 : Int64 → Int32 → Option (Int64)) => ∀ (y_4 : Int64) (x_5 : Int32), ∀ (ls : Array Slot), lv_has ls 5 [(0, .ref (a 5)), (1, .int (bI z1)), (2, .long y_4), (4, .int x_5)] → some F = L_6 y_4 x_5 → W p l e rm_MMo_value st m args below meth c H locs 0 0 Q (F0 m 6 ls [])) ?_ ?_ fuelM (0 : Int64) (17 : Int32) _ (lv_sub hl [2, 3, 1, 0] rfl) hf
    · intro _ _ _ _ hf; cases hf
    · intro _ L_6 hL_6 y_4 x_5 ls hl hf
      unfold g_MMo_value_6 at hf
      refine lv_iload hx hb d_MMo_value_6 (lv_at hl 3 rfl) ?_
      refine lv_if_lt (tgt := 29) hx hb d_MMo_value_8 (by decide) (fun c_7 => ?_) (fun c_7 => ?_)
      · have hf := hf.trans (if_pos c_7)
        exact hK_2 y_4 _ (lv_sub hl [1, 2] rfl) hf
      · have hf := hf.trans (if_neg c_7)
        refine lv_ldc2 (v := (10 : Int64)) hx hb hown (hts _ kM_Mo_206) d_MMo_value_11 ?_
        refine lv_lload_n hx hb d_MMo_value_14 rfl (lv_at hl 2 rfl) ?_
        refine lv_lmul hx hb d_MMo_value_15 ?_
        refine lv_aload_n hx hb d_MMo_value_16 rfl (lv_at hl 0 rfl) ?_
        refine lv_iload hx hb d_MMo_value_17 (lv_at hl 3 rfl) ?_
        obtain ⟨i_8, hf⟩ := ckI_inv hf
        refine va_iald hx hb hw.2.1 hw.1 5 4 rfl rfl i_8 d_MMo_value_19 ?_
        refine lv_i2l (v := Int32.toInt64 (mA u0 5 (Int32.toNatClampNeg x_5))) hx hb d_MMo_value_20 rfl ?_
        refine lv_ladd hx hb d_MMo_value_21 ?_
        refine lv_topl (fun y_9 ey_9 => ?_)
        have hf := hf.trans (nm_eq ey_9)
        refine lv_lstore_n (lv' := [(2, .long y_9), (0, .ref (a 5)), (1, .int (bI z1)), (4, .int x_5)]) hx hb d_MMo_value_22 rfl hl (by decide) rfl (fun ls hl => ?_)
        obtain ⟨x_10, ex_10⟩ : ∃ y : Int32, y = x_5 + (-1 : Int32) := ⟨_, rfl⟩
        have hf := hf.trans (nm_eq ex_10)
        refine lv_iinc (v := x_10) (lv' := [(4, .int x_10), (2, .long y_9), (0, .ref (a 5)), (1, .int (bI z1))]) hx hb d_MMo_value_23 hl (k := 3) rfl (by rw [ex_10]; rfl) (by decide) rfl (fun ls hl => ?_)
        refine lv_goto (tgt := 6) hx hb d_MMo_value_26 (by decide) ?_
        exact hL_6 y_9 x_10 _ (lv_sub hl [2, 3, 1, 0] rfl) hf
set_option maxHeartbeats 4000000 in
set_option maxRecDepth 100000 in
theorem c_MMo_looksAtWord (l : Launch) (D : va_G) (a : Nat → Nat) (k : Nat → ClassId) (u0 : MS)  (F : MS) (hf : f_MMo_looksAtWord u0 = some F) : zMv l y_MMo_looksAtWord w_MMo_looksAtWord rm_MMo_looksAtWord D clM (tyM k) nwM (mW a k) [.ref (a 0)] u0 F := by
  have hf := hf.symm
  unfold f_MMo_looksAtWord at hf
  refine zMv_of (cc := b_MMo_looksAtWord) (maxL := 2) (own := RM_Mo) (by decide) rfl rfl (Nat.le_of_ble_eq_true rfl) ?_
  intro p e R st m args below meth c A H locs Q ls hR hx hb hml hown hts hw hS hret hl
  subst hR
  have hcs : 0 ≤ (rm_MMo_looksAtWord).cells ∧ 0 ≤ (rm_MMo_looksAtWord).slots := ⟨Nat.zero_le _, Nat.zero_le _⟩
  have hl : lv_has ls 2 [(0, .ref (a 0))] := hl
  refine lv_aload_n hx hb d_MMo_looksAtWord_0 rfl (lv_at hl 0 rfl) ?_
  obtain ⟨x_1, ex_1, hf⟩ := bd1_inv hf
  refine z_rV (V := .int x_1) (z_runV (As := []) (rest := []) ⟨hx, hb, hml, hown, hts⟩ (c_MMo_width l D a k u0 x_1 ex_1) (qM_Mo_179 hts (by decide)) hw 0 rfl rfl hl.1 rfl (lv_room (Nat.le_of_ble_eq_true rfl)) d_MMo_looksAtWord_1 hcs) ?_
  refine lv_istore_n (lv' := [(1, .int x_1), (0, .ref (a 0))]) hx hb d_MMo_looksAtWord_4 rfl hl (by decide) rfl (fun ls hl => ?_)
  refine lv_aload_n hx hb d_MMo_looksAtWord_5 rfl (lv_at hl 1 rfl) ?_
  refine lv_aload_n hx hb d_MMo_looksAtWord_6 rfl (lv_at hl 1 rfl) ?_
  refine va_get (v := .int (mF u0 8)) hx hb hts iM_Mo hown hw.2.1 hw.1 0 rfl rfl 16 (by decide) (hts _ kM_Mo_132) (fun _ h => h) rfl d_MMo_looksAtWord_7 ?_
  refine lv_bipush (v := (92 : Int32)) hx hb d_MMo_looksAtWord_10 (by decide) ?_
  refine jn_cut hf (fun (K_3 : Bool → Option (MS)) => ∀ (z_2 : Bool), ∀ (ls : Array Slot), lv_has ls 2 [(0, .ref (a 0)), (1, .int x_1)] → some F = K_3 z_2 → W p l e rm_MMo_looksAtWord st m args below meth c H locs 0 0 Q (F0 m 53 ls [.int (bI z_2), .ref (a 0)])) ?_ ?_
  · intro z_2 ls hl hf
    refine lv_bipush (v := (6 : Int32)) hx hb d_MMo_looksAtWord_53 (by decide) ?_
    obtain ⟨u_4, eu_4, hf⟩ := bd1_inv hf
    refine z_wv' (u' := u_4) (z_runV (As := [.int (bI z_2), .int (6 : Int32)]) (rest := []) ⟨hx, hb, hml, hown, hts⟩ (c_MMo_wrong l D a k u0 z_2 (6 : Int32) u_4 eu_4) (qM_Mo_128 hts (by decide)) hw 0 rfl rfl hl.1 rfl (lv_room (Nat.le_of_ble_eq_true rfl)) d_MMo_looksAtWord_55 hcs) hw hS (fun H locs hw hS => ?_)
    refine lv_aload_n hx hb d_MMo_looksAtWord_58 rfl (lv_at hl 0 rfl) ?_
    refine lv_iload_n hx hb d_MMo_looksAtWord_59 rfl (lv_at hl 1 rfl) ?_
    refine jn_cut hf (fun (K_6 : Bool → Option (MS)) => ∀ (z_5 : Bool), ∀ (ls : Array Slot), lv_has ls 2 [(0, .ref (a 0))] → some F = K_6 z_5 → W p l e rm_MMo_looksAtWord st m args below meth c H locs 0 0 Q (F0 m 79 ls [.int (bI z_5), .ref (a 0)])) ?_ ?_
    · intro z_5 ls hl hf
      refine lv_iconst (v := (5 : Int32)) hx hb d_MMo_looksAtWord_79 (by decide) ?_
      obtain ⟨u_7, eu_7, hf⟩ := bd1_inv hf
      refine z_wv' (u' := u_7) (z_runV (As := [.int (bI z_5), .int (5 : Int32)]) (rest := []) ⟨hx, hb, hml, hown, hts⟩ (c_MMo_wrong l D a k u_4 z_5 (5 : Int32) u_7 eu_7) (qM_Mo_128 hts (by decide)) hw 0 rfl rfl hl.1 rfl (lv_room (Nat.le_of_ble_eq_true rfl)) d_MMo_looksAtWord_80 hcs) hw hS (fun H locs hw hS => ?_)
      refine lv_aload_n hx hb d_MMo_looksAtWord_83 rfl (lv_at hl 0 rfl) ?_
      refine va_get (v := .int (mF u_7 13)) hx hb hts iM_Mo hown hw.2.1 hw.1 0 rfl rfl 21 (by decide) (hts _ kM_Mo_86) (fun _ h => h) rfl d_MMo_looksAtWord_84 ?_
      refine lv_if_le (tgt := 91) hx hb d_MMo_looksAtWord_87 (by decide) (fun c_8 => ?_) (fun c_8 => ?_)
      · have hf := hf.trans (if_pos c_8)
        refine lv_aload_n hx hb d_MMo_looksAtWord_91 rfl (lv_at hl 0 rfl) ?_
        refine lv_aload_n hx hb d_MMo_looksAtWord_92 rfl (lv_at hl 0 rfl) ?_
        refine va_get (v := .int (mF u_7 8)) hx hb hts iM_Mo hown hw.2.1 hw.1 0 rfl rfl 16 (by decide) (hts _ kM_Mo_132) (fun _ h => h) rfl d_MMo_looksAtWord_93 ?_
        refine lv_bipush (v := (79 : Int32)) hx hb d_MMo_looksAtWord_96 (by decide) ?_
        refine jn_cut hf (fun (K_11 : Bool → MS → Option (MS)) => ∀ (z_9 : Bool) (u_10 : MS), ∀ (H : Heap) (locs : List Loc), zW D clM (tyM k) nwM (mW a k) A st u_10 H → va_S A st.heap H locs → ∀ (ls : Array Slot), lv_has ls 2 [(0, .ref (a 0))] → some F = K_11 z_9 u_10 → W p l e rm_MMo_looksAtWord st m args below meth c H locs 0 0 Q (F0 m 123 ls [.int (bI z_9), .ref (a 0)])) ?_ ?_
        · intro z_9 u_10 H locs hw hS ls hl hf
          refine lv_bipush (v := (7 : Int32)) hx hb d_MMo_looksAtWord_123 (by decide) ?_
          obtain ⟨u_12, eu_12, hf⟩ := bd1_inv hf
          refine z_wv' (u' := u_12) (z_runV (As := [.int (bI z_9), .int (7 : Int32)]) (rest := []) ⟨hx, hb, hml, hown, hts⟩ (c_MMo_wrong l D a k u_10 z_9 (7 : Int32) u_12 eu_12) (qM_Mo_128 hts (by decide)) hw 0 rfl rfl hl.1 rfl (lv_room (Nat.le_of_ble_eq_true rfl)) d_MMo_looksAtWord_125 hcs) hw hS (fun H locs hw hS => ?_)
          refine lv_aload_n hx hb d_MMo_looksAtWord_128 rfl (lv_at hl 0 rfl) ?_
          refine va_get (v := .int (mF u_12 13)) hx hb hts iM_Mo hown hw.2.1 hw.1 0 rfl rfl 21 (by decide) (hts _ kM_Mo_86) (fun _ h => h) rfl d_MMo_looksAtWord_129 ?_
          refine lv_if_le (tgt := 136) hx hb d_MMo_looksAtWord_132 (by decide) (fun c_13 => ?_) (fun c_13 => ?_)
          · have hf := hf.trans (if_pos c_13)
            refine lv_aload_n hx hb d_MMo_looksAtWord_136 rfl (lv_at hl 0 rfl) ?_
            refine lv_aload_n hx hb d_MMo_looksAtWord_137 rfl (lv_at hl 0 rfl) ?_
            refine va_get (v := .int (mF u_12 8)) hx hb hts iM_Mo hown hw.2.1 hw.1 0 rfl rfl 16 (by decide) (hts _ kM_Mo_132) (fun _ h => h) rfl d_MMo_looksAtWord_138 ?_
            refine lv_bipush (v := (79 : Int32)) hx hb d_MMo_looksAtWord_141 (by decide) ?_
            refine jn_cut hf (fun (K_14 : Option (MS)) => ∀ (ls : Array Slot), lv_has ls 2 [(0, .ref (a 0))] → some F = K_14 → W p l e rm_MMo_looksAtWord st m args below meth c H locs 0 0 Q (F0 m 175 ls [.ref (a 0)])) ?_ ?_
            · intro ls hl hf
              refine lv_aload_n hx hb d_MMo_looksAtWord_175 rfl (lv_at hl 0 rfl) ?_
              refine va_get (v := .int (mF u_12 8)) hx hb hts iM_Mo hown hw.2.1 hw.1 0 rfl rfl 16 (by decide) (hts _ kM_Mo_132) (fun _ h => h) rfl d_MMo_looksAtWord_176 ?_
              refine lv_bipush (v := (93 : Int32)) hx hb d_MMo_looksAtWord_179 (by decide) ?_
              refine lv_icmp_ne (tgt := 205) hx hb d_MMo_looksAtWord_181 (by decide) (fun c_15 => ?_) (fun c_15 => ?_)
              · have hf := hf.trans (if_neg c_15)
                refine lv_iconst (v := (0 : Int32)) hx hb d_MMo_looksAtWord_205 (by decide) ?_
                refine lv_bipush (v := (9 : Int32)) hx hb d_MMo_looksAtWord_206 (by decide) ?_
                obtain ⟨u_16, eu_16, hf⟩ := bd1_inv hf
                refine z_wv' (u' := u_16) (z_runV (As := [.int (0 : Int32), .int (9 : Int32)]) (rest := []) ⟨hx, hb, hml, hown, hts⟩ (c_MMo_wrong l D a k u_12 false (9 : Int32) u_16 eu_16) (qM_Mo_128 hts (by decide)) hw 0 rfl rfl hl.1 rfl (lv_room (Nat.le_of_ble_eq_true rfl)) d_MMo_looksAtWord_208 hcs) hw hS (fun H locs hw hS => ?_)
                exact hret _ _ _ _ _ d_MMo_looksAtWord_211 hw hS (Option.some.inj hf)
              · have hf := hf.trans (if_pos c_15)
                refine lv_aload_n hx hb d_MMo_looksAtWord_184 rfl (lv_at hl 0 rfl) ?_
                refine lv_aload_n hx hb d_MMo_looksAtWord_185 rfl (lv_at hl 0 rfl) ?_
                refine lv_aload_n hx hb d_MMo_looksAtWord_186 rfl (lv_at hl 0 rfl) ?_
                refine va_get (v := .int (mF u_12 12)) hx hb hts iM_Mo hown hw.2.1 hw.1 0 rfl rfl 20 (by decide) (hts _ kM_Mo_152) (fun _ h => h) rfl d_MMo_looksAtWord_187 ?_
                refine lv_iconst (v := (4 : Int32)) hx hb d_MMo_looksAtWord_190 (by decide) ?_
                obtain ⟨y_17, ey_17, hf⟩ := bd1_inv hf
                refine z_rV (V := .long y_17) (z_runV (As := [.int (mF u_12 12), .int (4 : Int32)]) (rest := [.ref (a 0), .ref (a 0)]) ⟨hx, hb, hml, hown, hts⟩ (c_MMo_take l D a k u_12 (mF u_12 12) (4 : Int32) y_17 ey_17) (qM_Mo_89 hts (by decide)) hw 0 rfl rfl hl.1 rfl (lv_room (Nat.le_of_ble_eq_true rfl)) d_MMo_looksAtWord_191 hcs) ?_
                refine lv_l2i (v := Int64.toInt32 y_17) hx hb d_MMo_looksAtWord_194 rfl ?_
                obtain ⟨z_18, ez_18, hf⟩ := bd1_inv hf
                refine z_rV (V := .int (bI z_18)) (z_runV (As := [.int (Int64.toInt32 y_17)]) (rest := [.ref (a 0)]) ⟨hx, hb, hml, hown, hts⟩ (c_MMo_divides l D a k u_12 (Int64.toInt32 y_17) z_18 ez_18) (qM_Mo_166 hts (by decide)) hw 0 rfl rfl hl.1 rfl (lv_room (Nat.le_of_ble_eq_true rfl)) d_MMo_looksAtWord_195 hcs) ?_
                refine lv_if_ne (tgt := 205) hx hb d_MMo_looksAtWord_198 (by decide) (fun c_19 => ?_) (fun c_19 => ?_)
                · have hf := hf.trans (if_neg c_19)
                  refine lv_iconst (v := (0 : Int32)) hx hb d_MMo_looksAtWord_205 (by decide) ?_
                  refine lv_bipush (v := (9 : Int32)) hx hb d_MMo_looksAtWord_206 (by decide) ?_
                  obtain ⟨u_20, eu_20, hf⟩ := bd1_inv hf
                  refine z_wv' (u' := u_20) (z_runV (As := [.int (0 : Int32), .int (9 : Int32)]) (rest := []) ⟨hx, hb, hml, hown, hts⟩ (c_MMo_wrong l D a k u_12 false (9 : Int32) u_20 eu_20) (qM_Mo_128 hts (by decide)) hw 0 rfl rfl hl.1 rfl (lv_room (Nat.le_of_ble_eq_true rfl)) d_MMo_looksAtWord_208 hcs) hw hS (fun H locs hw hS => ?_)
                  exact hret _ _ _ _ _ d_MMo_looksAtWord_211 hw hS (Option.some.inj hf)
                · have hf := hf.trans (if_pos c_19)
                  refine lv_iconst (v := (1 : Int32)) hx hb d_MMo_looksAtWord_201 (by decide) ?_
                  refine lv_goto (tgt := 206) hx hb d_MMo_looksAtWord_202 (by decide) ?_
                  refine lv_bipush (v := (9 : Int32)) hx hb d_MMo_looksAtWord_206 (by decide) ?_
                  obtain ⟨u_21, eu_21, hf⟩ := bd1_inv hf
                  refine z_wv' (u' := u_21) (z_runV (As := [.int (1 : Int32), .int (9 : Int32)]) (rest := []) ⟨hx, hb, hml, hown, hts⟩ (c_MMo_wrong l D a k u_12 true (9 : Int32) u_21 eu_21) (qM_Mo_128 hts (by decide)) hw 0 rfl rfl hl.1 rfl (lv_room (Nat.le_of_ble_eq_true rfl)) d_MMo_looksAtWord_208 hcs) hw hS (fun H locs hw hS => ?_)
                  exact hret _ _ _ _ _ d_MMo_looksAtWord_211 hw hS (Option.some.inj hf)
            · intro K_14 hK_14 hf
              refine lv_icmp_ne (tgt := 175) hx hb d_MMo_looksAtWord_143 (by decide) (fun c_22 => ?_) (fun c_22 => ?_)
              · have hf := hf.trans (if_neg c_22)
                exact hK_14 _ (lv_sub hl [0] rfl) hf
              · have hf := hf.trans (if_pos c_22)
                refine lv_aload_n hx hb d_MMo_looksAtWord_146 rfl (lv_at hl 0 rfl) ?_
                refine va_get (v := .ref (a 4)) hx hb hts iM_Mo hown hw.2.1 hw.1 0 rfl rfl 3 (by decide) (hts _ kM_Mo_19) (fun _ h => h) rfl d_MMo_looksAtWord_147 ?_
                refine lv_aload_n hx hb d_MMo_looksAtWord_150 rfl (lv_at hl 0 rfl) ?_
                refine lv_aload_n hx hb d_MMo_looksAtWord_151 rfl (lv_at hl 0 rfl) ?_
                refine va_get (v := .int (mF u_12 12)) hx hb hts iM_Mo hown hw.2.1 hw.1 0 rfl rfl 20 (by decide) (hts _ kM_Mo_152) (fun _ h => h) rfl d_MMo_looksAtWord_152 ?_
                refine lv_bipush (v := (8 : Int32)) hx hb d_MMo_looksAtWord_155 (by decide) ?_
                obtain ⟨z_23, ez_23, hf⟩ := bd1_inv hf
                refine z_rV (V := .int (bI z_23)) (z_runV (As := [.int (mF u_12 12), .int (8 : Int32)]) (rest := [.ref (a 4), .ref (a 0)]) ⟨hx, hb, hml, hown, hts⟩ (c_MMo_isMinus l D a k u_12 (mF u_12 12) (8 : Int32) z_23 ez_23) (qM_Mo_186 hts (by decide)) hw 0 rfl rfl hl.1 rfl (lv_room (Nat.le_of_ble_eq_true rfl)) d_MMo_looksAtWord_157 hcs) ?_
                obtain ⟨y_24, ey_24, hf⟩ := bd1_inv hf
                refine z_rV (V := .long y_24) (z_runS (As := [.ref (a 4), .int (bI z_23)]) (rest := [.ref (a 0)]) ⟨hx, hb, hml, hown, hts⟩ (c_MMo_value_4 l D a k u_12 z_23 y_24 ey_24) (qM_Mo_189 hts (by decide)) hw  hl.1 rfl (lv_room (Nat.le_of_ble_eq_true rfl)) d_MMo_looksAtWord_160 hcs) ?_
                refine lv_ldc2 (v := (-2147483648 : Int64)) hx hb hown (hts _ kM_Mo_193) d_MMo_looksAtWord_163 ?_
                refine lv_ldc2 (v := (2147483647 : Int64)) hx hb hown (hts _ kM_Mo_195) d_MMo_looksAtWord_166 ?_
                obtain ⟨z_25, ez_25, hf⟩ := bd1_inv hf
                refine z_rV (V := .int (bI z_25)) (z_runS (As := [.long y_24, .long (-2147483648 : Int64), .long (2147483647 : Int64)]) (rest := [.ref (a 0)]) ⟨hx, hb, hml, hown, hts⟩ (c_MMo_in l D a k u_12 y_24 (-2147483648 : Int64) (2147483647 : Int64) z_25 ez_25) (qM_Mo_41 hts (by decide)) hw  hl.1 rfl (lv_room (Nat.le_of_ble_eq_true rfl)) d_MMo_looksAtWord_169 hcs) ?_
                refine lv_if_eq (tgt := 201) hx hb d_MMo_looksAtWord_172 (by decide) (fun c_26 => ?_) (fun c_26 => ?_)
                · have hf := hf.trans (if_pos c_26)
                  refine lv_iconst (v := (1 : Int32)) hx hb d_MMo_looksAtWord_201 (by decide) ?_
                  refine lv_goto (tgt := 206) hx hb d_MMo_looksAtWord_202 (by decide) ?_
                  refine lv_bipush (v := (9 : Int32)) hx hb d_MMo_looksAtWord_206 (by decide) ?_
                  obtain ⟨u_27, eu_27, hf⟩ := bd1_inv hf
                  refine z_wv' (u' := u_27) (z_runV (As := [.int (1 : Int32), .int (9 : Int32)]) (rest := []) ⟨hx, hb, hml, hown, hts⟩ (c_MMo_wrong l D a k u_12 true (9 : Int32) u_27 eu_27) (qM_Mo_128 hts (by decide)) hw 0 rfl rfl hl.1 rfl (lv_room (Nat.le_of_ble_eq_true rfl)) d_MMo_looksAtWord_208 hcs) hw hS (fun H locs hw hS => ?_)
                  exact hret _ _ _ _ _ d_MMo_looksAtWord_211 hw hS (Option.some.inj hf)
                · have hf := hf.trans (if_neg c_26)
                  exact hK_14 _ (lv_sub hl [0] rfl) hf
          · have hf := hf.trans (if_neg c_13)
            exact hret _ _ _ _ _ d_MMo_looksAtWord_135 hw hS (Option.some.inj hf)
        · intro K_11 hK_11 hf
          refine jn_cut hf (fun (K_29 : MS → Option (MS)) => ∀ (u_28 : MS), ∀ (H : Heap) (locs : List Loc), zW D clM (tyM k) nwM (mW a k) A st u_28 H → va_S A st.heap H locs → ∀ (ls : Array Slot), lv_has ls 2 [(0, .ref (a 0))] → some F = K_29 u_28 → W p l e rm_MMo_looksAtWord st m args below meth c H locs 0 0 Q (F0 m 122 ls [.ref (a 0)])) ?_ ?_
          · intro u_28 H locs hw hS ls hl hf
            refine lv_iconst (v := (0 : Int32)) hx hb d_MMo_looksAtWord_122 (by decide) ?_
            exact hK_11 false u_28 _ _ hw hS _ (lv_sub hl [0] rfl) hf
          · intro K_29 hK_29 hf
            refine lv_icmp_ne (tgt := 122) hx hb d_MMo_looksAtWord_98 (by decide) (fun c_30 => ?_) (fun c_30 => ?_)
            · have hf := hf.trans (if_neg c_30)
              exact hK_29 u_7 _ _ hw hS _ (lv_sub hl [0] rfl) hf
            · have hf := hf.trans (if_pos c_30)
              refine lv_aload_n hx hb d_MMo_looksAtWord_101 rfl (lv_at hl 0 rfl) ?_
              refine lv_aload_n hx hb d_MMo_looksAtWord_102 rfl (lv_at hl 0 rfl) ?_
              refine va_get (v := .int (mF u_7 12)) hx hb hts iM_Mo hown hw.2.1 hw.1 0 rfl rfl 20 (by decide) (hts _ kM_Mo_152) (fun _ h => h) rfl d_MMo_looksAtWord_103 ?_
              refine lv_bipush (v := (8 : Int32)) hx hb d_MMo_looksAtWord_106 (by decide) ?_
              refine lv_aload_n hx hb d_MMo_looksAtWord_108 rfl (lv_at hl 0 rfl) ?_
              refine va_get (v := .ref (a 4)) hx hb hts iM_Mo hown hw.2.1 hw.1 0 rfl rfl 3 (by decide) (hts _ kM_Mo_19) (fun _ h => h) rfl d_MMo_looksAtWord_109 ?_
              obtain ⟨z_32, u_31, ez_32, hf⟩ := bd2_inv hf
              refine z_wz' (r := z_32) (u' := u_31) (z_runV (As := [.int (mF u_7 12), .int (8 : Int32), .ref (a 4)]) (rest := [.ref (a 0)]) ⟨hx, hb, hml, hown, hts⟩ (c_MMo_packs_4 l D a k u_7 (mF u_7 12) (8 : Int32) (z_32, u_31) ez_32) (qM_Mo_182 hts (by decide)) hw 0 rfl rfl hl.1 rfl (lv_room (Nat.le_of_ble_eq_true rfl)) d_MMo_looksAtWord_112 hcs) hw hS (fun H locs hw hS => ?_)
              refine lv_if_ne (tgt := 122) hx hb d_MMo_looksAtWord_115 (by decide) (fun c_33 => ?_) (fun c_33 => ?_)
              · have hf := hf.trans (if_neg c_33)
                exact hK_29 u_31 _ _ hw hS _ (lv_sub hl [0] rfl) hf
              · have hf := hf.trans (if_pos c_33)
                refine lv_iconst (v := (1 : Int32)) hx hb d_MMo_looksAtWord_118 (by decide) ?_
                refine lv_goto (tgt := 123) hx hb d_MMo_looksAtWord_119 (by decide) ?_
                exact hK_11 true u_31 _ _ hw hS _ (lv_sub hl [0] rfl) hf
      · have hf := hf.trans (if_neg c_8)
        exact hret _ _ _ _ _ d_MMo_looksAtWord_90 hw hS (Option.some.inj hf)
    · intro K_6 hK_6 hf
      refine jn_cut hf (fun (K_34 : Option (MS)) => ∀ (ls : Array Slot), lv_has ls 2 [(0, .ref (a 0))] → some F = K_34 → W p l e rm_MMo_looksAtWord st m args below meth c H locs 0 0 Q (F0 m 78 ls [.ref (a 0)])) ?_ ?_
      · intro ls hl hf
        refine lv_iconst (v := (0 : Int32)) hx hb d_MMo_looksAtWord_78 (by decide) ?_
        exact hK_6 false _ (lv_sub hl [0] rfl) hf
      · intro K_34 hK_34 hf
        refine lv_if_le (tgt := 78) hx hb d_MMo_looksAtWord_60 (by decide) (fun c_35 => ?_) (fun c_35 => ?_)
        · have hf := hf.trans (if_pos c_35)
          exact hK_34 _ (lv_sub hl [0] rfl) hf
        · have hf := hf.trans (if_neg c_35)
          refine lv_aload_n hx hb d_MMo_looksAtWord_63 rfl (lv_at hl 0 rfl) ?_
          refine va_get (v := .int (mF u_4 12)) hx hb hts iM_Mo hown hw.2.1 hw.1 0 rfl rfl 20 (by decide) (hts _ kM_Mo_152) (fun _ h => h) rfl d_MMo_looksAtWord_64 ?_
          refine lv_iload_n hx hb d_MMo_looksAtWord_67 rfl (lv_at hl 1 rfl) ?_
          obtain ⟨z_36, ez_36, hf⟩ := bd1_inv hf
          refine z_rV (V := .int (bI z_36)) (z_runS (As := [.int (mF u_4 12), .int x_1]) (rest := [.ref (a 0)]) ⟨hx, hb, hml, hown, hts⟩ (c_MMo_lies l D a k u_4 (mF u_4 12) x_1 z_36 ez_36) (qM_Mo_53 hts (by decide)) hw  hl.1 rfl (lv_room (Nat.le_of_ble_eq_true rfl)) d_MMo_looksAtWord_68 hcs) ?_
          refine lv_if_ne (tgt := 78) hx hb d_MMo_looksAtWord_71 (by decide) (fun c_37 => ?_) (fun c_37 => ?_)
          · have hf := hf.trans (if_neg c_37)
            exact hK_34 _ (lv_sub hl [0] rfl) hf
          · have hf := hf.trans (if_pos c_37)
            refine lv_iconst (v := (1 : Int32)) hx hb d_MMo_looksAtWord_74 (by decide) ?_
            refine lv_goto (tgt := 79) hx hb d_MMo_looksAtWord_75 (by decide) ?_
            exact hK_6 true _ (lv_sub hl [0] rfl) hf
  · intro K_3 hK_3 hf
    refine jn_cut hf (fun (K_38 : Option (MS)) => ∀ (ls : Array Slot), lv_has ls 2 [(0, .ref (a 0)), (1, .int x_1)] → some F = K_38 → W p l e rm_MMo_looksAtWord st m args below meth c H locs 0 0 Q (F0 m 48 ls [.ref (a 0)])) ?_ ?_
    · intro ls hl hf
      refine lv_iconst (v := (1 : Int32)) hx hb d_MMo_looksAtWord_48 (by decide) ?_
      refine lv_goto (tgt := 53) hx hb d_MMo_looksAtWord_49 (by decide) ?_
      exact hK_3 true _ (lv_sub hl [0, 1] rfl) hf
    · intro K_38 hK_38 hf
      refine jn_cut hf (fun (K_39 : Option (MS)) => ∀ (ls : Array Slot), lv_has ls 2 [(0, .ref (a 0)), (1, .int x_1)] → some F = K_39 → W p l e rm_MMo_looksAtWord st m args below meth c H locs 0 0 Q (F0 m 34 ls [.ref (a 0)])) ?_ ?_
      · intro ls hl hf
        refine lv_iload_n hx hb d_MMo_looksAtWord_34 rfl (lv_at hl 1 rfl) ?_
        refine lv_iconst (v := (1 : Int32)) hx hb d_MMo_looksAtWord_35 (by decide) ?_
        refine jn_cut hf (fun (K_40 : Option (MS)) => ∀ (ls : Array Slot), lv_has ls 2 [(0, .ref (a 0)), (1, .int x_1)] → some F = K_40 → W p l e rm_MMo_looksAtWord st m args below meth c H locs 0 0 Q (F0 m 52 ls [.ref (a 0)])) ?_ ?_
        · intro ls hl hf
          refine lv_iconst (v := (0 : Int32)) hx hb d_MMo_looksAtWord_52 (by decide) ?_
          exact hK_3 false _ (lv_sub hl [0, 1] rfl) hf
        · intro K_40 hK_40 hf
          refine lv_icmp_le (tgt := 52) hx hb d_MMo_looksAtWord_36 (by decide) (fun c_41 => ?_) (fun c_41 => ?_)
          · have hf := hf.trans (if_pos c_41)
            exact hK_40 _ (lv_sub hl [0, 1] rfl) hf
          · have hf := hf.trans (if_neg c_41)
            refine lv_aload_n hx hb d_MMo_looksAtWord_39 rfl (lv_at hl 0 rfl) ?_
            refine va_get (v := .int (mF u0 12)) hx hb hts iM_Mo hown hw.2.1 hw.1 0 rfl rfl 20 (by decide) (hts _ kM_Mo_152) (fun _ h => h) rfl d_MMo_looksAtWord_40 ?_
            refine lv_iload_n hx hb d_MMo_looksAtWord_43 rfl (lv_at hl 1 rfl) ?_
            obtain ⟨i_42, hf⟩ := ckN32_inv hf
            refine lv_irem hx hb d_MMo_looksAtWord_44 i_42 ?_
            refine lv_if_le (tgt := 52) hx hb d_MMo_looksAtWord_45 (by decide) (fun c_43 => ?_) (fun c_43 => ?_)
            · have hf := hf.trans (if_pos c_43)
              exact hK_40 _ (lv_sub hl [0, 1] rfl) hf
            · have hf := hf.trans (if_neg c_43)
              exact hK_38 _ (lv_sub hl [0, 1] rfl) hf
      · intro K_39 hK_39 hf
        refine jn_cut hf (fun (K_44 : Option (MS)) => ∀ (ls : Array Slot), lv_has ls 2 [(0, .ref (a 0)), (1, .int x_1)] → some F = K_44 → W p l e rm_MMo_looksAtWord st m args below meth c H locs 0 0 Q (F0 m 24 ls [.ref (a 0)])) ?_ ?_
        · intro ls hl hf
          refine lv_aload_n hx hb d_MMo_looksAtWord_24 rfl (lv_at hl 0 rfl) ?_
          obtain ⟨x_45, ex_45, hf⟩ := bd1_inv hf
          refine z_rV (V := .int x_45) (z_runV (As := []) (rest := [.ref (a 0)]) ⟨hx, hb, hml, hown, hts⟩ (c_MMo_high l D a k u0 x_45 ex_45) (qM_Mo_163 hts (by decide)) hw 0 rfl rfl hl.1 rfl (lv_room (Nat.le_of_ble_eq_true rfl)) d_MMo_looksAtWord_25 hcs) ?_
          refine lv_iconst (v := (1 : Int32)) hx hb d_MMo_looksAtWord_28 (by decide) ?_
          refine lv_iand hx hb d_MMo_looksAtWord_29 ?_
          refine lv_iconst (v := (1 : Int32)) hx hb d_MMo_looksAtWord_30 (by decide) ?_
          refine lv_icmp_eq (tgt := 48) hx hb d_MMo_looksAtWord_31 (by decide) (fun c_46 => ?_) (fun c_46 => ?_)
          · have hf := hf.trans (if_pos c_46)
            exact hK_38 _ (lv_sub hl [0, 1] rfl) hf
          · have hf := hf.trans (if_neg c_46)
            exact hK_39 _ (lv_sub hl [0, 1] rfl) hf
        · intro K_44 hK_44 hf
          refine lv_icmp_eq (tgt := 24) hx hb d_MMo_looksAtWord_12 (by decide) (fun c_47 => ?_) (fun c_47 => ?_)
          · have hf := hf.trans (if_pos c_47)
            exact hK_44 _ (lv_sub hl [1, 0] rfl) hf
          · have hf := hf.trans (if_neg c_47)
            refine lv_aload_n hx hb d_MMo_looksAtWord_15 rfl (lv_at hl 1 rfl) ?_
            refine va_get (v := .int (mF u0 8)) hx hb hts iM_Mo hown hw.2.1 hw.1 0 rfl rfl 16 (by decide) (hts _ kM_Mo_132) (fun _ h => h) rfl d_MMo_looksAtWord_16 ?_
            refine lv_bipush (v := (93 : Int32)) hx hb d_MMo_looksAtWord_19 (by decide) ?_
            refine lv_icmp_ne (tgt := 34) hx hb d_MMo_looksAtWord_21 (by decide) (fun c_48 => ?_) (fun c_48 => ?_)
            · have hf := hf.trans (if_neg c_48)
              exact hK_39 _ (lv_sub hl [1, 0] rfl) hf
            · have hf := hf.trans (if_pos c_48)
              exact hK_44 _ (lv_sub hl [1, 0] rfl) hf
