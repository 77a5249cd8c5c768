def f_XDM_isWithin (u0 : XS) (x0 : Int32) (x1 : Int32) (x2 : Int32) : Bool := if x0 < x1 then false else if x2 < x0 then false else true
set_option maxHeartbeats 4000000 in
set_option maxRecDepth 100000 in
theorem c_XDM_isWithin (l : Launch) (D : va_G) (a : Nat → Nat) (k : Nat → ClassId) (u0 : XS) (x0 : Int32) (x1 : Int32) (x2 : Int32) : zRz l y_XDM_isWithin w_XDM_isWithin rm_XDM_isWithin D clX (tyX k) nwX (xW a k) [.int x0, .int x1, .int x2] u0 (f_XDM_isWithin u0 x0 x1 x2) := by
  generalize hF : f_XDM_isWithin u0 x0 x1 x2 = F
  have hf := hF.symm
  unfold f_XDM_isWithin at hf
  refine zRz_of (cc := b_XDM_isWithin) (maxL := 3) (own := RX_DM) (by decide) rfl rfl (Nat.le_of_ble_eq_true rfl) ?_
  intro p e R st m args below meth c H locs Q ls hR hx hb hml hown hts hw hret hl
  subst hR
  have hcs : 0 ≤ (rm_XDM_isWithin).cells ∧ 0 ≤ (rm_XDM_isWithin).slots := ⟨Nat.zero_le _, Nat.zero_le _⟩
  have hl : lv_has ls 3 [(0, .int x0), (1, .int x1), (2, .int x2)] := hl
  refine lv_iload_n hx hb d_XDM_isWithin_0 rfl (lv_at hl 0 rfl) ?_
  refine lv_iload_n hx hb d_XDM_isWithin_1 rfl (lv_at hl 1 rfl) ?_
  refine lv_icmp_lt (tgt := 14) hx hb d_XDM_isWithin_2 (by decide) (fun c_1 => ?_) (fun c_1 => ?_)
  · have hf := hf.trans (if_pos c_1)
    refine lv_iconst (v := (0 : Int32)) hx hb d_XDM_isWithin_14 (by decide) ?_
    exact hret false _ _ d_XDM_isWithin_15 hf
  · have hf := hf.trans (if_neg c_1)
    refine lv_iload_n hx hb d_XDM_isWithin_5 rfl (lv_at hl 0 rfl) ?_
    refine lv_iload_n hx hb d_XDM_isWithin_6 rfl (lv_at hl 2 rfl) ?_
    refine lv_icmp_gt (tgt := 14) hx hb d_XDM_isWithin_7 (by decide) (fun c_2 => ?_) (fun c_2 => ?_)
    · have hf := hf.trans (if_pos c_2)
      refine lv_iconst (v := (0 : Int32)) hx hb d_XDM_isWithin_14 (by decide) ?_
      exact hret false _ _ d_XDM_isWithin_15 hf
    · have hf := hf.trans (if_neg c_2)
      refine lv_iconst (v := (1 : Int32)) hx hb d_XDM_isWithin_10 (by decide) ?_
      refine lv_goto (tgt := 15) hx hb d_XDM_isWithin_11 (by decide) ?_
      exact hret true _ _ d_XDM_isWithin_15 hf
def f_XDM_isNibble (u0 : XS) (x0 : Int32) : Bool := nm (f_XDM_isWithin u0 x0 (0 : Int32) (15 : Int32)) (fun (z_1 : Bool) => z_1)
set_option maxHeartbeats 4000000 in
set_option maxRecDepth 100000 in
theorem c_XDM_isNibble (l : Launch) (D : va_G) (a : Nat → Nat) (k : Nat → ClassId) (u0 : XS) (x0 : Int32) : zRz l y_XDM_isNibble w_XDM_isNibble rm_XDM_isNibble D clX (tyX k) nwX (xW a k) [.int x0] u0 (f_XDM_isNibble u0 x0) := by
  generalize hF : f_XDM_isNibble u0 x0 = F
  have hf := hF.symm
  unfold f_XDM_isNibble at hf
  refine zRz_of (cc := b_XDM_isNibble) (maxL := 1) (own := RX_DM) (by decide) rfl rfl (Nat.le_of_ble_eq_true rfl) ?_
  intro p e R st m args below meth c H locs Q ls hR hx hb hml hown hts hw hret hl
  subst hR
  have hcs : 0 ≤ (rm_XDM_isNibble).cells ∧ 0 ≤ (rm_XDM_isNibble).slots := ⟨Nat.zero_le _, Nat.zero_le _⟩
  have hl : lv_has ls 1 [(0, .int x0)] := hl
  refine lv_iload_n hx hb d_XDM_isNibble_0 rfl (lv_at hl 0 rfl) ?_
  refine lv_iconst (v := (0 : Int32)) hx hb d_XDM_isNibble_1 (by decide) ?_
  refine lv_bipush (v := (15 : Int32)) hx hb d_XDM_isNibble_2 (by decide) ?_
  refine z_rz (z_runS (As := [.int x0, .int (0 : Int32), .int (15 : Int32)]) (rest := []) ⟨hx, hb, hml, hown, hts⟩ (c_XDM_isWithin l D a k u0 x0 (0 : Int32) (15 : Int32)) (qX_DM_25 hts (by decide)) hw  hl.1 rfl (lv_room (Nat.le_of_ble_eq_true rfl)) d_XDM_isNibble_4 hcs) (fun z_1 ez_1 => ?_)
  have hf := hf.trans (nm_eq ez_1)
  exact hret z_1 _ _ d_XDM_isNibble_7 hf
def f_XDM_isPlace (u0 : XS) (x0 : Int32) (x1 : Int32) : Bool := nm (f_XDM_isNibble u0 x0) (fun (z_1 : Bool) => if (bI z_1) = (0 : Int32) then false else nm (f_XDM_isWithin u0 x1 (0 : Int32) (4095 : Int32)) (fun (z_3 : Bool) => if (bI z_3) = (0 : Int32) then false else true))
set_option maxHeartbeats 4000000 in
set_option maxRecDepth 100000 in
theorem c_XDM_isPlace (l : Launch) (D : va_G) (a : Nat → Nat) (k : Nat → ClassId) (u0 : XS) (x0 : Int32) (x1 : Int32) : zRz l y_XDM_isPlace w_XDM_isPlace rm_XDM_isPlace D clX (tyX k) nwX (xW a k) [.int x0, .int x1] u0 (f_XDM_isPlace u0 x0 x1) := by
  generalize hF : f_XDM_isPlace u0 x0 x1 = F
  have hf := hF.symm
  unfold f_XDM_isPlace at hf
  refine zRz_of (cc := b_XDM_isPlace) (maxL := 2) (own := RX_DM) (by decide) rfl rfl (Nat.le_of_ble_eq_true rfl) ?_
  intro p e R st m args below meth c H locs Q ls hR hx hb hml hown hts hw hret hl
  subst hR
  have hcs : 0 ≤ (rm_XDM_isPlace).cells ∧ 0 ≤ (rm_XDM_isPlace).slots := ⟨Nat.zero_le _, Nat.zero_le _⟩
  have hl : lv_has ls 2 [(0, .int x0), (1, .int x1)] := hl
  refine lv_iload_n hx hb d_XDM_isPlace_0 rfl (lv_at hl 0 rfl) ?_
  refine z_rz (z_runS (As := [.int x0]) (rest := []) ⟨hx, hb, hml, hown, hts⟩ (c_XDM_isNibble l D a k u0 x0) (qX_DM_51 hts (by decide)) hw  hl.1 rfl (lv_room (Nat.le_of_ble_eq_true rfl)) d_XDM_isPlace_1 hcs) (fun z_1 ez_1 => ?_)
  have hf := hf.trans (nm_eq ez_1)
  refine lv_if_eq (tgt := 22) hx hb d_XDM_isPlace_4 (by decide) (fun c_2 => ?_) (fun c_2 => ?_)
  · have hf := hf.trans (if_pos c_2)
    refine lv_iconst (v := (0 : Int32)) hx hb d_XDM_isPlace_22 (by decide) ?_
    exact hret false _ _ d_XDM_isPlace_23 hf
  · have hf := hf.trans (if_neg c_2)
    refine lv_iload_n hx hb d_XDM_isPlace_7 rfl (lv_at hl 1 rfl) ?_
    refine lv_iconst (v := (0 : Int32)) hx hb d_XDM_isPlace_8 (by decide) ?_
    refine lv_sipush (v := (4095 : Int32)) hx hb d_XDM_isPlace_9 (by decide) ?_
    refine z_rz (z_runS (As := [.int x1, .int (0 : Int32), .int (4095 : Int32)]) (rest := []) ⟨hx, hb, hml, hown, hts⟩ (c_XDM_isWithin l D a k u0 x1 (0 : Int32) (4095 : Int32)) (qX_DM_25 hts (by decide)) hw  hl.1 rfl (lv_room (Nat.le_of_ble_eq_true rfl)) d_XDM_isPlace_12 hcs) (fun z_3 ez_3 => ?_)
    have hf := hf.trans (nm_eq ez_3)
    refine lv_if_eq (tgt := 22) hx hb d_XDM_isPlace_15 (by decide) (fun c_4 => ?_) (fun c_4 => ?_)
    · have hf := hf.trans (if_pos c_4)
      refine lv_iconst (v := (0 : Int32)) hx hb d_XDM_isPlace_22 (by decide) ?_
      exact hret false _ _ d_XDM_isPlace_23 hf
    · have hf := hf.trans (if_neg c_4)
      refine lv_iconst (v := (1 : Int32)) hx hb d_XDM_isPlace_18 (by decide) ?_
      refine lv_goto (tgt := 23) hx hb d_XDM_isPlace_19 (by decide) ?_
      exact hret true _ _ d_XDM_isPlace_23 hf
