def f_XMe_holds (u0 : XS) (x1 : Int32) (x2 : Int32) : Bool := if x1 < (0 : Int32) then false else if (1024 : Int32) < x2 then false else if ((1024 : Int32) - x2) < x1 then false else true
set_option maxHeartbeats 4000000 in
set_option maxRecDepth 100000 in
theorem c_XMe_holds (l : Launch) (D : va_G) (a : Nat → Nat) (k : Nat → ClassId) (u0 : XS) (x1 : Int32) (x2 : Int32) : zRz l y_XMe_holds w_XMe_holds rm_XMe_holds D clX (tyX k) nwX (xW a k) [.ref (a 2), .int x1, .int x2] u0 (f_XMe_holds u0 x1 x2) := by
  generalize hF : f_XMe_holds u0 x1 x2 = F
  have hf := hF.symm
  unfold f_XMe_holds at hf
  refine zRz_of (cc := b_XMe_holds) (maxL := 3) (own := RX_Me) (by decide) rfl rfl (Nat.le_of_ble_eq_true rfl) ?_
  intro p e R st m args below meth c H locs Q ls hR hx hb hml hown hts hw hret hl
  subst hR
  have hcs : 0 ≤ (rm_XMe_holds).cells ∧ 0 ≤ (rm_XMe_holds).slots := ⟨Nat.zero_le _, Nat.zero_le _⟩
  have hl : lv_has ls 3 [(0, .ref (a 2)), (1, .int x1), (2, .int x2)] := hl
  refine lv_iload_n hx hb d_XMe_holds_0 rfl (lv_at hl 1 rfl) ?_
  refine lv_if_lt (tgt := 24) hx hb d_XMe_holds_1 (by decide) (fun c_1 => ?_) (fun c_1 => ?_)
  · have hf := hf.trans (if_pos c_1)
    refine lv_iconst (v := (0 : Int32)) hx hb d_XMe_holds_24 (by decide) ?_
    exact hret false _ _ d_XMe_holds_25 hf
  · have hf := hf.trans (if_neg c_1)
    refine lv_iload_n hx hb d_XMe_holds_4 rfl (lv_at hl 2 rfl) ?_
    refine lv_sipush (v := (1024 : Int32)) hx hb d_XMe_holds_5 (by decide) ?_
    refine lv_icmp_gt (tgt := 24) hx hb d_XMe_holds_8 (by decide) (fun c_2 => ?_) (fun c_2 => ?_)
    · have hf := hf.trans (if_pos c_2)
      refine lv_iconst (v := (0 : Int32)) hx hb d_XMe_holds_24 (by decide) ?_
      exact hret false _ _ d_XMe_holds_25 hf
    · have hf := hf.trans (if_neg c_2)
      refine lv_iload_n hx hb d_XMe_holds_11 rfl (lv_at hl 1 rfl) ?_
      refine lv_sipush (v := (1024 : Int32)) hx hb d_XMe_holds_12 (by decide) ?_
      refine lv_iload_n hx hb d_XMe_holds_15 rfl (lv_at hl 2 rfl) ?_
      refine lv_isub hx hb d_XMe_holds_16 ?_
      refine lv_icmp_gt (tgt := 24) hx hb d_XMe_holds_17 (by decide) (fun c_3 => ?_) (fun c_3 => ?_)
      · have hf := hf.trans (if_pos c_3)
        refine lv_iconst (v := (0 : Int32)) hx hb d_XMe_holds_24 (by decide) ?_
        exact hret false _ _ d_XMe_holds_25 hf
      · have hf := hf.trans (if_neg c_3)
        refine lv_iconst (v := (1 : Int32)) hx hb d_XMe_holds_20 (by decide) ?_
        refine lv_goto (tgt := 25) hx hb d_XMe_holds_21 (by decide) ?_
        exact hret true _ _ d_XMe_holds_25 hf
def f_XMe_faultOf (u0 : XS) (x1 : Int32) (x2 : Int32) : Int32 := if (x1 &&& (x2 - (1 : Int32))) = (0 : Int32) then nm (f_XMe_holds u0 x1 x2) (fun (z_2 : Bool) => if (bI z_2) = (0 : Int32) then (5 : Int32) else (0 : Int32)) else (6 : Int32)
set_option maxHeartbeats 4000000 in
set_option maxRecDepth 100000 in
theorem c_XMe_faultOf (l : Launch) (D : va_G) (a : Nat → Nat) (k : Nat → ClassId) (u0 : XS) (x1 : Int32) (x2 : Int32) : zRi l y_XMe_faultOf w_XMe_faultOf rm_XMe_faultOf D clX (tyX k) nwX (xW a k) [.ref (a 2), .int x1, .int x2] u0 (f_XMe_faultOf u0 x1 x2) := by
  generalize hF : f_XMe_faultOf u0 x1 x2 = F
  have hf := hF.symm
  unfold f_XMe_faultOf at hf
  refine zRi_of (cc := b_XMe_faultOf) (maxL := 3) (own := RX_Me) (by decide) rfl rfl (Nat.le_of_ble_eq_true rfl) ?_
  intro p e R st m args below meth c H locs Q ls hR hx hb hml hown hts hw hret hl
  subst hR
  have hcs : 0 ≤ (rm_XMe_faultOf).cells ∧ 0 ≤ (rm_XMe_faultOf).slots := ⟨Nat.zero_le _, Nat.zero_le _⟩
  have hl : lv_has ls 3 [(0, .ref (a 2)), (1, .int x1), (2, .int x2)] := hl
  refine lv_iload_n hx hb d_XMe_faultOf_0 rfl (lv_at hl 1 rfl) ?_
  refine lv_iload_n hx hb d_XMe_faultOf_1 rfl (lv_at hl 2 rfl) ?_
  refine lv_iconst (v := (1 : Int32)) hx hb d_XMe_faultOf_2 (by decide) ?_
  refine lv_isub hx hb d_XMe_faultOf_3 ?_
  refine lv_iand hx hb d_XMe_faultOf_4 ?_
  refine lv_if_eq (tgt := 11) hx hb d_XMe_faultOf_5 (by decide) (fun c_1 => ?_) (fun c_1 => ?_)
  · have hf := hf.trans (if_pos c_1)
    refine lv_aload_n hx hb d_XMe_faultOf_11 rfl (lv_at hl 0 rfl) ?_
    refine lv_iload_n hx hb d_XMe_faultOf_12 rfl (lv_at hl 1 rfl) ?_
    refine lv_iload_n hx hb d_XMe_faultOf_13 rfl (lv_at hl 2 rfl) ?_
    refine z_rz (z_runV (As := [.int x1, .int x2]) (rest := []) ⟨hx, hb, hml, hown, hts⟩ (c_XMe_holds l D a k u0 x1 x2) (qX_Me_15 hts (by decide)) hw 2 rfl rfl hl.1 rfl (lv_room (Nat.le_of_ble_eq_true rfl)) d_XMe_faultOf_14 hcs) (fun z_2 ez_2 => ?_)
    have hf := hf.trans (nm_eq ez_2)
    refine lv_if_eq (tgt := 24) hx hb d_XMe_faultOf_17 (by decide) (fun c_3 => ?_) (fun c_3 => ?_)
    · have hf := hf.trans (if_pos c_3)
      refine lv_iconst (v := (5 : Int32)) hx hb d_XMe_faultOf_24 (by decide) ?_
      exact hret (5 : Int32) _ _ d_XMe_faultOf_25 hf
    · have hf := hf.trans (if_neg c_3)
      refine lv_iconst (v := (0 : Int32)) hx hb d_XMe_faultOf_20 (by decide) ?_
      refine lv_goto (tgt := 25) hx hb d_XMe_faultOf_21 (by decide) ?_
      exact hret (0 : Int32) _ _ d_XMe_faultOf_25 hf
  · have hf := hf.trans (if_neg c_1)
    refine lv_bipush (v := (6 : Int32)) hx hb d_XMe_faultOf_8 (by decide) ?_
    exact hret (6 : Int32) _ _ d_XMe_faultOf_10 hf
def f_XMe_get (u0 : XS) (x1 : Int32) : Int32 := if x1 < (0 : Int32) then (0 : Int32) else if (1024 : Int32) ≤ x1 then (0 : Int32) else (xM u0 (Int32.toNatClampNeg x1))
set_option maxHeartbeats 4000000 in
set_option maxRecDepth 100000 in
theorem c_XMe_get (l : Launch) (D : va_G) (a : Nat → Nat) (k : Nat → ClassId) (u0 : XS) (x1 : Int32) : zRi l y_XMe_get w_XMe_get rm_XMe_get D clX (tyX k) nwX (xW a k) [.ref (a 2), .int x1] u0 (f_XMe_get u0 x1) := by
  generalize hF : f_XMe_get u0 x1 = F
  have hf := hF.symm
  unfold f_XMe_get at hf
  refine zRi_of (cc := b_XMe_get) (maxL := 2) (own := RX_Me) (by decide) rfl rfl (Nat.le_of_ble_eq_true rfl) ?_
  intro p e R st m args below meth c H locs Q ls hR hx hb hml hown hts hw hret hl
  subst hR
  have hcs : 0 ≤ (rm_XMe_get).cells ∧ 0 ≤ (rm_XMe_get).slots := ⟨Nat.zero_le _, Nat.zero_le _⟩
  have hl : lv_has ls 2 [(0, .ref (a 2)), (1, .int x1)] := hl
  refine lv_iload_n hx hb d_XMe_get_0 rfl (lv_at hl 1 rfl) ?_
  refine lv_if_lt (tgt := 20) hx hb d_XMe_get_1 (by decide) (fun c_1 => ?_) (fun c_1 => ?_)
  · have hf := hf.trans (if_pos c_1)
    refine lv_iconst (v := (0 : Int32)) hx hb d_XMe_get_20 (by decide) ?_
    exact hret (0 : Int32) _ _ d_XMe_get_21 hf
  · have hf := hf.trans (if_neg c_1)
    refine lv_iload_n hx hb d_XMe_get_4 rfl (lv_at hl 1 rfl) ?_
    refine lv_sipush (v := (1024 : Int32)) hx hb d_XMe_get_5 (by decide) ?_
    refine lv_icmp_ge (tgt := 20) hx hb d_XMe_get_8 (by decide) (fun c_2 => ?_) (fun c_2 => ?_)
    · have hf := hf.trans (if_pos c_2)
      refine lv_iconst (v := (0 : Int32)) hx hb d_XMe_get_20 (by decide) ?_
      exact hret (0 : Int32) _ _ d_XMe_get_21 hf
    · have hf := hf.trans (if_neg c_2)
      refine lv_aload_n hx hb d_XMe_get_11 rfl (lv_at hl 0 rfl) ?_
      refine va_get (v := .ref (a 3)) hx hb hts iX_Me hown hw.2.1 hw.1 2 rfl rfl 0 (by decide) (hts _ kX_Me_11) (fun _ h => h) rfl d_XMe_get_12 ?_
      refine lv_iload_n hx hb d_XMe_get_15 rfl (lv_at hl 1 rfl) ?_
      refine va_iald hx hb hw.2.1 hw.1 3 0 rfl rfl (z_in1024 (by assumption) (by assumption)) d_XMe_get_16 ?_
      refine lv_goto (tgt := 21) hx hb d_XMe_get_17 (by decide) ?_
      exact hret (xM u0 (Int32.toNatClampNeg x1)) _ _ d_XMe_get_21 hf
def f_XMe_word (u0 : XS) (x1 : Int32) : Int32 := nm (f_XMe_get u0 x1) (fun (x_1 : Int32) => nm (f_XMe_get u0 (x1 + (1 : Int32))) (fun (x_2 : Int32) => nm (f_XMe_get u0 (x1 + (2 : Int32))) (fun (x_3 : Int32) => nm (f_XMe_get u0 (x1 + (3 : Int32))) (fun (x_4 : Int32) => ((((x_1 <<< ((24 : Int32) &&& 31)) ||| (x_2 <<< ((16 : Int32) &&& 31))) ||| (x_3 <<< ((8 : Int32) &&& 31))) ||| x_4)))))
set_option maxHeartbeats 4000000 in
set_option maxRecDepth 100000 in
theorem c_XMe_word (l : Launch) (D : va_G) (a : Nat → Nat) (k : Nat → ClassId) (u0 : XS) (x1 : Int32) : zRi l y_XMe_word w_XMe_word rm_XMe_word D clX (tyX k) nwX (xW a k) [.ref (a 2), .int x1] u0 (f_XMe_word u0 x1) := by
  generalize hF : f_XMe_word u0 x1 = F
  have hf := hF.symm
  unfold f_XMe_word at hf
  refine zRi_of (cc := b_XMe_word) (maxL := 2) (own := RX_Me) (by decide) rfl rfl (Nat.le_of_ble_eq_true rfl) ?_
  intro p e R st m args below meth c H locs Q ls hR hx hb hml hown hts hw hret hl
  subst hR
  have hcs : 0 ≤ (rm_XMe_word).cells ∧ 0 ≤ (rm_XMe_word).slots := ⟨Nat.zero_le _, Nat.zero_le _⟩
  have hl : lv_has ls 2 [(0, .ref (a 2)), (1, .int x1)] := hl
  refine lv_aload_n hx hb d_XMe_word_0 rfl (lv_at hl 0 rfl) ?_
  refine lv_iload_n hx hb d_XMe_word_1 rfl (lv_at hl 1 rfl) ?_
  refine z_ri (z_runV (As := [.int x1]) (rest := []) ⟨hx, hb, hml, hown, hts⟩ (c_XMe_get l D a k u0 x1) (qX_Me_19 hts (by decide)) hw 2 rfl rfl hl.1 rfl (lv_room (Nat.le_of_ble_eq_true rfl)) d_XMe_word_2 hcs) (fun x_1 ex_1 => ?_)
  have hf := hf.trans (nm_eq ex_1)
  refine lv_bipush (v := (24 : Int32)) hx hb d_XMe_word_5 (by decide) ?_
  refine lv_ishl hx hb d_XMe_word_7 ?_
  refine lv_aload_n hx hb d_XMe_word_8 rfl (lv_at hl 0 rfl) ?_
  refine lv_iload_n hx hb d_XMe_word_9 rfl (lv_at hl 1 rfl) ?_
  refine lv_iconst (v := (1 : Int32)) hx hb d_XMe_word_10 (by decide) ?_
  refine lv_iadd hx hb d_XMe_word_11 ?_
  refine z_ri (z_runV (As := [.int (x1 + (1 : Int32))]) (rest := [.int (x_1 <<< ((24 : Int32) &&& 31))]) ⟨hx, hb, hml, hown, hts⟩ (c_XMe_get l D a k u0 (x1 + (1 : Int32))) (qX_Me_19 hts (by decide)) hw 2 rfl rfl hl.1 rfl (lv_room (Nat.le_of_ble_eq_true rfl)) d_XMe_word_12 hcs) (fun x_2 ex_2 => ?_)
  have hf := hf.trans (nm_eq ex_2)
  refine lv_bipush (v := (16 : Int32)) hx hb d_XMe_word_15 (by decide) ?_
  refine lv_ishl hx hb d_XMe_word_17 ?_
  refine lv_ior hx hb d_XMe_word_18 ?_
  refine lv_aload_n hx hb d_XMe_word_19 rfl (lv_at hl 0 rfl) ?_
  refine lv_iload_n hx hb d_XMe_word_20 rfl (lv_at hl 1 rfl) ?_
  refine lv_iconst (v := (2 : Int32)) hx hb d_XMe_word_21 (by decide) ?_
  refine lv_iadd hx hb d_XMe_word_22 ?_
  refine z_ri (z_runV (As := [.int (x1 + (2 : Int32))]) (rest := [.int ((x_1 <<< ((24 : Int32) &&& 31)) ||| (x_2 <<< ((16 : Int32) &&& 31)))]) ⟨hx, hb, hml, hown, hts⟩ (c_XMe_get l D a k u0 (x1 + (2 : Int32))) (qX_Me_19 hts (by decide)) hw 2 rfl rfl hl.1 rfl (lv_room (Nat.le_of_ble_eq_true rfl)) d_XMe_word_23 hcs) (fun x_3 ex_3 => ?_)
  have hf := hf.trans (nm_eq ex_3)
  refine lv_bipush (v := (8 : Int32)) hx hb d_XMe_word_26 (by decide) ?_
  refine lv_ishl hx hb d_XMe_word_28 ?_
  refine lv_ior hx hb d_XMe_word_29 ?_
  refine lv_aload_n hx hb d_XMe_word_30 rfl (lv_at hl 0 rfl) ?_
  refine lv_iload_n hx hb d_XMe_word_31 rfl (lv_at hl 1 rfl) ?_
  refine lv_iconst (v := (3 : Int32)) hx hb d_XMe_word_32 (by decide) ?_
  refine lv_iadd hx hb d_XMe_word_33 ?_
  refine z_ri (z_runV (As := [.int (x1 + (3 : Int32))]) (rest := [.int (((x_1 <<< ((24 : Int32) &&& 31)) ||| (x_2 <<< ((16 : Int32) &&& 31))) ||| (x_3 <<< ((8 : Int32) &&& 31)))]) ⟨hx, hb, hml, hown, hts⟩ (c_XMe_get l D a k u0 (x1 + (3 : Int32))) (qX_Me_19 hts (by decide)) hw 2 rfl rfl hl.1 rfl (lv_room (Nat.le_of_ble_eq_true rfl)) d_XMe_word_34 hcs) (fun x_4 ex_4 => ?_)
  have hf := hf.trans (nm_eq ex_4)
  refine lv_ior hx hb d_XMe_word_37 ?_
  exact hret ((((x_1 <<< ((24 : Int32) &&& 31)) ||| (x_2 <<< ((16 : Int32) &&& 31))) ||| (x_3 <<< ((8 : Int32) &&& 31))) ||| x_4) _ _ d_XMe_word_38 hf
