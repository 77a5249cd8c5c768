def f_XMe_half (u0 : XS) (x1 : Int32) : Int32 := nm (f_XMe_get u0 x1) (fun (x_1 : Int32) => nm (f_XMe_get u0 (x1 + (1 : Int32))) (fun (x_2 : Int32) => ((Int32.toInt16 ((x_1 <<< ((8 : Int32) &&& 31)) ||| x_2)).toInt32)))
set_option maxHeartbeats 4000000 in
set_option maxRecDepth 100000 in
theorem c_XMe_half (l : Launch) (D : va_G) (a : Nat → Nat) (k : Nat → ClassId) (u0 : XS) (x1 : Int32) : zRi l y_XMe_half w_XMe_half rm_XMe_half D clX (tyX k) nwX (xW a k) [.ref (a 2), .int x1] u0 (f_XMe_half u0 x1) := by
  generalize hF : f_XMe_half u0 x1 = F
  have hf := hF.symm
  unfold f_XMe_half at hf
  refine zRi_of (cc := b_XMe_half) (maxL := 2) (own := RX_Me) (by decide) rfl rfl (Nat.le_of_ble_eq_true rfl) ?_
  intro p e R st m args below meth c H locs Q ls hR hx hb hml hown hts hw hret hl
  subst hR
  have hcs : 0 ≤ (rm_XMe_half).cells ∧ 0 ≤ (rm_XMe_half).slots := ⟨Nat.zero_le _, Nat.zero_le _⟩
  have hl : lv_has ls 2 [(0, .ref (a 2)), (1, .int x1)] := hl
  refine lv_aload_n hx hb d_XMe_half_0 rfl (lv_at hl 0 rfl) ?_
  refine lv_iload_n hx hb d_XMe_half_1 rfl (lv_at hl 1 rfl) ?_
  refine z_ri (z_runV (As := [.int x1]) (rest := []) ⟨hx, hb, hml, hown, hts⟩ (c_XMe_get l D a k u0 x1) (qX_Me_19 hts (by decide)) hw 2 rfl rfl hl.1 rfl (lv_room (Nat.le_of_ble_eq_true rfl)) d_XMe_half_2 hcs) (fun x_1 ex_1 => ?_)
  have hf := hf.trans (nm_eq ex_1)
  refine lv_bipush (v := (8 : Int32)) hx hb d_XMe_half_5 (by decide) ?_
  refine lv_ishl hx hb d_XMe_half_7 ?_
  refine lv_aload_n hx hb d_XMe_half_8 rfl (lv_at hl 0 rfl) ?_
  refine lv_iload_n hx hb d_XMe_half_9 rfl (lv_at hl 1 rfl) ?_
  refine lv_iconst (v := (1 : Int32)) hx hb d_XMe_half_10 (by decide) ?_
  refine lv_iadd hx hb d_XMe_half_11 ?_
  refine z_ri (z_runV (As := [.int (x1 + (1 : Int32))]) (rest := [.int (x_1 <<< ((8 : Int32) &&& 31))]) ⟨hx, hb, hml, hown, hts⟩ (c_XMe_get l D a k u0 (x1 + (1 : Int32))) (qX_Me_19 hts (by decide)) hw 2 rfl rfl hl.1 rfl (lv_room (Nat.le_of_ble_eq_true rfl)) d_XMe_half_12 hcs) (fun x_2 ex_2 => ?_)
  have hf := hf.trans (nm_eq ex_2)
  refine lv_ior hx hb d_XMe_half_15 ?_
  refine lv_i2s (v := (Int32.toInt16 ((x_1 <<< ((8 : Int32) &&& 31)) ||| x_2)).toInt32) hx hb d_XMe_half_16 rfl ?_
  exact hret ((Int32.toInt16 ((x_1 <<< ((8 : Int32) &&& 31)) ||| x_2)).toInt32) _ _ d_XMe_half_17 hf
