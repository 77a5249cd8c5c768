def f_XDM_demand (u0 : XS) (z0 : Bool) : Sum (String × XS) (XS) := if (bI z0) = (0 : Int32) then Sum.inl ("java/lang/IllegalArgumentException", u0) else Sum.inr u0
set_option maxHeartbeats 4000000 in
set_option maxRecDepth 100000 in
theorem cn_XDM_demand (l : Launch) (D : va_G) (a : Nat → Nat) (k : Nat → ClassId) (u0 : XS) (z0 : Bool) (F : XS) (hf : f_XDM_demand u0 z0 = Sum.inr F) : zMv l y_XDM_demand w_XDM_demand rm_XDM_demand D clX (tyX k) nwX (xW a k) [.int (bI z0)] u0 F := by
  have hf := hf.symm
  unfold f_XDM_demand at hf
  refine zMv_of (cc := b_XDM_demand) (maxL := 1) (own := RX_DM) (by decide) rfl rfl (Nat.le_of_ble_eq_true rfl) ?_
  intro p e R st m args below meth c A H locs Q ls hR hx hb hml hown hts hw hS hret hl
  subst hR
  have hcs : 0 ≤ (rm_XDM_demand).cells ∧ 0 ≤ (rm_XDM_demand).slots := ⟨Nat.zero_le _, Nat.zero_le _⟩
  have hl : lv_has ls 1 [(0, .int (bI z0))] := hl
  refine lv_iload_n hx hb d_XDM_demand_0 rfl (lv_at hl 0 rfl) ?_
  refine lv_if_ne (tgt := 14) hx hb d_XDM_demand_1 (by decide) (fun c_1 => ?_) (fun c_1 => ?_)
  · have hf := hf.trans (if_neg c_1)
    exact hret _ _ _ _ _ d_XDM_demand_14 hw hS (Sum.inr.inj hf)
  · have hf := hf.trans (if_pos c_1)
    cases hf
set_option maxHeartbeats 4000000 in
set_option maxRecDepth 100000 in
theorem cx_XDM_demand (l : Launch) (hl9 : l.stackTraces = false) (D : va_G) (a : Nat → Nat) (k : Nat → ClassId) (sa : Nat → Nat) (u0 : XS) (z0 : Bool) (E : String) (U1 : XS) (hf : f_XDM_demand u0 z0 = Sum.inl (E, U1)) : zT l y_XDM_demand w_XDM_demand rx_XDM_demand D clX (tyX k) nwX (skX sa) (xW a k) [.int (bI z0)] u0 E U1 := by
  have hf := hf.symm
  unfold f_XDM_demand at hf
  refine zT_of (cc := b_XDM_demand) (maxL := 1) (own := RX_DM) (by decide) rfl rfl (Nat.le_of_ble_eq_true rfl) ?_ hl9
  intro p e R st m args below meth c A H locs Q ls hR hx hb hml hown hts hw hS hE hprop hthr hl
  subst hR
  have hcs : 0 ≤ (rx_XDM_demand).cells ∧ 0 ≤ (rx_XDM_demand).slots := ⟨Nat.zero_le _, Nat.zero_le _⟩
  have hl : lv_has ls 1 [(0, .int (bI z0))] := hl
  refine lv_iload_n hx hb d_XDM_demand_0 rfl (lv_at hl 0 rfl) ?_
  refine lv_if_ne (tgt := 14) hx hb d_XDM_demand_1 (by decide) (fun c_1 => ?_) (fun c_1 => ?_)
  · have hf := hf.trans (if_neg c_1)
    cases hf
  · have hf := hf.trans (if_pos c_1)
    obtain ⟨rfl, rfl⟩ := Prod.mk.inj (Sum.inl.inj hf)
    exact hthr (sa := sa 0) ps_110_114 rfl hl.1 (by decide +kernel) kt_110 ki_IllegalArgumentException (List.mem_of_getElem? (i := 0) rfl) pg_110_114 pn_110_114 d_XDM_demand_4 d_XDM_demand_7 d_XDM_demand_8 d_XDM_demand_10 d_XDM_demand_13 (Nat.le_of_ble_eq_true rfl) (Nat.le_of_ble_eq_true rfl) (Nat.le_of_ble_eq_true rfl) (Nat.le_of_ble_eq_true rfl)
def f_XDM_demandMemory (u0 : XS) (x1 : Int32) (x2 : Int32) : Sum (String × XS) (XS) := nm (f_XMe_holds u0 x1 x2) (fun (z_1 : Bool) => if (bI z_1) = (0 : Int32) then Sum.inl ("java/lang/IndexOutOfBoundsException", u0) else Sum.inr u0)
set_option maxHeartbeats 4000000 in
set_option maxRecDepth 100000 in
theorem cn_XDM_demandMemory (l : Launch) (D : va_G) (a : Nat → Nat) (k : Nat → ClassId) (u0 : XS) (x1 : Int32) (x2 : Int32) (F : XS) (hf : f_XDM_demandMemory u0 x1 x2 = Sum.inr F) : zMv l y_XDM_demandMemory w_XDM_demandMemory rm_XDM_demandMemory D clX (tyX k) nwX (xW a k) [.ref (a 0), .int x1, .int x2] u0 F := by
  have hf := hf.symm
  unfold f_XDM_demandMemory at hf
  refine zMv_of (cc := b_XDM_demandMemory) (maxL := 3) (own := RX_DM) (by decide) rfl rfl (Nat.le_of_ble_eq_true rfl) ?_
  intro p e R st m args below meth c A H locs Q ls hR hx hb hml hown hts hw hS hret hl
  subst hR
  have hcs : 0 ≤ (rm_XDM_demandMemory).cells ∧ 0 ≤ (rm_XDM_demandMemory).slots := ⟨Nat.zero_le _, Nat.zero_le _⟩
  have hl : lv_has ls 3 [(0, .ref (a 0)), (1, .int x1), (2, .int x2)] := hl
  refine lv_aload_n hx hb d_XDM_demandMemory_0 rfl (lv_at hl 0 rfl) ?_
  refine va_get (v := .ref (a 1)) hx hb hts iX_DM hown hw.2.1 hw.1 0 rfl rfl 0 (by decide) (hts _ kX_DM_10) (fun _ h => h) rfl d_XDM_demandMemory_1 ?_
  refine va_getN (v := .ref (a 2)) hx hb hts iX_St hown hw.2.1 hw.1 1 rfl rfl 0 (by decide) (va_Nw.use rfl (hw.2.2.2 _ kX_DM_37).2) (fun _ h => h) rfl d_XDM_demandMemory_4 ?_
  refine lv_iload_n hx hb d_XDM_demandMemory_7 rfl (lv_at hl 1 rfl) ?_
  refine lv_iload_n hx hb d_XDM_demandMemory_8 rfl (lv_at hl 2 rfl) ?_
  refine z_rz (z_runV (As := [.int x1, .int x2]) (rest := []) ⟨hx, hb, hml, hown, hts⟩ (c_XMe_holds l D a k u0 x1 x2) (qX_DM_115 hts (by decide)) hw 2 rfl rfl hl.1 rfl (lv_room (Nat.le_of_ble_eq_true rfl)) d_XDM_demandMemory_9 hcs) (fun z_1 ez_1 => ?_)
  have hf := hf.trans (nm_eq ez_1)
  refine lv_if_ne (tgt := 25) hx hb d_XDM_demandMemory_12 (by decide) (fun c_2 => ?_) (fun c_2 => ?_)
  · have hf := hf.trans (if_neg c_2)
    exact hret _ _ _ _ _ d_XDM_demandMemory_25 hw hS (Sum.inr.inj hf)
  · have hf := hf.trans (if_pos c_2)
    cases hf
set_option maxHeartbeats 4000000 in
set_option maxRecDepth 100000 in
theorem cx_XDM_demandMemory (l : Launch) (hl9 : l.stackTraces = false) (D : va_G) (a : Nat → Nat) (k : Nat → ClassId) (sa : Nat → Nat) (u0 : XS) (x1 : Int32) (x2 : Int32) (E : String) (U1 : XS) (hf : f_XDM_demandMemory u0 x1 x2 = Sum.inl (E, U1)) : zT l y_XDM_demandMemory w_XDM_demandMemory rx_XDM_demandMemory D clX (tyX k) nwX (skX sa) (xW a k) [.ref (a 0), .int x1, .int x2] u0 E U1 := by
  have hf := hf.symm
  unfold f_XDM_demandMemory at hf
  refine zT_of (cc := b_XDM_demandMemory) (maxL := 3) (own := RX_DM) (by decide) rfl rfl (Nat.le_of_ble_eq_true rfl) ?_ hl9
  intro p e R st m args below meth c A H locs Q ls hR hx hb hml hown hts hw hS hE hprop hthr hl
  subst hR
  have hcs : 0 ≤ (rx_XDM_demandMemory).cells ∧ 0 ≤ (rx_XDM_demandMemory).slots := ⟨Nat.zero_le _, Nat.zero_le _⟩
  have hl : lv_has ls 3 [(0, .ref (a 0)), (1, .int x1), (2, .int x2)] := hl
  refine lv_aload_n hx hb d_XDM_demandMemory_0 rfl (lv_at hl 0 rfl) ?_
  refine va_get (v := .ref (a 1)) hx hb hts iX_DM hown hw.2.1 hw.1 0 rfl rfl 0 (by decide) (hts _ kX_DM_10) (fun _ h => h) rfl d_XDM_demandMemory_1 ?_
  refine va_getN (v := .ref (a 2)) hx hb hts iX_St hown hw.2.1 hw.1 1 rfl rfl 0 (by decide) (va_Nw.use rfl (hw.2.2.2 _ kX_DM_37).2) (fun _ h => h) rfl d_XDM_demandMemory_4 ?_
  refine lv_iload_n hx hb d_XDM_demandMemory_7 rfl (lv_at hl 1 rfl) ?_
  refine lv_iload_n hx hb d_XDM_demandMemory_8 rfl (lv_at hl 2 rfl) ?_
  refine z_rz (z_runV (As := [.int x1, .int x2]) (rest := []) ⟨hx, hb, hml, hown, hts⟩ (c_XMe_holds l D a k u0 x1 x2) (qX_DM_115 hts (by decide)) hw 2 rfl rfl hl.1 rfl (lv_room (Nat.le_of_ble_eq_true rfl)) d_XDM_demandMemory_9 hcs) (fun z_1 ez_1 => ?_)
  have hf := hf.trans (nm_eq ez_1)
  refine lv_if_ne (tgt := 25) hx hb d_XDM_demandMemory_12 (by decide) (fun c_2 => ?_) (fun c_2 => ?_)
  · have hf := hf.trans (if_neg c_2)
    cases hf
  · have hf := hf.trans (if_pos c_2)
    obtain ⟨rfl, rfl⟩ := Prod.mk.inj (Sum.inl.inj hf)
    exact hthr (sa := sa 1) ps_118_122 rfl hl.1 (by decide +kernel) kt_118 ki_IndexOutOfBoundsException (List.mem_of_getElem? (i := 1) rfl) pg_118_122 pn_118_122 d_XDM_demandMemory_15 d_XDM_demandMemory_18 d_XDM_demandMemory_19 d_XDM_demandMemory_21 d_XDM_demandMemory_24 (Nat.le_of_ble_eq_true rfl) (Nat.le_of_ble_eq_true rfl) (Nat.le_of_ble_eq_true rfl) (Nat.le_of_ble_eq_true rfl)
def f_XDM_poke (u0 : XS) (x1 : Int32) (x2 : Int32) (y3 : Int64) : Sum (String × XS) (XS) := nm (f_XDM_isWithin u0 x2 (1 : Int32) (8 : Int32)) (fun (z_1 : Bool) => bx (f_XDM_demand u0 z_1) (fun (u_2 : XS) => bx (f_XDM_demandMemory u_2 x1 x2) (fun (u_3 : XS) => nm (f_XMe_store u_3 x1 x2 y3) (fun (u_4 : XS) => Sum.inr u_4))))
set_option maxHeartbeats 4000000 in
set_option maxRecDepth 100000 in
theorem cn_XDM_poke (l : Launch) (D : va_G) (a : Nat → Nat) (k : Nat → ClassId) (u0 : XS) (x1 : Int32) (x2 : Int32) (y3 : Int64) (F : XS) (hf : f_XDM_poke u0 x1 x2 y3 = Sum.inr F) : zMv l y_XDM_poke w_XDM_poke rm_XDM_poke D clX (tyX k) nwX (xW a k) [.ref (a 0), .int x1, .int x2, .long y3] u0 F := by
  have hf := hf.symm
  unfold f_XDM_poke at hf
  refine zMv_of (cc := b_XDM_poke) (maxL := 5) (own := RX_DM) (by decide) rfl rfl (Nat.le_of_ble_eq_true rfl) ?_
  intro p e R st m args below meth c A H locs Q ls hR hx hb hml hown hts hw hS hret hl
  subst hR
  have hcs : 0 ≤ (rm_XDM_poke).cells ∧ 0 ≤ (rm_XDM_poke).slots := ⟨Nat.zero_le _, Nat.zero_le _⟩
  have hl : lv_has ls 5 [(0, .ref (a 0)), (1, .int x1), (2, .int x2), (3, .long y3)] := hl
  refine lv_iload_n hx hb d_XDM_poke_0 rfl (lv_at hl 2 rfl) ?_
  refine lv_iconst (v := (1 : Int32)) hx hb d_XDM_poke_1 (by decide) ?_
  refine lv_bipush (v := (8 : Int32)) hx hb d_XDM_poke_2 (by decide) ?_
  refine z_rz (z_runS (As := [.int x2, .int (1 : Int32), .int (8 : Int32)]) (rest := []) ⟨hx, hb, hml, hown, hts⟩ (c_XDM_isWithin l D a k u0 x2 (1 : Int32) (8 : Int32)) (qX_DM_25 hts (by decide)) hw  hl.1 rfl (lv_room (Nat.le_of_ble_eq_true rfl)) d_XDM_poke_4 hcs) (fun z_1 ez_1 => ?_)
  have hf := hf.trans (nm_eq ez_1)
  obtain ⟨u_2, eu_2, hf⟩ := bx_inv hf
  refine z_wv' (u' := u_2) (z_runS (As := [.int (bI z_1)]) (rest := []) ⟨hx, hb, hml, hown, hts⟩ (cn_XDM_demand l D a k u0 z_1 u_2 eu_2) (qX_DM_29 hts (by decide)) hw  hl.1 rfl (lv_room (Nat.le_of_ble_eq_true rfl)) d_XDM_poke_7 hcs) hw hS (fun H locs hw hS => ?_)
  refine lv_aload_n hx hb d_XDM_poke_10 rfl (lv_at hl 0 rfl) ?_
  refine lv_iload_n hx hb d_XDM_poke_11 rfl (lv_at hl 1 rfl) ?_
  refine lv_iload_n hx hb d_XDM_poke_12 rfl (lv_at hl 2 rfl) ?_
  obtain ⟨u_3, eu_3, hf⟩ := bx_inv hf
  refine z_wv' (u' := u_3) (z_runV (As := [.int x1, .int x2]) (rest := []) ⟨hx, hb, hml, hown, hts⟩ (cn_XDM_demandMemory l D a k u_2 x1 x2 u_3 eu_3) (qX_DM_33 hts (by decide)) hw 0 rfl rfl hl.1 rfl (lv_room (Nat.le_of_ble_eq_true rfl)) d_XDM_poke_13 hcs) hw hS (fun H locs hw hS => ?_)
  refine lv_aload_n hx hb d_XDM_poke_16 rfl (lv_at hl 0 rfl) ?_
  refine va_get (v := .ref (a 1)) hx hb hts iX_DM hown hw.2.1 hw.1 0 rfl rfl 0 (by decide) (hts _ kX_DM_10) (fun _ h => h) rfl d_XDM_poke_17 ?_
  refine va_getN (v := .ref (a 2)) hx hb hts iX_St hown hw.2.1 hw.1 1 rfl rfl 0 (by decide) (va_Nw.use rfl (hw.2.2.2 _ kX_DM_37).2) (fun _ h => h) rfl d_XDM_poke_20 ?_
  refine lv_iload_n hx hb d_XDM_poke_23 rfl (lv_at hl 1 rfl) ?_
  refine lv_iload_n hx hb d_XDM_poke_24 rfl (lv_at hl 2 rfl) ?_
  refine lv_lload_n hx hb d_XDM_poke_25 rfl (lv_at hl 3 rfl) ?_
  refine z_wv (z_runV (As := [.int x1, .int x2, .long y3]) (rest := []) ⟨hx, hb, hml, hown, hts⟩ (c_XMe_store l D a k u_3 x1 x2 y3) (qX_DM_41 hts (by decide)) hw 2 rfl rfl hl.1 rfl (lv_room (Nat.le_of_ble_eq_true rfl)) d_XDM_poke_26 hcs) hw hS (fun u_4 H locs eu_4 hw hS => ?_)
  have hf := hf.trans (nm_eq eu_4)
  exact hret _ _ _ _ _ d_XDM_poke_29 hw hS (Sum.inr.inj hf)
set_option maxHeartbeats 4000000 in
set_option maxRecDepth 100000 in
theorem cx_XDM_poke (l : Launch) (hl9 : l.stackTraces = false) (D : va_G) (a : Nat → Nat) (k : Nat → ClassId) (sa : Nat → Nat) (u0 : XS) (x1 : Int32) (x2 : Int32) (y3 : Int64) (E : String) (U1 : XS) (hf : f_XDM_poke u0 x1 x2 y3 = Sum.inl (E, U1)) : zT l y_XDM_poke w_XDM_poke rx_XDM_poke D clX (tyX k) nwX (skX sa) (xW a k) [.ref (a 0), .int x1, .int x2, .long y3] u0 E U1 := by
  have hf := hf.symm
  unfold f_XDM_poke at hf
  refine zT_of (cc := b_XDM_poke) (maxL := 5) (own := RX_DM) (by decide) rfl rfl (Nat.le_of_ble_eq_true rfl) ?_ hl9
  intro p e R st m args below meth c A H locs Q ls hR hx hb hml hown hts hw hS hE hprop hthr hl
  subst hR
  have hcs : 0 ≤ (rx_XDM_poke).cells ∧ 0 ≤ (rx_XDM_poke).slots := ⟨Nat.zero_le _, Nat.zero_le _⟩
  have hl : lv_has ls 5 [(0, .ref (a 0)), (1, .int x1), (2, .int x2), (3, .long y3)] := hl
  refine lv_iload_n hx hb d_XDM_poke_0 rfl (lv_at hl 2 rfl) ?_
  refine lv_iconst (v := (1 : Int32)) hx hb d_XDM_poke_1 (by decide) ?_
  refine lv_bipush (v := (8 : Int32)) hx hb d_XDM_poke_2 (by decide) ?_
  refine z_rz (z_runS (As := [.int x2, .int (1 : Int32), .int (8 : Int32)]) (rest := []) ⟨hx, hb, hml, hown, hts⟩ (c_XDM_isWithin l D a k u0 x2 (1 : Int32) (8 : Int32)) (qX_DM_25 hts (by decide)) hw  hl.1 rfl (lv_room (Nat.le_of_ble_eq_true rfl)) d_XDM_poke_4 hcs) (fun z_1 ez_1 => ?_)
  have hf := hf.trans (nm_eq ez_1)
  rcases bx_invX hf with ht | ⟨u_2, eu_2, hf⟩
  · exact hprop _ _ _ _ _ _ _ (ztS (As := [.int (bI z_1)]) (rest := []) ⟨hx, hb, hml, hown, hts⟩ (cx_XDM_demand l hl9 D a k sa u0 z_1 E U1 ht) (qxX_DM_29 hts (by decide)) hw hE hS  hl.1 rfl (lv_room (Nat.le_of_ble_eq_true rfl)) d_XDM_poke_7 ⟨Nat.le_of_ble_eq_true rfl, Nat.le_of_ble_eq_true rfl⟩) hw hS
  refine z_wv' (u' := u_2) (z_runS (As := [.int (bI z_1)]) (rest := []) ⟨hx, hb, hml, hown, hts⟩ (cn_XDM_demand l D a k u0 z_1 u_2 eu_2) (qX_DM_29 hts (by decide)) hw  hl.1 rfl (lv_room (Nat.le_of_ble_eq_true rfl)) d_XDM_poke_7 hcs) hw hS (fun H locs hw hS => ?_)
  refine lv_aload_n hx hb d_XDM_poke_10 rfl (lv_at hl 0 rfl) ?_
  refine lv_iload_n hx hb d_XDM_poke_11 rfl (lv_at hl 1 rfl) ?_
  refine lv_iload_n hx hb d_XDM_poke_12 rfl (lv_at hl 2 rfl) ?_
  rcases bx_invX hf with ht | ⟨u_3, eu_3, hf⟩
  · exact hprop _ _ _ _ _ _ _ (ztV (As := [.int x1, .int x2]) (rest := []) ⟨hx, hb, hml, hown, hts⟩ (cx_XDM_demandMemory l hl9 D a k sa u_2 x1 x2 E U1 ht) (qxX_DM_33 hts (by decide)) hw hE hS 0 rfl rfl hl.1 rfl (lv_room (Nat.le_of_ble_eq_true rfl)) d_XDM_poke_13 ⟨Nat.le_of_ble_eq_true rfl, Nat.le_of_ble_eq_true rfl⟩) hw hS
  refine z_wv' (u' := u_3) (z_runV (As := [.int x1, .int x2]) (rest := []) ⟨hx, hb, hml, hown, hts⟩ (cn_XDM_demandMemory l D a k u_2 x1 x2 u_3 eu_3) (qX_DM_33 hts (by decide)) hw 0 rfl rfl hl.1 rfl (lv_room (Nat.le_of_ble_eq_true rfl)) d_XDM_poke_13 hcs) hw hS (fun H locs hw hS => ?_)
  refine lv_aload_n hx hb d_XDM_poke_16 rfl (lv_at hl 0 rfl) ?_
  refine va_get (v := .ref (a 1)) hx hb hts iX_DM hown hw.2.1 hw.1 0 rfl rfl 0 (by decide) (hts _ kX_DM_10) (fun _ h => h) rfl d_XDM_poke_17 ?_
  refine va_getN (v := .ref (a 2)) hx hb hts iX_St hown hw.2.1 hw.1 1 rfl rfl 0 (by decide) (va_Nw.use rfl (hw.2.2.2 _ kX_DM_37).2) (fun _ h => h) rfl d_XDM_poke_20 ?_
  refine lv_iload_n hx hb d_XDM_poke_23 rfl (lv_at hl 1 rfl) ?_
  refine lv_iload_n hx hb d_XDM_poke_24 rfl (lv_at hl 2 rfl) ?_
  refine lv_lload_n hx hb d_XDM_poke_25 rfl (lv_at hl 3 rfl) ?_
  refine z_wv (z_runV (As := [.int x1, .int x2, .long y3]) (rest := []) ⟨hx, hb, hml, hown, hts⟩ (c_XMe_store l D a k u_3 x1 x2 y3) (qX_DM_41 hts (by decide)) hw 2 rfl rfl hl.1 rfl (lv_room (Nat.le_of_ble_eq_true rfl)) d_XDM_poke_26 hcs) hw hS (fun u_4 H locs eu_4 hw hS => ?_)
  have hf := hf.trans (nm_eq eu_4)
  cases hf
def f_XDM_octet (u0 : XS) (x1 : Int32) : Sum (String × XS) (Int32 × XS) := bx (f_XDM_demandMemory u0 x1 (1 : Int32)) (fun (u_1 : XS) => nm (f_XMe_get u_1 x1) (fun (x_2 : Int32) => Sum.inr (x_2, u_1)))
set_option maxHeartbeats 4000000 in
set_option maxRecDepth 100000 in
theorem cn_XDM_octet (l : Launch) (D : va_G) (a : Nat → Nat) (k : Nat → ClassId) (u0 : XS) (x1 : Int32) (F : Int32 × XS) (hf : f_XDM_octet u0 x1 = Sum.inr F) : zMi l y_XDM_octet w_XDM_octet rm_XDM_octet D clX (tyX k) nwX (xW a k) [.ref (a 0), .int x1] u0 F := by
  have hf := hf.symm
  unfold f_XDM_octet at hf
  refine zMi_of (cc := b_XDM_octet) (maxL := 2) (own := RX_DM) (by decide) rfl rfl (Nat.le_of_ble_eq_true rfl) ?_
  intro p e R st m args below meth c A H locs Q ls hR hx hb hml hown hts hw hS hret hl
  subst hR
  have hcs : 0 ≤ (rm_XDM_octet).cells ∧ 0 ≤ (rm_XDM_octet).slots := ⟨Nat.zero_le _, Nat.zero_le _⟩
  have hl : lv_has ls 2 [(0, .ref (a 0)), (1, .int x1)] := hl
  refine lv_aload_n hx hb d_XDM_octet_0 rfl (lv_at hl 0 rfl) ?_
  refine lv_iload_n hx hb d_XDM_octet_1 rfl (lv_at hl 1 rfl) ?_
  refine lv_iconst (v := (1 : Int32)) hx hb d_XDM_octet_2 (by decide) ?_
  obtain ⟨u_1, eu_1, hf⟩ := bx_inv hf
  refine z_wv' (u' := u_1) (z_runV (As := [.int x1, .int (1 : Int32)]) (rest := []) ⟨hx, hb, hml, hown, hts⟩ (cn_XDM_demandMemory l D a k u0 x1 (1 : Int32) u_1 eu_1) (qX_DM_33 hts (by decide)) hw 0 rfl rfl hl.1 rfl (lv_room (Nat.le_of_ble_eq_true rfl)) d_XDM_octet_3 hcs) hw hS (fun H locs hw hS => ?_)
  refine lv_aload_n hx hb d_XDM_octet_6 rfl (lv_at hl 0 rfl) ?_
  refine va_get (v := .ref (a 1)) hx hb hts iX_DM hown hw.2.1 hw.1 0 rfl rfl 0 (by decide) (hts _ kX_DM_10) (fun _ h => h) rfl d_XDM_octet_7 ?_
  refine va_getN (v := .ref (a 2)) hx hb hts iX_St hown hw.2.1 hw.1 1 rfl rfl 0 (by decide) (va_Nw.use rfl (hw.2.2.2 _ kX_DM_37).2) (fun _ h => h) rfl d_XDM_octet_10 ?_
  refine lv_iload_n hx hb d_XDM_octet_13 rfl (lv_at hl 1 rfl) ?_
  refine z_ri (z_runV (As := [.int x1]) (rest := []) ⟨hx, hb, hml, hown, hts⟩ (c_XMe_get l D a k u_1 x1) (qX_DM_47 hts (by decide)) hw 2 rfl rfl hl.1 rfl (lv_room (Nat.le_of_ble_eq_true rfl)) d_XDM_octet_14 hcs) (fun x_2 ex_2 => ?_)
  have hf := hf.trans (nm_eq ex_2)
  exact hret x_2 _ _ _ _ _ d_XDM_octet_17 hw hS (Sum.inr.inj hf)
set_option maxHeartbeats 4000000 in
set_option maxRecDepth 100000 in
theorem cx_XDM_octet (l : Launch) (hl9 : l.stackTraces = false) (D : va_G) (a : Nat → Nat) (k : Nat → ClassId) (sa : Nat → Nat) (u0 : XS) (x1 : Int32) (E : String) (U1 : XS) (hf : f_XDM_octet u0 x1 = Sum.inl (E, U1)) : zT l y_XDM_octet w_XDM_octet rx_XDM_octet D clX (tyX k) nwX (skX sa) (xW a k) [.ref (a 0), .int x1] u0 E U1 := by
  have hf := hf.symm
  unfold f_XDM_octet at hf
  refine zT_of (cc := b_XDM_octet) (maxL := 2) (own := RX_DM) (by decide) rfl rfl (Nat.le_of_ble_eq_true rfl) ?_ hl9
  intro p e R st m args below meth c A H locs Q ls hR hx hb hml hown hts hw hS hE hprop hthr hl
  subst hR
  have hcs : 0 ≤ (rx_XDM_octet).cells ∧ 0 ≤ (rx_XDM_octet).slots := ⟨Nat.zero_le _, Nat.zero_le _⟩
  have hl : lv_has ls 2 [(0, .ref (a 0)), (1, .int x1)] := hl
  refine lv_aload_n hx hb d_XDM_octet_0 rfl (lv_at hl 0 rfl) ?_
  refine lv_iload_n hx hb d_XDM_octet_1 rfl (lv_at hl 1 rfl) ?_
  refine lv_iconst (v := (1 : Int32)) hx hb d_XDM_octet_2 (by decide) ?_
  rcases bx_invX hf with ht | ⟨u_1, eu_1, hf⟩
  · exact hprop _ _ _ _ _ _ _ (ztV (As := [.int x1, .int (1 : Int32)]) (rest := []) ⟨hx, hb, hml, hown, hts⟩ (cx_XDM_demandMemory l hl9 D a k sa u0 x1 (1 : Int32) E U1 ht) (qxX_DM_33 hts (by decide)) hw hE hS 0 rfl rfl hl.1 rfl (lv_room (Nat.le_of_ble_eq_true rfl)) d_XDM_octet_3 ⟨Nat.le_of_ble_eq_true rfl, Nat.le_of_ble_eq_true rfl⟩) hw hS
  refine z_wv' (u' := u_1) (z_runV (As := [.int x1, .int (1 : Int32)]) (rest := []) ⟨hx, hb, hml, hown, hts⟩ (cn_XDM_demandMemory l D a k u0 x1 (1 : Int32) u_1 eu_1) (qX_DM_33 hts (by decide)) hw 0 rfl rfl hl.1 rfl (lv_room (Nat.le_of_ble_eq_true rfl)) d_XDM_octet_3 hcs) hw hS (fun H locs hw hS => ?_)
  refine lv_aload_n hx hb d_XDM_octet_6 rfl (lv_at hl 0 rfl) ?_
  refine va_get (v := .ref (a 1)) hx hb hts iX_DM hown hw.2.1 hw.1 0 rfl rfl 0 (by decide) (hts _ kX_DM_10) (fun _ h => h) rfl d_XDM_octet_7 ?_
  refine va_getN (v := .ref (a 2)) hx hb hts iX_St hown hw.2.1 hw.1 1 rfl rfl 0 (by decide) (va_Nw.use rfl (hw.2.2.2 _ kX_DM_37).2) (fun _ h => h) rfl d_XDM_octet_10 ?_
  refine lv_iload_n hx hb d_XDM_octet_13 rfl (lv_at hl 1 rfl) ?_
  refine z_ri (z_runV (As := [.int x1]) (rest := []) ⟨hx, hb, hml, hown, hts⟩ (c_XMe_get l D a k u_1 x1) (qX_DM_47 hts (by decide)) hw 2 rfl rfl hl.1 rfl (lv_room (Nat.le_of_ble_eq_true rfl)) d_XDM_octet_14 hcs) (fun x_2 ex_2 => ?_)
  have hf := hf.trans (nm_eq ex_2)
  cases hf
def f_XDM_set (u0 : XS) (x1 : Int32) (x2 : Int32) : Sum (String × XS) (Int32 × XS) := nm (f_XDM_isNibble u0 x1) (fun (z_1 : Bool) => bx (f_XDM_demand u0 z_1) (fun (u_2 : XS) => nm (f_XSt_value u_2 x1) (fun (x_3 : Int32) => nm (f_XSt_put u_2 x1 x2) (fun (u_4 : XS) => Sum.inr (x_3, u_4)))))
set_option maxHeartbeats 4000000 in
set_option maxRecDepth 100000 in
theorem cn_XDM_set (l : Launch) (D : va_G) (a : Nat → Nat) (k : Nat → ClassId) (u0 : XS) (x1 : Int32) (x2 : Int32) (F : Int32 × XS) (hf : f_XDM_set u0 x1 x2 = Sum.inr F) : zMi l y_XDM_set w_XDM_set rm_XDM_set D clX (tyX k) nwX (xW a k) [.ref (a 0), .int x1, .int x2] u0 F := by
  have hf := hf.symm
  unfold f_XDM_set at hf
  refine zMi_of (cc := b_XDM_set) (maxL := 4) (own := RX_DM) (by decide) rfl rfl (Nat.le_of_ble_eq_true rfl) ?_
  intro p e R st m args below meth c A H locs Q ls hR hx hb hml hown hts hw hS hret hl
  subst hR
  have hcs : 0 ≤ (rm_XDM_set).cells ∧ 0 ≤ (rm_XDM_set).slots := ⟨Nat.zero_le _, Nat.zero_le _⟩
  have hl : lv_has ls 4 [(0, .ref (a 0)), (1, .int x1), (2, .int x2)] := hl
  refine lv_iload_n hx hb d_XDM_set_0 rfl (lv_at hl 1 rfl) ?_
  refine z_rz (z_runS (As := [.int x1]) (rest := []) ⟨hx, hb, hml, hown, hts⟩ (c_XDM_isNibble l D a k u0 x1) (qX_DM_51 hts (by decide)) hw  hl.1 rfl (lv_room (Nat.le_of_ble_eq_true rfl)) d_XDM_set_1 hcs) (fun z_1 ez_1 => ?_)
  have hf := hf.trans (nm_eq ez_1)
  obtain ⟨u_2, eu_2, hf⟩ := bx_inv hf
  refine z_wv' (u' := u_2) (z_runS (As := [.int (bI z_1)]) (rest := []) ⟨hx, hb, hml, hown, hts⟩ (cn_XDM_demand l D a k u0 z_1 u_2 eu_2) (qX_DM_29 hts (by decide)) hw  hl.1 rfl (lv_room (Nat.le_of_ble_eq_true rfl)) d_XDM_set_4 hcs) hw hS (fun H locs hw hS => ?_)
  refine lv_aload_n hx hb d_XDM_set_7 rfl (lv_at hl 0 rfl) ?_
  refine va_get (v := .ref (a 1)) hx hb hts iX_DM hown hw.2.1 hw.1 0 rfl rfl 0 (by decide) (hts _ kX_DM_10) (fun _ h => h) rfl d_XDM_set_8 ?_
  refine lv_iload_n hx hb d_XDM_set_11 rfl (lv_at hl 1 rfl) ?_
  refine z_ri (z_runV (As := [.int x1]) (rest := []) ⟨hx, hb, hml, hown, hts⟩ (c_XSt_value l D a k u_2 x1) (qX_DM_55 hts (by decide)) hw 1 rfl rfl hl.1 rfl (lv_room (Nat.le_of_ble_eq_true rfl)) d_XDM_set_12 hcs) (fun x_3 ex_3 => ?_)
  have hf := hf.trans (nm_eq ex_3)
  refine lv_istore_n (lv' := [(3, .int x_3), (0, .ref (a 0)), (1, .int x1), (2, .int x2)]) hx hb d_XDM_set_15 rfl hl (by decide) rfl (fun ls hl => ?_)
  refine lv_aload_n hx hb d_XDM_set_16 rfl (lv_at hl 1 rfl) ?_
  refine va_get (v := .ref (a 1)) hx hb hts iX_DM hown hw.2.1 hw.1 0 rfl rfl 0 (by decide) (hts _ kX_DM_10) (fun _ h => h) rfl d_XDM_set_17 ?_
  refine lv_iload_n hx hb d_XDM_set_20 rfl (lv_at hl 2 rfl) ?_
  refine lv_iload_n hx hb d_XDM_set_21 rfl (lv_at hl 3 rfl) ?_
  refine z_wv (z_runV (As := [.int x1, .int x2]) (rest := []) ⟨hx, hb, hml, hown, hts⟩ (c_XSt_put l D a k u_2 x1 x2) (qX_DM_58 hts (by decide)) hw 1 rfl rfl hl.1 rfl (lv_room (Nat.le_of_ble_eq_true rfl)) d_XDM_set_22 hcs) hw hS (fun u_4 H locs eu_4 hw hS => ?_)
  have hf := hf.trans (nm_eq eu_4)
  refine lv_iload_n hx hb d_XDM_set_25 rfl (lv_at hl 0 rfl) ?_
  exact hret x_3 _ _ _ _ _ d_XDM_set_26 hw hS (Sum.inr.inj hf)
set_option maxHeartbeats 4000000 in
set_option maxRecDepth 100000 in
theorem cx_XDM_set (l : Launch) (hl9 : l.stackTraces = false) (D : va_G) (a : Nat → Nat) (k : Nat → ClassId) (sa : Nat → Nat) (u0 : XS) (x1 : Int32) (x2 : Int32) (E : String) (U1 : XS) (hf : f_XDM_set u0 x1 x2 = Sum.inl (E, U1)) : zT l y_XDM_set w_XDM_set rx_XDM_set D clX (tyX k) nwX (skX sa) (xW a k) [.ref (a 0), .int x1, .int x2] u0 E U1 := by
  have hf := hf.symm
  unfold f_XDM_set at hf
  refine zT_of (cc := b_XDM_set) (maxL := 4) (own := RX_DM) (by decide) rfl rfl (Nat.le_of_ble_eq_true rfl) ?_ hl9
  intro p e R st m args below meth c A H locs Q ls hR hx hb hml hown hts hw hS hE hprop hthr hl
  subst hR
  have hcs : 0 ≤ (rx_XDM_set).cells ∧ 0 ≤ (rx_XDM_set).slots := ⟨Nat.zero_le _, Nat.zero_le _⟩
  have hl : lv_has ls 4 [(0, .ref (a 0)), (1, .int x1), (2, .int x2)] := hl
  refine lv_iload_n hx hb d_XDM_set_0 rfl (lv_at hl 1 rfl) ?_
  refine z_rz (z_runS (As := [.int x1]) (rest := []) ⟨hx, hb, hml, hown, hts⟩ (c_XDM_isNibble l D a k u0 x1) (qX_DM_51 hts (by decide)) hw  hl.1 rfl (lv_room (Nat.le_of_ble_eq_true rfl)) d_XDM_set_1 hcs) (fun z_1 ez_1 => ?_)
  have hf := hf.trans (nm_eq ez_1)
  rcases bx_invX hf with ht | ⟨u_2, eu_2, hf⟩
  · exact hprop _ _ _ _ _ _ _ (ztS (As := [.int (bI z_1)]) (rest := []) ⟨hx, hb, hml, hown, hts⟩ (cx_XDM_demand l hl9 D a k sa u0 z_1 E U1 ht) (qxX_DM_29 hts (by decide)) hw hE hS  hl.1 rfl (lv_room (Nat.le_of_ble_eq_true rfl)) d_XDM_set_4 ⟨Nat.le_of_ble_eq_true rfl, Nat.le_of_ble_eq_true rfl⟩) hw hS
  refine z_wv' (u' := u_2) (z_runS (As := [.int (bI z_1)]) (rest := []) ⟨hx, hb, hml, hown, hts⟩ (cn_XDM_demand l D a k u0 z_1 u_2 eu_2) (qX_DM_29 hts (by decide)) hw  hl.1 rfl (lv_room (Nat.le_of_ble_eq_true rfl)) d_XDM_set_4 hcs) hw hS (fun H locs hw hS => ?_)
  refine lv_aload_n hx hb d_XDM_set_7 rfl (lv_at hl 0 rfl) ?_
  refine va_get (v := .ref (a 1)) hx hb hts iX_DM hown hw.2.1 hw.1 0 rfl rfl 0 (by decide) (hts _ kX_DM_10) (fun _ h => h) rfl d_XDM_set_8 ?_
  refine lv_iload_n hx hb d_XDM_set_11 rfl (lv_at hl 1 rfl) ?_
  refine z_ri (z_runV (As := [.int x1]) (rest := []) ⟨hx, hb, hml, hown, hts⟩ (c_XSt_value l D a k u_2 x1) (qX_DM_55 hts (by decide)) hw 1 rfl rfl hl.1 rfl (lv_room (Nat.le_of_ble_eq_true rfl)) d_XDM_set_12 hcs) (fun x_3 ex_3 => ?_)
  have hf := hf.trans (nm_eq ex_3)
  refine lv_istore_n (lv' := [(3, .int x_3), (0, .ref (a 0)), (1, .int x1), (2, .int x2)]) hx hb d_XDM_set_15 rfl hl (by decide) rfl (fun ls hl => ?_)
  refine lv_aload_n hx hb d_XDM_set_16 rfl (lv_at hl 1 rfl) ?_
  refine va_get (v := .ref (a 1)) hx hb hts iX_DM hown hw.2.1 hw.1 0 rfl rfl 0 (by decide) (hts _ kX_DM_10) (fun _ h => h) rfl d_XDM_set_17 ?_
  refine lv_iload_n hx hb d_XDM_set_20 rfl (lv_at hl 2 rfl) ?_
  refine lv_iload_n hx hb d_XDM_set_21 rfl (lv_at hl 3 rfl) ?_
  refine z_wv (z_runV (As := [.int x1, .int x2]) (rest := []) ⟨hx, hb, hml, hown, hts⟩ (c_XSt_put l D a k u_2 x1 x2) (qX_DM_58 hts (by decide)) hw 1 rfl rfl hl.1 rfl (lv_room (Nat.le_of_ble_eq_true rfl)) d_XDM_set_22 hcs) hw hS (fun u_4 H locs eu_4 hw hS => ?_)
  have hf := hf.trans (nm_eq eu_4)
  refine lv_iload_n hx hb d_XDM_set_25 rfl (lv_at hl 0 rfl) ?_
  cases hf
def f_XDM_register (u0 : XS) (x1 : Int32) : Sum (String × XS) (Int32 × XS) := nm (f_XDM_isNibble u0 x1) (fun (z_1 : Bool) => bx (f_XDM_demand u0 z_1) (fun (u_2 : XS) => nm (f_XSt_value u_2 x1) (fun (x_3 : Int32) => Sum.inr (x_3, u_2))))
set_option maxHeartbeats 4000000 in
set_option maxRecDepth 100000 in
theorem cn_XDM_register (l : Launch) (D : va_G) (a : Nat → Nat) (k : Nat → ClassId) (u0 : XS) (x1 : Int32) (F : Int32 × XS) (hf : f_XDM_register u0 x1 = Sum.inr F) : zMi l y_XDM_register w_XDM_register rm_XDM_register D clX (tyX k) nwX (xW a k) [.ref (a 0), .int x1] u0 F := by
  have hf := hf.symm
  unfold f_XDM_register at hf
  refine zMi_of (cc := b_XDM_register) (maxL := 2) (own := RX_DM) (by decide) rfl rfl (Nat.le_of_ble_eq_true rfl) ?_
  intro p e R st m args below meth c A H locs Q ls hR hx hb hml hown hts hw hS hret hl
  subst hR
  have hcs : 0 ≤ (rm_XDM_register).cells ∧ 0 ≤ (rm_XDM_register).slots := ⟨Nat.zero_le _, Nat.zero_le _⟩
  have hl : lv_has ls 2 [(0, .ref (a 0)), (1, .int x1)] := hl
  refine lv_iload_n hx hb d_XDM_register_0 rfl (lv_at hl 1 rfl) ?_
  refine z_rz (z_runS (As := [.int x1]) (rest := []) ⟨hx, hb, hml, hown, hts⟩ (c_XDM_isNibble l D a k u0 x1) (qX_DM_51 hts (by decide)) hw  hl.1 rfl (lv_room (Nat.le_of_ble_eq_true rfl)) d_XDM_register_1 hcs) (fun z_1 ez_1 => ?_)
  have hf := hf.trans (nm_eq ez_1)
  obtain ⟨u_2, eu_2, hf⟩ := bx_inv hf
  refine z_wv' (u' := u_2) (z_runS (As := [.int (bI z_1)]) (rest := []) ⟨hx, hb, hml, hown, hts⟩ (cn_XDM_demand l D a k u0 z_1 u_2 eu_2) (qX_DM_29 hts (by decide)) hw  hl.1 rfl (lv_room (Nat.le_of_ble_eq_true rfl)) d_XDM_register_4 hcs) hw hS (fun H locs hw hS => ?_)
  refine lv_aload_n hx hb d_XDM_register_7 rfl (lv_at hl 0 rfl) ?_
  refine va_get (v := .ref (a 1)) hx hb hts iX_DM hown hw.2.1 hw.1 0 rfl rfl 0 (by decide) (hts _ kX_DM_10) (fun _ h => h) rfl d_XDM_register_8 ?_
  refine lv_iload_n hx hb d_XDM_register_11 rfl (lv_at hl 1 rfl) ?_
  refine z_ri (z_runV (As := [.int x1]) (rest := []) ⟨hx, hb, hml, hown, hts⟩ (c_XSt_value l D a k u_2 x1) (qX_DM_55 hts (by decide)) hw 1 rfl rfl hl.1 rfl (lv_room (Nat.le_of_ble_eq_true rfl)) d_XDM_register_12 hcs) (fun x_3 ex_3 => ?_)
  have hf := hf.trans (nm_eq ex_3)
  exact hret x_3 _ _ _ _ _ d_XDM_register_15 hw hS (Sum.inr.inj hf)
set_option maxHeartbeats 4000000 in
set_option maxRecDepth 100000 in
theorem cx_XDM_register (l : Launch) (hl9 : l.stackTraces = false) (D : va_G) (a : Nat → Nat) (k : Nat → ClassId) (sa : Nat → Nat) (u0 : XS) (x1 : Int32) (E : String) (U1 : XS) (hf : f_XDM_register u0 x1 = Sum.inl (E, U1)) : zT l y_XDM_register w_XDM_register rx_XDM_register D clX (tyX k) nwX (skX sa) (xW a k) [.ref (a 0), .int x1] u0 E U1 := by
  have hf := hf.symm
  unfold f_XDM_register at hf
  refine zT_of (cc := b_XDM_register) (maxL := 2) (own := RX_DM) (by decide) rfl rfl (Nat.le_of_ble_eq_true rfl) ?_ hl9
  intro p e R st m args below meth c A H locs Q ls hR hx hb hml hown hts hw hS hE hprop hthr hl
  subst hR
  have hcs : 0 ≤ (rx_XDM_register).cells ∧ 0 ≤ (rx_XDM_register).slots := ⟨Nat.zero_le _, Nat.zero_le _⟩
  have hl : lv_has ls 2 [(0, .ref (a 0)), (1, .int x1)] := hl
  refine lv_iload_n hx hb d_XDM_register_0 rfl (lv_at hl 1 rfl) ?_
  refine z_rz (z_runS (As := [.int x1]) (rest := []) ⟨hx, hb, hml, hown, hts⟩ (c_XDM_isNibble l D a k u0 x1) (qX_DM_51 hts (by decide)) hw  hl.1 rfl (lv_room (Nat.le_of_ble_eq_true rfl)) d_XDM_register_1 hcs) (fun z_1 ez_1 => ?_)
  have hf := hf.trans (nm_eq ez_1)
  rcases bx_invX hf with ht | ⟨u_2, eu_2, hf⟩
  · exact hprop _ _ _ _ _ _ _ (ztS (As := [.int (bI z_1)]) (rest := []) ⟨hx, hb, hml, hown, hts⟩ (cx_XDM_demand l hl9 D a k sa u0 z_1 E U1 ht) (qxX_DM_29 hts (by decide)) hw hE hS  hl.1 rfl (lv_room (Nat.le_of_ble_eq_true rfl)) d_XDM_register_4 ⟨Nat.le_of_ble_eq_true rfl, Nat.le_of_ble_eq_true rfl⟩) hw hS
  refine z_wv' (u' := u_2) (z_runS (As := [.int (bI z_1)]) (rest := []) ⟨hx, hb, hml, hown, hts⟩ (cn_XDM_demand l D a k u0 z_1 u_2 eu_2) (qX_DM_29 hts (by decide)) hw  hl.1 rfl (lv_room (Nat.le_of_ble_eq_true rfl)) d_XDM_register_4 hcs) hw hS (fun H locs hw hS => ?_)
  refine lv_aload_n hx hb d_XDM_register_7 rfl (lv_at hl 0 rfl) ?_
  refine va_get (v := .ref (a 1)) hx hb hts iX_DM hown hw.2.1 hw.1 0 rfl rfl 0 (by decide) (hts _ kX_DM_10) (fun _ h => h) rfl d_XDM_register_8 ?_
  refine lv_iload_n hx hb d_XDM_register_11 rfl (lv_at hl 1 rfl) ?_
  refine z_ri (z_runV (As := [.int x1]) (rest := []) ⟨hx, hb, hml, hown, hts⟩ (c_XSt_value l D a k u_2 x1) (qX_DM_55 hts (by decide)) hw 1 rfl rfl hl.1 rfl (lv_room (Nat.le_of_ble_eq_true rfl)) d_XDM_register_12 hcs) (fun x_3 ex_3 => ?_)
  have hf := hf.trans (nm_eq ex_3)
  cases hf
def f_XDM_start (u0 : XS) (x1 : Int32) (x2 : Int32) : Sum (String × XS) (XS) := nm (f_XDM_isWithin u0 x1 (0 : Int32) (16777215 : Int32)) (fun (z_1 : Bool) => jn (fun (K_3 : Bool → Sum (String × XS) (XS)) => jn (fun (K_9 : Sum (String × XS) (XS)) => if (bI z_1) = (0 : Int32) then K_9 else nm (f_XDM_isWithin u0 x2 (0 : Int32) (3 : Int32)) (fun (z_11 : Bool) => if (bI z_11) = (0 : Int32) then K_9 else K_3 true)) (K_3 false)) (fun (z_2 : Bool) => bx (f_XDM_demand u0 z_2) (fun (u_4 : XS) => nm (xsF u_4 0 x1) (fun (u_5 : XS) => nm (xsF u_5 2 x2) (fun (u_6 : XS) => nm (xsF u_6 1 (0 : Int32)) (fun (u_7 : XS) => nm (xsF u_7 3 (-1 : Int32)) (fun (u_8 : XS) => Sum.inr u_8)))))))
set_option maxHeartbeats 4000000 in
set_option maxRecDepth 100000 in
theorem cn_XDM_start (l : Launch) (D : va_G) (a : Nat → Nat) (k : Nat → ClassId) (u0 : XS) (x1 : Int32) (x2 : Int32) (F : XS) (hf : f_XDM_start u0 x1 x2 = Sum.inr F) : zMv l y_XDM_start w_XDM_start rm_XDM_start D clX (tyX k) nwX (xW a k) [.ref (a 0), .int x1, .int x2] u0 F := by
  have hf := hf.symm
  unfold f_XDM_start at hf
  refine zMv_of (cc := b_XDM_start) (maxL := 3) (own := RX_DM) (by decide) rfl rfl (Nat.le_of_ble_eq_true rfl) ?_
  intro p e R st m args below meth c A H locs Q ls hR hx hb hml hown hts hw hS hret hl
  subst hR
  have hcs : 0 ≤ (rm_XDM_start).cells ∧ 0 ≤ (rm_XDM_start).slots := ⟨Nat.zero_le _, Nat.zero_le _⟩
  have hl : lv_has ls 3 [(0, .ref (a 0)), (1, .int x1), (2, .int x2)] := hl
  refine lv_iload_n hx hb d_XDM_start_0 rfl (lv_at hl 1 rfl) ?_
  refine lv_iconst (v := (0 : Int32)) hx hb d_XDM_start_1 (by decide) ?_
  refine lv_ldc (v := (16777215 : Int32)) hx hb hown (hts _ kX_DM_61) d_XDM_start_2 ?_
  refine z_rz (z_runS (As := [.int x1, .int (0 : Int32), .int (16777215 : Int32)]) (rest := []) ⟨hx, hb, hml, hown, hts⟩ (c_XDM_isWithin l D a k u0 x1 (0 : Int32) (16777215 : Int32)) (qX_DM_25 hts (by decide)) hw  hl.1 rfl (lv_room (Nat.le_of_ble_eq_true rfl)) d_XDM_start_4 hcs) (fun z_1 ez_1 => ?_)
  have hf := hf.trans (nm_eq ez_1)
  refine jn_cut hf (fun (K_3 : Bool → Sum (String × XS) (XS)) => ∀ (z_2 : Bool), ∀ (ls : Array Slot), lv_has ls 3 [(0, .ref (a 0)), (1, .int x1), (2, .int x2)] → Sum.inr F = K_3 z_2 → W p l e rm_XDM_start st m args below meth c H locs 0 0 Q (F0 m 24 ls [.int (bI z_2)])) ?_ ?_
  · intro z_2 ls hl hf
    obtain ⟨u_4, eu_4, hf⟩ := bx_inv hf
    refine z_wv' (u' := u_4) (z_runS (As := [.int (bI z_2)]) (rest := []) ⟨hx, hb, hml, hown, hts⟩ (cn_XDM_demand l D a k u0 z_2 u_4 eu_4) (qX_DM_29 hts (by decide)) hw  hl.1 rfl (lv_room (Nat.le_of_ble_eq_true rfl)) d_XDM_start_24 hcs) hw hS (fun H locs hw hS => ?_)
    refine lv_aload_n hx hb d_XDM_start_27 rfl (lv_at hl 0 rfl) ?_
    refine va_get (v := .ref (a 1)) hx hb hts iX_DM hown hw.2.1 hw.1 0 rfl rfl 0 (by decide) (hts _ kX_DM_10) (fun _ h => h) rfl d_XDM_start_28 ?_
    refine lv_iload_n hx hb d_XDM_start_31 rfl (lv_at hl 1 rfl) ?_
    refine z_putN (u' := xsF u_4 0 x1) hx hb hts iX_St tX_St tX_St_ok nX_St hown hw hS 1 rfl rfl 2 (by decide) (va_Nw.use rfl (hw.2.2.2 _ kX_DM_62).2) (fun _ h => h) rfl rfl (Nat.le_of_ble_eq_true rfl) rfl d_XDM_start_32 (fun u_5 H locs eu_5 hw hS => ?_)
    have hf := hf.trans (nm_eq eu_5)
    refine lv_aload_n hx hb d_XDM_start_35 rfl (lv_at hl 0 rfl) ?_
    refine va_get (v := .ref (a 1)) hx hb hts iX_DM hown hw.2.1 hw.1 0 rfl rfl 0 (by decide) (hts _ kX_DM_10) (fun _ h => h) rfl d_XDM_start_36 ?_
    refine lv_iload_n hx hb d_XDM_start_39 rfl (lv_at hl 2 rfl) ?_
    refine z_putN (u' := xsF u_5 2 x2) hx hb hts iX_St tX_St tX_St_ok nX_St hown hw hS 1 rfl rfl 4 (by decide) (va_Nw.use rfl (hw.2.2.2 _ kX_DM_66).2) (fun _ h => h) rfl rfl (Nat.le_of_ble_eq_true rfl) rfl d_XDM_start_40 (fun u_6 H locs eu_6 hw hS => ?_)
    have hf := hf.trans (nm_eq eu_6)
    refine lv_aload_n hx hb d_XDM_start_43 rfl (lv_at hl 0 rfl) ?_
    refine va_get (v := .ref (a 1)) hx hb hts iX_DM hown hw.2.1 hw.1 0 rfl rfl 0 (by decide) (hts _ kX_DM_10) (fun _ h => h) rfl d_XDM_start_44 ?_
    refine lv_iconst (v := (0 : Int32)) hx hb d_XDM_start_47 (by decide) ?_
    refine z_putN (u' := xsF u_6 1 (0 : Int32)) hx hb hts iX_St tX_St tX_St_ok nX_St hown hw hS 1 rfl rfl 3 (by decide) (va_Nw.use rfl (hw.2.2.2 _ kX_DM_69).2) (fun _ h => h) rfl rfl (Nat.le_of_ble_eq_true rfl) rfl d_XDM_start_48 (fun u_7 H locs eu_7 hw hS => ?_)
    have hf := hf.trans (nm_eq eu_7)
    refine lv_aload_n hx hb d_XDM_start_51 rfl (lv_at hl 0 rfl) ?_
    refine va_get (v := .ref (a 1)) hx hb hts iX_DM hown hw.2.1 hw.1 0 rfl rfl 0 (by decide) (hts _ kX_DM_10) (fun _ h => h) rfl d_XDM_start_52 ?_
    refine lv_iconst (v := (-1 : Int32)) hx hb d_XDM_start_55 (by decide) ?_
    refine z_putN (u' := xsF u_7 3 (-1 : Int32)) hx hb hts iX_St tX_St tX_St_ok nX_St hown hw hS 1 rfl rfl 5 (by decide) (va_Nw.use rfl (hw.2.2.2 _ kX_DM_72).2) (fun _ h => h) rfl rfl (Nat.le_of_ble_eq_true rfl) rfl d_XDM_start_56 (fun u_8 H locs eu_8 hw hS => ?_)
    have hf := hf.trans (nm_eq eu_8)
    exact hret _ _ _ _ _ d_XDM_start_59 hw hS (Sum.inr.inj hf)
  · intro K_3 hK_3 hf
    refine jn_cut hf (fun (K_9 : Sum (String × XS) (XS)) => ∀ (ls : Array Slot), lv_has ls 3 [(0, .ref (a 0)), (1, .int x1), (2, .int x2)] → Sum.inr F = K_9 → W p l e rm_XDM_start st m args below meth c H locs 0 0 Q (F0 m 23 ls [])) ?_ ?_
    · intro ls hl hf
      refine lv_iconst (v := (0 : Int32)) hx hb d_XDM_start_23 (by decide) ?_
      exact hK_3 false _ (lv_sub hl [0, 1, 2] rfl) hf
    · intro K_9 hK_9 hf
      refine lv_if_eq (tgt := 23) hx hb d_XDM_start_7 (by decide) (fun c_10 => ?_) (fun c_10 => ?_)
      · have hf := hf.trans (if_pos c_10)
        exact hK_9 _ (lv_sub hl [0, 1, 2] rfl) hf
      · have hf := hf.trans (if_neg c_10)
        refine lv_iload_n hx hb d_XDM_start_10 rfl (lv_at hl 2 rfl) ?_
        refine lv_iconst (v := (0 : Int32)) hx hb d_XDM_start_11 (by decide) ?_
        refine lv_iconst (v := (3 : Int32)) hx hb d_XDM_start_12 (by decide) ?_
        refine z_rz (z_runS (As := [.int x2, .int (0 : Int32), .int (3 : Int32)]) (rest := []) ⟨hx, hb, hml, hown, hts⟩ (c_XDM_isWithin l D a k u0 x2 (0 : Int32) (3 : Int32)) (qX_DM_25 hts (by decide)) hw  hl.1 rfl (lv_room (Nat.le_of_ble_eq_true rfl)) d_XDM_start_13 hcs) (fun z_11 ez_11 => ?_)
        have hf := hf.trans (nm_eq ez_11)
        refine lv_if_eq (tgt := 23) hx hb d_XDM_start_16 (by decide) (fun c_12 => ?_) (fun c_12 => ?_)
        · have hf := hf.trans (if_pos c_12)
          exact hK_9 _ (lv_sub hl [0, 1, 2] rfl) hf
        · have hf := hf.trans (if_neg c_12)
          refine lv_iconst (v := (1 : Int32)) hx hb d_XDM_start_19 (by decide) ?_
          refine lv_goto (tgt := 24) hx hb d_XDM_start_20 (by decide) ?_
          exact hK_3 true _ (lv_sub hl [0, 1, 2] rfl) hf
set_option maxHeartbeats 4000000 in
set_option maxRecDepth 100000 in
theorem cx_XDM_start (l : Launch) (hl9 : l.stackTraces = false) (D : va_G) (a : Nat → Nat) (k : Nat → ClassId) (sa : Nat → Nat) (u0 : XS) (x1 : Int32) (x2 : Int32) (E : String) (U1 : XS) (hf : f_XDM_start u0 x1 x2 = Sum.inl (E, U1)) : zT l y_XDM_start w_XDM_start rx_XDM_start D clX (tyX k) nwX (skX sa) (xW a k) [.ref (a 0), .int x1, .int x2] u0 E U1 := by
  have hf := hf.symm
  unfold f_XDM_start at hf
  refine zT_of (cc := b_XDM_start) (maxL := 3) (own := RX_DM) (by decide) rfl rfl (Nat.le_of_ble_eq_true rfl) ?_ hl9
  intro p e R st m args below meth c A H locs Q ls hR hx hb hml hown hts hw hS hE hprop hthr hl
  subst hR
  have hcs : 0 ≤ (rx_XDM_start).cells ∧ 0 ≤ (rx_XDM_start).slots := ⟨Nat.zero_le _, Nat.zero_le _⟩
  have hl : lv_has ls 3 [(0, .ref (a 0)), (1, .int x1), (2, .int x2)] := hl
  refine lv_iload_n hx hb d_XDM_start_0 rfl (lv_at hl 1 rfl) ?_
  refine lv_iconst (v := (0 : Int32)) hx hb d_XDM_start_1 (by decide) ?_
  refine lv_ldc (v := (16777215 : Int32)) hx hb hown (hts _ kX_DM_61) d_XDM_start_2 ?_
  refine z_rz (z_runS (As := [.int x1, .int (0 : Int32), .int (16777215 : Int32)]) (rest := []) ⟨hx, hb, hml, hown, hts⟩ (c_XDM_isWithin l D a k u0 x1 (0 : Int32) (16777215 : Int32)) (qX_DM_25 hts (by decide)) hw  hl.1 rfl (lv_room (Nat.le_of_ble_eq_true rfl)) d_XDM_start_4 hcs) (fun z_1 ez_1 => ?_)
  have hf := hf.trans (nm_eq ez_1)
  refine jn_cut hf (fun (K_3 : Bool → Sum (String × XS) (XS)) => ∀ (z_2 : Bool), ∀ (ls : Array Slot), lv_has ls 3 [(0, .ref (a 0)), (1, .int x1), (2, .int x2)] → Sum.inl (E, U1) = K_3 z_2 → W p l e rx_XDM_start st m args below meth c H locs 0 0 Q (F0 m 24 ls [.int (bI z_2)])) ?_ ?_
  · intro z_2 ls hl hf
    rcases bx_invX hf with ht | ⟨u_4, eu_4, hf⟩
    · exact hprop _ _ _ _ _ _ _ (ztS (As := [.int (bI z_2)]) (rest := []) ⟨hx, hb, hml, hown, hts⟩ (cx_XDM_demand l hl9 D a k sa u0 z_2 E U1 ht) (qxX_DM_29 hts (by decide)) hw hE hS  hl.1 rfl (lv_room (Nat.le_of_ble_eq_true rfl)) d_XDM_start_24 ⟨Nat.le_of_ble_eq_true rfl, Nat.le_of_ble_eq_true rfl⟩) hw hS
    refine z_wv' (u' := u_4) (z_runS (As := [.int (bI z_2)]) (rest := []) ⟨hx, hb, hml, hown, hts⟩ (cn_XDM_demand l D a k u0 z_2 u_4 eu_4) (qX_DM_29 hts (by decide)) hw  hl.1 rfl (lv_room (Nat.le_of_ble_eq_true rfl)) d_XDM_start_24 hcs) hw hS (fun H locs hw hS => ?_)
    refine lv_aload_n hx hb d_XDM_start_27 rfl (lv_at hl 0 rfl) ?_
    refine va_get (v := .ref (a 1)) hx hb hts iX_DM hown hw.2.1 hw.1 0 rfl rfl 0 (by decide) (hts _ kX_DM_10) (fun _ h => h) rfl d_XDM_start_28 ?_
    refine lv_iload_n hx hb d_XDM_start_31 rfl (lv_at hl 1 rfl) ?_
    refine z_putN (u' := xsF u_4 0 x1) hx hb hts iX_St tX_St tX_St_ok nX_St hown hw hS 1 rfl rfl 2 (by decide) (va_Nw.use rfl (hw.2.2.2 _ kX_DM_62).2) (fun _ h => h) rfl rfl (Nat.le_of_ble_eq_true rfl) rfl d_XDM_start_32 (fun u_5 H locs eu_5 hw hS => ?_)
    have hf := hf.trans (nm_eq eu_5)
    refine lv_aload_n hx hb d_XDM_start_35 rfl (lv_at hl 0 rfl) ?_
    refine va_get (v := .ref (a 1)) hx hb hts iX_DM hown hw.2.1 hw.1 0 rfl rfl 0 (by decide) (hts _ kX_DM_10) (fun _ h => h) rfl d_XDM_start_36 ?_
    refine lv_iload_n hx hb d_XDM_start_39 rfl (lv_at hl 2 rfl) ?_
    refine z_putN (u' := xsF u_5 2 x2) hx hb hts iX_St tX_St tX_St_ok nX_St hown hw hS 1 rfl rfl 4 (by decide) (va_Nw.use rfl (hw.2.2.2 _ kX_DM_66).2) (fun _ h => h) rfl rfl (Nat.le_of_ble_eq_true rfl) rfl d_XDM_start_40 (fun u_6 H locs eu_6 hw hS => ?_)
    have hf := hf.trans (nm_eq eu_6)
    refine lv_aload_n hx hb d_XDM_start_43 rfl (lv_at hl 0 rfl) ?_
    refine va_get (v := .ref (a 1)) hx hb hts iX_DM hown hw.2.1 hw.1 0 rfl rfl 0 (by decide) (hts _ kX_DM_10) (fun _ h => h) rfl d_XDM_start_44 ?_
    refine lv_iconst (v := (0 : Int32)) hx hb d_XDM_start_47 (by decide) ?_
    refine z_putN (u' := xsF u_6 1 (0 : Int32)) hx hb hts iX_St tX_St tX_St_ok nX_St hown hw hS 1 rfl rfl 3 (by decide) (va_Nw.use rfl (hw.2.2.2 _ kX_DM_69).2) (fun _ h => h) rfl rfl (Nat.le_of_ble_eq_true rfl) rfl d_XDM_start_48 (fun u_7 H locs eu_7 hw hS => ?_)
    have hf := hf.trans (nm_eq eu_7)
    refine lv_aload_n hx hb d_XDM_start_51 rfl (lv_at hl 0 rfl) ?_
    refine va_get (v := .ref (a 1)) hx hb hts iX_DM hown hw.2.1 hw.1 0 rfl rfl 0 (by decide) (hts _ kX_DM_10) (fun _ h => h) rfl d_XDM_start_52 ?_
    refine lv_iconst (v := (-1 : Int32)) hx hb d_XDM_start_55 (by decide) ?_
    refine z_putN (u' := xsF u_7 3 (-1 : Int32)) hx hb hts iX_St tX_St tX_St_ok nX_St hown hw hS 1 rfl rfl 5 (by decide) (va_Nw.use rfl (hw.2.2.2 _ kX_DM_72).2) (fun _ h => h) rfl rfl (Nat.le_of_ble_eq_true rfl) rfl d_XDM_start_56 (fun u_8 H locs eu_8 hw hS => ?_)
    have hf := hf.trans (nm_eq eu_8)
    cases hf
  · intro K_3 hK_3 hf
    refine jn_cut hf (fun (K_9 : Sum (String × XS) (XS)) => ∀ (ls : Array Slot), lv_has ls 3 [(0, .ref (a 0)), (1, .int x1), (2, .int x2)] → Sum.inl (E, U1) = K_9 → W p l e rx_XDM_start st m args below meth c H locs 0 0 Q (F0 m 23 ls [])) ?_ ?_
    · intro ls hl hf
      refine lv_iconst (v := (0 : Int32)) hx hb d_XDM_start_23 (by decide) ?_
      exact hK_3 false _ (lv_sub hl [0, 1, 2] rfl) hf
    · intro K_9 hK_9 hf
      refine lv_if_eq (tgt := 23) hx hb d_XDM_start_7 (by decide) (fun c_10 => ?_) (fun c_10 => ?_)
      · have hf := hf.trans (if_pos c_10)
        exact hK_9 _ (lv_sub hl [0, 1, 2] rfl) hf
      · have hf := hf.trans (if_neg c_10)
        refine lv_iload_n hx hb d_XDM_start_10 rfl (lv_at hl 2 rfl) ?_
        refine lv_iconst (v := (0 : Int32)) hx hb d_XDM_start_11 (by decide) ?_
        refine lv_iconst (v := (3 : Int32)) hx hb d_XDM_start_12 (by decide) ?_
        refine z_rz (z_runS (As := [.int x2, .int (0 : Int32), .int (3 : Int32)]) (rest := []) ⟨hx, hb, hml, hown, hts⟩ (c_XDM_isWithin l D a k u0 x2 (0 : Int32) (3 : Int32)) (qX_DM_25 hts (by decide)) hw  hl.1 rfl (lv_room (Nat.le_of_ble_eq_true rfl)) d_XDM_start_13 hcs) (fun z_11 ez_11 => ?_)
        have hf := hf.trans (nm_eq ez_11)
        refine lv_if_eq (tgt := 23) hx hb d_XDM_start_16 (by decide) (fun c_12 => ?_) (fun c_12 => ?_)
        · have hf := hf.trans (if_pos c_12)
          exact hK_9 _ (lv_sub hl [0, 1, 2] rfl) hf
        · have hf := hf.trans (if_neg c_12)
          refine lv_iconst (v := (1 : Int32)) hx hb d_XDM_start_19 (by decide) ?_
          refine lv_goto (tgt := 24) hx hb d_XDM_start_20 (by decide) ?_
          exact hK_3 true _ (lv_sub hl [0, 1, 2] rfl) hf
def f_XDM_rr (u0 : XS) (x1 : Int32) (x2 : Int32) (x3 : Int32) (x4 : Int32) : Sum (String × XS) (Int32 × XS) := nm (f_XDM_isWithin u0 x2 (0 : Int32) (63 : Int32)) (fun (z_1 : Bool) => jn (fun (K_3 : Bool → Sum (String × XS) (Int32 × XS)) => jn (fun (K_8 : Sum (String × XS) (Int32 × XS)) => if (bI z_1) = (0 : Int32) then K_8 else nm (f_XDM_isNibble u0 x3) (fun (z_10 : Bool) => if (bI z_10) = (0 : Int32) then K_8 else nm (f_XDM_isNibble u0 x4) (fun (z_12 : Bool) => if (bI z_12) = (0 : Int32) then K_8 else K_3 true))) (K_3 false)) (fun (z_2 : Bool) => bx (f_XDM_demand u0 z_2) (fun (u_4 : XS) => bx (f_XDM_demandMemory u_4 x1 (2 : Int32)) (fun (u_5 : XS) => nm (f_XMe_store u_5 x1 (1 : Int32) (Int32.toInt64 x2)) (fun (u_6 : XS) => nm (f_XMe_store u_6 (x1 + (1 : Int32)) (1 : Int32) (Int32.toInt64 ((x3 * (16 : Int32)) + x4))) (fun (u_7 : XS) => Sum.inr (x1 + (2 : Int32), u_7)))))))
set_option maxHeartbeats 4000000 in
set_option maxRecDepth 100000 in
theorem cn_XDM_rr (l : Launch) (D : va_G) (a : Nat → Nat) (k : Nat → ClassId) (u0 : XS) (x1 : Int32) (x2 : Int32) (x3 : Int32) (x4 : Int32) (F : Int32 × XS) (hf : f_XDM_rr u0 x1 x2 x3 x4 = Sum.inr F) : zMi l y_XDM_rr w_XDM_rr rm_XDM_rr D clX (tyX k) nwX (xW a k) [.ref (a 0), .int x1, .int x2, .int x3, .int x4] u0 F := by
  have hf := hf.symm
  unfold f_XDM_rr at hf
  refine zMi_of (cc := b_XDM_rr) (maxL := 5) (own := RX_DM) (by decide) rfl rfl (Nat.le_of_ble_eq_true rfl) ?_
  intro p e R st m args below meth c A H locs Q ls hR hx hb hml hown hts hw hS hret hl
  subst hR
  have hcs : 0 ≤ (rm_XDM_rr).cells ∧ 0 ≤ (rm_XDM_rr).slots := ⟨Nat.zero_le _, Nat.zero_le _⟩
  have hl : lv_has ls 5 [(0, .ref (a 0)), (1, .int x1), (2, .int x2), (3, .int x3), (4, .int x4)] := hl
  refine lv_iload_n hx hb d_XDM_rr_0 rfl (lv_at hl 2 rfl) ?_
  refine lv_iconst (v := (0 : Int32)) hx hb d_XDM_rr_1 (by decide) ?_
  refine lv_bipush (v := (63 : Int32)) hx hb d_XDM_rr_2 (by decide) ?_
  refine z_rz (z_runS (As := [.int x2, .int (0 : Int32), .int (63 : Int32)]) (rest := []) ⟨hx, hb, hml, hown, hts⟩ (c_XDM_isWithin l D a k u0 x2 (0 : Int32) (63 : Int32)) (qX_DM_25 hts (by decide)) hw  hl.1 rfl (lv_room (Nat.le_of_ble_eq_true rfl)) d_XDM_rr_4 hcs) (fun z_1 ez_1 => ?_)
  have hf := hf.trans (nm_eq ez_1)
  refine jn_cut hf (fun (K_3 : Bool → Sum (String × XS) (Int32 × XS)) => ∀ (z_2 : Bool), ∀ (ls : Array Slot), lv_has ls 5 [(0, .ref (a 0)), (1, .int x1), (2, .int x2), (3, .int x3), (4, .int x4)] → Sum.inr F = K_3 z_2 → W p l e rm_XDM_rr st m args below meth c H locs 0 0 Q (F0 m 30 ls [.int (bI z_2)])) ?_ ?_
  · intro z_2 ls hl hf
    obtain ⟨u_4, eu_4, hf⟩ := bx_inv hf
    refine z_wv' (u' := u_4) (z_runS (As := [.int (bI z_2)]) (rest := []) ⟨hx, hb, hml, hown, hts⟩ (cn_XDM_demand l D a k u0 z_2 u_4 eu_4) (qX_DM_29 hts (by decide)) hw  hl.1 rfl (lv_room (Nat.le_of_ble_eq_true rfl)) d_XDM_rr_30 hcs) hw hS (fun H locs hw hS => ?_)
    refine lv_aload_n hx hb d_XDM_rr_33 rfl (lv_at hl 0 rfl) ?_
    refine lv_iload_n hx hb d_XDM_rr_34 rfl (lv_at hl 1 rfl) ?_
    refine lv_iconst (v := (2 : Int32)) hx hb d_XDM_rr_35 (by decide) ?_
    obtain ⟨u_5, eu_5, hf⟩ := bx_inv hf
    refine z_wv' (u' := u_5) (z_runV (As := [.int x1, .int (2 : Int32)]) (rest := []) ⟨hx, hb, hml, hown, hts⟩ (cn_XDM_demandMemory l D a k u_4 x1 (2 : Int32) u_5 eu_5) (qX_DM_33 hts (by decide)) hw 0 rfl rfl hl.1 rfl (lv_room (Nat.le_of_ble_eq_true rfl)) d_XDM_rr_36 hcs) hw hS (fun H locs hw hS => ?_)
    refine lv_aload_n hx hb d_XDM_rr_39 rfl (lv_at hl 0 rfl) ?_
    refine va_get (v := .ref (a 1)) hx hb hts iX_DM hown hw.2.1 hw.1 0 rfl rfl 0 (by decide) (hts _ kX_DM_10) (fun _ h => h) rfl d_XDM_rr_40 ?_
    refine va_getN (v := .ref (a 2)) hx hb hts iX_St hown hw.2.1 hw.1 1 rfl rfl 0 (by decide) (va_Nw.use rfl (hw.2.2.2 _ kX_DM_37).2) (fun _ h => h) rfl d_XDM_rr_43 ?_
    refine lv_iload_n hx hb d_XDM_rr_46 rfl (lv_at hl 1 rfl) ?_
    refine lv_iconst (v := (1 : Int32)) hx hb d_XDM_rr_47 (by decide) ?_
    refine lv_iload_n hx hb d_XDM_rr_48 rfl (lv_at hl 2 rfl) ?_
    refine lv_i2l (v := Int32.toInt64 x2) hx hb d_XDM_rr_49 rfl ?_
    refine z_wv (z_runV (As := [.int x1, .int (1 : Int32), .long (Int32.toInt64 x2)]) (rest := []) ⟨hx, hb, hml, hown, hts⟩ (c_XMe_store l D a k u_5 x1 (1 : Int32) (Int32.toInt64 x2)) (qX_DM_41 hts (by decide)) hw 2 rfl rfl hl.1 rfl (lv_room (Nat.le_of_ble_eq_true rfl)) d_XDM_rr_50 hcs) hw hS (fun u_6 H locs eu_6 hw hS => ?_)
    have hf := hf.trans (nm_eq eu_6)
    refine lv_aload_n hx hb d_XDM_rr_53 rfl (lv_at hl 0 rfl) ?_
    refine va_get (v := .ref (a 1)) hx hb hts iX_DM hown hw.2.1 hw.1 0 rfl rfl 0 (by decide) (hts _ kX_DM_10) (fun _ h => h) rfl d_XDM_rr_54 ?_
    refine va_getN (v := .ref (a 2)) hx hb hts iX_St hown hw.2.1 hw.1 1 rfl rfl 0 (by decide) (va_Nw.use rfl (hw.2.2.2 _ kX_DM_37).2) (fun _ h => h) rfl d_XDM_rr_57 ?_
    refine lv_iload_n hx hb d_XDM_rr_60 rfl (lv_at hl 1 rfl) ?_
    refine lv_iconst (v := (1 : Int32)) hx hb d_XDM_rr_61 (by decide) ?_
    refine lv_iadd hx hb d_XDM_rr_62 ?_
    refine lv_iconst (v := (1 : Int32)) hx hb d_XDM_rr_63 (by decide) ?_
    refine lv_iload_n hx hb d_XDM_rr_64 rfl (lv_at hl 3 rfl) ?_
    refine lv_bipush (v := (16 : Int32)) hx hb d_XDM_rr_65 (by decide) ?_
    refine lv_imul hx hb d_XDM_rr_67 ?_
    refine lv_iload hx hb d_XDM_rr_68 (lv_at hl 4 rfl) ?_
    refine lv_iadd hx hb d_XDM_rr_70 ?_
    refine lv_i2l (v := Int32.toInt64 ((x3 * (16 : Int32)) + x4)) hx hb d_XDM_rr_71 rfl ?_
    refine z_wv (z_runV (As := [.int (x1 + (1 : Int32)), .int (1 : Int32), .long (Int32.toInt64 ((x3 * (16 : Int32)) + x4))]) (rest := []) ⟨hx, hb, hml, hown, hts⟩ (c_XMe_store l D a k u_6 (x1 + (1 : Int32)) (1 : Int32) (Int32.toInt64 ((x3 * (16 : Int32)) + x4))) (qX_DM_41 hts (by decide)) hw 2 rfl rfl hl.1 rfl (lv_room (Nat.le_of_ble_eq_true rfl)) d_XDM_rr_72 hcs) hw hS (fun u_7 H locs eu_7 hw hS => ?_)
    have hf := hf.trans (nm_eq eu_7)
    refine lv_iload_n hx hb d_XDM_rr_75 rfl (lv_at hl 1 rfl) ?_
    refine lv_iconst (v := (2 : Int32)) hx hb d_XDM_rr_76 (by decide) ?_
    refine lv_iadd hx hb d_XDM_rr_77 ?_
    exact hret (x1 + (2 : Int32)) _ _ _ _ _ d_XDM_rr_78 hw hS (Sum.inr.inj hf)
  · intro K_3 hK_3 hf
    refine jn_cut hf (fun (K_8 : Sum (String × XS) (Int32 × XS)) => ∀ (ls : Array Slot), lv_has ls 5 [(0, .ref (a 0)), (1, .int x1), (2, .int x2), (3, .int x3), (4, .int x4)] → Sum.inr F = K_8 → W p l e rm_XDM_rr st m args below meth c H locs 0 0 Q (F0 m 29 ls [])) ?_ ?_
    · intro ls hl hf
      refine lv_iconst (v := (0 : Int32)) hx hb d_XDM_rr_29 (by decide) ?_
      exact hK_3 false _ (lv_sub hl [0, 1, 2, 3, 4] rfl) hf
    · intro K_8 hK_8 hf
      refine lv_if_eq (tgt := 29) hx hb d_XDM_rr_7 (by decide) (fun c_9 => ?_) (fun c_9 => ?_)
      · have hf := hf.trans (if_pos c_9)
        exact hK_8 _ (lv_sub hl [0, 1, 2, 3, 4] rfl) hf
      · have hf := hf.trans (if_neg c_9)
        refine lv_iload_n hx hb d_XDM_rr_10 rfl (lv_at hl 3 rfl) ?_
        refine z_rz (z_runS (As := [.int x3]) (rest := []) ⟨hx, hb, hml, hown, hts⟩ (c_XDM_isNibble l D a k u0 x3) (qX_DM_51 hts (by decide)) hw  hl.1 rfl (lv_room (Nat.le_of_ble_eq_true rfl)) d_XDM_rr_11 hcs) (fun z_10 ez_10 => ?_)
        have hf := hf.trans (nm_eq ez_10)
        refine lv_if_eq (tgt := 29) hx hb d_XDM_rr_14 (by decide) (fun c_11 => ?_) (fun c_11 => ?_)
        · have hf := hf.trans (if_pos c_11)
          exact hK_8 _ (lv_sub hl [0, 1, 2, 3, 4] rfl) hf
        · have hf := hf.trans (if_neg c_11)
          refine lv_iload hx hb d_XDM_rr_17 (lv_at hl 4 rfl) ?_
          refine z_rz (z_runS (As := [.int x4]) (rest := []) ⟨hx, hb, hml, hown, hts⟩ (c_XDM_isNibble l D a k u0 x4) (qX_DM_51 hts (by decide)) hw  hl.1 rfl (lv_room (Nat.le_of_ble_eq_true rfl)) d_XDM_rr_19 hcs) (fun z_12 ez_12 => ?_)
          have hf := hf.trans (nm_eq ez_12)
          refine lv_if_eq (tgt := 29) hx hb d_XDM_rr_22 (by decide) (fun c_13 => ?_) (fun c_13 => ?_)
          · have hf := hf.trans (if_pos c_13)
            exact hK_8 _ (lv_sub hl [0, 1, 2, 3, 4] rfl) hf
          · have hf := hf.trans (if_neg c_13)
            refine lv_iconst (v := (1 : Int32)) hx hb d_XDM_rr_25 (by decide) ?_
            refine lv_goto (tgt := 30) hx hb d_XDM_rr_26 (by decide) ?_
            exact hK_3 true _ (lv_sub hl [0, 1, 2, 3, 4] rfl) hf
set_option maxHeartbeats 4000000 in
set_option maxRecDepth 100000 in
theorem cx_XDM_rr (l : Launch) (hl9 : l.stackTraces = false) (D : va_G) (a : Nat → Nat) (k : Nat → ClassId) (sa : Nat → Nat) (u0 : XS) (x1 : Int32) (x2 : Int32) (x3 : Int32) (x4 : Int32) (E : String) (U1 : XS) (hf : f_XDM_rr u0 x1 x2 x3 x4 = Sum.inl (E, U1)) : zT l y_XDM_rr w_XDM_rr rx_XDM_rr D clX (tyX k) nwX (skX sa) (xW a k) [.ref (a 0), .int x1, .int x2, .int x3, .int x4] u0 E U1 := by
  have hf := hf.symm
  unfold f_XDM_rr at hf
  refine zT_of (cc := b_XDM_rr) (maxL := 5) (own := RX_DM) (by decide) rfl rfl (Nat.le_of_ble_eq_true rfl) ?_ hl9
  intro p e R st m args below meth c A H locs Q ls hR hx hb hml hown hts hw hS hE hprop hthr hl
  subst hR
  have hcs : 0 ≤ (rx_XDM_rr).cells ∧ 0 ≤ (rx_XDM_rr).slots := ⟨Nat.zero_le _, Nat.zero_le _⟩
  have hl : lv_has ls 5 [(0, .ref (a 0)), (1, .int x1), (2, .int x2), (3, .int x3), (4, .int x4)] := hl
  refine lv_iload_n hx hb d_XDM_rr_0 rfl (lv_at hl 2 rfl) ?_
  refine lv_iconst (v := (0 : Int32)) hx hb d_XDM_rr_1 (by decide) ?_
  refine lv_bipush (v := (63 : Int32)) hx hb d_XDM_rr_2 (by decide) ?_
  refine z_rz (z_runS (As := [.int x2, .int (0 : Int32), .int (63 : Int32)]) (rest := []) ⟨hx, hb, hml, hown, hts⟩ (c_XDM_isWithin l D a k u0 x2 (0 : Int32) (63 : Int32)) (qX_DM_25 hts (by decide)) hw  hl.1 rfl (lv_room (Nat.le_of_ble_eq_true rfl)) d_XDM_rr_4 hcs) (fun z_1 ez_1 => ?_)
  have hf := hf.trans (nm_eq ez_1)
  refine jn_cut hf (fun (K_3 : Bool → Sum (String × XS) (Int32 × XS)) => ∀ (z_2 : Bool), ∀ (ls : Array Slot), lv_has ls 5 [(0, .ref (a 0)), (1, .int x1), (2, .int x2), (3, .int x3), (4, .int x4)] → Sum.inl (E, U1) = K_3 z_2 → W p l e rx_XDM_rr st m args below meth c H locs 0 0 Q (F0 m 30 ls [.int (bI z_2)])) ?_ ?_
  · intro z_2 ls hl hf
    rcases bx_invX hf with ht | ⟨u_4, eu_4, hf⟩
    · exact hprop _ _ _ _ _ _ _ (ztS (As := [.int (bI z_2)]) (rest := []) ⟨hx, hb, hml, hown, hts⟩ (cx_XDM_demand l hl9 D a k sa u0 z_2 E U1 ht) (qxX_DM_29 hts (by decide)) hw hE hS  hl.1 rfl (lv_room (Nat.le_of_ble_eq_true rfl)) d_XDM_rr_30 ⟨Nat.le_of_ble_eq_true rfl, Nat.le_of_ble_eq_true rfl⟩) hw hS
    refine z_wv' (u' := u_4) (z_runS (As := [.int (bI z_2)]) (rest := []) ⟨hx, hb, hml, hown, hts⟩ (cn_XDM_demand l D a k u0 z_2 u_4 eu_4) (qX_DM_29 hts (by decide)) hw  hl.1 rfl (lv_room (Nat.le_of_ble_eq_true rfl)) d_XDM_rr_30 hcs) hw hS (fun H locs hw hS => ?_)
    refine lv_aload_n hx hb d_XDM_rr_33 rfl (lv_at hl 0 rfl) ?_
    refine lv_iload_n hx hb d_XDM_rr_34 rfl (lv_at hl 1 rfl) ?_
    refine lv_iconst (v := (2 : Int32)) hx hb d_XDM_rr_35 (by decide) ?_
    rcases bx_invX hf with ht | ⟨u_5, eu_5, hf⟩
    · exact hprop _ _ _ _ _ _ _ (ztV (As := [.int x1, .int (2 : Int32)]) (rest := []) ⟨hx, hb, hml, hown, hts⟩ (cx_XDM_demandMemory l hl9 D a k sa u_4 x1 (2 : Int32) E U1 ht) (qxX_DM_33 hts (by decide)) hw hE hS 0 rfl rfl hl.1 rfl (lv_room (Nat.le_of_ble_eq_true rfl)) d_XDM_rr_36 ⟨Nat.le_of_ble_eq_true rfl, Nat.le_of_ble_eq_true rfl⟩) hw hS
    refine z_wv' (u' := u_5) (z_runV (As := [.int x1, .int (2 : Int32)]) (rest := []) ⟨hx, hb, hml, hown, hts⟩ (cn_XDM_demandMemory l D a k u_4 x1 (2 : Int32) u_5 eu_5) (qX_DM_33 hts (by decide)) hw 0 rfl rfl hl.1 rfl (lv_room (Nat.le_of_ble_eq_true rfl)) d_XDM_rr_36 hcs) hw hS (fun H locs hw hS => ?_)
    refine lv_aload_n hx hb d_XDM_rr_39 rfl (lv_at hl 0 rfl) ?_
    refine va_get (v := .ref (a 1)) hx hb hts iX_DM hown hw.2.1 hw.1 0 rfl rfl 0 (by decide) (hts _ kX_DM_10) (fun _ h => h) rfl d_XDM_rr_40 ?_
    refine va_getN (v := .ref (a 2)) hx hb hts iX_St hown hw.2.1 hw.1 1 rfl rfl 0 (by decide) (va_Nw.use rfl (hw.2.2.2 _ kX_DM_37).2) (fun _ h => h) rfl d_XDM_rr_43 ?_
    refine lv_iload_n hx hb d_XDM_rr_46 rfl (lv_at hl 1 rfl) ?_
    refine lv_iconst (v := (1 : Int32)) hx hb d_XDM_rr_47 (by decide) ?_
    refine lv_iload_n hx hb d_XDM_rr_48 rfl (lv_at hl 2 rfl) ?_
    refine lv_i2l (v := Int32.toInt64 x2) hx hb d_XDM_rr_49 rfl ?_
    refine z_wv (z_runV (As := [.int x1, .int (1 : Int32), .long (Int32.toInt64 x2)]) (rest := []) ⟨hx, hb, hml, hown, hts⟩ (c_XMe_store l D a k u_5 x1 (1 : Int32) (Int32.toInt64 x2)) (qX_DM_41 hts (by decide)) hw 2 rfl rfl hl.1 rfl (lv_room (Nat.le_of_ble_eq_true rfl)) d_XDM_rr_50 hcs) hw hS (fun u_6 H locs eu_6 hw hS => ?_)
    have hf := hf.trans (nm_eq eu_6)
    refine lv_aload_n hx hb d_XDM_rr_53 rfl (lv_at hl 0 rfl) ?_
    refine va_get (v := .ref (a 1)) hx hb hts iX_DM hown hw.2.1 hw.1 0 rfl rfl 0 (by decide) (hts _ kX_DM_10) (fun _ h => h) rfl d_XDM_rr_54 ?_
    refine va_getN (v := .ref (a 2)) hx hb hts iX_St hown hw.2.1 hw.1 1 rfl rfl 0 (by decide) (va_Nw.use rfl (hw.2.2.2 _ kX_DM_37).2) (fun _ h => h) rfl d_XDM_rr_57 ?_
    refine lv_iload_n hx hb d_XDM_rr_60 rfl (lv_at hl 1 rfl) ?_
    refine lv_iconst (v := (1 : Int32)) hx hb d_XDM_rr_61 (by decide) ?_
    refine lv_iadd hx hb d_XDM_rr_62 ?_
    refine lv_iconst (v := (1 : Int32)) hx hb d_XDM_rr_63 (by decide) ?_
    refine lv_iload_n hx hb d_XDM_rr_64 rfl (lv_at hl 3 rfl) ?_
    refine lv_bipush (v := (16 : Int32)) hx hb d_XDM_rr_65 (by decide) ?_
    refine lv_imul hx hb d_XDM_rr_67 ?_
    refine lv_iload hx hb d_XDM_rr_68 (lv_at hl 4 rfl) ?_
    refine lv_iadd hx hb d_XDM_rr_70 ?_
    refine lv_i2l (v := Int32.toInt64 ((x3 * (16 : Int32)) + x4)) hx hb d_XDM_rr_71 rfl ?_
    refine z_wv (z_runV (As := [.int (x1 + (1 : Int32)), .int (1 : Int32), .long (Int32.toInt64 ((x3 * (16 : Int32)) + x4))]) (rest := []) ⟨hx, hb, hml, hown, hts⟩ (c_XMe_store l D a k u_6 (x1 + (1 : Int32)) (1 : Int32) (Int32.toInt64 ((x3 * (16 : Int32)) + x4))) (qX_DM_41 hts (by decide)) hw 2 rfl rfl hl.1 rfl (lv_room (Nat.le_of_ble_eq_true rfl)) d_XDM_rr_72 hcs) hw hS (fun u_7 H locs eu_7 hw hS => ?_)
    have hf := hf.trans (nm_eq eu_7)
    refine lv_iload_n hx hb d_XDM_rr_75 rfl (lv_at hl 1 rfl) ?_
    refine lv_iconst (v := (2 : Int32)) hx hb d_XDM_rr_76 (by decide) ?_
    refine lv_iadd hx hb d_XDM_rr_77 ?_
    cases hf
  · intro K_3 hK_3 hf
    refine jn_cut hf (fun (K_8 : Sum (String × XS) (Int32 × XS)) => ∀ (ls : Array Slot), lv_has ls 5 [(0, .ref (a 0)), (1, .int x1), (2, .int x2), (3, .int x3), (4, .int x4)] → Sum.inl (E, U1) = K_8 → W p l e rx_XDM_rr st m args below meth c H locs 0 0 Q (F0 m 29 ls [])) ?_ ?_
    · intro ls hl hf
      refine lv_iconst (v := (0 : Int32)) hx hb d_XDM_rr_29 (by decide) ?_
      exact hK_3 false _ (lv_sub hl [0, 1, 2, 3, 4] rfl) hf
    · intro K_8 hK_8 hf
      refine lv_if_eq (tgt := 29) hx hb d_XDM_rr_7 (by decide) (fun c_9 => ?_) (fun c_9 => ?_)
      · have hf := hf.trans (if_pos c_9)
        exact hK_8 _ (lv_sub hl [0, 1, 2, 3, 4] rfl) hf
      · have hf := hf.trans (if_neg c_9)
        refine lv_iload_n hx hb d_XDM_rr_10 rfl (lv_at hl 3 rfl) ?_
        refine z_rz (z_runS (As := [.int x3]) (rest := []) ⟨hx, hb, hml, hown, hts⟩ (c_XDM_isNibble l D a k u0 x3) (qX_DM_51 hts (by decide)) hw  hl.1 rfl (lv_room (Nat.le_of_ble_eq_true rfl)) d_XDM_rr_11 hcs) (fun z_10 ez_10 => ?_)
        have hf := hf.trans (nm_eq ez_10)
        refine lv_if_eq (tgt := 29) hx hb d_XDM_rr_14 (by decide) (fun c_11 => ?_) (fun c_11 => ?_)
        · have hf := hf.trans (if_pos c_11)
          exact hK_8 _ (lv_sub hl [0, 1, 2, 3, 4] rfl) hf
        · have hf := hf.trans (if_neg c_11)
          refine lv_iload hx hb d_XDM_rr_17 (lv_at hl 4 rfl) ?_
          refine z_rz (z_runS (As := [.int x4]) (rest := []) ⟨hx, hb, hml, hown, hts⟩ (c_XDM_isNibble l D a k u0 x4) (qX_DM_51 hts (by decide)) hw  hl.1 rfl (lv_room (Nat.le_of_ble_eq_true rfl)) d_XDM_rr_19 hcs) (fun z_12 ez_12 => ?_)
          have hf := hf.trans (nm_eq ez_12)
          refine lv_if_eq (tgt := 29) hx hb d_XDM_rr_22 (by decide) (fun c_13 => ?_) (fun c_13 => ?_)
          · have hf := hf.trans (if_pos c_13)
            exact hK_8 _ (lv_sub hl [0, 1, 2, 3, 4] rfl) hf
          · have hf := hf.trans (if_neg c_13)
            refine lv_iconst (v := (1 : Int32)) hx hb d_XDM_rr_25 (by decide) ?_
            refine lv_goto (tgt := 30) hx hb d_XDM_rr_26 (by decide) ?_
            exact hK_3 true _ (lv_sub hl [0, 1, 2, 3, 4] rfl) hf
def f_XDM_rx (u0 : XS) (x1 : Int32) (x2 : Int32) (x3 : Int32) (x4 : Int32) (x5 : Int32) (x6 : Int32) : Sum (String × XS) (Int32 × XS) := nm (f_XDM_isWithin u0 x2 (64 : Int32) (191 : Int32)) (fun (z_1 : Bool) => jn (fun (K_3 : Bool → Sum (String × XS) (Int32 × XS)) => jn (fun (K_9 : Sum (String × XS) (Int32 × XS)) => if (bI z_1) = (0 : Int32) then K_9 else nm (f_XDM_isNibble u0 x3) (fun (z_11 : Bool) => if (bI z_11) = (0 : Int32) then K_9 else nm (f_XDM_isNibble u0 x4) (fun (z_13 : Bool) => if (bI z_13) = (0 : Int32) then K_9 else nm (f_XDM_isPlace u0 x5 x6) (fun (z_15 : Bool) => if (bI z_15) = (0 : Int32) then K_9 else K_3 true)))) (K_3 false)) (fun (z_2 : Bool) => bx (f_XDM_demand u0 z_2) (fun (u_4 : XS) => bx (f_XDM_demandMemory u_4 x1 (4 : Int32)) (fun (u_5 : XS) => nm (f_XMe_store u_5 x1 (1 : Int32) (Int32.toInt64 x2)) (fun (u_6 : XS) => nm (f_XMe_store u_6 (x1 + (1 : Int32)) (1 : Int32) (Int32.toInt64 ((x3 * (16 : Int32)) + x4))) (fun (u_7 : XS) => nm (f_XMe_store u_7 (x1 + (2 : Int32)) (2 : Int32) (Int32.toInt64 ((x5 * (4096 : Int32)) + x6))) (fun (u_8 : XS) => Sum.inr (x1 + (4 : Int32), u_8))))))))
set_option maxHeartbeats 4000000 in
set_option maxRecDepth 100000 in
theorem cn_XDM_rx (l : Launch) (D : va_G) (a : Nat → Nat) (k : Nat → ClassId) (u0 : XS) (x1 : Int32) (x2 : Int32) (x3 : Int32) (x4 : Int32) (x5 : Int32) (x6 : Int32) (F : Int32 × XS) (hf : f_XDM_rx u0 x1 x2 x3 x4 x5 x6 = Sum.inr F) : zMi l y_XDM_rx w_XDM_rx rm_XDM_rx D clX (tyX k) nwX (xW a k) [.ref (a 0), .int x1, .int x2, .int x3, .int x4, .int x5, .int x6] u0 F := by
  have hf := hf.symm
  unfold f_XDM_rx at hf
  refine zMi_of (cc := b_XDM_rx) (maxL := 7) (own := RX_DM) (by decide) rfl rfl (Nat.le_of_ble_eq_true rfl) ?_
  intro p e R st m args below meth c A H locs Q ls hR hx hb hml hown hts hw hS hret hl
  subst hR
  have hcs : 0 ≤ (rm_XDM_rx).cells ∧ 0 ≤ (rm_XDM_rx).slots := ⟨Nat.zero_le _, Nat.zero_le _⟩
  have hl : lv_has ls 7 [(0, .ref (a 0)), (1, .int x1), (2, .int x2), (3, .int x3), (4, .int x4), (5, .int x5), (6, .int x6)] := hl
  refine lv_iload_n hx hb d_XDM_rx_0 rfl (lv_at hl 2 rfl) ?_
  refine lv_bipush (v := (64 : Int32)) hx hb d_XDM_rx_1 (by decide) ?_
  refine lv_sipush (v := (191 : Int32)) hx hb d_XDM_rx_3 (by decide) ?_
  refine z_rz (z_runS (As := [.int x2, .int (64 : Int32), .int (191 : Int32)]) (rest := []) ⟨hx, hb, hml, hown, hts⟩ (c_XDM_isWithin l D a k u0 x2 (64 : Int32) (191 : Int32)) (qX_DM_25 hts (by decide)) hw  hl.1 rfl (lv_room (Nat.le_of_ble_eq_true rfl)) d_XDM_rx_6 hcs) (fun z_1 ez_1 => ?_)
  have hf := hf.trans (nm_eq ez_1)
  refine jn_cut hf (fun (K_3 : Bool → Sum (String × XS) (Int32 × XS)) => ∀ (z_2 : Bool), ∀ (ls : Array Slot), lv_has ls 7 [(0, .ref (a 0)), (1, .int x1), (2, .int x2), (3, .int x3), (4, .int x4), (5, .int x5), (6, .int x6)] → Sum.inr F = K_3 z_2 → W p l e rm_XDM_rx st m args below meth c H locs 0 0 Q (F0 m 42 ls [.int (bI z_2)])) ?_ ?_
  · intro z_2 ls hl hf
    obtain ⟨u_4, eu_4, hf⟩ := bx_inv hf
    refine z_wv' (u' := u_4) (z_runS (As := [.int (bI z_2)]) (rest := []) ⟨hx, hb, hml, hown, hts⟩ (cn_XDM_demand l D a k u0 z_2 u_4 eu_4) (qX_DM_29 hts (by decide)) hw  hl.1 rfl (lv_room (Nat.le_of_ble_eq_true rfl)) d_XDM_rx_42 hcs) hw hS (fun H locs hw hS => ?_)
    refine lv_aload_n hx hb d_XDM_rx_45 rfl (lv_at hl 0 rfl) ?_
    refine lv_iload_n hx hb d_XDM_rx_46 rfl (lv_at hl 1 rfl) ?_
    refine lv_iconst (v := (4 : Int32)) hx hb d_XDM_rx_47 (by decide) ?_
    obtain ⟨u_5, eu_5, hf⟩ := bx_inv hf
    refine z_wv' (u' := u_5) (z_runV (As := [.int x1, .int (4 : Int32)]) (rest := []) ⟨hx, hb, hml, hown, hts⟩ (cn_XDM_demandMemory l D a k u_4 x1 (4 : Int32) u_5 eu_5) (qX_DM_33 hts (by decide)) hw 0 rfl rfl hl.1 rfl (lv_room (Nat.le_of_ble_eq_true rfl)) d_XDM_rx_48 hcs) hw hS (fun H locs hw hS => ?_)
    refine lv_aload_n hx hb d_XDM_rx_51 rfl (lv_at hl 0 rfl) ?_
    refine va_get (v := .ref (a 1)) hx hb hts iX_DM hown hw.2.1 hw.1 0 rfl rfl 0 (by decide) (hts _ kX_DM_10) (fun _ h => h) rfl d_XDM_rx_52 ?_
    refine va_getN (v := .ref (a 2)) hx hb hts iX_St hown hw.2.1 hw.1 1 rfl rfl 0 (by decide) (va_Nw.use rfl (hw.2.2.2 _ kX_DM_37).2) (fun _ h => h) rfl d_XDM_rx_55 ?_
    refine lv_iload_n hx hb d_XDM_rx_58 rfl (lv_at hl 1 rfl) ?_
    refine lv_iconst (v := (1 : Int32)) hx hb d_XDM_rx_59 (by decide) ?_
    refine lv_iload_n hx hb d_XDM_rx_60 rfl (lv_at hl 2 rfl) ?_
    refine lv_i2l (v := Int32.toInt64 x2) hx hb d_XDM_rx_61 rfl ?_
    refine z_wv (z_runV (As := [.int x1, .int (1 : Int32), .long (Int32.toInt64 x2)]) (rest := []) ⟨hx, hb, hml, hown, hts⟩ (c_XMe_store l D a k u_5 x1 (1 : Int32) (Int32.toInt64 x2)) (qX_DM_41 hts (by decide)) hw 2 rfl rfl hl.1 rfl (lv_room (Nat.le_of_ble_eq_true rfl)) d_XDM_rx_62 hcs) hw hS (fun u_6 H locs eu_6 hw hS => ?_)
    have hf := hf.trans (nm_eq eu_6)
    refine lv_aload_n hx hb d_XDM_rx_65 rfl (lv_at hl 0 rfl) ?_
    refine va_get (v := .ref (a 1)) hx hb hts iX_DM hown hw.2.1 hw.1 0 rfl rfl 0 (by decide) (hts _ kX_DM_10) (fun _ h => h) rfl d_XDM_rx_66 ?_
    refine va_getN (v := .ref (a 2)) hx hb hts iX_St hown hw.2.1 hw.1 1 rfl rfl 0 (by decide) (va_Nw.use rfl (hw.2.2.2 _ kX_DM_37).2) (fun _ h => h) rfl d_XDM_rx_69 ?_
    refine lv_iload_n hx hb d_XDM_rx_72 rfl (lv_at hl 1 rfl) ?_
    refine lv_iconst (v := (1 : Int32)) hx hb d_XDM_rx_73 (by decide) ?_
    refine lv_iadd hx hb d_XDM_rx_74 ?_
    refine lv_iconst (v := (1 : Int32)) hx hb d_XDM_rx_75 (by decide) ?_
    refine lv_iload_n hx hb d_XDM_rx_76 rfl (lv_at hl 3 rfl) ?_
    refine lv_bipush (v := (16 : Int32)) hx hb d_XDM_rx_77 (by decide) ?_
    refine lv_imul hx hb d_XDM_rx_79 ?_
    refine lv_iload hx hb d_XDM_rx_80 (lv_at hl 4 rfl) ?_
    refine lv_iadd hx hb d_XDM_rx_82 ?_
    refine lv_i2l (v := Int32.toInt64 ((x3 * (16 : Int32)) + x4)) hx hb d_XDM_rx_83 rfl ?_
    refine z_wv (z_runV (As := [.int (x1 + (1 : Int32)), .int (1 : Int32), .long (Int32.toInt64 ((x3 * (16 : Int32)) + x4))]) (rest := []) ⟨hx, hb, hml, hown, hts⟩ (c_XMe_store l D a k u_6 (x1 + (1 : Int32)) (1 : Int32) (Int32.toInt64 ((x3 * (16 : Int32)) + x4))) (qX_DM_41 hts (by decide)) hw 2 rfl rfl hl.1 rfl (lv_room (Nat.le_of_ble_eq_true rfl)) d_XDM_rx_84 hcs) hw hS (fun u_7 H locs eu_7 hw hS => ?_)
    have hf := hf.trans (nm_eq eu_7)
    refine lv_aload_n hx hb d_XDM_rx_87 rfl (lv_at hl 0 rfl) ?_
    refine va_get (v := .ref (a 1)) hx hb hts iX_DM hown hw.2.1 hw.1 0 rfl rfl 0 (by decide) (hts _ kX_DM_10) (fun _ h => h) rfl d_XDM_rx_88 ?_
    refine va_getN (v := .ref (a 2)) hx hb hts iX_St hown hw.2.1 hw.1 1 rfl rfl 0 (by decide) (va_Nw.use rfl (hw.2.2.2 _ kX_DM_37).2) (fun _ h => h) rfl d_XDM_rx_91 ?_
    refine lv_iload_n hx hb d_XDM_rx_94 rfl (lv_at hl 1 rfl) ?_
    refine lv_iconst (v := (2 : Int32)) hx hb d_XDM_rx_95 (by decide) ?_
    refine lv_iadd hx hb d_XDM_rx_96 ?_
    refine lv_iconst (v := (2 : Int32)) hx hb d_XDM_rx_97 (by decide) ?_
    refine lv_iload hx hb d_XDM_rx_98 (lv_at hl 5 rfl) ?_
    refine lv_sipush (v := (4096 : Int32)) hx hb d_XDM_rx_100 (by decide) ?_
    refine lv_imul hx hb d_XDM_rx_103 ?_
    refine lv_iload hx hb d_XDM_rx_104 (lv_at hl 6 rfl) ?_
    refine lv_iadd hx hb d_XDM_rx_106 ?_
    refine lv_i2l (v := Int32.toInt64 ((x5 * (4096 : Int32)) + x6)) hx hb d_XDM_rx_107 rfl ?_
    refine z_wv (z_runV (As := [.int (x1 + (2 : Int32)), .int (2 : Int32), .long (Int32.toInt64 ((x5 * (4096 : Int32)) + x6))]) (rest := []) ⟨hx, hb, hml, hown, hts⟩ (c_XMe_store l D a k u_7 (x1 + (2 : Int32)) (2 : Int32) (Int32.toInt64 ((x5 * (4096 : Int32)) + x6))) (qX_DM_41 hts (by decide)) hw 2 rfl rfl hl.1 rfl (lv_room (Nat.le_of_ble_eq_true rfl)) d_XDM_rx_108 hcs) hw hS (fun u_8 H locs eu_8 hw hS => ?_)
    have hf := hf.trans (nm_eq eu_8)
    refine lv_iload_n hx hb d_XDM_rx_111 rfl (lv_at hl 1 rfl) ?_
    refine lv_iconst (v := (4 : Int32)) hx hb d_XDM_rx_112 (by decide) ?_
    refine lv_iadd hx hb d_XDM_rx_113 ?_
    exact hret (x1 + (4 : Int32)) _ _ _ _ _ d_XDM_rx_114 hw hS (Sum.inr.inj hf)
  · intro K_3 hK_3 hf
    refine jn_cut hf (fun (K_9 : Sum (String × XS) (Int32 × XS)) => ∀ (ls : Array Slot), lv_has ls 7 [(0, .ref (a 0)), (1, .int x1), (2, .int x2), (3, .int x3), (4, .int x4), (5, .int x5), (6, .int x6)] → Sum.inr F = K_9 → W p l e rm_XDM_rx st m args below meth c H locs 0 0 Q (F0 m 41 ls [])) ?_ ?_
    · intro ls hl hf
      refine lv_iconst (v := (0 : Int32)) hx hb d_XDM_rx_41 (by decide) ?_
      exact hK_3 false _ (lv_sub hl [0, 1, 2, 3, 4, 5, 6] rfl) hf
    · intro K_9 hK_9 hf
      refine lv_if_eq (tgt := 41) hx hb d_XDM_rx_9 (by decide) (fun c_10 => ?_) (fun c_10 => ?_)
      · have hf := hf.trans (if_pos c_10)
        exact hK_9 _ (lv_sub hl [0, 1, 2, 3, 4, 5, 6] rfl) hf
      · have hf := hf.trans (if_neg c_10)
        refine lv_iload_n hx hb d_XDM_rx_12 rfl (lv_at hl 3 rfl) ?_
        refine z_rz (z_runS (As := [.int x3]) (rest := []) ⟨hx, hb, hml, hown, hts⟩ (c_XDM_isNibble l D a k u0 x3) (qX_DM_51 hts (by decide)) hw  hl.1 rfl (lv_room (Nat.le_of_ble_eq_true rfl)) d_XDM_rx_13 hcs) (fun z_11 ez_11 => ?_)
        have hf := hf.trans (nm_eq ez_11)
        refine lv_if_eq (tgt := 41) hx hb d_XDM_rx_16 (by decide) (fun c_12 => ?_) (fun c_12 => ?_)
        · have hf := hf.trans (if_pos c_12)
          exact hK_9 _ (lv_sub hl [0, 1, 2, 3, 4, 5, 6] rfl) hf
        · have hf := hf.trans (if_neg c_12)
          refine lv_iload hx hb d_XDM_rx_19 (lv_at hl 4 rfl) ?_
          refine z_rz (z_runS (As := [.int x4]) (rest := []) ⟨hx, hb, hml, hown, hts⟩ (c_XDM_isNibble l D a k u0 x4) (qX_DM_51 hts (by decide)) hw  hl.1 rfl (lv_room (Nat.le_of_ble_eq_true rfl)) d_XDM_rx_21 hcs) (fun z_13 ez_13 => ?_)
          have hf := hf.trans (nm_eq ez_13)
          refine lv_if_eq (tgt := 41) hx hb d_XDM_rx_24 (by decide) (fun c_14 => ?_) (fun c_14 => ?_)
          · have hf := hf.trans (if_pos c_14)
            exact hK_9 _ (lv_sub hl [0, 1, 2, 3, 4, 5, 6] rfl) hf
          · have hf := hf.trans (if_neg c_14)
            refine lv_iload hx hb d_XDM_rx_27 (lv_at hl 5 rfl) ?_
            refine lv_iload hx hb d_XDM_rx_29 (lv_at hl 6 rfl) ?_
            refine z_rz (z_runS (As := [.int x5, .int x6]) (rest := []) ⟨hx, hb, hml, hown, hts⟩ (c_XDM_isPlace l D a k u0 x5 x6) (qX_DM_75 hts (by decide)) hw  hl.1 rfl (lv_room (Nat.le_of_ble_eq_true rfl)) d_XDM_rx_31 hcs) (fun z_15 ez_15 => ?_)
            have hf := hf.trans (nm_eq ez_15)
            refine lv_if_eq (tgt := 41) hx hb d_XDM_rx_34 (by decide) (fun c_16 => ?_) (fun c_16 => ?_)
            · have hf := hf.trans (if_pos c_16)
              exact hK_9 _ (lv_sub hl [0, 1, 2, 3, 4, 5, 6] rfl) hf
            · have hf := hf.trans (if_neg c_16)
              refine lv_iconst (v := (1 : Int32)) hx hb d_XDM_rx_37 (by decide) ?_
              refine lv_goto (tgt := 42) hx hb d_XDM_rx_38 (by decide) ?_
              exact hK_3 true _ (lv_sub hl [0, 1, 2, 3, 4, 5, 6] rfl) hf
set_option maxHeartbeats 4000000 in
set_option maxRecDepth 100000 in
theorem cx_XDM_rx (l : Launch) (hl9 : l.stackTraces = false) (D : va_G) (a : Nat → Nat) (k : Nat → ClassId) (sa : Nat → Nat) (u0 : XS) (x1 : Int32) (x2 : Int32) (x3 : Int32) (x4 : Int32) (x5 : Int32) (x6 : Int32) (E : String) (U1 : XS) (hf : f_XDM_rx u0 x1 x2 x3 x4 x5 x6 = Sum.inl (E, U1)) : zT l y_XDM_rx w_XDM_rx rx_XDM_rx D clX (tyX k) nwX (skX sa) (xW a k) [.ref (a 0), .int x1, .int x2, .int x3, .int x4, .int x5, .int x6] u0 E U1 := by
  have hf := hf.symm
  unfold f_XDM_rx at hf
  refine zT_of (cc := b_XDM_rx) (maxL := 7) (own := RX_DM) (by decide) rfl rfl (Nat.le_of_ble_eq_true rfl) ?_ hl9
  intro p e R st m args below meth c A H locs Q ls hR hx hb hml hown hts hw hS hE hprop hthr hl
  subst hR
  have hcs : 0 ≤ (rx_XDM_rx).cells ∧ 0 ≤ (rx_XDM_rx).slots := ⟨Nat.zero_le _, Nat.zero_le _⟩
  have hl : lv_has ls 7 [(0, .ref (a 0)), (1, .int x1), (2, .int x2), (3, .int x3), (4, .int x4), (5, .int x5), (6, .int x6)] := hl
  refine lv_iload_n hx hb d_XDM_rx_0 rfl (lv_at hl 2 rfl) ?_
  refine lv_bipush (v := (64 : Int32)) hx hb d_XDM_rx_1 (by decide) ?_
  refine lv_sipush (v := (191 : Int32)) hx hb d_XDM_rx_3 (by decide) ?_
  refine z_rz (z_runS (As := [.int x2, .int (64 : Int32), .int (191 : Int32)]) (rest := []) ⟨hx, hb, hml, hown, hts⟩ (c_XDM_isWithin l D a k u0 x2 (64 : Int32) (191 : Int32)) (qX_DM_25 hts (by decide)) hw  hl.1 rfl (lv_room (Nat.le_of_ble_eq_true rfl)) d_XDM_rx_6 hcs) (fun z_1 ez_1 => ?_)
  have hf := hf.trans (nm_eq ez_1)
  refine jn_cut hf (fun (K_3 : Bool → Sum (String × XS) (Int32 × XS)) => ∀ (z_2 : Bool), ∀ (ls : Array Slot), lv_has ls 7 [(0, .ref (a 0)), (1, .int x1), (2, .int x2), (3, .int x3), (4, .int x4), (5, .int x5), (6, .int x6)] → Sum.inl (E, U1) = K_3 z_2 → W p l e rx_XDM_rx st m args below meth c H locs 0 0 Q (F0 m 42 ls [.int (bI z_2)])) ?_ ?_
  · intro z_2 ls hl hf
    rcases bx_invX hf with ht | ⟨u_4, eu_4, hf⟩
    · exact hprop _ _ _ _ _ _ _ (ztS (As := [.int (bI z_2)]) (rest := []) ⟨hx, hb, hml, hown, hts⟩ (cx_XDM_demand l hl9 D a k sa u0 z_2 E U1 ht) (qxX_DM_29 hts (by decide)) hw hE hS  hl.1 rfl (lv_room (Nat.le_of_ble_eq_true rfl)) d_XDM_rx_42 ⟨Nat.le_of_ble_eq_true rfl, Nat.le_of_ble_eq_true rfl⟩) hw hS
    refine z_wv' (u' := u_4) (z_runS (As := [.int (bI z_2)]) (rest := []) ⟨hx, hb, hml, hown, hts⟩ (cn_XDM_demand l D a k u0 z_2 u_4 eu_4) (qX_DM_29 hts (by decide)) hw  hl.1 rfl (lv_room (Nat.le_of_ble_eq_true rfl)) d_XDM_rx_42 hcs) hw hS (fun H locs hw hS => ?_)
    refine lv_aload_n hx hb d_XDM_rx_45 rfl (lv_at hl 0 rfl) ?_
    refine lv_iload_n hx hb d_XDM_rx_46 rfl (lv_at hl 1 rfl) ?_
    refine lv_iconst (v := (4 : Int32)) hx hb d_XDM_rx_47 (by decide) ?_
    rcases bx_invX hf with ht | ⟨u_5, eu_5, hf⟩
    · exact hprop _ _ _ _ _ _ _ (ztV (As := [.int x1, .int (4 : Int32)]) (rest := []) ⟨hx, hb, hml, hown, hts⟩ (cx_XDM_demandMemory l hl9 D a k sa u_4 x1 (4 : Int32) E U1 ht) (qxX_DM_33 hts (by decide)) hw hE hS 0 rfl rfl hl.1 rfl (lv_room (Nat.le_of_ble_eq_true rfl)) d_XDM_rx_48 ⟨Nat.le_of_ble_eq_true rfl, Nat.le_of_ble_eq_true rfl⟩) hw hS
    refine z_wv' (u' := u_5) (z_runV (As := [.int x1, .int (4 : Int32)]) (rest := []) ⟨hx, hb, hml, hown, hts⟩ (cn_XDM_demandMemory l D a k u_4 x1 (4 : Int32) u_5 eu_5) (qX_DM_33 hts (by decide)) hw 0 rfl rfl hl.1 rfl (lv_room (Nat.le_of_ble_eq_true rfl)) d_XDM_rx_48 hcs) hw hS (fun H locs hw hS => ?_)
    refine lv_aload_n hx hb d_XDM_rx_51 rfl (lv_at hl 0 rfl) ?_
    refine va_get (v := .ref (a 1)) hx hb hts iX_DM hown hw.2.1 hw.1 0 rfl rfl 0 (by decide) (hts _ kX_DM_10) (fun _ h => h) rfl d_XDM_rx_52 ?_
    refine va_getN (v := .ref (a 2)) hx hb hts iX_St hown hw.2.1 hw.1 1 rfl rfl 0 (by decide) (va_Nw.use rfl (hw.2.2.2 _ kX_DM_37).2) (fun _ h => h) rfl d_XDM_rx_55 ?_
    refine lv_iload_n hx hb d_XDM_rx_58 rfl (lv_at hl 1 rfl) ?_
    refine lv_iconst (v := (1 : Int32)) hx hb d_XDM_rx_59 (by decide) ?_
    refine lv_iload_n hx hb d_XDM_rx_60 rfl (lv_at hl 2 rfl) ?_
    refine lv_i2l (v := Int32.toInt64 x2) hx hb d_XDM_rx_61 rfl ?_
    refine z_wv (z_runV (As := [.int x1, .int (1 : Int32), .long (Int32.toInt64 x2)]) (rest := []) ⟨hx, hb, hml, hown, hts⟩ (c_XMe_store l D a k u_5 x1 (1 : Int32) (Int32.toInt64 x2)) (qX_DM_41 hts (by decide)) hw 2 rfl rfl hl.1 rfl (lv_room (Nat.le_of_ble_eq_true rfl)) d_XDM_rx_62 hcs) hw hS (fun u_6 H locs eu_6 hw hS => ?_)
    have hf := hf.trans (nm_eq eu_6)
    refine lv_aload_n hx hb d_XDM_rx_65 rfl (lv_at hl 0 rfl) ?_
    refine va_get (v := .ref (a 1)) hx hb hts iX_DM hown hw.2.1 hw.1 0 rfl rfl 0 (by decide) (hts _ kX_DM_10) (fun _ h => h) rfl d_XDM_rx_66 ?_
    refine va_getN (v := .ref (a 2)) hx hb hts iX_St hown hw.2.1 hw.1 1 rfl rfl 0 (by decide) (va_Nw.use rfl (hw.2.2.2 _ kX_DM_37).2) (fun _ h => h) rfl d_XDM_rx_69 ?_
    refine lv_iload_n hx hb d_XDM_rx_72 rfl (lv_at hl 1 rfl) ?_
    refine lv_iconst (v := (1 : Int32)) hx hb d_XDM_rx_73 (by decide) ?_
    refine lv_iadd hx hb d_XDM_rx_74 ?_
    refine lv_iconst (v := (1 : Int32)) hx hb d_XDM_rx_75 (by decide) ?_
    refine lv_iload_n hx hb d_XDM_rx_76 rfl (lv_at hl 3 rfl) ?_
    refine lv_bipush (v := (16 : Int32)) hx hb d_XDM_rx_77 (by decide) ?_
    refine lv_imul hx hb d_XDM_rx_79 ?_
    refine lv_iload hx hb d_XDM_rx_80 (lv_at hl 4 rfl) ?_
    refine lv_iadd hx hb d_XDM_rx_82 ?_
    refine lv_i2l (v := Int32.toInt64 ((x3 * (16 : Int32)) + x4)) hx hb d_XDM_rx_83 rfl ?_
    refine z_wv (z_runV (As := [.int (x1 + (1 : Int32)), .int (1 : Int32), .long (Int32.toInt64 ((x3 * (16 : Int32)) + x4))]) (rest := []) ⟨hx, hb, hml, hown, hts⟩ (c_XMe_store l D a k u_6 (x1 + (1 : Int32)) (1 : Int32) (Int32.toInt64 ((x3 * (16 : Int32)) + x4))) (qX_DM_41 hts (by decide)) hw 2 rfl rfl hl.1 rfl (lv_room (Nat.le_of_ble_eq_true rfl)) d_XDM_rx_84 hcs) hw hS (fun u_7 H locs eu_7 hw hS => ?_)
    have hf := hf.trans (nm_eq eu_7)
    refine lv_aload_n hx hb d_XDM_rx_87 rfl (lv_at hl 0 rfl) ?_
    refine va_get (v := .ref (a 1)) hx hb hts iX_DM hown hw.2.1 hw.1 0 rfl rfl 0 (by decide) (hts _ kX_DM_10) (fun _ h => h) rfl d_XDM_rx_88 ?_
    refine va_getN (v := .ref (a 2)) hx hb hts iX_St hown hw.2.1 hw.1 1 rfl rfl 0 (by decide) (va_Nw.use rfl (hw.2.2.2 _ kX_DM_37).2) (fun _ h => h) rfl d_XDM_rx_91 ?_
    refine lv_iload_n hx hb d_XDM_rx_94 rfl (lv_at hl 1 rfl) ?_
    refine lv_iconst (v := (2 : Int32)) hx hb d_XDM_rx_95 (by decide) ?_
    refine lv_iadd hx hb d_XDM_rx_96 ?_
    refine lv_iconst (v := (2 : Int32)) hx hb d_XDM_rx_97 (by decide) ?_
    refine lv_iload hx hb d_XDM_rx_98 (lv_at hl 5 rfl) ?_
    refine lv_sipush (v := (4096 : Int32)) hx hb d_XDM_rx_100 (by decide) ?_
    refine lv_imul hx hb d_XDM_rx_103 ?_
    refine lv_iload hx hb d_XDM_rx_104 (lv_at hl 6 rfl) ?_
    refine lv_iadd hx hb d_XDM_rx_106 ?_
    refine lv_i2l (v := Int32.toInt64 ((x5 * (4096 : Int32)) + x6)) hx hb d_XDM_rx_107 rfl ?_
    refine z_wv (z_runV (As := [.int (x1 + (2 : Int32)), .int (2 : Int32), .long (Int32.toInt64 ((x5 * (4096 : Int32)) + x6))]) (rest := []) ⟨hx, hb, hml, hown, hts⟩ (c_XMe_store l D a k u_7 (x1 + (2 : Int32)) (2 : Int32) (Int32.toInt64 ((x5 * (4096 : Int32)) + x6))) (qX_DM_41 hts (by decide)) hw 2 rfl rfl hl.1 rfl (lv_room (Nat.le_of_ble_eq_true rfl)) d_XDM_rx_108 hcs) hw hS (fun u_8 H locs eu_8 hw hS => ?_)
    have hf := hf.trans (nm_eq eu_8)
    refine lv_iload_n hx hb d_XDM_rx_111 rfl (lv_at hl 1 rfl) ?_
    refine lv_iconst (v := (4 : Int32)) hx hb d_XDM_rx_112 (by decide) ?_
    refine lv_iadd hx hb d_XDM_rx_113 ?_
    cases hf
  · intro K_3 hK_3 hf
    refine jn_cut hf (fun (K_9 : Sum (String × XS) (Int32 × XS)) => ∀ (ls : Array Slot), lv_has ls 7 [(0, .ref (a 0)), (1, .int x1), (2, .int x2), (3, .int x3), (4, .int x4), (5, .int x5), (6, .int x6)] → Sum.inl (E, U1) = K_9 → W p l e rx_XDM_rx st m args below meth c H locs 0 0 Q (F0 m 41 ls [])) ?_ ?_
    · intro ls hl hf
      refine lv_iconst (v := (0 : Int32)) hx hb d_XDM_rx_41 (by decide) ?_
      exact hK_3 false _ (lv_sub hl [0, 1, 2, 3, 4, 5, 6] rfl) hf
    · intro K_9 hK_9 hf
      refine lv_if_eq (tgt := 41) hx hb d_XDM_rx_9 (by decide) (fun c_10 => ?_) (fun c_10 => ?_)
      · have hf := hf.trans (if_pos c_10)
        exact hK_9 _ (lv_sub hl [0, 1, 2, 3, 4, 5, 6] rfl) hf
      · have hf := hf.trans (if_neg c_10)
        refine lv_iload_n hx hb d_XDM_rx_12 rfl (lv_at hl 3 rfl) ?_
        refine z_rz (z_runS (As := [.int x3]) (rest := []) ⟨hx, hb, hml, hown, hts⟩ (c_XDM_isNibble l D a k u0 x3) (qX_DM_51 hts (by decide)) hw  hl.1 rfl (lv_room (Nat.le_of_ble_eq_true rfl)) d_XDM_rx_13 hcs) (fun z_11 ez_11 => ?_)
        have hf := hf.trans (nm_eq ez_11)
        refine lv_if_eq (tgt := 41) hx hb d_XDM_rx_16 (by decide) (fun c_12 => ?_) (fun c_12 => ?_)
        · have hf := hf.trans (if_pos c_12)
          exact hK_9 _ (lv_sub hl [0, 1, 2, 3, 4, 5, 6] rfl) hf
        · have hf := hf.trans (if_neg c_12)
          refine lv_iload hx hb d_XDM_rx_19 (lv_at hl 4 rfl) ?_
          refine z_rz (z_runS (As := [.int x4]) (rest := []) ⟨hx, hb, hml, hown, hts⟩ (c_XDM_isNibble l D a k u0 x4) (qX_DM_51 hts (by decide)) hw  hl.1 rfl (lv_room (Nat.le_of_ble_eq_true rfl)) d_XDM_rx_21 hcs) (fun z_13 ez_13 => ?_)
          have hf := hf.trans (nm_eq ez_13)
          refine lv_if_eq (tgt := 41) hx hb d_XDM_rx_24 (by decide) (fun c_14 => ?_) (fun c_14 => ?_)
          · have hf := hf.trans (if_pos c_14)
            exact hK_9 _ (lv_sub hl [0, 1, 2, 3, 4, 5, 6] rfl) hf
          · have hf := hf.trans (if_neg c_14)
            refine lv_iload hx hb d_XDM_rx_27 (lv_at hl 5 rfl) ?_
            refine lv_iload hx hb d_XDM_rx_29 (lv_at hl 6 rfl) ?_
            refine z_rz (z_runS (As := [.int x5, .int x6]) (rest := []) ⟨hx, hb, hml, hown, hts⟩ (c_XDM_isPlace l D a k u0 x5 x6) (qX_DM_75 hts (by decide)) hw  hl.1 rfl (lv_room (Nat.le_of_ble_eq_true rfl)) d_XDM_rx_31 hcs) (fun z_15 ez_15 => ?_)
            have hf := hf.trans (nm_eq ez_15)
            refine lv_if_eq (tgt := 41) hx hb d_XDM_rx_34 (by decide) (fun c_16 => ?_) (fun c_16 => ?_)
            · have hf := hf.trans (if_pos c_16)
              exact hK_9 _ (lv_sub hl [0, 1, 2, 3, 4, 5, 6] rfl) hf
            · have hf := hf.trans (if_neg c_16)
              refine lv_iconst (v := (1 : Int32)) hx hb d_XDM_rx_37 (by decide) ?_
              refine lv_goto (tgt := 42) hx hb d_XDM_rx_38 (by decide) ?_
              exact hK_3 true _ (lv_sub hl [0, 1, 2, 3, 4, 5, 6] rfl) hf
def f_XDM_ss (u0 : XS) (x1 : Int32) (x2 : Int32) (x3 : Int32) (x4 : Int32) (x5 : Int32) (x6 : Int32) (x7 : Int32) : Sum (String × XS) (Int32 × XS) := nm (f_XDM_isWithin u0 x2 (192 : Int32) (255 : Int32)) (fun (z_1 : Bool) => jn (fun (K_3 : Bool → Sum (String × XS) (Int32 × XS)) => jn (fun (K_10 : Sum (String × XS) (Int32 × XS)) => if (bI z_1) = (0 : Int32) then K_10 else nm (f_XDM_isWithin u0 x3 (0 : Int32) (255 : Int32)) (fun (z_12 : Bool) => if (bI z_12) = (0 : Int32) then K_10 else nm (f_XDM_isPlace u0 x4 x5) (fun (z_14 : Bool) => if (bI z_14) = (0 : Int32) then K_10 else nm (f_XDM_isPlace u0 x6 x7) (fun (z_16 : Bool) => if (bI z_16) = (0 : Int32) then K_10 else K_3 true)))) (K_3 false)) (fun (z_2 : Bool) => bx (f_XDM_demand u0 z_2) (fun (u_4 : XS) => bx (f_XDM_demandMemory u_4 x1 (6 : Int32)) (fun (u_5 : XS) => nm (f_XMe_store u_5 x1 (1 : Int32) (Int32.toInt64 x2)) (fun (u_6 : XS) => nm (f_XMe_store u_6 (x1 + (1 : Int32)) (1 : Int32) (Int32.toInt64 x3)) (fun (u_7 : XS) => nm (f_XMe_store u_7 (x1 + (2 : Int32)) (2 : Int32) (Int32.toInt64 ((x4 * (4096 : Int32)) + x5))) (fun (u_8 : XS) => nm (f_XMe_store u_8 (x1 + (4 : Int32)) (2 : Int32) (Int32.toInt64 ((x6 * (4096 : Int32)) + x7))) (fun (u_9 : XS) => Sum.inr (x1 + (6 : Int32), u_9)))))))))
set_option maxHeartbeats 4000000 in
set_option maxRecDepth 100000 in
theorem cn_XDM_ss (l : Launch) (D : va_G) (a : Nat → Nat) (k : Nat → ClassId) (u0 : XS) (x1 : Int32) (x2 : Int32) (x3 : Int32) (x4 : Int32) (x5 : Int32) (x6 : Int32) (x7 : Int32) (F : Int32 × XS) (hf : f_XDM_ss u0 x1 x2 x3 x4 x5 x6 x7 = Sum.inr F) : zMi l y_XDM_ss w_XDM_ss rm_XDM_ss D clX (tyX k) nwX (xW a k) [.ref (a 0), .int x1, .int x2, .int x3, .int x4, .int x5, .int x6, .int x7] u0 F := by
  have hf := hf.symm
  unfold f_XDM_ss at hf
  refine zMi_of (cc := b_XDM_ss) (maxL := 8) (own := RX_DM) (by decide) rfl rfl (Nat.le_of_ble_eq_true rfl) ?_
  intro p e R st m args below meth c A H locs Q ls hR hx hb hml hown hts hw hS hret hl
  subst hR
  have hcs : 0 ≤ (rm_XDM_ss).cells ∧ 0 ≤ (rm_XDM_ss).slots := ⟨Nat.zero_le _, Nat.zero_le _⟩
  have hl : lv_has ls 8 [(0, .ref (a 0)), (1, .int x1), (2, .int x2), (3, .int x3), (4, .int x4), (5, .int x5), (6, .int x6), (7, .int x7)] := hl
  refine lv_iload_n hx hb d_XDM_ss_0 rfl (lv_at hl 2 rfl) ?_
  refine lv_sipush (v := (192 : Int32)) hx hb d_XDM_ss_1 (by decide) ?_
  refine lv_sipush (v := (255 : Int32)) hx hb d_XDM_ss_4 (by decide) ?_
  refine z_rz (z_runS (As := [.int x2, .int (192 : Int32), .int (255 : Int32)]) (rest := []) ⟨hx, hb, hml, hown, hts⟩ (c_XDM_isWithin l D a k u0 x2 (192 : Int32) (255 : Int32)) (qX_DM_25 hts (by decide)) hw  hl.1 rfl (lv_room (Nat.le_of_ble_eq_true rfl)) d_XDM_ss_7 hcs) (fun z_1 ez_1 => ?_)
  have hf := hf.trans (nm_eq ez_1)
  refine jn_cut hf (fun (K_3 : Bool → Sum (String × XS) (Int32 × XS)) => ∀ (z_2 : Bool), ∀ (ls : Array Slot), lv_has ls 8 [(0, .ref (a 0)), (1, .int x1), (2, .int x2), (3, .int x3), (4, .int x4), (5, .int x5), (6, .int x6), (7, .int x7)] → Sum.inr F = K_3 z_2 → W p l e rm_XDM_ss st m args below meth c H locs 0 0 Q (F0 m 49 ls [.int (bI z_2)])) ?_ ?_
  · intro z_2 ls hl hf
    obtain ⟨u_4, eu_4, hf⟩ := bx_inv hf
    refine z_wv' (u' := u_4) (z_runS (As := [.int (bI z_2)]) (rest := []) ⟨hx, hb, hml, hown, hts⟩ (cn_XDM_demand l D a k u0 z_2 u_4 eu_4) (qX_DM_29 hts (by decide)) hw  hl.1 rfl (lv_room (Nat.le_of_ble_eq_true rfl)) d_XDM_ss_49 hcs) hw hS (fun H locs hw hS => ?_)
    refine lv_aload_n hx hb d_XDM_ss_52 rfl (lv_at hl 0 rfl) ?_
    refine lv_iload_n hx hb d_XDM_ss_53 rfl (lv_at hl 1 rfl) ?_
    refine lv_bipush (v := (6 : Int32)) hx hb d_XDM_ss_54 (by decide) ?_
    obtain ⟨u_5, eu_5, hf⟩ := bx_inv hf
    refine z_wv' (u' := u_5) (z_runV (As := [.int x1, .int (6 : Int32)]) (rest := []) ⟨hx, hb, hml, hown, hts⟩ (cn_XDM_demandMemory l D a k u_4 x1 (6 : Int32) u_5 eu_5) (qX_DM_33 hts (by decide)) hw 0 rfl rfl hl.1 rfl (lv_room (Nat.le_of_ble_eq_true rfl)) d_XDM_ss_56 hcs) hw hS (fun H locs hw hS => ?_)
    refine lv_aload_n hx hb d_XDM_ss_59 rfl (lv_at hl 0 rfl) ?_
    refine va_get (v := .ref (a 1)) hx hb hts iX_DM hown hw.2.1 hw.1 0 rfl rfl 0 (by decide) (hts _ kX_DM_10) (fun _ h => h) rfl d_XDM_ss_60 ?_
    refine va_getN (v := .ref (a 2)) hx hb hts iX_St hown hw.2.1 hw.1 1 rfl rfl 0 (by decide) (va_Nw.use rfl (hw.2.2.2 _ kX_DM_37).2) (fun _ h => h) rfl d_XDM_ss_63 ?_
    refine lv_iload_n hx hb d_XDM_ss_66 rfl (lv_at hl 1 rfl) ?_
    refine lv_iconst (v := (1 : Int32)) hx hb d_XDM_ss_67 (by decide) ?_
    refine lv_iload_n hx hb d_XDM_ss_68 rfl (lv_at hl 2 rfl) ?_
    refine lv_i2l (v := Int32.toInt64 x2) hx hb d_XDM_ss_69 rfl ?_
    refine z_wv (z_runV (As := [.int x1, .int (1 : Int32), .long (Int32.toInt64 x2)]) (rest := []) ⟨hx, hb, hml, hown, hts⟩ (c_XMe_store l D a k u_5 x1 (1 : Int32) (Int32.toInt64 x2)) (qX_DM_41 hts (by decide)) hw 2 rfl rfl hl.1 rfl (lv_room (Nat.le_of_ble_eq_true rfl)) d_XDM_ss_70 hcs) hw hS (fun u_6 H locs eu_6 hw hS => ?_)
    have hf := hf.trans (nm_eq eu_6)
    refine lv_aload_n hx hb d_XDM_ss_73 rfl (lv_at hl 0 rfl) ?_
    refine va_get (v := .ref (a 1)) hx hb hts iX_DM hown hw.2.1 hw.1 0 rfl rfl 0 (by decide) (hts _ kX_DM_10) (fun _ h => h) rfl d_XDM_ss_74 ?_
    refine va_getN (v := .ref (a 2)) hx hb hts iX_St hown hw.2.1 hw.1 1 rfl rfl 0 (by decide) (va_Nw.use rfl (hw.2.2.2 _ kX_DM_37).2) (fun _ h => h) rfl d_XDM_ss_77 ?_
    refine lv_iload_n hx hb d_XDM_ss_80 rfl (lv_at hl 1 rfl) ?_
    refine lv_iconst (v := (1 : Int32)) hx hb d_XDM_ss_81 (by decide) ?_
    refine lv_iadd hx hb d_XDM_ss_82 ?_
    refine lv_iconst (v := (1 : Int32)) hx hb d_XDM_ss_83 (by decide) ?_
    refine lv_iload_n hx hb d_XDM_ss_84 rfl (lv_at hl 3 rfl) ?_
    refine lv_i2l (v := Int32.toInt64 x3) hx hb d_XDM_ss_85 rfl ?_
    refine z_wv (z_runV (As := [.int (x1 + (1 : Int32)), .int (1 : Int32), .long (Int32.toInt64 x3)]) (rest := []) ⟨hx, hb, hml, hown, hts⟩ (c_XMe_store l D a k u_6 (x1 + (1 : Int32)) (1 : Int32) (Int32.toInt64 x3)) (qX_DM_41 hts (by decide)) hw 2 rfl rfl hl.1 rfl (lv_room (Nat.le_of_ble_eq_true rfl)) d_XDM_ss_86 hcs) hw hS (fun u_7 H locs eu_7 hw hS => ?_)
    have hf := hf.trans (nm_eq eu_7)
    refine lv_aload_n hx hb d_XDM_ss_89 rfl (lv_at hl 0 rfl) ?_
    refine va_get (v := .ref (a 1)) hx hb hts iX_DM hown hw.2.1 hw.1 0 rfl rfl 0 (by decide) (hts _ kX_DM_10) (fun _ h => h) rfl d_XDM_ss_90 ?_
    refine va_getN (v := .ref (a 2)) hx hb hts iX_St hown hw.2.1 hw.1 1 rfl rfl 0 (by decide) (va_Nw.use rfl (hw.2.2.2 _ kX_DM_37).2) (fun _ h => h) rfl d_XDM_ss_93 ?_
    refine lv_iload_n hx hb d_XDM_ss_96 rfl (lv_at hl 1 rfl) ?_
    refine lv_iconst (v := (2 : Int32)) hx hb d_XDM_ss_97 (by decide) ?_
    refine lv_iadd hx hb d_XDM_ss_98 ?_
    refine lv_iconst (v := (2 : Int32)) hx hb d_XDM_ss_99 (by decide) ?_
    refine lv_iload hx hb d_XDM_ss_100 (lv_at hl 4 rfl) ?_
    refine lv_sipush (v := (4096 : Int32)) hx hb d_XDM_ss_102 (by decide) ?_
    refine lv_imul hx hb d_XDM_ss_105 ?_
    refine lv_iload hx hb d_XDM_ss_106 (lv_at hl 5 rfl) ?_
    refine lv_iadd hx hb d_XDM_ss_108 ?_
    refine lv_i2l (v := Int32.toInt64 ((x4 * (4096 : Int32)) + x5)) hx hb d_XDM_ss_109 rfl ?_
    refine z_wv (z_runV (As := [.int (x1 + (2 : Int32)), .int (2 : Int32), .long (Int32.toInt64 ((x4 * (4096 : Int32)) + x5))]) (rest := []) ⟨hx, hb, hml, hown, hts⟩ (c_XMe_store l D a k u_7 (x1 + (2 : Int32)) (2 : Int32) (Int32.toInt64 ((x4 * (4096 : Int32)) + x5))) (qX_DM_41 hts (by decide)) hw 2 rfl rfl hl.1 rfl (lv_room (Nat.le_of_ble_eq_true rfl)) d_XDM_ss_110 hcs) hw hS (fun u_8 H locs eu_8 hw hS => ?_)
    have hf := hf.trans (nm_eq eu_8)
    refine lv_aload_n hx hb d_XDM_ss_113 rfl (lv_at hl 0 rfl) ?_
    refine va_get (v := .ref (a 1)) hx hb hts iX_DM hown hw.2.1 hw.1 0 rfl rfl 0 (by decide) (hts _ kX_DM_10) (fun _ h => h) rfl d_XDM_ss_114 ?_
    refine va_getN (v := .ref (a 2)) hx hb hts iX_St hown hw.2.1 hw.1 1 rfl rfl 0 (by decide) (va_Nw.use rfl (hw.2.2.2 _ kX_DM_37).2) (fun _ h => h) rfl d_XDM_ss_117 ?_
    refine lv_iload_n hx hb d_XDM_ss_120 rfl (lv_at hl 1 rfl) ?_
    refine lv_iconst (v := (4 : Int32)) hx hb d_XDM_ss_121 (by decide) ?_
    refine lv_iadd hx hb d_XDM_ss_122 ?_
    refine lv_iconst (v := (2 : Int32)) hx hb d_XDM_ss_123 (by decide) ?_
    refine lv_iload hx hb d_XDM_ss_124 (lv_at hl 6 rfl) ?_
    refine lv_sipush (v := (4096 : Int32)) hx hb d_XDM_ss_126 (by decide) ?_
    refine lv_imul hx hb d_XDM_ss_129 ?_
    refine lv_iload hx hb d_XDM_ss_130 (lv_at hl 7 rfl) ?_
    refine lv_iadd hx hb d_XDM_ss_132 ?_
    refine lv_i2l (v := Int32.toInt64 ((x6 * (4096 : Int32)) + x7)) hx hb d_XDM_ss_133 rfl ?_
    refine z_wv (z_runV (As := [.int (x1 + (4 : Int32)), .int (2 : Int32), .long (Int32.toInt64 ((x6 * (4096 : Int32)) + x7))]) (rest := []) ⟨hx, hb, hml, hown, hts⟩ (c_XMe_store l D a k u_8 (x1 + (4 : Int32)) (2 : Int32) (Int32.toInt64 ((x6 * (4096 : Int32)) + x7))) (qX_DM_41 hts (by decide)) hw 2 rfl rfl hl.1 rfl (lv_room (Nat.le_of_ble_eq_true rfl)) d_XDM_ss_134 hcs) hw hS (fun u_9 H locs eu_9 hw hS => ?_)
    have hf := hf.trans (nm_eq eu_9)
    refine lv_iload_n hx hb d_XDM_ss_137 rfl (lv_at hl 1 rfl) ?_
    refine lv_bipush (v := (6 : Int32)) hx hb d_XDM_ss_138 (by decide) ?_
    refine lv_iadd hx hb d_XDM_ss_140 ?_
    exact hret (x1 + (6 : Int32)) _ _ _ _ _ d_XDM_ss_141 hw hS (Sum.inr.inj hf)
  · intro K_3 hK_3 hf
    refine jn_cut hf (fun (K_10 : Sum (String × XS) (Int32 × XS)) => ∀ (ls : Array Slot), lv_has ls 8 [(0, .ref (a 0)), (1, .int x1), (2, .int x2), (3, .int x3), (4, .int x4), (5, .int x5), (6, .int x6), (7, .int x7)] → Sum.inr F = K_10 → W p l e rm_XDM_ss st m args below meth c H locs 0 0 Q (F0 m 48 ls [])) ?_ ?_
    · intro ls hl hf
      refine lv_iconst (v := (0 : Int32)) hx hb d_XDM_ss_48 (by decide) ?_
      exact hK_3 false _ (lv_sub hl [0, 1, 2, 3, 4, 5, 6, 7] rfl) hf
    · intro K_10 hK_10 hf
      refine lv_if_eq (tgt := 48) hx hb d_XDM_ss_10 (by decide) (fun c_11 => ?_) (fun c_11 => ?_)
      · have hf := hf.trans (if_pos c_11)
        exact hK_10 _ (lv_sub hl [0, 1, 2, 3, 4, 5, 6, 7] rfl) hf
      · have hf := hf.trans (if_neg c_11)
        refine lv_iload_n hx hb d_XDM_ss_13 rfl (lv_at hl 3 rfl) ?_
        refine lv_iconst (v := (0 : Int32)) hx hb d_XDM_ss_14 (by decide) ?_
        refine lv_sipush (v := (255 : Int32)) hx hb d_XDM_ss_15 (by decide) ?_
        refine z_rz (z_runS (As := [.int x3, .int (0 : Int32), .int (255 : Int32)]) (rest := []) ⟨hx, hb, hml, hown, hts⟩ (c_XDM_isWithin l D a k u0 x3 (0 : Int32) (255 : Int32)) (qX_DM_25 hts (by decide)) hw  hl.1 rfl (lv_room (Nat.le_of_ble_eq_true rfl)) d_XDM_ss_18 hcs) (fun z_12 ez_12 => ?_)
        have hf := hf.trans (nm_eq ez_12)
        refine lv_if_eq (tgt := 48) hx hb d_XDM_ss_21 (by decide) (fun c_13 => ?_) (fun c_13 => ?_)
        · have hf := hf.trans (if_pos c_13)
          exact hK_10 _ (lv_sub hl [0, 1, 2, 3, 4, 5, 6, 7] rfl) hf
        · have hf := hf.trans (if_neg c_13)
          refine lv_iload hx hb d_XDM_ss_24 (lv_at hl 4 rfl) ?_
          refine lv_iload hx hb d_XDM_ss_26 (lv_at hl 5 rfl) ?_
          refine z_rz (z_runS (As := [.int x4, .int x5]) (rest := []) ⟨hx, hb, hml, hown, hts⟩ (c_XDM_isPlace l D a k u0 x4 x5) (qX_DM_75 hts (by decide)) hw  hl.1 rfl (lv_room (Nat.le_of_ble_eq_true rfl)) d_XDM_ss_28 hcs) (fun z_14 ez_14 => ?_)
          have hf := hf.trans (nm_eq ez_14)
          refine lv_if_eq (tgt := 48) hx hb d_XDM_ss_31 (by decide) (fun c_15 => ?_) (fun c_15 => ?_)
          · have hf := hf.trans (if_pos c_15)
            exact hK_10 _ (lv_sub hl [0, 1, 2, 3, 4, 5, 6, 7] rfl) hf
          · have hf := hf.trans (if_neg c_15)
            refine lv_iload hx hb d_XDM_ss_34 (lv_at hl 6 rfl) ?_
            refine lv_iload hx hb d_XDM_ss_36 (lv_at hl 7 rfl) ?_
            refine z_rz (z_runS (As := [.int x6, .int x7]) (rest := []) ⟨hx, hb, hml, hown, hts⟩ (c_XDM_isPlace l D a k u0 x6 x7) (qX_DM_75 hts (by decide)) hw  hl.1 rfl (lv_room (Nat.le_of_ble_eq_true rfl)) d_XDM_ss_38 hcs) (fun z_16 ez_16 => ?_)
            have hf := hf.trans (nm_eq ez_16)
            refine lv_if_eq (tgt := 48) hx hb d_XDM_ss_41 (by decide) (fun c_17 => ?_) (fun c_17 => ?_)
            · have hf := hf.trans (if_pos c_17)
              exact hK_10 _ (lv_sub hl [0, 1, 2, 3, 4, 5, 6, 7] rfl) hf
            · have hf := hf.trans (if_neg c_17)
              refine lv_iconst (v := (1 : Int32)) hx hb d_XDM_ss_44 (by decide) ?_
              refine lv_goto (tgt := 49) hx hb d_XDM_ss_45 (by decide) ?_
              exact hK_3 true _ (lv_sub hl [0, 1, 2, 3, 4, 5, 6, 7] rfl) hf
set_option maxHeartbeats 4000000 in
set_option maxRecDepth 100000 in
theorem cx_XDM_ss (l : Launch) (hl9 : l.stackTraces = false) (D : va_G) (a : Nat → Nat) (k : Nat → ClassId) (sa : Nat → Nat) (u0 : XS) (x1 : Int32) (x2 : Int32) (x3 : Int32) (x4 : Int32) (x5 : Int32) (x6 : Int32) (x7 : Int32) (E : String) (U1 : XS) (hf : f_XDM_ss u0 x1 x2 x3 x4 x5 x6 x7 = Sum.inl (E, U1)) : zT l y_XDM_ss w_XDM_ss rx_XDM_ss D clX (tyX k) nwX (skX sa) (xW a k) [.ref (a 0), .int x1, .int x2, .int x3, .int x4, .int x5, .int x6, .int x7] u0 E U1 := by
  have hf := hf.symm
  unfold f_XDM_ss at hf
  refine zT_of (cc := b_XDM_ss) (maxL := 8) (own := RX_DM) (by decide) rfl rfl (Nat.le_of_ble_eq_true rfl) ?_ hl9
  intro p e R st m args below meth c A H locs Q ls hR hx hb hml hown hts hw hS hE hprop hthr hl
  subst hR
  have hcs : 0 ≤ (rx_XDM_ss).cells ∧ 0 ≤ (rx_XDM_ss).slots := ⟨Nat.zero_le _, Nat.zero_le _⟩
  have hl : lv_has ls 8 [(0, .ref (a 0)), (1, .int x1), (2, .int x2), (3, .int x3), (4, .int x4), (5, .int x5), (6, .int x6), (7, .int x7)] := hl
  refine lv_iload_n hx hb d_XDM_ss_0 rfl (lv_at hl 2 rfl) ?_
  refine lv_sipush (v := (192 : Int32)) hx hb d_XDM_ss_1 (by decide) ?_
  refine lv_sipush (v := (255 : Int32)) hx hb d_XDM_ss_4 (by decide) ?_
  refine z_rz (z_runS (As := [.int x2, .int (192 : Int32), .int (255 : Int32)]) (rest := []) ⟨hx, hb, hml, hown, hts⟩ (c_XDM_isWithin l D a k u0 x2 (192 : Int32) (255 : Int32)) (qX_DM_25 hts (by decide)) hw  hl.1 rfl (lv_room (Nat.le_of_ble_eq_true rfl)) d_XDM_ss_7 hcs) (fun z_1 ez_1 => ?_)
  have hf := hf.trans (nm_eq ez_1)
  refine jn_cut hf (fun (K_3 : Bool → Sum (String × XS) (Int32 × XS)) => ∀ (z_2 : Bool), ∀ (ls : Array Slot), lv_has ls 8 [(0, .ref (a 0)), (1, .int x1), (2, .int x2), (3, .int x3), (4, .int x4), (5, .int x5), (6, .int x6), (7, .int x7)] → Sum.inl (E, U1) = K_3 z_2 → W p l e rx_XDM_ss st m args below meth c H locs 0 0 Q (F0 m 49 ls [.int (bI z_2)])) ?_ ?_
  · intro z_2 ls hl hf
    rcases bx_invX hf with ht | ⟨u_4, eu_4, hf⟩
    · exact hprop _ _ _ _ _ _ _ (ztS (As := [.int (bI z_2)]) (rest := []) ⟨hx, hb, hml, hown, hts⟩ (cx_XDM_demand l hl9 D a k sa u0 z_2 E U1 ht) (qxX_DM_29 hts (by decide)) hw hE hS  hl.1 rfl (lv_room (Nat.le_of_ble_eq_true rfl)) d_XDM_ss_49 ⟨Nat.le_of_ble_eq_true rfl, Nat.le_of_ble_eq_true rfl⟩) hw hS
    refine z_wv' (u' := u_4) (z_runS (As := [.int (bI z_2)]) (rest := []) ⟨hx, hb, hml, hown, hts⟩ (cn_XDM_demand l D a k u0 z_2 u_4 eu_4) (qX_DM_29 hts (by decide)) hw  hl.1 rfl (lv_room (Nat.le_of_ble_eq_true rfl)) d_XDM_ss_49 hcs) hw hS (fun H locs hw hS => ?_)
    refine lv_aload_n hx hb d_XDM_ss_52 rfl (lv_at hl 0 rfl) ?_
    refine lv_iload_n hx hb d_XDM_ss_53 rfl (lv_at hl 1 rfl) ?_
    refine lv_bipush (v := (6 : Int32)) hx hb d_XDM_ss_54 (by decide) ?_
    rcases bx_invX hf with ht | ⟨u_5, eu_5, hf⟩
    · exact hprop _ _ _ _ _ _ _ (ztV (As := [.int x1, .int (6 : Int32)]) (rest := []) ⟨hx, hb, hml, hown, hts⟩ (cx_XDM_demandMemory l hl9 D a k sa u_4 x1 (6 : Int32) E U1 ht) (qxX_DM_33 hts (by decide)) hw hE hS 0 rfl rfl hl.1 rfl (lv_room (Nat.le_of_ble_eq_true rfl)) d_XDM_ss_56 ⟨Nat.le_of_ble_eq_true rfl, Nat.le_of_ble_eq_true rfl⟩) hw hS
    refine z_wv' (u' := u_5) (z_runV (As := [.int x1, .int (6 : Int32)]) (rest := []) ⟨hx, hb, hml, hown, hts⟩ (cn_XDM_demandMemory l D a k u_4 x1 (6 : Int32) u_5 eu_5) (qX_DM_33 hts (by decide)) hw 0 rfl rfl hl.1 rfl (lv_room (Nat.le_of_ble_eq_true rfl)) d_XDM_ss_56 hcs) hw hS (fun H locs hw hS => ?_)
    refine lv_aload_n hx hb d_XDM_ss_59 rfl (lv_at hl 0 rfl) ?_
    refine va_get (v := .ref (a 1)) hx hb hts iX_DM hown hw.2.1 hw.1 0 rfl rfl 0 (by decide) (hts _ kX_DM_10) (fun _ h => h) rfl d_XDM_ss_60 ?_
    refine va_getN (v := .ref (a 2)) hx hb hts iX_St hown hw.2.1 hw.1 1 rfl rfl 0 (by decide) (va_Nw.use rfl (hw.2.2.2 _ kX_DM_37).2) (fun _ h => h) rfl d_XDM_ss_63 ?_
    refine lv_iload_n hx hb d_XDM_ss_66 rfl (lv_at hl 1 rfl) ?_
    refine lv_iconst (v := (1 : Int32)) hx hb d_XDM_ss_67 (by decide) ?_
    refine lv_iload_n hx hb d_XDM_ss_68 rfl (lv_at hl 2 rfl) ?_
    refine lv_i2l (v := Int32.toInt64 x2) hx hb d_XDM_ss_69 rfl ?_
    refine z_wv (z_runV (As := [.int x1, .int (1 : Int32), .long (Int32.toInt64 x2)]) (rest := []) ⟨hx, hb, hml, hown, hts⟩ (c_XMe_store l D a k u_5 x1 (1 : Int32) (Int32.toInt64 x2)) (qX_DM_41 hts (by decide)) hw 2 rfl rfl hl.1 rfl (lv_room (Nat.le_of_ble_eq_true rfl)) d_XDM_ss_70 hcs) hw hS (fun u_6 H locs eu_6 hw hS => ?_)
    have hf := hf.trans (nm_eq eu_6)
    refine lv_aload_n hx hb d_XDM_ss_73 rfl (lv_at hl 0 rfl) ?_
    refine va_get (v := .ref (a 1)) hx hb hts iX_DM hown hw.2.1 hw.1 0 rfl rfl 0 (by decide) (hts _ kX_DM_10) (fun _ h => h) rfl d_XDM_ss_74 ?_
    refine va_getN (v := .ref (a 2)) hx hb hts iX_St hown hw.2.1 hw.1 1 rfl rfl 0 (by decide) (va_Nw.use rfl (hw.2.2.2 _ kX_DM_37).2) (fun _ h => h) rfl d_XDM_ss_77 ?_
    refine lv_iload_n hx hb d_XDM_ss_80 rfl (lv_at hl 1 rfl) ?_
    refine lv_iconst (v := (1 : Int32)) hx hb d_XDM_ss_81 (by decide) ?_
    refine lv_iadd hx hb d_XDM_ss_82 ?_
    refine lv_iconst (v := (1 : Int32)) hx hb d_XDM_ss_83 (by decide) ?_
    refine lv_iload_n hx hb d_XDM_ss_84 rfl (lv_at hl 3 rfl) ?_
    refine lv_i2l (v := Int32.toInt64 x3) hx hb d_XDM_ss_85 rfl ?_
    refine z_wv (z_runV (As := [.int (x1 + (1 : Int32)), .int (1 : Int32), .long (Int32.toInt64 x3)]) (rest := []) ⟨hx, hb, hml, hown, hts⟩ (c_XMe_store l D a k u_6 (x1 + (1 : Int32)) (1 : Int32) (Int32.toInt64 x3)) (qX_DM_41 hts (by decide)) hw 2 rfl rfl hl.1 rfl (lv_room (Nat.le_of_ble_eq_true rfl)) d_XDM_ss_86 hcs) hw hS (fun u_7 H locs eu_7 hw hS => ?_)
    have hf := hf.trans (nm_eq eu_7)
    refine lv_aload_n hx hb d_XDM_ss_89 rfl (lv_at hl 0 rfl) ?_
    refine va_get (v := .ref (a 1)) hx hb hts iX_DM hown hw.2.1 hw.1 0 rfl rfl 0 (by decide) (hts _ kX_DM_10) (fun _ h => h) rfl d_XDM_ss_90 ?_
    refine va_getN (v := .ref (a 2)) hx hb hts iX_St hown hw.2.1 hw.1 1 rfl rfl 0 (by decide) (va_Nw.use rfl (hw.2.2.2 _ kX_DM_37).2) (fun _ h => h) rfl d_XDM_ss_93 ?_
    refine lv_iload_n hx hb d_XDM_ss_96 rfl (lv_at hl 1 rfl) ?_
    refine lv_iconst (v := (2 : Int32)) hx hb d_XDM_ss_97 (by decide) ?_
    refine lv_iadd hx hb d_XDM_ss_98 ?_
    refine lv_iconst (v := (2 : Int32)) hx hb d_XDM_ss_99 (by decide) ?_
    refine lv_iload hx hb d_XDM_ss_100 (lv_at hl 4 rfl) ?_
    refine lv_sipush (v := (4096 : Int32)) hx hb d_XDM_ss_102 (by decide) ?_
    refine lv_imul hx hb d_XDM_ss_105 ?_
    refine lv_iload hx hb d_XDM_ss_106 (lv_at hl 5 rfl) ?_
    refine lv_iadd hx hb d_XDM_ss_108 ?_
    refine lv_i2l (v := Int32.toInt64 ((x4 * (4096 : Int32)) + x5)) hx hb d_XDM_ss_109 rfl ?_
    refine z_wv (z_runV (As := [.int (x1 + (2 : Int32)), .int (2 : Int32), .long (Int32.toInt64 ((x4 * (4096 : Int32)) + x5))]) (rest := []) ⟨hx, hb, hml, hown, hts⟩ (c_XMe_store l D a k u_7 (x1 + (2 : Int32)) (2 : Int32) (Int32.toInt64 ((x4 * (4096 : Int32)) + x5))) (qX_DM_41 hts (by decide)) hw 2 rfl rfl hl.1 rfl (lv_room (Nat.le_of_ble_eq_true rfl)) d_XDM_ss_110 hcs) hw hS (fun u_8 H locs eu_8 hw hS => ?_)
    have hf := hf.trans (nm_eq eu_8)
    refine lv_aload_n hx hb d_XDM_ss_113 rfl (lv_at hl 0 rfl) ?_
    refine va_get (v := .ref (a 1)) hx hb hts iX_DM hown hw.2.1 hw.1 0 rfl rfl 0 (by decide) (hts _ kX_DM_10) (fun _ h => h) rfl d_XDM_ss_114 ?_
    refine va_getN (v := .ref (a 2)) hx hb hts iX_St hown hw.2.1 hw.1 1 rfl rfl 0 (by decide) (va_Nw.use rfl (hw.2.2.2 _ kX_DM_37).2) (fun _ h => h) rfl d_XDM_ss_117 ?_
    refine lv_iload_n hx hb d_XDM_ss_120 rfl (lv_at hl 1 rfl) ?_
    refine lv_iconst (v := (4 : Int32)) hx hb d_XDM_ss_121 (by decide) ?_
    refine lv_iadd hx hb d_XDM_ss_122 ?_
    refine lv_iconst (v := (2 : Int32)) hx hb d_XDM_ss_123 (by decide) ?_
    refine lv_iload hx hb d_XDM_ss_124 (lv_at hl 6 rfl) ?_
    refine lv_sipush (v := (4096 : Int32)) hx hb d_XDM_ss_126 (by decide) ?_
    refine lv_imul hx hb d_XDM_ss_129 ?_
    refine lv_iload hx hb d_XDM_ss_130 (lv_at hl 7 rfl) ?_
    refine lv_iadd hx hb d_XDM_ss_132 ?_
    refine lv_i2l (v := Int32.toInt64 ((x6 * (4096 : Int32)) + x7)) hx hb d_XDM_ss_133 rfl ?_
    refine z_wv (z_runV (As := [.int (x1 + (4 : Int32)), .int (2 : Int32), .long (Int32.toInt64 ((x6 * (4096 : Int32)) + x7))]) (rest := []) ⟨hx, hb, hml, hown, hts⟩ (c_XMe_store l D a k u_8 (x1 + (4 : Int32)) (2 : Int32) (Int32.toInt64 ((x6 * (4096 : Int32)) + x7))) (qX_DM_41 hts (by decide)) hw 2 rfl rfl hl.1 rfl (lv_room (Nat.le_of_ble_eq_true rfl)) d_XDM_ss_134 hcs) hw hS (fun u_9 H locs eu_9 hw hS => ?_)
    have hf := hf.trans (nm_eq eu_9)
    refine lv_iload_n hx hb d_XDM_ss_137 rfl (lv_at hl 1 rfl) ?_
    refine lv_bipush (v := (6 : Int32)) hx hb d_XDM_ss_138 (by decide) ?_
    refine lv_iadd hx hb d_XDM_ss_140 ?_
    cases hf
  · intro K_3 hK_3 hf
    refine jn_cut hf (fun (K_10 : Sum (String × XS) (Int32 × XS)) => ∀ (ls : Array Slot), lv_has ls 8 [(0, .ref (a 0)), (1, .int x1), (2, .int x2), (3, .int x3), (4, .int x4), (5, .int x5), (6, .int x6), (7, .int x7)] → Sum.inl (E, U1) = K_10 → W p l e rx_XDM_ss st m args below meth c H locs 0 0 Q (F0 m 48 ls [])) ?_ ?_
    · intro ls hl hf
      refine lv_iconst (v := (0 : Int32)) hx hb d_XDM_ss_48 (by decide) ?_
      exact hK_3 false _ (lv_sub hl [0, 1, 2, 3, 4, 5, 6, 7] rfl) hf
    · intro K_10 hK_10 hf
      refine lv_if_eq (tgt := 48) hx hb d_XDM_ss_10 (by decide) (fun c_11 => ?_) (fun c_11 => ?_)
      · have hf := hf.trans (if_pos c_11)
        exact hK_10 _ (lv_sub hl [0, 1, 2, 3, 4, 5, 6, 7] rfl) hf
      · have hf := hf.trans (if_neg c_11)
        refine lv_iload_n hx hb d_XDM_ss_13 rfl (lv_at hl 3 rfl) ?_
        refine lv_iconst (v := (0 : Int32)) hx hb d_XDM_ss_14 (by decide) ?_
        refine lv_sipush (v := (255 : Int32)) hx hb d_XDM_ss_15 (by decide) ?_
        refine z_rz (z_runS (As := [.int x3, .int (0 : Int32), .int (255 : Int32)]) (rest := []) ⟨hx, hb, hml, hown, hts⟩ (c_XDM_isWithin l D a k u0 x3 (0 : Int32) (255 : Int32)) (qX_DM_25 hts (by decide)) hw  hl.1 rfl (lv_room (Nat.le_of_ble_eq_true rfl)) d_XDM_ss_18 hcs) (fun z_12 ez_12 => ?_)
        have hf := hf.trans (nm_eq ez_12)
        refine lv_if_eq (tgt := 48) hx hb d_XDM_ss_21 (by decide) (fun c_13 => ?_) (fun c_13 => ?_)
        · have hf := hf.trans (if_pos c_13)
          exact hK_10 _ (lv_sub hl [0, 1, 2, 3, 4, 5, 6, 7] rfl) hf
        · have hf := hf.trans (if_neg c_13)
          refine lv_iload hx hb d_XDM_ss_24 (lv_at hl 4 rfl) ?_
          refine lv_iload hx hb d_XDM_ss_26 (lv_at hl 5 rfl) ?_
          refine z_rz (z_runS (As := [.int x4, .int x5]) (rest := []) ⟨hx, hb, hml, hown, hts⟩ (c_XDM_isPlace l D a k u0 x4 x5) (qX_DM_75 hts (by decide)) hw  hl.1 rfl (lv_room (Nat.le_of_ble_eq_true rfl)) d_XDM_ss_28 hcs) (fun z_14 ez_14 => ?_)
          have hf := hf.trans (nm_eq ez_14)
          refine lv_if_eq (tgt := 48) hx hb d_XDM_ss_31 (by decide) (fun c_15 => ?_) (fun c_15 => ?_)
          · have hf := hf.trans (if_pos c_15)
            exact hK_10 _ (lv_sub hl [0, 1, 2, 3, 4, 5, 6, 7] rfl) hf
          · have hf := hf.trans (if_neg c_15)
            refine lv_iload hx hb d_XDM_ss_34 (lv_at hl 6 rfl) ?_
            refine lv_iload hx hb d_XDM_ss_36 (lv_at hl 7 rfl) ?_
            refine z_rz (z_runS (As := [.int x6, .int x7]) (rest := []) ⟨hx, hb, hml, hown, hts⟩ (c_XDM_isPlace l D a k u0 x6 x7) (qX_DM_75 hts (by decide)) hw  hl.1 rfl (lv_room (Nat.le_of_ble_eq_true rfl)) d_XDM_ss_38 hcs) (fun z_16 ez_16 => ?_)
            have hf := hf.trans (nm_eq ez_16)
            refine lv_if_eq (tgt := 48) hx hb d_XDM_ss_41 (by decide) (fun c_17 => ?_) (fun c_17 => ?_)
            · have hf := hf.trans (if_pos c_17)
              exact hK_10 _ (lv_sub hl [0, 1, 2, 3, 4, 5, 6, 7] rfl) hf
            · have hf := hf.trans (if_neg c_17)
              refine lv_iconst (v := (1 : Int32)) hx hb d_XDM_ss_44 (by decide) ?_
              refine lv_goto (tgt := 49) hx hb d_XDM_ss_45 (by decide) ?_
              exact hK_3 true _ (lv_sub hl [0, 1, 2, 3, 4, 5, 6, 7] rfl) hf
def f_XDM_tell (u0 : XS) (x0 : Int32) : Sum (String × XS) (XS) := if x0 = (0 : Int32) then Sum.inr u0 else if x0 = (1 : Int32) then Sum.inl ("java/lang/IllegalArgumentException", u0) else if x0 = (5 : Int32) then Sum.inl ("java/lang/IndexOutOfBoundsException", u0) else if x0 = (6 : Int32) then Sum.inl ("java/lang/IllegalArgumentException", u0) else if x0 = (7 : Int32) then Sum.inl ("java/lang/IllegalArgumentException", u0) else Sum.inl ("java/lang/ArithmeticException", u0)
set_option maxHeartbeats 4000000 in
set_option maxRecDepth 100000 in
theorem cn_XDM_tell (l : Launch) (D : va_G) (a : Nat → Nat) (k : Nat → ClassId) (u0 : XS) (x0 : Int32) (F : XS) (hf : f_XDM_tell u0 x0 = Sum.inr F) : zMv l y_XDM_tell w_XDM_tell rm_XDM_tell D clX (tyX k) nwX (xW a k) [.int x0] u0 F := by
  have hf := hf.symm
  unfold f_XDM_tell at hf
  refine zMv_of (cc := b_XDM_tell) (maxL := 1) (own := RX_DM) (by decide) rfl rfl (Nat.le_of_ble_eq_true rfl) ?_
  intro p e R st m args below meth c A H locs Q ls hR hx hb hml hown hts hw hS hret hl
  subst hR
  have hcs : 0 ≤ (rm_XDM_tell).cells ∧ 0 ≤ (rm_XDM_tell).slots := ⟨Nat.zero_le _, Nat.zero_le _⟩
  have hl : lv_has ls 1 [(0, .int x0)] := hl
  refine lv_iload_n hx hb d_XDM_tell_0 rfl (lv_at hl 0 rfl) ?_
  by_cases c_1 : x0 = (0 : Int32)
  · have hf := hf.trans (if_pos c_1)
    refine lv_tableIn (off := 47) (tgt := 48) hx hb d_XDM_tell_1 (by rw [c_1]; decide +kernel) (by rw [c_1]; decide +kernel) (by rw [c_1]; decide +kernel) (by decide) ?_
    exact hret _ _ _ _ _ d_XDM_tell_48 hw hS (Sum.inr.inj hf)
  have hf := hf.trans (if_neg c_1)
  by_cases c_2 : x0 = (1 : Int32)
  · have hf := hf.trans (if_pos c_2)
    refine lv_tableIn (off := 58) (tgt := 59) hx hb d_XDM_tell_1 (by rw [c_2]; decide +kernel) (by rw [c_2]; decide +kernel) (by rw [c_2]; decide +kernel) (by decide) ?_
    cases hf
  have hf := hf.trans (if_neg c_2)
  by_cases c_3 : x0 = (2 : Int32)
  · have hf := hf.trans (if_neg (by rw [c_3]; decide))
    have hf := hf.trans (if_neg (by rw [c_3]; decide))
    have hf := hf.trans (if_neg (by rw [c_3]; decide))
    refine lv_tableIn (off := 68) (tgt := 69) hx hb d_XDM_tell_1 (by rw [c_3]; decide +kernel) (by rw [c_3]; decide +kernel) (by rw [c_3]; decide +kernel) (by decide) ?_
    cases hf
  by_cases c_4 : x0 = (3 : Int32)
  · have hf := hf.trans (if_neg (by rw [c_4]; decide))
    have hf := hf.trans (if_neg (by rw [c_4]; decide))
    have hf := hf.trans (if_neg (by rw [c_4]; decide))
    refine lv_tableIn (off := 68) (tgt := 69) hx hb d_XDM_tell_1 (by rw [c_4]; decide +kernel) (by rw [c_4]; decide +kernel) (by rw [c_4]; decide +kernel) (by decide) ?_
    cases hf
  by_cases c_5 : x0 = (4 : Int32)
  · have hf := hf.trans (if_neg (by rw [c_5]; decide))
    have hf := hf.trans (if_neg (by rw [c_5]; decide))
    have hf := hf.trans (if_neg (by rw [c_5]; decide))
    refine lv_tableIn (off := 68) (tgt := 69) hx hb d_XDM_tell_1 (by rw [c_5]; decide +kernel) (by rw [c_5]; decide +kernel) (by rw [c_5]; decide +kernel) (by decide) ?_
    cases hf
  by_cases c_6 : x0 = (5 : Int32)
  · have hf := hf.trans (if_pos c_6)
    refine lv_tableIn (off := 48) (tgt := 49) hx hb d_XDM_tell_1 (by rw [c_6]; decide +kernel) (by rw [c_6]; decide +kernel) (by rw [c_6]; decide +kernel) (by decide) ?_
    cases hf
  have hf := hf.trans (if_neg c_6)
  by_cases c_7 : x0 = (6 : Int32)
  · have hf := hf.trans (if_pos c_7)
    refine lv_tableIn (off := 58) (tgt := 59) hx hb d_XDM_tell_1 (by rw [c_7]; decide +kernel) (by rw [c_7]; decide +kernel) (by rw [c_7]; decide +kernel) (by decide) ?_
    cases hf
  have hf := hf.trans (if_neg c_7)
  by_cases c_8 : x0 = (7 : Int32)
  · have hf := hf.trans (if_pos c_8)
    refine lv_tableIn (off := 58) (tgt := 59) hx hb d_XDM_tell_1 (by rw [c_8]; decide +kernel) (by rw [c_8]; decide +kernel) (by rw [c_8]; decide +kernel) (by decide) ?_
    cases hf
  have hf := hf.trans (if_neg c_8)
  refine lv_tableOut (tgt := 69) hx hb d_XDM_tell_1 (by have := lv_neT c_1 (a := 0) (by decide +kernel); have := lv_neT c_2 (a := 1) (by decide +kernel); have := lv_neT c_3 (a := 2) (by decide +kernel); have := lv_neT c_4 (a := 3) (by decide +kernel); have := lv_neT c_5 (a := 4) (by decide +kernel); have := lv_neT c_6 (a := 5) (by decide +kernel); have := lv_neT c_7 (a := 6) (by decide +kernel); have := lv_neT c_8 (a := 7) (by decide +kernel); omega) (by decide) ?_
  cases hf
set_option maxHeartbeats 4000000 in
set_option maxRecDepth 100000 in
theorem cx_XDM_tell (l : Launch) (hl9 : l.stackTraces = false) (D : va_G) (a : Nat → Nat) (k : Nat → ClassId) (sa : Nat → Nat) (u0 : XS) (x0 : Int32) (E : String) (U1 : XS) (hf : f_XDM_tell u0 x0 = Sum.inl (E, U1)) : zT l y_XDM_tell w_XDM_tell rx_XDM_tell D clX (tyX k) nwX (skX sa) (xW a k) [.int x0] u0 E U1 := by
  have hf := hf.symm
  unfold f_XDM_tell at hf
  refine zT_of (cc := b_XDM_tell) (maxL := 1) (own := RX_DM) (by decide) rfl rfl (Nat.le_of_ble_eq_true rfl) ?_ hl9
  intro p e R st m args below meth c A H locs Q ls hR hx hb hml hown hts hw hS hE hprop hthr hl
  subst hR
  have hcs : 0 ≤ (rx_XDM_tell).cells ∧ 0 ≤ (rx_XDM_tell).slots := ⟨Nat.zero_le _, Nat.zero_le _⟩
  have hl : lv_has ls 1 [(0, .int x0)] := hl
  refine lv_iload_n hx hb d_XDM_tell_0 rfl (lv_at hl 0 rfl) ?_
  by_cases c_1 : x0 = (0 : Int32)
  · have hf := hf.trans (if_pos c_1)
    refine lv_tableIn (off := 47) (tgt := 48) hx hb d_XDM_tell_1 (by rw [c_1]; decide +kernel) (by rw [c_1]; decide +kernel) (by rw [c_1]; decide +kernel) (by decide) ?_
    cases hf
  have hf := hf.trans (if_neg c_1)
  by_cases c_2 : x0 = (1 : Int32)
  · have hf := hf.trans (if_pos c_2)
    refine lv_tableIn (off := 58) (tgt := 59) hx hb d_XDM_tell_1 (by rw [c_2]; decide +kernel) (by rw [c_2]; decide +kernel) (by rw [c_2]; decide +kernel) (by decide) ?_
    obtain ⟨rfl, rfl⟩ := Prod.mk.inj (Sum.inl.inj hf)
    exact hthr (sa := sa 2) ps_110_114 rfl hl.1 (by decide +kernel) kt_110 ki_IllegalArgumentException (List.mem_of_getElem? (i := 2) rfl) pg_110_114 pn_110_114 d_XDM_tell_59 d_XDM_tell_62 d_XDM_tell_63 d_XDM_tell_65 d_XDM_tell_68 (Nat.le_of_ble_eq_true rfl) (Nat.le_of_ble_eq_true rfl) (Nat.le_of_ble_eq_true rfl) (Nat.le_of_ble_eq_true rfl)
  have hf := hf.trans (if_neg c_2)
  by_cases c_3 : x0 = (2 : Int32)
  · have hf := hf.trans (if_neg (by rw [c_3]; decide))
    have hf := hf.trans (if_neg (by rw [c_3]; decide))
    have hf := hf.trans (if_neg (by rw [c_3]; decide))
    refine lv_tableIn (off := 68) (tgt := 69) hx hb d_XDM_tell_1 (by rw [c_3]; decide +kernel) (by rw [c_3]; decide +kernel) (by rw [c_3]; decide +kernel) (by decide) ?_
    obtain ⟨rfl, rfl⟩ := Prod.mk.inj (Sum.inl.inj hf)
    exact hthr (sa := sa 3) ps_127_131 rfl hl.1 (by decide +kernel) kt_127 ki_ArithmeticException (List.mem_of_getElem? (i := 3) rfl) pg_127_131 pn_127_131 d_XDM_tell_69 d_XDM_tell_72 d_XDM_tell_73 d_XDM_tell_75 d_XDM_tell_78 (Nat.le_of_ble_eq_true rfl) (Nat.le_of_ble_eq_true rfl) (Nat.le_of_ble_eq_true rfl) (Nat.le_of_ble_eq_true rfl)
  by_cases c_4 : x0 = (3 : Int32)
  · have hf := hf.trans (if_neg (by rw [c_4]; decide))
    have hf := hf.trans (if_neg (by rw [c_4]; decide))
    have hf := hf.trans (if_neg (by rw [c_4]; decide))
    refine lv_tableIn (off := 68) (tgt := 69) hx hb d_XDM_tell_1 (by rw [c_4]; decide +kernel) (by rw [c_4]; decide +kernel) (by rw [c_4]; decide +kernel) (by decide) ?_
    obtain ⟨rfl, rfl⟩ := Prod.mk.inj (Sum.inl.inj hf)
    exact hthr (sa := sa 3) ps_127_131 rfl hl.1 (by decide +kernel) kt_127 ki_ArithmeticException (List.mem_of_getElem? (i := 3) rfl) pg_127_131 pn_127_131 d_XDM_tell_69 d_XDM_tell_72 d_XDM_tell_73 d_XDM_tell_75 d_XDM_tell_78 (Nat.le_of_ble_eq_true rfl) (Nat.le_of_ble_eq_true rfl) (Nat.le_of_ble_eq_true rfl) (Nat.le_of_ble_eq_true rfl)
  by_cases c_5 : x0 = (4 : Int32)
  · have hf := hf.trans (if_neg (by rw [c_5]; decide))
    have hf := hf.trans (if_neg (by rw [c_5]; decide))
    have hf := hf.trans (if_neg (by rw [c_5]; decide))
    refine lv_tableIn (off := 68) (tgt := 69) hx hb d_XDM_tell_1 (by rw [c_5]; decide +kernel) (by rw [c_5]; decide +kernel) (by rw [c_5]; decide +kernel) (by decide) ?_
    obtain ⟨rfl, rfl⟩ := Prod.mk.inj (Sum.inl.inj hf)
    exact hthr (sa := sa 3) ps_127_131 rfl hl.1 (by decide +kernel) kt_127 ki_ArithmeticException (List.mem_of_getElem? (i := 3) rfl) pg_127_131 pn_127_131 d_XDM_tell_69 d_XDM_tell_72 d_XDM_tell_73 d_XDM_tell_75 d_XDM_tell_78 (Nat.le_of_ble_eq_true rfl) (Nat.le_of_ble_eq_true rfl) (Nat.le_of_ble_eq_true rfl) (Nat.le_of_ble_eq_true rfl)
  by_cases c_6 : x0 = (5 : Int32)
  · have hf := hf.trans (if_pos c_6)
    refine lv_tableIn (off := 48) (tgt := 49) hx hb d_XDM_tell_1 (by rw [c_6]; decide +kernel) (by rw [c_6]; decide +kernel) (by rw [c_6]; decide +kernel) (by decide) ?_
    obtain ⟨rfl, rfl⟩ := Prod.mk.inj (Sum.inl.inj hf)
    exact hthr (sa := sa 4) ps_118_122 rfl hl.1 (by decide +kernel) kt_118 ki_IndexOutOfBoundsException (List.mem_of_getElem? (i := 4) rfl) pg_118_122 pn_118_122 d_XDM_tell_49 d_XDM_tell_52 d_XDM_tell_53 d_XDM_tell_55 d_XDM_tell_58 (Nat.le_of_ble_eq_true rfl) (Nat.le_of_ble_eq_true rfl) (Nat.le_of_ble_eq_true rfl) (Nat.le_of_ble_eq_true rfl)
  have hf := hf.trans (if_neg c_6)
  by_cases c_7 : x0 = (6 : Int32)
  · have hf := hf.trans (if_pos c_7)
    refine lv_tableIn (off := 58) (tgt := 59) hx hb d_XDM_tell_1 (by rw [c_7]; decide +kernel) (by rw [c_7]; decide +kernel) (by rw [c_7]; decide +kernel) (by decide) ?_
    obtain ⟨rfl, rfl⟩ := Prod.mk.inj (Sum.inl.inj hf)
    exact hthr (sa := sa 2) ps_110_114 rfl hl.1 (by decide +kernel) kt_110 ki_IllegalArgumentException (List.mem_of_getElem? (i := 2) rfl) pg_110_114 pn_110_114 d_XDM_tell_59 d_XDM_tell_62 d_XDM_tell_63 d_XDM_tell_65 d_XDM_tell_68 (Nat.le_of_ble_eq_true rfl) (Nat.le_of_ble_eq_true rfl) (Nat.le_of_ble_eq_true rfl) (Nat.le_of_ble_eq_true rfl)
  have hf := hf.trans (if_neg c_7)
  by_cases c_8 : x0 = (7 : Int32)
  · have hf := hf.trans (if_pos c_8)
    refine lv_tableIn (off := 58) (tgt := 59) hx hb d_XDM_tell_1 (by rw [c_8]; decide +kernel) (by rw [c_8]; decide +kernel) (by rw [c_8]; decide +kernel) (by decide) ?_
    obtain ⟨rfl, rfl⟩ := Prod.mk.inj (Sum.inl.inj hf)
    exact hthr (sa := sa 2) ps_110_114 rfl hl.1 (by decide +kernel) kt_110 ki_IllegalArgumentException (List.mem_of_getElem? (i := 2) rfl) pg_110_114 pn_110_114 d_XDM_tell_59 d_XDM_tell_62 d_XDM_tell_63 d_XDM_tell_65 d_XDM_tell_68 (Nat.le_of_ble_eq_true rfl) (Nat.le_of_ble_eq_true rfl) (Nat.le_of_ble_eq_true rfl) (Nat.le_of_ble_eq_true rfl)
  have hf := hf.trans (if_neg c_8)
  refine lv_tableOut (tgt := 69) hx hb d_XDM_tell_1 (by have := lv_neT c_1 (a := 0) (by decide +kernel); have := lv_neT c_2 (a := 1) (by decide +kernel); have := lv_neT c_3 (a := 2) (by decide +kernel); have := lv_neT c_4 (a := 3) (by decide +kernel); have := lv_neT c_5 (a := 4) (by decide +kernel); have := lv_neT c_6 (a := 5) (by decide +kernel); have := lv_neT c_7 (a := 6) (by decide +kernel); have := lv_neT c_8 (a := 7) (by decide +kernel); omega) (by decide) ?_
  obtain ⟨rfl, rfl⟩ := Prod.mk.inj (Sum.inl.inj hf)
  exact hthr (sa := sa 3) ps_127_131 rfl hl.1 (by decide +kernel) kt_127 ki_ArithmeticException (List.mem_of_getElem? (i := 3) rfl) pg_127_131 pn_127_131 d_XDM_tell_69 d_XDM_tell_72 d_XDM_tell_73 d_XDM_tell_75 d_XDM_tell_78 (Nat.le_of_ble_eq_true rfl) (Nat.le_of_ble_eq_true rfl) (Nat.le_of_ble_eq_true rfl) (Nat.le_of_ble_eq_true rfl)
def g_XDM_run_36 (x1 : Int32) (L_7 : Int32 → Int32 → XS → Sum (String × XS) (Int32 × XS)) : Int32 → Int32 → XS → Sum (String × XS) (Int32 × XS) := fun x_4 x_5 u_6 => if x1 ≤ x_4 then bx (f_XDM_tell u_6 x_5) (fun (u_10 : XS) => Sum.inr (x_4, u_10)) else if x_5 = (0 : Int32) then if (xF u_6 3) = (-1 : Int32) then pr (f_XPr_step u_6) (fun (x_16 : Int32) (u_15 : XS) => nm (x_4 + (1 : Int32)) (fun (x_17 : Int32) => L_7 x_17 x_16 u_15)) else bx (f_XDM_tell u_6 x_5) (fun (u_14 : XS) => Sum.inr (x_4, u_14)) else bx (f_XDM_tell u_6 x_5) (fun (u_12 : XS) => Sum.inr (x_4, u_12))
def f_XDM_run (u0 : XS) (x1 : Int32) : Sum (String × XS) (Int32 × XS) := if (xF u0 3) = (-1 : Int32) then nm (f_XDM_isWithin u0 x1 (1 : Int32) (200 : Int32)) (fun (z_2 : Bool) => bx (f_XDM_demand u0 z_2) (fun (u_3 : XS) => lpN ((Int32.toInt x1 - Int32.toInt (0 : Int32)).toNat + 1) (g_XDM_run_36 x1) (fun _ _ _ => Sum.inl default) (0 : Int32) (0 : Int32) u_3)) else Sum.inl ("java/lang/IllegalStateException", u0)
set_option maxHeartbeats 4000000 in
set_option maxRecDepth 100000 in
theorem cn_XDM_run (l : Launch) (D : va_G) (a : Nat → Nat) (k : Nat → ClassId) (u0 : XS) (x1 : Int32) (F : Int32 × XS) (hf : f_XDM_run u0 x1 = Sum.inr F) : zMi l y_XDM_run w_XDM_run rm_XDM_run D clX (tyX k) nwX (xW a k) [.ref (a 0), .int x1] u0 F := by
  have hf := hf.symm
  unfold f_XDM_run at hf
  refine zMi_of (cc := b_XDM_run) (maxL := 4) (own := RX_DM) (by decide) rfl rfl (Nat.le_of_ble_eq_true rfl) ?_
  intro p e R st m args below meth c A H locs Q ls hR hx hb hml hown hts hw hS hret hl
  subst hR
  have hcs : 0 ≤ (rm_XDM_run).cells ∧ 0 ≤ (rm_XDM_run).slots := ⟨Nat.zero_le _, Nat.zero_le _⟩
  have hl : lv_has ls 4 [(0, .ref (a 0)), (1, .int x1)] := hl
  refine lv_aload_n hx hb d_XDM_run_0 rfl (lv_at hl 0 rfl) ?_
  refine va_get (v := .ref (a 1)) hx hb hts iX_DM hown hw.2.1 hw.1 0 rfl rfl 0 (by decide) (hts _ kX_DM_10) (fun _ h => h) rfl d_XDM_run_1 ?_
  refine va_getN (v := .int (xF u0 3)) hx hb hts iX_St hown hw.2.1 hw.1 1 rfl rfl 5 (by decide) (va_Nw.use rfl (hw.2.2.2 _ kX_DM_72).2) (fun _ h => h) rfl d_XDM_run_4 ?_
  refine lv_iconst (v := (-1 : Int32)) hx hb d_XDM_run_7 (by decide) ?_
  refine lv_icmp_eq (tgt := 21) hx hb d_XDM_run_8 (by decide) (fun c_1 => ?_) (fun c_1 => ?_)
  · have hf := hf.trans (if_pos c_1)
    refine lv_iload_n hx hb d_XDM_run_21 rfl (lv_at hl 1 rfl) ?_
    refine lv_iconst (v := (1 : Int32)) hx hb d_XDM_run_22 (by decide) ?_
    refine lv_sipush (v := (200 : Int32)) hx hb d_XDM_run_23 (by decide) ?_
    refine z_rz (z_runS (As := [.int x1, .int (1 : Int32), .int (200 : Int32)]) (rest := []) ⟨hx, hb, hml, hown, hts⟩ (c_XDM_isWithin l D a k u0 x1 (1 : Int32) (200 : Int32)) (qX_DM_25 hts (by decide)) hw  hl.1 rfl (lv_room (Nat.le_of_ble_eq_true rfl)) d_XDM_run_26 hcs) (fun z_2 ez_2 => ?_)
    have hf := hf.trans (nm_eq ez_2)
    obtain ⟨u_3, eu_3, hf⟩ := bx_inv hf
    refine z_wv' (u' := u_3) (z_runS (As := [.int (bI z_2)]) (rest := []) ⟨hx, hb, hml, hown, hts⟩ (cn_XDM_demand l D a k u0 z_2 u_3 eu_3) (qX_DM_29 hts (by decide)) hw  hl.1 rfl (lv_room (Nat.le_of_ble_eq_true rfl)) d_XDM_run_29 hcs) hw hS (fun H locs hw hS => ?_)
    refine lv_iconst (v := (0 : Int32)) hx hb d_XDM_run_32 (by decide) ?_
    refine lv_istore_n (lv' := [(2, .int (0 : Int32)), (0, .ref (a 0)), (1, .int x1)]) hx hb d_XDM_run_33 rfl hl (by decide) rfl (fun ls hl => ?_)
    refine lv_iconst (v := (0 : Int32)) hx hb d_XDM_run_34 (by decide) ?_
    refine lv_istore_n (lv' := [(3, .int (0 : Int32)), (2, .int (0 : Int32)), (0, .ref (a 0)), (1, .int x1)]) hx hb d_XDM_run_35 rfl hl (by decide) rfl (fun ls hl => ?_)
    refine lp_cut (fun (n_8 : Nat) (L_7 : Int32 → Int32 → XS → Sum (String × XS) (Int32 × XS)) => ∀ (x_4 : Int32) (x_5 : Int32) (u_6 : XS), (Int32.toInt x1 - Int32.toInt x_4).toNat < n_8 → ∀ (H : Heap) (locs : List Loc), zW D clX (tyX k) nwX (xW a k) A st u_6 H → va_S A st.heap H locs → ∀ (ls : Array Slot), lv_has ls 4 [(0, .ref (a 0)), (1, .int x1), (2, .int x_4), (3, .int x_5)] → Sum.inr F = L_7 x_4 x_5 u_6 → W p l e rm_XDM_run st m args below meth c H locs 0 0 Q (F0 m 36 ls [])) ?_ ?_ ((Int32.toInt x1 - Int32.toInt (0 : Int32)).toNat + 1) (0 : Int32) (0 : Int32) u_3 (Nat.lt_succ_self _) _ _ hw hS _ (lv_sub hl [2, 3, 1, 0] rfl) hf
    · intro x_4 x_5 u_6 hn; exact absurd hn (Nat.not_lt_zero _)
    · intro n_8 L_7 hL_7 x_4 x_5 u_6 hn H locs hw hS ls hl hf
      unfold g_XDM_run_36 at hf
      refine lv_iload_n hx hb d_XDM_run_36 rfl (lv_at hl 2 rfl) ?_
      refine lv_iload_n hx hb d_XDM_run_37 rfl (lv_at hl 1 rfl) ?_
      refine lv_icmp_ge (tgt := 70) hx hb d_XDM_run_38 (by decide) (fun c_9 => ?_) (fun c_9 => ?_)
      · have hf := hf.trans (if_pos c_9)
        refine lv_iload_n hx hb d_XDM_run_70 rfl (lv_at hl 3 rfl) ?_
        obtain ⟨u_10, eu_10, hf⟩ := bx_inv hf
        refine z_wv' (u' := u_10) (z_runS (As := [.int x_5]) (rest := []) ⟨hx, hb, hml, hown, hts⟩ (cn_XDM_tell l D a k u_6 x_5 u_10 eu_10) (qX_DM_90 hts (by decide)) hw  hl.1 rfl (lv_room (Nat.le_of_ble_eq_true rfl)) d_XDM_run_71 hcs) hw hS (fun H locs hw hS => ?_)
        refine lv_iload_n hx hb d_XDM_run_74 rfl (lv_at hl 2 rfl) ?_
        exact hret x_4 _ _ _ _ _ d_XDM_run_75 hw hS (Sum.inr.inj hf)
      · have hf := hf.trans (if_neg c_9)
        refine lv_iload_n hx hb d_XDM_run_41 rfl (lv_at hl 3 rfl) ?_
        refine lv_if_ne (tgt := 70) hx hb d_XDM_run_42 (by decide) (fun c_11 => ?_) (fun c_11 => ?_)
        · have hf := hf.trans (if_neg c_11)
          refine lv_iload_n hx hb d_XDM_run_70 rfl (lv_at hl 3 rfl) ?_
          obtain ⟨u_12, eu_12, hf⟩ := bx_inv hf
          refine z_wv' (u' := u_12) (z_runS (As := [.int x_5]) (rest := []) ⟨hx, hb, hml, hown, hts⟩ (cn_XDM_tell l D a k u_6 x_5 u_12 eu_12) (qX_DM_90 hts (by decide)) hw  hl.1 rfl (lv_room (Nat.le_of_ble_eq_true rfl)) d_XDM_run_71 hcs) hw hS (fun H locs hw hS => ?_)
          refine lv_iload_n hx hb d_XDM_run_74 rfl (lv_at hl 2 rfl) ?_
          exact hret x_4 _ _ _ _ _ d_XDM_run_75 hw hS (Sum.inr.inj hf)
        · have hf := hf.trans (if_pos c_11)
          refine lv_aload_n hx hb d_XDM_run_45 rfl (lv_at hl 0 rfl) ?_
          refine va_get (v := .ref (a 1)) hx hb hts iX_DM hown hw.2.1 hw.1 0 rfl rfl 0 (by decide) (hts _ kX_DM_10) (fun _ h => h) rfl d_XDM_run_46 ?_
          refine va_getN (v := .int (xF u_6 3)) hx hb hts iX_St hown hw.2.1 hw.1 1 rfl rfl 5 (by decide) (va_Nw.use rfl (hw.2.2.2 _ kX_DM_72).2) (fun _ h => h) rfl d_XDM_run_49 ?_
          refine lv_iconst (v := (-1 : Int32)) hx hb d_XDM_run_52 (by decide) ?_
          refine lv_icmp_ne (tgt := 70) hx hb d_XDM_run_53 (by decide) (fun c_13 => ?_) (fun c_13 => ?_)
          · have hf := hf.trans (if_neg c_13)
            refine lv_iload_n hx hb d_XDM_run_70 rfl (lv_at hl 3 rfl) ?_
            obtain ⟨u_14, eu_14, hf⟩ := bx_inv hf
            refine z_wv' (u' := u_14) (z_runS (As := [.int x_5]) (rest := []) ⟨hx, hb, hml, hown, hts⟩ (cn_XDM_tell l D a k u_6 x_5 u_14 eu_14) (qX_DM_90 hts (by decide)) hw  hl.1 rfl (lv_room (Nat.le_of_ble_eq_true rfl)) d_XDM_run_71 hcs) hw hS (fun H locs hw hS => ?_)
            refine lv_iload_n hx hb d_XDM_run_74 rfl (lv_at hl 2 rfl) ?_
            exact hret x_4 _ _ _ _ _ d_XDM_run_75 hw hS (Sum.inr.inj hf)
          · have hf := hf.trans (if_pos c_13)
            refine lv_aload_n hx hb d_XDM_run_56 rfl (lv_at hl 0 rfl) ?_
            refine va_get (v := .ref (a 5)) hx hb hts iX_DM hown hw.2.1 hw.1 0 rfl rfl 1 (by decide) (hts _ kX_DM_21) (fun _ h => h) rfl d_XDM_run_57 ?_
            refine z_wi (z_runV (As := []) (rest := []) ⟨hx, hb, hml, hown, hts⟩ (c_XPr_step l D a k u_6) (qX_DM_86 hts (by decide)) hw 5 rfl rfl hl.1 rfl (lv_room (Nat.le_of_ble_eq_true rfl)) d_XDM_run_60 hcs) hw hS (fun x_16 u_15 H locs ex_16 hw hS => ?_)
            have hf := hf.trans (pr_eq ex_16)
            refine lv_istore_n (lv' := [(3, .int x_16), (0, .ref (a 0)), (1, .int x1), (2, .int x_4)]) hx hb d_XDM_run_63 rfl hl (by decide) rfl (fun ls hl => ?_)
            obtain ⟨x_17, ex_17⟩ : ∃ y : Int32, y = x_4 + (1 : Int32) := ⟨_, rfl⟩
            have hf := hf.trans (nm_eq ex_17)
            refine lv_iinc (v := x_17) (lv' := [(2, .int x_17), (3, .int x_16), (0, .ref (a 0)), (1, .int x1)]) hx hb d_XDM_run_64 hl (k := 3) rfl (by rw [ex_17]; rfl) (by decide) rfl (fun ls hl => ?_)
            refine lv_goto (tgt := 36) hx hb d_XDM_run_67 (by decide) ?_
            exact hL_7 x_17 x_16 u_15 (mu_up c_9 ex_17 hn) _ _ hw hS _ (lv_sub hl [2, 3, 0, 1] rfl) hf
  · have hf := hf.trans (if_neg c_1)
    cases hf
set_option maxHeartbeats 4000000 in
set_option maxRecDepth 100000 in
theorem cx_XDM_run (l : Launch) (hl9 : l.stackTraces = false) (D : va_G) (a : Nat → Nat) (k : Nat → ClassId) (sa : Nat → Nat) (u0 : XS) (x1 : Int32) (E : String) (U1 : XS) (hf : f_XDM_run u0 x1 = Sum.inl (E, U1)) : zT l y_XDM_run w_XDM_run rx_XDM_run D clX (tyX k) nwX (skX sa) (xW a k) [.ref (a 0), .int x1] u0 E U1 := by
  have hf := hf.symm
  unfold f_XDM_run at hf
  refine zT_of (cc := b_XDM_run) (maxL := 4) (own := RX_DM) (by decide) rfl rfl (Nat.le_of_ble_eq_true rfl) ?_ hl9
  intro p e R st m args below meth c A H locs Q ls hR hx hb hml hown hts hw hS hE hprop hthr hl
  subst hR
  have hcs : 0 ≤ (rx_XDM_run).cells ∧ 0 ≤ (rx_XDM_run).slots := ⟨Nat.zero_le _, Nat.zero_le _⟩
  have hl : lv_has ls 4 [(0, .ref (a 0)), (1, .int x1)] := hl
  refine lv_aload_n hx hb d_XDM_run_0 rfl (lv_at hl 0 rfl) ?_
  refine va_get (v := .ref (a 1)) hx hb hts iX_DM hown hw.2.1 hw.1 0 rfl rfl 0 (by decide) (hts _ kX_DM_10) (fun _ h => h) rfl d_XDM_run_1 ?_
  refine va_getN (v := .int (xF u0 3)) hx hb hts iX_St hown hw.2.1 hw.1 1 rfl rfl 5 (by decide) (va_Nw.use rfl (hw.2.2.2 _ kX_DM_72).2) (fun _ h => h) rfl d_XDM_run_4 ?_
  refine lv_iconst (v := (-1 : Int32)) hx hb d_XDM_run_7 (by decide) ?_
  refine lv_icmp_eq (tgt := 21) hx hb d_XDM_run_8 (by decide) (fun c_1 => ?_) (fun c_1 => ?_)
  · have hf := hf.trans (if_pos c_1)
    refine lv_iload_n hx hb d_XDM_run_21 rfl (lv_at hl 1 rfl) ?_
    refine lv_iconst (v := (1 : Int32)) hx hb d_XDM_run_22 (by decide) ?_
    refine lv_sipush (v := (200 : Int32)) hx hb d_XDM_run_23 (by decide) ?_
    refine z_rz (z_runS (As := [.int x1, .int (1 : Int32), .int (200 : Int32)]) (rest := []) ⟨hx, hb, hml, hown, hts⟩ (c_XDM_isWithin l D a k u0 x1 (1 : Int32) (200 : Int32)) (qX_DM_25 hts (by decide)) hw  hl.1 rfl (lv_room (Nat.le_of_ble_eq_true rfl)) d_XDM_run_26 hcs) (fun z_2 ez_2 => ?_)
    have hf := hf.trans (nm_eq ez_2)
    rcases bx_invX hf with ht | ⟨u_3, eu_3, hf⟩
    · exact hprop _ _ _ _ _ _ _ (ztS (As := [.int (bI z_2)]) (rest := []) ⟨hx, hb, hml, hown, hts⟩ (cx_XDM_demand l hl9 D a k sa u0 z_2 E U1 ht) (qxX_DM_29 hts (by decide)) hw hE hS  hl.1 rfl (lv_room (Nat.le_of_ble_eq_true rfl)) d_XDM_run_29 ⟨Nat.le_of_ble_eq_true rfl, Nat.le_of_ble_eq_true rfl⟩) hw hS
    refine z_wv' (u' := u_3) (z_runS (As := [.int (bI z_2)]) (rest := []) ⟨hx, hb, hml, hown, hts⟩ (cn_XDM_demand l D a k u0 z_2 u_3 eu_3) (qX_DM_29 hts (by decide)) hw  hl.1 rfl (lv_room (Nat.le_of_ble_eq_true rfl)) d_XDM_run_29 hcs) hw hS (fun H locs hw hS => ?_)
    refine lv_iconst (v := (0 : Int32)) hx hb d_XDM_run_32 (by decide) ?_
    refine lv_istore_n (lv' := [(2, .int (0 : Int32)), (0, .ref (a 0)), (1, .int x1)]) hx hb d_XDM_run_33 rfl hl (by decide) rfl (fun ls hl => ?_)
    refine lv_iconst (v := (0 : Int32)) hx hb d_XDM_run_34 (by decide) ?_
    refine lv_istore_n (lv' := [(3, .int (0 : Int32)), (2, .int (0 : Int32)), (0, .ref (a 0)), (1, .int x1)]) hx hb d_XDM_run_35 rfl hl (by decide) rfl (fun ls hl => ?_)
    refine lp_cut (fun (n_8 : Nat) (L_7 : Int32 → Int32 → XS → Sum (String × XS) (Int32 × XS)) => ∀ (x_4 : Int32) (x_5 : Int32) (u_6 : XS), (Int32.toInt x1 - Int32.toInt x_4).toNat < n_8 → ∀ (H : Heap) (locs : List Loc), zW D clX (tyX k) nwX (xW a k) A st u_6 H → va_S A st.heap H locs → ∀ (ls : Array Slot), lv_has ls 4 [(0, .ref (a 0)), (1, .int x1), (2, .int x_4), (3, .int x_5)] → Sum.inl (E, U1) = L_7 x_4 x_5 u_6 → W p l e rx_XDM_run st m args below meth c H locs 0 0 Q (F0 m 36 ls [])) ?_ ?_ ((Int32.toInt x1 - Int32.toInt (0 : Int32)).toNat + 1) (0 : Int32) (0 : Int32) u_3 (Nat.lt_succ_self _) _ _ hw hS _ (lv_sub hl [2, 3, 1, 0] rfl) hf
    · intro x_4 x_5 u_6 hn; exact absurd hn (Nat.not_lt_zero _)
    · intro n_8 L_7 hL_7 x_4 x_5 u_6 hn H locs hw hS ls hl hf
      unfold g_XDM_run_36 at hf
      refine lv_iload_n hx hb d_XDM_run_36 rfl (lv_at hl 2 rfl) ?_
      refine lv_iload_n hx hb d_XDM_run_37 rfl (lv_at hl 1 rfl) ?_
      refine lv_icmp_ge (tgt := 70) hx hb d_XDM_run_38 (by decide) (fun c_9 => ?_) (fun c_9 => ?_)
      · have hf := hf.trans (if_pos c_9)
        refine lv_iload_n hx hb d_XDM_run_70 rfl (lv_at hl 3 rfl) ?_
        rcases bx_invX hf with ht | ⟨u_10, eu_10, hf⟩
        · exact hprop _ _ _ _ _ _ _ (ztS (As := [.int x_5]) (rest := []) ⟨hx, hb, hml, hown, hts⟩ (cx_XDM_tell l hl9 D a k sa u_6 x_5 E U1 ht) (qxX_DM_90 hts (by decide)) hw hE hS  hl.1 rfl (lv_room (Nat.le_of_ble_eq_true rfl)) d_XDM_run_71 ⟨Nat.le_of_ble_eq_true rfl, Nat.le_of_ble_eq_true rfl⟩) hw hS
        refine z_wv' (u' := u_10) (z_runS (As := [.int x_5]) (rest := []) ⟨hx, hb, hml, hown, hts⟩ (cn_XDM_tell l D a k u_6 x_5 u_10 eu_10) (qX_DM_90 hts (by decide)) hw  hl.1 rfl (lv_room (Nat.le_of_ble_eq_true rfl)) d_XDM_run_71 hcs) hw hS (fun H locs hw hS => ?_)
        refine lv_iload_n hx hb d_XDM_run_74 rfl (lv_at hl 2 rfl) ?_
        cases hf
      · have hf := hf.trans (if_neg c_9)
        refine lv_iload_n hx hb d_XDM_run_41 rfl (lv_at hl 3 rfl) ?_
        refine lv_if_ne (tgt := 70) hx hb d_XDM_run_42 (by decide) (fun c_11 => ?_) (fun c_11 => ?_)
        · have hf := hf.trans (if_neg c_11)
          refine lv_iload_n hx hb d_XDM_run_70 rfl (lv_at hl 3 rfl) ?_
          rcases bx_invX hf with ht | ⟨u_12, eu_12, hf⟩
          · exact hprop _ _ _ _ _ _ _ (ztS (As := [.int x_5]) (rest := []) ⟨hx, hb, hml, hown, hts⟩ (cx_XDM_tell l hl9 D a k sa u_6 x_5 E U1 ht) (qxX_DM_90 hts (by decide)) hw hE hS  hl.1 rfl (lv_room (Nat.le_of_ble_eq_true rfl)) d_XDM_run_71 ⟨Nat.le_of_ble_eq_true rfl, Nat.le_of_ble_eq_true rfl⟩) hw hS
          refine z_wv' (u' := u_12) (z_runS (As := [.int x_5]) (rest := []) ⟨hx, hb, hml, hown, hts⟩ (cn_XDM_tell l D a k u_6 x_5 u_12 eu_12) (qX_DM_90 hts (by decide)) hw  hl.1 rfl (lv_room (Nat.le_of_ble_eq_true rfl)) d_XDM_run_71 hcs) hw hS (fun H locs hw hS => ?_)
          refine lv_iload_n hx hb d_XDM_run_74 rfl (lv_at hl 2 rfl) ?_
          cases hf
        · have hf := hf.trans (if_pos c_11)
          refine lv_aload_n hx hb d_XDM_run_45 rfl (lv_at hl 0 rfl) ?_
          refine va_get (v := .ref (a 1)) hx hb hts iX_DM hown hw.2.1 hw.1 0 rfl rfl 0 (by decide) (hts _ kX_DM_10) (fun _ h => h) rfl d_XDM_run_46 ?_
          refine va_getN (v := .int (xF u_6 3)) hx hb hts iX_St hown hw.2.1 hw.1 1 rfl rfl 5 (by decide) (va_Nw.use rfl (hw.2.2.2 _ kX_DM_72).2) (fun _ h => h) rfl d_XDM_run_49 ?_
          refine lv_iconst (v := (-1 : Int32)) hx hb d_XDM_run_52 (by decide) ?_
          refine lv_icmp_ne (tgt := 70) hx hb d_XDM_run_53 (by decide) (fun c_13 => ?_) (fun c_13 => ?_)
          · have hf := hf.trans (if_neg c_13)
            refine lv_iload_n hx hb d_XDM_run_70 rfl (lv_at hl 3 rfl) ?_
            rcases bx_invX hf with ht | ⟨u_14, eu_14, hf⟩
            · exact hprop _ _ _ _ _ _ _ (ztS (As := [.int x_5]) (rest := []) ⟨hx, hb, hml, hown, hts⟩ (cx_XDM_tell l hl9 D a k sa u_6 x_5 E U1 ht) (qxX_DM_90 hts (by decide)) hw hE hS  hl.1 rfl (lv_room (Nat.le_of_ble_eq_true rfl)) d_XDM_run_71 ⟨Nat.le_of_ble_eq_true rfl, Nat.le_of_ble_eq_true rfl⟩) hw hS
            refine z_wv' (u' := u_14) (z_runS (As := [.int x_5]) (rest := []) ⟨hx, hb, hml, hown, hts⟩ (cn_XDM_tell l D a k u_6 x_5 u_14 eu_14) (qX_DM_90 hts (by decide)) hw  hl.1 rfl (lv_room (Nat.le_of_ble_eq_true rfl)) d_XDM_run_71 hcs) hw hS (fun H locs hw hS => ?_)
            refine lv_iload_n hx hb d_XDM_run_74 rfl (lv_at hl 2 rfl) ?_
            cases hf
          · have hf := hf.trans (if_pos c_13)
            refine lv_aload_n hx hb d_XDM_run_56 rfl (lv_at hl 0 rfl) ?_
            refine va_get (v := .ref (a 5)) hx hb hts iX_DM hown hw.2.1 hw.1 0 rfl rfl 1 (by decide) (hts _ kX_DM_21) (fun _ h => h) rfl d_XDM_run_57 ?_
            refine z_wi (z_runV (As := []) (rest := []) ⟨hx, hb, hml, hown, hts⟩ (c_XPr_step l D a k u_6) (qX_DM_86 hts (by decide)) hw 5 rfl rfl hl.1 rfl (lv_room (Nat.le_of_ble_eq_true rfl)) d_XDM_run_60 hcs) hw hS (fun x_16 u_15 H locs ex_16 hw hS => ?_)
            have hf := hf.trans (pr_eq ex_16)
            refine lv_istore_n (lv' := [(3, .int x_16), (0, .ref (a 0)), (1, .int x1), (2, .int x_4)]) hx hb d_XDM_run_63 rfl hl (by decide) rfl (fun ls hl => ?_)
            obtain ⟨x_17, ex_17⟩ : ∃ y : Int32, y = x_4 + (1 : Int32) := ⟨_, rfl⟩
            have hf := hf.trans (nm_eq ex_17)
            refine lv_iinc (v := x_17) (lv' := [(2, .int x_17), (3, .int x_16), (0, .ref (a 0)), (1, .int x1)]) hx hb d_XDM_run_64 hl (k := 3) rfl (by rw [ex_17]; rfl) (by decide) rfl (fun ls hl => ?_)
            refine lv_goto (tgt := 36) hx hb d_XDM_run_67 (by decide) ?_
            exact hL_7 x_17 x_16 u_15 (mu_up c_9 ex_17 hn) _ _ hw hS _ (lv_sub hl [2, 3, 0, 1] rfl) hf
  · have hf := hf.trans (if_neg c_1)
    obtain ⟨rfl, rfl⟩ := Prod.mk.inj (Sum.inl.inj hf)
    exact hthr (sa := sa 5) ps_79_83 rfl hl.1 (by decide +kernel) kt_79 ki_IllegalStateException (List.mem_of_getElem? (i := 5) rfl) pg_79_83 pn_79_83 d_XDM_run_11 d_XDM_run_14 d_XDM_run_15 d_XDM_run_17 d_XDM_run_20 (Nat.le_of_ble_eq_true rfl) (Nat.le_of_ble_eq_true rfl) (Nat.le_of_ble_eq_true rfl) (Nat.le_of_ble_eq_true rfl)
def f_XDM_packed (u0 : XS) (x1 : Int32) (x2 : Int32) : Sum (String × XS) (Int64 × XS) := nm (f_XDM_isWithin u0 x2 (1 : Int32) (8 : Int32)) (fun (z_1 : Bool) => bx (f_XDM_demand u0 z_1) (fun (u_2 : XS) => bx (f_XDM_demandMemory u_2 x1 x2) (fun (u_3 : XS) => nm (f_XMe_isPacked u_3 x1 x2) (fun (z_4 : Bool) => bx (f_XDM_demand u_3 z_4) (fun (u_5 : XS) => nm (f_XMe_decimal u_5 x1 x2) (fun (y_6 : Int64) => Sum.inr (y_6, u_5)))))))
set_option maxHeartbeats 4000000 in
set_option maxRecDepth 100000 in
theorem cn_XDM_packed (l : Launch) (D : va_G) (a : Nat → Nat) (k : Nat → ClassId) (u0 : XS) (x1 : Int32) (x2 : Int32) (F : Int64 × XS) (hf : f_XDM_packed u0 x1 x2 = Sum.inr F) : zMl l y_XDM_packed w_XDM_packed rm_XDM_packed D clX (tyX k) nwX (xW a k) [.ref (a 0), .int x1, .int x2] u0 F := by
  have hf := hf.symm
  unfold f_XDM_packed at hf
  refine zMl_of (cc := b_XDM_packed) (maxL := 3) (own := RX_DM) (by decide) rfl rfl (Nat.le_of_ble_eq_true rfl) ?_
  intro p e R st m args below meth c A H locs Q ls hR hx hb hml hown hts hw hS hret hl
  subst hR
  have hcs : 0 ≤ (rm_XDM_packed).cells ∧ 0 ≤ (rm_XDM_packed).slots := ⟨Nat.zero_le _, Nat.zero_le _⟩
  have hl : lv_has ls 3 [(0, .ref (a 0)), (1, .int x1), (2, .int x2)] := hl
  refine lv_iload_n hx hb d_XDM_packed_0 rfl (lv_at hl 2 rfl) ?_
  refine lv_iconst (v := (1 : Int32)) hx hb d_XDM_packed_1 (by decide) ?_
  refine lv_bipush (v := (8 : Int32)) hx hb d_XDM_packed_2 (by decide) ?_
  refine z_rz (z_runS (As := [.int x2, .int (1 : Int32), .int (8 : Int32)]) (rest := []) ⟨hx, hb, hml, hown, hts⟩ (c_XDM_isWithin l D a k u0 x2 (1 : Int32) (8 : Int32)) (qX_DM_25 hts (by decide)) hw  hl.1 rfl (lv_room (Nat.le_of_ble_eq_true rfl)) d_XDM_packed_4 hcs) (fun z_1 ez_1 => ?_)
  have hf := hf.trans (nm_eq ez_1)
  obtain ⟨u_2, eu_2, hf⟩ := bx_inv hf
  refine z_wv' (u' := u_2) (z_runS (As := [.int (bI z_1)]) (rest := []) ⟨hx, hb, hml, hown, hts⟩ (cn_XDM_demand l D a k u0 z_1 u_2 eu_2) (qX_DM_29 hts (by decide)) hw  hl.1 rfl (lv_room (Nat.le_of_ble_eq_true rfl)) d_XDM_packed_7 hcs) hw hS (fun H locs hw hS => ?_)
  refine lv_aload_n hx hb d_XDM_packed_10 rfl (lv_at hl 0 rfl) ?_
  refine lv_iload_n hx hb d_XDM_packed_11 rfl (lv_at hl 1 rfl) ?_
  refine lv_iload_n hx hb d_XDM_packed_12 rfl (lv_at hl 2 rfl) ?_
  obtain ⟨u_3, eu_3, hf⟩ := bx_inv hf
  refine z_wv' (u' := u_3) (z_runV (As := [.int x1, .int x2]) (rest := []) ⟨hx, hb, hml, hown, hts⟩ (cn_XDM_demandMemory l D a k u_2 x1 x2 u_3 eu_3) (qX_DM_33 hts (by decide)) hw 0 rfl rfl hl.1 rfl (lv_room (Nat.le_of_ble_eq_true rfl)) d_XDM_packed_13 hcs) hw hS (fun H locs hw hS => ?_)
  refine lv_aload_n hx hb d_XDM_packed_16 rfl (lv_at hl 0 rfl) ?_
  refine va_get (v := .ref (a 1)) hx hb hts iX_DM hown hw.2.1 hw.1 0 rfl rfl 0 (by decide) (hts _ kX_DM_10) (fun _ h => h) rfl d_XDM_packed_17 ?_
  refine va_getN (v := .ref (a 2)) hx hb hts iX_St hown hw.2.1 hw.1 1 rfl rfl 0 (by decide) (va_Nw.use rfl (hw.2.2.2 _ kX_DM_37).2) (fun _ h => h) rfl d_XDM_packed_20 ?_
  refine lv_iload_n hx hb d_XDM_packed_23 rfl (lv_at hl 1 rfl) ?_
  refine lv_iload_n hx hb d_XDM_packed_24 rfl (lv_at hl 2 rfl) ?_
  refine z_rz (z_runV (As := [.int x1, .int x2]) (rest := []) ⟨hx, hb, hml, hown, hts⟩ (c_XMe_isPacked l D a k u_3 x1 x2) (qX_DM_94 hts (by decide)) hw 2 rfl rfl hl.1 rfl (lv_room (Nat.le_of_ble_eq_true rfl)) d_XDM_packed_25 hcs) (fun z_4 ez_4 => ?_)
  have hf := hf.trans (nm_eq ez_4)
  obtain ⟨u_5, eu_5, hf⟩ := bx_inv hf
  refine z_wv' (u' := u_5) (z_runS (As := [.int (bI z_4)]) (rest := []) ⟨hx, hb, hml, hown, hts⟩ (cn_XDM_demand l D a k u_3 z_4 u_5 eu_5) (qX_DM_29 hts (by decide)) hw  hl.1 rfl (lv_room (Nat.le_of_ble_eq_true rfl)) d_XDM_packed_28 hcs) hw hS (fun H locs hw hS => ?_)
  refine lv_aload_n hx hb d_XDM_packed_31 rfl (lv_at hl 0 rfl) ?_
  refine va_get (v := .ref (a 1)) hx hb hts iX_DM hown hw.2.1 hw.1 0 rfl rfl 0 (by decide) (hts _ kX_DM_10) (fun _ h => h) rfl d_XDM_packed_32 ?_
  refine va_getN (v := .ref (a 2)) hx hb hts iX_St hown hw.2.1 hw.1 1 rfl rfl 0 (by decide) (va_Nw.use rfl (hw.2.2.2 _ kX_DM_37).2) (fun _ h => h) rfl d_XDM_packed_35 ?_
  refine lv_iload_n hx hb d_XDM_packed_38 rfl (lv_at hl 1 rfl) ?_
  refine lv_iload_n hx hb d_XDM_packed_39 rfl (lv_at hl 2 rfl) ?_
  refine z_rl (z_runV (As := [.int x1, .int x2]) (rest := []) ⟨hx, hb, hml, hown, hts⟩ (c_XMe_decimal l D a k u_5 x1 x2) (qX_DM_97 hts (by decide)) hw 2 rfl rfl hl.1 rfl (lv_room (Nat.le_of_ble_eq_true rfl)) d_XDM_packed_40 hcs) (fun y_6 ey_6 => ?_)
  have hf := hf.trans (nm_eq ey_6)
  exact hret y_6 _ _ _ _ _ d_XDM_packed_43 hw hS (Sum.inr.inj hf)
set_option maxHeartbeats 4000000 in
set_option maxRecDepth 100000 in
theorem cx_XDM_packed (l : Launch) (hl9 : l.stackTraces = false) (D : va_G) (a : Nat → Nat) (k : Nat → ClassId) (sa : Nat → Nat) (u0 : XS) (x1 : Int32) (x2 : Int32) (E : String) (U1 : XS) (hf : f_XDM_packed u0 x1 x2 = Sum.inl (E, U1)) : zT l y_XDM_packed w_XDM_packed rx_XDM_packed D clX (tyX k) nwX (skX sa) (xW a k) [.ref (a 0), .int x1, .int x2] u0 E U1 := by
  have hf := hf.symm
  unfold f_XDM_packed at hf
  refine zT_of (cc := b_XDM_packed) (maxL := 3) (own := RX_DM) (by decide) rfl rfl (Nat.le_of_ble_eq_true rfl) ?_ hl9
  intro p e R st m args below meth c A H locs Q ls hR hx hb hml hown hts hw hS hE hprop hthr hl
  subst hR
  have hcs : 0 ≤ (rx_XDM_packed).cells ∧ 0 ≤ (rx_XDM_packed).slots := ⟨Nat.zero_le _, Nat.zero_le _⟩
  have hl : lv_has ls 3 [(0, .ref (a 0)), (1, .int x1), (2, .int x2)] := hl
  refine lv_iload_n hx hb d_XDM_packed_0 rfl (lv_at hl 2 rfl) ?_
  refine lv_iconst (v := (1 : Int32)) hx hb d_XDM_packed_1 (by decide) ?_
  refine lv_bipush (v := (8 : Int32)) hx hb d_XDM_packed_2 (by decide) ?_
  refine z_rz (z_runS (As := [.int x2, .int (1 : Int32), .int (8 : Int32)]) (rest := []) ⟨hx, hb, hml, hown, hts⟩ (c_XDM_isWithin l D a k u0 x2 (1 : Int32) (8 : Int32)) (qX_DM_25 hts (by decide)) hw  hl.1 rfl (lv_room (Nat.le_of_ble_eq_true rfl)) d_XDM_packed_4 hcs) (fun z_1 ez_1 => ?_)
  have hf := hf.trans (nm_eq ez_1)
  rcases bx_invX hf with ht | ⟨u_2, eu_2, hf⟩
  · exact hprop _ _ _ _ _ _ _ (ztS (As := [.int (bI z_1)]) (rest := []) ⟨hx, hb, hml, hown, hts⟩ (cx_XDM_demand l hl9 D a k sa u0 z_1 E U1 ht) (qxX_DM_29 hts (by decide)) hw hE hS  hl.1 rfl (lv_room (Nat.le_of_ble_eq_true rfl)) d_XDM_packed_7 ⟨Nat.le_of_ble_eq_true rfl, Nat.le_of_ble_eq_true rfl⟩) hw hS
  refine z_wv' (u' := u_2) (z_runS (As := [.int (bI z_1)]) (rest := []) ⟨hx, hb, hml, hown, hts⟩ (cn_XDM_demand l D a k u0 z_1 u_2 eu_2) (qX_DM_29 hts (by decide)) hw  hl.1 rfl (lv_room (Nat.le_of_ble_eq_true rfl)) d_XDM_packed_7 hcs) hw hS (fun H locs hw hS => ?_)
  refine lv_aload_n hx hb d_XDM_packed_10 rfl (lv_at hl 0 rfl) ?_
  refine lv_iload_n hx hb d_XDM_packed_11 rfl (lv_at hl 1 rfl) ?_
  refine lv_iload_n hx hb d_XDM_packed_12 rfl (lv_at hl 2 rfl) ?_
  rcases bx_invX hf with ht | ⟨u_3, eu_3, hf⟩
  · exact hprop _ _ _ _ _ _ _ (ztV (As := [.int x1, .int x2]) (rest := []) ⟨hx, hb, hml, hown, hts⟩ (cx_XDM_demandMemory l hl9 D a k sa u_2 x1 x2 E U1 ht) (qxX_DM_33 hts (by decide)) hw hE hS 0 rfl rfl hl.1 rfl (lv_room (Nat.le_of_ble_eq_true rfl)) d_XDM_packed_13 ⟨Nat.le_of_ble_eq_true rfl, Nat.le_of_ble_eq_true rfl⟩) hw hS
  refine z_wv' (u' := u_3) (z_runV (As := [.int x1, .int x2]) (rest := []) ⟨hx, hb, hml, hown, hts⟩ (cn_XDM_demandMemory l D a k u_2 x1 x2 u_3 eu_3) (qX_DM_33 hts (by decide)) hw 0 rfl rfl hl.1 rfl (lv_room (Nat.le_of_ble_eq_true rfl)) d_XDM_packed_13 hcs) hw hS (fun H locs hw hS => ?_)
  refine lv_aload_n hx hb d_XDM_packed_16 rfl (lv_at hl 0 rfl) ?_
  refine va_get (v := .ref (a 1)) hx hb hts iX_DM hown hw.2.1 hw.1 0 rfl rfl 0 (by decide) (hts _ kX_DM_10) (fun _ h => h) rfl d_XDM_packed_17 ?_
  refine va_getN (v := .ref (a 2)) hx hb hts iX_St hown hw.2.1 hw.1 1 rfl rfl 0 (by decide) (va_Nw.use rfl (hw.2.2.2 _ kX_DM_37).2) (fun _ h => h) rfl d_XDM_packed_20 ?_
  refine lv_iload_n hx hb d_XDM_packed_23 rfl (lv_at hl 1 rfl) ?_
  refine lv_iload_n hx hb d_XDM_packed_24 rfl (lv_at hl 2 rfl) ?_
  refine z_rz (z_runV (As := [.int x1, .int x2]) (rest := []) ⟨hx, hb, hml, hown, hts⟩ (c_XMe_isPacked l D a k u_3 x1 x2) (qX_DM_94 hts (by decide)) hw 2 rfl rfl hl.1 rfl (lv_room (Nat.le_of_ble_eq_true rfl)) d_XDM_packed_25 hcs) (fun z_4 ez_4 => ?_)
  have hf := hf.trans (nm_eq ez_4)
  rcases bx_invX hf with ht | ⟨u_5, eu_5, hf⟩
  · exact hprop _ _ _ _ _ _ _ (ztS (As := [.int (bI z_4)]) (rest := []) ⟨hx, hb, hml, hown, hts⟩ (cx_XDM_demand l hl9 D a k sa u_3 z_4 E U1 ht) (qxX_DM_29 hts (by decide)) hw hE hS  hl.1 rfl (lv_room (Nat.le_of_ble_eq_true rfl)) d_XDM_packed_28 ⟨Nat.le_of_ble_eq_true rfl, Nat.le_of_ble_eq_true rfl⟩) hw hS
  refine z_wv' (u' := u_5) (z_runS (As := [.int (bI z_4)]) (rest := []) ⟨hx, hb, hml, hown, hts⟩ (cn_XDM_demand l D a k u_3 z_4 u_5 eu_5) (qX_DM_29 hts (by decide)) hw  hl.1 rfl (lv_room (Nat.le_of_ble_eq_true rfl)) d_XDM_packed_28 hcs) hw hS (fun H locs hw hS => ?_)
  refine lv_aload_n hx hb d_XDM_packed_31 rfl (lv_at hl 0 rfl) ?_
  refine va_get (v := .ref (a 1)) hx hb hts iX_DM hown hw.2.1 hw.1 0 rfl rfl 0 (by decide) (hts _ kX_DM_10) (fun _ h => h) rfl d_XDM_packed_32 ?_
  refine va_getN (v := .ref (a 2)) hx hb hts iX_St hown hw.2.1 hw.1 1 rfl rfl 0 (by decide) (va_Nw.use rfl (hw.2.2.2 _ kX_DM_37).2) (fun _ h => h) rfl d_XDM_packed_35 ?_
  refine lv_iload_n hx hb d_XDM_packed_38 rfl (lv_at hl 1 rfl) ?_
  refine lv_iload_n hx hb d_XDM_packed_39 rfl (lv_at hl 2 rfl) ?_
  refine z_rl (z_runV (As := [.int x1, .int x2]) (rest := []) ⟨hx, hb, hml, hown, hts⟩ (c_XMe_decimal l D a k u_5 x1 x2) (qX_DM_97 hts (by decide)) hw 2 rfl rfl hl.1 rfl (lv_room (Nat.le_of_ble_eq_true rfl)) d_XDM_packed_40 hcs) (fun y_6 ey_6 => ?_)
  have hf := hf.trans (nm_eq ey_6)
  cases hf
def f_XDM_count (u0 : XS) (x1 : Int32) : Sum (String × XS) (Int32 × XS) := nm (f_XDM_isWithin u0 x1 (0 : Int32) (6 : Int32)) (fun (z_1 : Bool) => bx (f_XDM_demand u0 z_1) (fun (u_2 : XS) => if x1 = (0 : Int32) then Sum.inr (xF u_2 0, u_2) else if x1 = (1 : Int32) then Sum.inr (xF u_2 1, u_2) else if x1 = (2 : Int32) then Sum.inr (xF u_2 2, u_2) else if x1 = (3 : Int32) then Sum.inr (xF u_2 3, u_2) else if x1 = (4 : Int32) then Sum.inr (xF u_2 11, u_2) else if x1 = (5 : Int32) then Sum.inr (xF u_2 12, u_2) else Sum.inr (xF u_2 13, u_2)))
set_option maxHeartbeats 4000000 in
set_option maxRecDepth 100000 in
theorem cn_XDM_count (l : Launch) (D : va_G) (a : Nat → Nat) (k : Nat → ClassId) (u0 : XS) (x1 : Int32) (F : Int32 × XS) (hf : f_XDM_count u0 x1 = Sum.inr F) : zMi l y_XDM_count w_XDM_count rm_XDM_count D clX (tyX k) nwX (xW a k) [.ref (a 0), .int x1] u0 F := by
  have hf := hf.symm
  unfold f_XDM_count at hf
  refine zMi_of (cc := b_XDM_count) (maxL := 2) (own := RX_DM) (by decide) rfl rfl (Nat.le_of_ble_eq_true rfl) ?_
  intro p e R st m args below meth c A H locs Q ls hR hx hb hml hown hts hw hS hret hl
  subst hR
  have hcs : 0 ≤ (rm_XDM_count).cells ∧ 0 ≤ (rm_XDM_count).slots := ⟨Nat.zero_le _, Nat.zero_le _⟩
  have hl : lv_has ls 2 [(0, .ref (a 0)), (1, .int x1)] := hl
  refine lv_iload_n hx hb d_XDM_count_0 rfl (lv_at hl 1 rfl) ?_
  refine lv_iconst (v := (0 : Int32)) hx hb d_XDM_count_1 (by decide) ?_
  refine lv_bipush (v := (6 : Int32)) hx hb d_XDM_count_2 (by decide) ?_
  refine z_rz (z_runS (As := [.int x1, .int (0 : Int32), .int (6 : Int32)]) (rest := []) ⟨hx, hb, hml, hown, hts⟩ (c_XDM_isWithin l D a k u0 x1 (0 : Int32) (6 : Int32)) (qX_DM_25 hts (by decide)) hw  hl.1 rfl (lv_room (Nat.le_of_ble_eq_true rfl)) d_XDM_count_4 hcs) (fun z_1 ez_1 => ?_)
  have hf := hf.trans (nm_eq ez_1)
  obtain ⟨u_2, eu_2, hf⟩ := bx_inv hf
  refine z_wv' (u' := u_2) (z_runS (As := [.int (bI z_1)]) (rest := []) ⟨hx, hb, hml, hown, hts⟩ (cn_XDM_demand l D a k u0 z_1 u_2 eu_2) (qX_DM_29 hts (by decide)) hw  hl.1 rfl (lv_room (Nat.le_of_ble_eq_true rfl)) d_XDM_count_7 hcs) hw hS (fun H locs hw hS => ?_)
  refine lv_iload_n hx hb d_XDM_count_10 rfl (lv_at hl 1 rfl) ?_
  by_cases c_3 : x1 = (0 : Int32)
  · have hf := hf.trans (if_pos c_3)
    refine lv_tableIn (off := 37) (tgt := 48) hx hb d_XDM_count_11 (by rw [c_3]; decide +kernel) (by rw [c_3]; decide +kernel) (by rw [c_3]; decide +kernel) (by decide) ?_
    refine lv_aload_n hx hb d_XDM_count_48 rfl (lv_at hl 0 rfl) ?_
    refine va_get (v := .ref (a 1)) hx hb hts iX_DM hown hw.2.1 hw.1 0 rfl rfl 0 (by decide) (hts _ kX_DM_10) (fun _ h => h) rfl d_XDM_count_49 ?_
    refine va_getN (v := .int (xF u_2 0)) hx hb hts iX_St hown hw.2.1 hw.1 1 rfl rfl 2 (by decide) (va_Nw.use rfl (hw.2.2.2 _ kX_DM_62).2) (fun _ h => h) rfl d_XDM_count_52 ?_
    exact hret (xF u_2 0) _ _ _ _ _ d_XDM_count_55 hw hS (Sum.inr.inj hf)
  have hf := hf.trans (if_neg c_3)
  by_cases c_4 : x1 = (1 : Int32)
  · have hf := hf.trans (if_pos c_4)
    refine lv_tableIn (off := 45) (tgt := 56) hx hb d_XDM_count_11 (by rw [c_4]; decide +kernel) (by rw [c_4]; decide +kernel) (by rw [c_4]; decide +kernel) (by decide) ?_
    refine lv_aload_n hx hb d_XDM_count_56 rfl (lv_at hl 0 rfl) ?_
    refine va_get (v := .ref (a 1)) hx hb hts iX_DM hown hw.2.1 hw.1 0 rfl rfl 0 (by decide) (hts _ kX_DM_10) (fun _ h => h) rfl d_XDM_count_57 ?_
    refine va_getN (v := .int (xF u_2 1)) hx hb hts iX_St hown hw.2.1 hw.1 1 rfl rfl 3 (by decide) (va_Nw.use rfl (hw.2.2.2 _ kX_DM_69).2) (fun _ h => h) rfl d_XDM_count_60 ?_
    exact hret (xF u_2 1) _ _ _ _ _ d_XDM_count_63 hw hS (Sum.inr.inj hf)
  have hf := hf.trans (if_neg c_4)
  by_cases c_5 : x1 = (2 : Int32)
  · have hf := hf.trans (if_pos c_5)
    refine lv_tableIn (off := 53) (tgt := 64) hx hb d_XDM_count_11 (by rw [c_5]; decide +kernel) (by rw [c_5]; decide +kernel) (by rw [c_5]; decide +kernel) (by decide) ?_
    refine lv_aload_n hx hb d_XDM_count_64 rfl (lv_at hl 0 rfl) ?_
    refine va_get (v := .ref (a 1)) hx hb hts iX_DM hown hw.2.1 hw.1 0 rfl rfl 0 (by decide) (hts _ kX_DM_10) (fun _ h => h) rfl d_XDM_count_65 ?_
    refine va_getN (v := .int (xF u_2 2)) hx hb hts iX_St hown hw.2.1 hw.1 1 rfl rfl 4 (by decide) (va_Nw.use rfl (hw.2.2.2 _ kX_DM_66).2) (fun _ h => h) rfl d_XDM_count_68 ?_
    exact hret (xF u_2 2) _ _ _ _ _ d_XDM_count_71 hw hS (Sum.inr.inj hf)
  have hf := hf.trans (if_neg c_5)
  by_cases c_6 : x1 = (3 : Int32)
  · have hf := hf.trans (if_pos c_6)
    refine lv_tableIn (off := 61) (tgt := 72) hx hb d_XDM_count_11 (by rw [c_6]; decide +kernel) (by rw [c_6]; decide +kernel) (by rw [c_6]; decide +kernel) (by decide) ?_
    refine lv_aload_n hx hb d_XDM_count_72 rfl (lv_at hl 0 rfl) ?_
    refine va_get (v := .ref (a 1)) hx hb hts iX_DM hown hw.2.1 hw.1 0 rfl rfl 0 (by decide) (hts _ kX_DM_10) (fun _ h => h) rfl d_XDM_count_73 ?_
    refine va_getN (v := .int (xF u_2 3)) hx hb hts iX_St hown hw.2.1 hw.1 1 rfl rfl 5 (by decide) (va_Nw.use rfl (hw.2.2.2 _ kX_DM_72).2) (fun _ h => h) rfl d_XDM_count_76 ?_
    exact hret (xF u_2 3) _ _ _ _ _ d_XDM_count_79 hw hS (Sum.inr.inj hf)
  have hf := hf.trans (if_neg c_6)
  by_cases c_7 : x1 = (4 : Int32)
  · have hf := hf.trans (if_pos c_7)
    refine lv_tableIn (off := 69) (tgt := 80) hx hb d_XDM_count_11 (by rw [c_7]; decide +kernel) (by rw [c_7]; decide +kernel) (by rw [c_7]; decide +kernel) (by decide) ?_
    refine lv_aload_n hx hb d_XDM_count_80 rfl (lv_at hl 0 rfl) ?_
    refine va_get (v := .ref (a 5)) hx hb hts iX_DM hown hw.2.1 hw.1 0 rfl rfl 1 (by decide) (hts _ kX_DM_21) (fun _ h => h) rfl d_XDM_count_81 ?_
    refine va_getN (v := .int (xF u_2 11)) hx hb hts iX_Pr hown hw.2.1 hw.1 5 rfl rfl 7 (by decide) (va_Nw.use rfl (hw.2.2.2 _ kX_DM_101).2) (fun _ h => h) rfl d_XDM_count_84 ?_
    exact hret (xF u_2 11) _ _ _ _ _ d_XDM_count_87 hw hS (Sum.inr.inj hf)
  have hf := hf.trans (if_neg c_7)
  by_cases c_8 : x1 = (5 : Int32)
  · have hf := hf.trans (if_pos c_8)
    refine lv_tableIn (off := 77) (tgt := 88) hx hb d_XDM_count_11 (by rw [c_8]; decide +kernel) (by rw [c_8]; decide +kernel) (by rw [c_8]; decide +kernel) (by decide) ?_
    refine lv_aload_n hx hb d_XDM_count_88 rfl (lv_at hl 0 rfl) ?_
    refine va_get (v := .ref (a 5)) hx hb hts iX_DM hown hw.2.1 hw.1 0 rfl rfl 1 (by decide) (hts _ kX_DM_21) (fun _ h => h) rfl d_XDM_count_89 ?_
    refine va_getN (v := .int (xF u_2 12)) hx hb hts iX_Pr hown hw.2.1 hw.1 5 rfl rfl 8 (by decide) (va_Nw.use rfl (hw.2.2.2 _ kX_DM_104).2) (fun _ h => h) rfl d_XDM_count_92 ?_
    exact hret (xF u_2 12) _ _ _ _ _ d_XDM_count_95 hw hS (Sum.inr.inj hf)
  have hf := hf.trans (if_neg c_8)
  refine lv_tableOut (tgt := 96) hx hb d_XDM_count_11 (by have := lv_neT c_3 (a := 0) (by decide +kernel); have := lv_neT c_4 (a := 1) (by decide +kernel); have := lv_neT c_5 (a := 2) (by decide +kernel); have := lv_neT c_6 (a := 3) (by decide +kernel); have := lv_neT c_7 (a := 4) (by decide +kernel); have := lv_neT c_8 (a := 5) (by decide +kernel); omega) (by decide) ?_
  refine lv_aload_n hx hb d_XDM_count_96 rfl (lv_at hl 0 rfl) ?_
  refine va_get (v := .ref (a 5)) hx hb hts iX_DM hown hw.2.1 hw.1 0 rfl rfl 1 (by decide) (hts _ kX_DM_21) (fun _ h => h) rfl d_XDM_count_97 ?_
  refine va_getN (v := .int (xF u_2 13)) hx hb hts iX_Pr hown hw.2.1 hw.1 5 rfl rfl 9 (by decide) (va_Nw.use rfl (hw.2.2.2 _ kX_DM_107).2) (fun _ h => h) rfl d_XDM_count_100 ?_
  exact hret (xF u_2 13) _ _ _ _ _ d_XDM_count_103 hw hS (Sum.inr.inj hf)
set_option maxHeartbeats 4000000 in
set_option maxRecDepth 100000 in
theorem cx_XDM_count (l : Launch) (hl9 : l.stackTraces = false) (D : va_G) (a : Nat → Nat) (k : Nat → ClassId) (sa : Nat → Nat) (u0 : XS) (x1 : Int32) (E : String) (U1 : XS) (hf : f_XDM_count u0 x1 = Sum.inl (E, U1)) : zT l y_XDM_count w_XDM_count rx_XDM_count D clX (tyX k) nwX (skX sa) (xW a k) [.ref (a 0), .int x1] u0 E U1 := by
  have hf := hf.symm
  unfold f_XDM_count at hf
  refine zT_of (cc := b_XDM_count) (maxL := 2) (own := RX_DM) (by decide) rfl rfl (Nat.le_of_ble_eq_true rfl) ?_ hl9
  intro p e R st m args below meth c A H locs Q ls hR hx hb hml hown hts hw hS hE hprop hthr hl
  subst hR
  have hcs : 0 ≤ (rx_XDM_count).cells ∧ 0 ≤ (rx_XDM_count).slots := ⟨Nat.zero_le _, Nat.zero_le _⟩
  have hl : lv_has ls 2 [(0, .ref (a 0)), (1, .int x1)] := hl
  refine lv_iload_n hx hb d_XDM_count_0 rfl (lv_at hl 1 rfl) ?_
  refine lv_iconst (v := (0 : Int32)) hx hb d_XDM_count_1 (by decide) ?_
  refine lv_bipush (v := (6 : Int32)) hx hb d_XDM_count_2 (by decide) ?_
  refine z_rz (z_runS (As := [.int x1, .int (0 : Int32), .int (6 : Int32)]) (rest := []) ⟨hx, hb, hml, hown, hts⟩ (c_XDM_isWithin l D a k u0 x1 (0 : Int32) (6 : Int32)) (qX_DM_25 hts (by decide)) hw  hl.1 rfl (lv_room (Nat.le_of_ble_eq_true rfl)) d_XDM_count_4 hcs) (fun z_1 ez_1 => ?_)
  have hf := hf.trans (nm_eq ez_1)
  rcases bx_invX hf with ht | ⟨u_2, eu_2, hf⟩
  · exact hprop _ _ _ _ _ _ _ (ztS (As := [.int (bI z_1)]) (rest := []) ⟨hx, hb, hml, hown, hts⟩ (cx_XDM_demand l hl9 D a k sa u0 z_1 E U1 ht) (qxX_DM_29 hts (by decide)) hw hE hS  hl.1 rfl (lv_room (Nat.le_of_ble_eq_true rfl)) d_XDM_count_7 ⟨Nat.le_of_ble_eq_true rfl, Nat.le_of_ble_eq_true rfl⟩) hw hS
  refine z_wv' (u' := u_2) (z_runS (As := [.int (bI z_1)]) (rest := []) ⟨hx, hb, hml, hown, hts⟩ (cn_XDM_demand l D a k u0 z_1 u_2 eu_2) (qX_DM_29 hts (by decide)) hw  hl.1 rfl (lv_room (Nat.le_of_ble_eq_true rfl)) d_XDM_count_7 hcs) hw hS (fun H locs hw hS => ?_)
  refine lv_iload_n hx hb d_XDM_count_10 rfl (lv_at hl 1 rfl) ?_
  by_cases c_3 : x1 = (0 : Int32)
  · have hf := hf.trans (if_pos c_3)
    refine lv_tableIn (off := 37) (tgt := 48) hx hb d_XDM_count_11 (by rw [c_3]; decide +kernel) (by rw [c_3]; decide +kernel) (by rw [c_3]; decide +kernel) (by decide) ?_
    refine lv_aload_n hx hb d_XDM_count_48 rfl (lv_at hl 0 rfl) ?_
    refine va_get (v := .ref (a 1)) hx hb hts iX_DM hown hw.2.1 hw.1 0 rfl rfl 0 (by decide) (hts _ kX_DM_10) (fun _ h => h) rfl d_XDM_count_49 ?_
    refine va_getN (v := .int (xF u_2 0)) hx hb hts iX_St hown hw.2.1 hw.1 1 rfl rfl 2 (by decide) (va_Nw.use rfl (hw.2.2.2 _ kX_DM_62).2) (fun _ h => h) rfl d_XDM_count_52 ?_
    cases hf
  have hf := hf.trans (if_neg c_3)
  by_cases c_4 : x1 = (1 : Int32)
  · have hf := hf.trans (if_pos c_4)
    refine lv_tableIn (off := 45) (tgt := 56) hx hb d_XDM_count_11 (by rw [c_4]; decide +kernel) (by rw [c_4]; decide +kernel) (by rw [c_4]; decide +kernel) (by decide) ?_
    refine lv_aload_n hx hb d_XDM_count_56 rfl (lv_at hl 0 rfl) ?_
    refine va_get (v := .ref (a 1)) hx hb hts iX_DM hown hw.2.1 hw.1 0 rfl rfl 0 (by decide) (hts _ kX_DM_10) (fun _ h => h) rfl d_XDM_count_57 ?_
    refine va_getN (v := .int (xF u_2 1)) hx hb hts iX_St hown hw.2.1 hw.1 1 rfl rfl 3 (by decide) (va_Nw.use rfl (hw.2.2.2 _ kX_DM_69).2) (fun _ h => h) rfl d_XDM_count_60 ?_
    cases hf
  have hf := hf.trans (if_neg c_4)
  by_cases c_5 : x1 = (2 : Int32)
  · have hf := hf.trans (if_pos c_5)
    refine lv_tableIn (off := 53) (tgt := 64) hx hb d_XDM_count_11 (by rw [c_5]; decide +kernel) (by rw [c_5]; decide +kernel) (by rw [c_5]; decide +kernel) (by decide) ?_
    refine lv_aload_n hx hb d_XDM_count_64 rfl (lv_at hl 0 rfl) ?_
    refine va_get (v := .ref (a 1)) hx hb hts iX_DM hown hw.2.1 hw.1 0 rfl rfl 0 (by decide) (hts _ kX_DM_10) (fun _ h => h) rfl d_XDM_count_65 ?_
    refine va_getN (v := .int (xF u_2 2)) hx hb hts iX_St hown hw.2.1 hw.1 1 rfl rfl 4 (by decide) (va_Nw.use rfl (hw.2.2.2 _ kX_DM_66).2) (fun _ h => h) rfl d_XDM_count_68 ?_
    cases hf
  have hf := hf.trans (if_neg c_5)
  by_cases c_6 : x1 = (3 : Int32)
  · have hf := hf.trans (if_pos c_6)
    refine lv_tableIn (off := 61) (tgt := 72) hx hb d_XDM_count_11 (by rw [c_6]; decide +kernel) (by rw [c_6]; decide +kernel) (by rw [c_6]; decide +kernel) (by decide) ?_
    refine lv_aload_n hx hb d_XDM_count_72 rfl (lv_at hl 0 rfl) ?_
    refine va_get (v := .ref (a 1)) hx hb hts iX_DM hown hw.2.1 hw.1 0 rfl rfl 0 (by decide) (hts _ kX_DM_10) (fun _ h => h) rfl d_XDM_count_73 ?_
    refine va_getN (v := .int (xF u_2 3)) hx hb hts iX_St hown hw.2.1 hw.1 1 rfl rfl 5 (by decide) (va_Nw.use rfl (hw.2.2.2 _ kX_DM_72).2) (fun _ h => h) rfl d_XDM_count_76 ?_
    cases hf
  have hf := hf.trans (if_neg c_6)
  by_cases c_7 : x1 = (4 : Int32)
  · have hf := hf.trans (if_pos c_7)
    refine lv_tableIn (off := 69) (tgt := 80) hx hb d_XDM_count_11 (by rw [c_7]; decide +kernel) (by rw [c_7]; decide +kernel) (by rw [c_7]; decide +kernel) (by decide) ?_
    refine lv_aload_n hx hb d_XDM_count_80 rfl (lv_at hl 0 rfl) ?_
    refine va_get (v := .ref (a 5)) hx hb hts iX_DM hown hw.2.1 hw.1 0 rfl rfl 1 (by decide) (hts _ kX_DM_21) (fun _ h => h) rfl d_XDM_count_81 ?_
    refine va_getN (v := .int (xF u_2 11)) hx hb hts iX_Pr hown hw.2.1 hw.1 5 rfl rfl 7 (by decide) (va_Nw.use rfl (hw.2.2.2 _ kX_DM_101).2) (fun _ h => h) rfl d_XDM_count_84 ?_
    cases hf
  have hf := hf.trans (if_neg c_7)
  by_cases c_8 : x1 = (5 : Int32)
  · have hf := hf.trans (if_pos c_8)
    refine lv_tableIn (off := 77) (tgt := 88) hx hb d_XDM_count_11 (by rw [c_8]; decide +kernel) (by rw [c_8]; decide +kernel) (by rw [c_8]; decide +kernel) (by decide) ?_
    refine lv_aload_n hx hb d_XDM_count_88 rfl (lv_at hl 0 rfl) ?_
    refine va_get (v := .ref (a 5)) hx hb hts iX_DM hown hw.2.1 hw.1 0 rfl rfl 1 (by decide) (hts _ kX_DM_21) (fun _ h => h) rfl d_XDM_count_89 ?_
    refine va_getN (v := .int (xF u_2 12)) hx hb hts iX_Pr hown hw.2.1 hw.1 5 rfl rfl 8 (by decide) (va_Nw.use rfl (hw.2.2.2 _ kX_DM_104).2) (fun _ h => h) rfl d_XDM_count_92 ?_
    cases hf
  have hf := hf.trans (if_neg c_8)
  refine lv_tableOut (tgt := 96) hx hb d_XDM_count_11 (by have := lv_neT c_3 (a := 0) (by decide +kernel); have := lv_neT c_4 (a := 1) (by decide +kernel); have := lv_neT c_5 (a := 2) (by decide +kernel); have := lv_neT c_6 (a := 3) (by decide +kernel); have := lv_neT c_7 (a := 4) (by decide +kernel); have := lv_neT c_8 (a := 5) (by decide +kernel); omega) (by decide) ?_
  refine lv_aload_n hx hb d_XDM_count_96 rfl (lv_at hl 0 rfl) ?_
  refine va_get (v := .ref (a 5)) hx hb hts iX_DM hown hw.2.1 hw.1 0 rfl rfl 1 (by decide) (hts _ kX_DM_21) (fun _ h => h) rfl d_XDM_count_97 ?_
  refine va_getN (v := .int (xF u_2 13)) hx hb hts iX_Pr hown hw.2.1 hw.1 5 rfl rfl 9 (by decide) (va_Nw.use rfl (hw.2.2.2 _ kX_DM_107).2) (fun _ h => h) rfl d_XDM_count_100 ?_
  cases hf
