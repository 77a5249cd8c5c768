def g_XMe_store_8 (x1 : Int32) (L_5 : Int64 → Int32 → XS → XS) : Int64 → Int32 → XS → XS := fun y_2 x_3 u_4 => if x_3 < (0 : Int32) then u_4 else nm (f_XMe_put u_4 (x1 + x_3) (Int64.toInt32 (y_2 &&& (255 : Int64)))) (fun (u_8 : XS) => nm (y_2 >>> (Int32.toInt64 (8 : Int32) &&& 63)) (fun (y_9 : Int64) => nm (x_3 + (-1 : Int32)) (fun (x_10 : Int32) => L_5 y_9 x_10 u_8)))
def f_XMe_store (u0 : XS) (x1 : Int32) (x2 : Int32) (y3 : Int64) : XS := nm (x2 - (1 : Int32)) (fun (x_1 : Int32) => lpN ((Int32.toInt x_1 + 1).toNat + 1) (g_XMe_store_8 x1) (fun _ _ _ => default) y3 x_1 u0)
set_option maxHeartbeats 4000000 in
set_option maxRecDepth 100000 in
theorem c_XMe_store (l : Launch) (D : va_G) (a : Nat → Nat) (k : Nat → ClassId) (u0 : XS) (x1 : Int32) (x2 : Int32) (y3 : Int64) : zMv l y_XMe_store w_XMe_store rm_XMe_store D clX (tyX k) nwX (xW a k) [.ref (a 2), .int x1, .int x2, .long y3] u0 (f_XMe_store u0 x1 x2 y3) := by
  generalize hF : f_XMe_store u0 x1 x2 y3 = F
  have hf := hF.symm
  unfold f_XMe_store at hf
  refine zMv_of (cc := b_XMe_store) (maxL := 8) (own := RX_Me) (by decide) rfl rfl (Nat.le_of_ble_eq_true rfl) ?_
  intro p e R st m args below meth c A H locs Q ls hR hx hb hml hown hts hw hS hret hl
  subst hR
  have hcs : 0 ≤ (rm_XMe_store).cells ∧ 0 ≤ (rm_XMe_store).slots := ⟨Nat.zero_le _, Nat.zero_le _⟩
  have hl : lv_has ls 8 [(0, .ref (a 2)), (1, .int x1), (2, .int x2), (3, .long y3)] := hl
  refine lv_lload_n hx hb d_XMe_store_0 rfl (lv_at hl 3 rfl) ?_
  refine lv_lstore (lv' := [(5, .long y3), (0, .ref (a 2)), (1, .int x1), (2, .int x2), (3, .long y3)]) hx hb d_XMe_store_1 hl (by decide) rfl (fun ls hl => ?_)
  refine lv_iload_n hx hb d_XMe_store_3 rfl (lv_at hl 3 rfl) ?_
  refine lv_iconst (v := (1 : Int32)) hx hb d_XMe_store_4 (by decide) ?_
  refine lv_isub hx hb d_XMe_store_5 ?_
  refine lv_topi (fun x_1 ex_1 => ?_)
  have hf := hf.trans (nm_eq ex_1)
  refine lv_istore (lv' := [(7, .int x_1), (5, .long y3), (0, .ref (a 2)), (1, .int x1), (2, .int x2), (3, .long y3)]) hx hb d_XMe_store_6 hl (by decide) rfl (fun ls hl => ?_)
  refine lp_cut (fun (n_6 : Nat) (L_5 : Int64 → Int32 → XS → XS) => ∀ (y_2 : Int64) (x_3 : Int32) (u_4 : XS), (Int32.toInt x_3 + 1).toNat < n_6 → ∀ (H : Heap) (locs : List Loc), zW D clX (tyX k) nwX (xW a k) A st u_4 H → va_S A st.heap H locs → ∀ (ls : Array Slot), lv_has ls 8 [(0, .ref (a 2)), (1, .int x1), (5, .long y_2), (7, .int x_3)] → F = L_5 y_2 x_3 u_4 → W p l e rm_XMe_store st m args below meth c H locs 0 0 Q (F0 m 8 ls [])) ?_ ?_ ((Int32.toInt x_1 + 1).toNat + 1) y3 x_1 u0 (Nat.lt_succ_self _) _ _ hw hS _ (lv_sub hl [2, 3, 1, 0] rfl) hf
  · intro y_2 x_3 u_4 hn; exact absurd hn (Nat.not_lt_zero _)
  · intro n_6 L_5 hL_5 y_2 x_3 u_4 hn H locs hw hS ls hl hf
    unfold g_XMe_store_8 at hf
    refine lv_iload hx hb d_XMe_store_8 (lv_at hl 3 rfl) ?_
    refine lv_if_lt (tgt := 41) hx hb d_XMe_store_10 (by decide) (fun c_7 => ?_) (fun c_7 => ?_)
    · have hf := hf.trans (if_pos c_7)
      exact hret _ _ _ _ _ d_XMe_store_41 hw hS hf
    · have hf := hf.trans (if_neg c_7)
      refine lv_aload_n hx hb d_XMe_store_13 rfl (lv_at hl 0 rfl) ?_
      refine lv_iload_n hx hb d_XMe_store_14 rfl (lv_at hl 1 rfl) ?_
      refine lv_iload hx hb d_XMe_store_15 (lv_at hl 3 rfl) ?_
      refine lv_iadd hx hb d_XMe_store_17 ?_
      refine lv_lload hx hb d_XMe_store_18 (lv_at hl 2 rfl) ?_
      refine lv_ldc2 (v := (255 : Int64)) hx hb hown (hts _ kX_Me_23) d_XMe_store_20 ?_
      refine lv_land hx hb d_XMe_store_23 ?_
      refine lv_l2i (v := Int64.toInt32 (y_2 &&& (255 : Int64))) hx hb d_XMe_store_24 rfl ?_
      refine z_wv (z_runV (As := [.int (x1 + x_3), .int (Int64.toInt32 (y_2 &&& (255 : Int64)))]) (rest := []) ⟨hx, hb, hml, hown, hts⟩ (c_XMe_put l D a k u_4 (x1 + x_3) (Int64.toInt32 (y_2 &&& (255 : Int64)))) (qX_Me_25 hts (by decide)) hw 2 rfl rfl hl.1 rfl (lv_room (Nat.le_of_ble_eq_true rfl)) d_XMe_store_25 hcs) hw hS (fun u_8 H locs eu_8 hw hS => ?_)
      have hf := hf.trans (nm_eq eu_8)
      refine lv_lload hx hb d_XMe_store_28 (lv_at hl 2 rfl) ?_
      refine lv_bipush (v := (8 : Int32)) hx hb d_XMe_store_30 (by decide) ?_
      refine lv_lshr (v := y_2 >>> (Int32.toInt64 (8 : Int32) &&& 63)) hx hb d_XMe_store_32 rfl ?_
      refine lv_topl (fun y_9 ey_9 => ?_)
      have hf := hf.trans (nm_eq ey_9)
      refine lv_lstore (lv' := [(5, .long y_9), (0, .ref (a 2)), (1, .int x1), (7, .int x_3)]) hx hb d_XMe_store_33 hl (by decide) rfl (fun ls hl => ?_)
      obtain ⟨x_10, ex_10⟩ : ∃ y : Int32, y = x_3 + (-1 : Int32) := ⟨_, rfl⟩
      have hf := hf.trans (nm_eq ex_10)
      refine lv_iinc (v := x_10) (lv' := [(7, .int x_10), (5, .long y_9), (0, .ref (a 2)), (1, .int x1)]) hx hb d_XMe_store_35 hl (k := 3) rfl (by rw [ex_10]; rfl) (by decide) rfl (fun ls hl => ?_)
      refine lv_goto (tgt := 8) hx hb d_XMe_store_38 (by decide) ?_
      exact hL_5 y_9 x_10 u_8 (mu_dn c_7 ex_10 hn) _ _ hw hS _ (lv_sub hl [2, 3, 1, 0] rfl) hf
