def f_XAr_lacksPair (u0 : XS) (x0 : Int32) (x1 : Int32) : Bool := jn (fun (K_1 : Bool) => if x0 = (28 : Int32) then K_1 else if x0 = (29 : Int32) then K_1 else false) (if (x1 &&& (1 : Int32)) = (0 : Int32) then false else true)
set_option maxHeartbeats 4000000 in
set_option maxRecDepth 100000 in
theorem c_XAr_lacksPair (l : Launch) (D : va_G) (a : Nat → Nat) (k : Nat → ClassId) (u0 : XS) (x0 : Int32) (x1 : Int32) : zRz l y_XAr_lacksPair w_XAr_lacksPair rm_XAr_lacksPair D clX (tyX k) nwX (xW a k) [.int x0, .int x1] u0 (f_XAr_lacksPair u0 x0 x1) := by
  generalize hF : f_XAr_lacksPair u0 x0 x1 = F
  have hf := hF.symm
  unfold f_XAr_lacksPair at hf
  refine zRz_of (cc := b_XAr_lacksPair) (maxL := 2) (own := RX_Ar) (by decide) rfl rfl (Nat.le_of_ble_eq_true rfl) ?_
  intro p e R st m args below meth c H locs Q ls hR hx hb hml hown hts hw hret hl
  subst hR
  have hcs : 0 ≤ (rm_XAr_lacksPair).cells ∧ 0 ≤ (rm_XAr_lacksPair).slots := ⟨Nat.zero_le _, Nat.zero_le _⟩
  have hl : lv_has ls 2 [(0, .int x0), (1, .int x1)] := hl
  refine lv_iload_n hx hb d_XAr_lacksPair_0 rfl (lv_at hl 0 rfl) ?_
  refine lv_bipush (v := (28 : Int32)) hx hb d_XAr_lacksPair_1 (by decide) ?_
  refine jn_cut hf (fun (K_1 : Bool) => ∀ (ls : Array Slot), lv_has ls 2 [(1, .int x1)] → F = K_1 → W p l e rm_XAr_lacksPair st m args below meth c H locs 0 0 Q (F0 m 12 ls [])) ?_ ?_
  · intro ls hl hf
    refine lv_iload_n hx hb d_XAr_lacksPair_12 rfl (lv_at hl 0 rfl) ?_
    refine lv_iconst (v := (1 : Int32)) hx hb d_XAr_lacksPair_13 (by decide) ?_
    refine lv_iand hx hb d_XAr_lacksPair_14 ?_
    refine lv_if_eq (tgt := 22) hx hb d_XAr_lacksPair_15 (by decide) (fun c_2 => ?_) (fun c_2 => ?_)
    · have hf := hf.trans (if_pos c_2)
      refine lv_iconst (v := (0 : Int32)) hx hb d_XAr_lacksPair_22 (by decide) ?_
      exact hret false _ _ d_XAr_lacksPair_23 hf
    · have hf := hf.trans (if_neg c_2)
      refine lv_iconst (v := (1 : Int32)) hx hb d_XAr_lacksPair_18 (by decide) ?_
      refine lv_goto (tgt := 23) hx hb d_XAr_lacksPair_19 (by decide) ?_
      exact hret true _ _ d_XAr_lacksPair_23 hf
  · intro K_1 hK_1 hf
    refine lv_icmp_eq (tgt := 12) hx hb d_XAr_lacksPair_3 (by decide) (fun c_3 => ?_) (fun c_3 => ?_)
    · have hf := hf.trans (if_pos c_3)
      exact hK_1 _ (lv_sub hl [1] rfl) hf
    · have hf := hf.trans (if_neg c_3)
      refine lv_iload_n hx hb d_XAr_lacksPair_6 rfl (lv_at hl 0 rfl) ?_
      refine lv_bipush (v := (29 : Int32)) hx hb d_XAr_lacksPair_7 (by decide) ?_
      refine lv_icmp_ne (tgt := 22) hx hb d_XAr_lacksPair_9 (by decide) (fun c_4 => ?_) (fun c_4 => ?_)
      · have hf := hf.trans (if_neg c_4)
        refine lv_iconst (v := (0 : Int32)) hx hb d_XAr_lacksPair_22 (by decide) ?_
        exact hret false _ _ d_XAr_lacksPair_23 hf
      · have hf := hf.trans (if_pos c_4)
        exact hK_1 _ (lv_sub hl [1] rfl) hf
