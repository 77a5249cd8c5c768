set_option maxHeartbeats 8000000 in
set_option maxRecDepth 100000 in
theorem law_loop {p : Program} {e : Env} {s : State} {m : MethodId} {below : List Frame} {meth : Method} {c : Code} (l : Launch) (hl9 : l.stackTraces = false) {sb L : Nat} {xs : Nat → Int32} (hL : L ≤ 4096) (C0 : lw_At p s m meth c sb L xs) (D D2 : va_G) (a : Nat → Nat) (k : Nat → ClassId) (b : Nat → Nat) (j : Nat → ClassId) (sa : Nat → Nat) (ao : Nat) (ko : ClassId) (hdis : ∀ (w : XS × (Nat → Int64)) (v : MS) (q : Nat), zA (xL a k ao ko w) q → ¬ zA (mW b j v) q) (hE : zEx (skX sa) (fun q : Nat => s.heap.size ≤ q) s s.heap) (hNc : ∀ q ∈ ncL, va_Nc q.1 q.2 s) : ∀ (n t : Nat) (u : XS) (v : MS) (f : Nat → Int64) (x4 : Int32) (H : Heap) (locs : List Loc) (ls : Array Slot), L - 8 * t < n → 8 * t ≤ L → x4 = nI (8 * t) → Rel u v → zW D clX (tyL k ko) nwX (xL a k ao ko) (fun q : Nat => s.heap.size ≤ q) s (u, f) H → zW D2 clM (tyM j) nwM (mW b j) (fun q : Nat => s.heap.size ≤ q) s v H → va_S (fun q : Nat => s.heap.size ≤ q) s.heap H locs → lv_has ls 8 [(0, .ref sb), (1, .ref (a 0)), (2, .ref (b 0)), (3, .ref ao), (4, .int x4)] → W p l e room_1 s m #[Value.ref sb] below meth c H locs (23 + t) (2793 + 6 * t) (lw_Z below #[Value.ref sb] s) (F0 m 23 ls []) := by
  obtain ⟨hx, hb, hr, hml, hown, hts1, hX, hbl, hlocks, hgv⟩ := id C0
  have hts : ∀ w ∈ G0, w.before #[Value.ref sb] s = true := fun w h => hts1 w (List.mem_filter.mp h).1
  have hbA : ¬ (fun q : Nat => s.heap.size ≤ q) sb := Nat.not_le.mpr hbl
  intro n
  induction n with
  | zero => intro t u v f x4 H locs ls hn; omega
  | succ n ih =>
    intro t u v f x4 H locs ls hn ht ex4 hRel hwX hwM hS hl
    refine lv_iload hx hb d_law_23 (lv_at hl 4 rfl) ?_
    refine lv_aload_n hx hb d_law_25 rfl (lv_at hl 0 rfl) ?_
    refine va_slen hx hb hX hbl hbA hS d_law_26 ?_
    refine lv_bipush (v := 8) hx hb d_law_27 (by decide) ?_
    refine lv_isub hx hb d_law_29 ?_
    refine lv_icmp_gt (tgt := 947) hx hb d_law_30 (by decide) (fun _ => ?_) (fun c0 => ?_)
    · refine lv_iconst (v := 1) hx hb d_law_947 (by decide) ?_
      refine va_forget (fun q hq => hS.2.2 q hq) ?_
      refine W.widen (k := 1053) (n := 11021) (by omega) (by omega) ?_
      exact lw_ret hx hb hr hlocks d_law_948
    · have h8 : 8 * t + 8 ≤ L := law_le hL ht (by rw [ex4] at c0; exact c0)
      have hi0 : vp_in (x4) L := by rw [ex4]; exact law_in0 hL (by omega)
      have hi1 : vp_in (x4 + 1) L := by rw [ex4]; exact law_in hL (q := 1) rfl (by omega)
      have hi2 : vp_in (x4 + 2) L := by rw [ex4]; exact law_in hL (q := 2) rfl (by omega)
      have hi3 : vp_in (x4 + 3) L := by rw [ex4]; exact law_in hL (q := 3) rfl (by omega)
      have hi4 : vp_in (x4 + 4) L := by rw [ex4]; exact law_in hL (q := 4) rfl (by omega)
      have hi5 : vp_in (x4 + 5) L := by rw [ex4]; exact law_in hL (q := 5) rfl (by omega)
      have hi6 : vp_in (x4 + 6) L := by rw [ex4]; exact law_in hL (q := 6) rfl (by omega)
      have hi7 : vp_in (x4 + 7) L := by rw [ex4]; exact law_in hL (q := 7) rfl (by omega)
      have hgo : ∀ (u : XS) (f : Nat → Int64) (v : MS) (H : Heap) (locs : List Loc) (ls : Array Slot) {cells slots : Nat}, cells ≤ 24 + t → slots ≤ 2799 + 6 * t → Rel u v → zW D clX (tyL k ko) nwX (xL a k ao ko) (fun q : Nat => s.heap.size ≤ q) s (u, f) H → zW D2 clM (tyM j) nwM (mW b j) (fun q : Nat => s.heap.size ≤ q) s v H → va_S (fun q : Nat => s.heap.size ≤ q) s.heap H locs → lv_has ls 8 [(0, .ref sb), (1, .ref (a 0)), (2, .ref (b 0)), (3, .ref ao), (4, .int x4)] → W p l e room_1 s m #[Value.ref sb] below meth c H locs cells slots (lw_Z below #[Value.ref sb] s) (F0 m 941 ls []) := by
        intro u f v H locs ls cells slots hc1 hc2 hRel hwX hwM hS hl
        obtain ⟨y4, ey4⟩ : ∃ y : Int32, y = x4 + 8 := ⟨_, rfl⟩
        refine W.widen (k := 23 + (t + 1)) (n := 2793 + 6 * (t + 1)) (by omega) (by omega) ?_
        refine lv_iinc (v := y4) (lv' := [(4, .int y4), (0, .ref sb), (1, .ref (a 0)), (2, .ref (b 0)), (3, .ref ao)]) hx hb d_law_941 hl (k := 4) rfl (by rw [ey4]; rfl) (by decide) rfl (fun ls hl => ?_)
        refine lv_goto (tgt := 23) hx hb d_law_944 (by decide) ?_
        exact ih (t + 1) u v f y4 H locs ls (by omega) (by omega) (by rw [ey4, ex4]; exact law_st t) hRel hwX hwM hS (lv_sub hl [1, 2, 3, 4, 0] rfl)
      refine lv_aload_n hx hb d_law_33 rfl (lv_at hl 0 rfl) ?_
      refine lv_iload hx hb d_law_34 (lv_at hl 4 rfl) ?_
      refine va_sld hx hb hX hbl hbA hS hi0 d_law_36 ?_
      refine lv_bipush (v := 15) hx hb d_law_37 (by decide) ?_
      refine lv_iand hx hb d_law_39 ?_
      refine lv_topi (fun x9 ex9 => ?_)
      by_cases c_0 : x9 = 0
      · refine lv_tableIn (off := 60) (tgt := 100) hx hb d_law_40 (by rw [c_0]; decide +kernel) (by rw [c_0]; decide +kernel) (by rw [c_0]; decide +kernel) (by decide) ?_
        refine lv_aload_n hx hb d_law_100 rfl (lv_at hl 1 rfl) ?_
        refine lv_aload_n hx hb d_law_101 rfl (lv_at hl 0 rfl) ?_
        refine lv_iload hx hb d_law_102 (lv_at hl 4 rfl) ?_
        refine lv_iconst (v := 1) hx hb d_law_104 (by decide) ?_
        refine lv_iadd hx hb d_law_105 ?_
        refine va_sld hx hb hX hbl hbA hS hi1 d_law_106 ?_
        refine lv_aload_n hx hb d_law_107 rfl (lv_at hl 0 rfl) ?_
        refine lv_iload hx hb d_law_108 (lv_at hl 4 rfl) ?_
        refine lv_iconst (v := 2) hx hb d_law_110 (by decide) ?_
        refine lv_iadd hx hb d_law_111 ?_
        refine va_sld hx hb hX hbl hbA hS hi2 d_law_112 ?_
        refine lv_aload_n hx hb d_law_113 rfl (lv_at hl 0 rfl) ?_
        refine lv_iload hx hb d_law_114 (lv_at hl 4 rfl) ?_
        refine lv_iconst (v := 3) hx hb d_law_116 (by decide) ?_
        refine lv_iadd hx hb d_law_117 ?_
        refine va_sld hx hb hX hbl hbA hS hi3 d_law_118 ?_
        refine lv_i2l (v := Int32.toInt64 (xs (x4 + 3).toNatClampNeg)) hx hb d_law_119 rfl ?_
        refine lv_bipush (v := 32) hx hb d_law_120 (by decide) ?_
        refine lv_lshl (v := (Int32.toInt64 (xs (x4 + 3).toNatClampNeg)) <<< (Int32.toInt64 32 &&& 63)) hx hb d_law_122 rfl ?_
        refine lv_aload_n hx hb d_law_123 rfl (lv_at hl 0 rfl) ?_
        refine lv_iload hx hb d_law_124 (lv_at hl 4 rfl) ?_
        refine lv_iconst (v := 4) hx hb d_law_126 (by decide) ?_
        refine lv_iadd hx hb d_law_127 ?_
        refine va_sld hx hb hX hbl hbA hS hi4 d_law_128 ?_
        refine lv_i2l (v := Int32.toInt64 (xs (x4 + 4).toNatClampNeg)) hx hb d_law_129 rfl ?_
        refine lv_ldc2 (v := 4294967295) hx hb hown (hts _ kl_0) d_law_130 ?_
        refine lv_land hx hb d_law_133 ?_
        refine lv_lor hx hb d_law_134 ?_
        obtain ⟨K, hK0⟩ : ∃ K, K = h_poke (u, f) (xs (x4 + 1).toNatClampNeg) (xs (x4 + 2).toNatClampNeg) (((Int32.toInt64 (xs (x4 + 3).toNatClampNeg)) <<< (Int32.toInt64 32 &&& 63)) ||| ((Int32.toInt64 (xs (x4 + 4).toNatClampNeg)) &&& 4294967295)) := ⟨_, rfl⟩
        refine z_wVG (mc := 1) (ms := 6) (zl_runSW (n := 4) (As := [.ref (a 0), .int (xs (x4 + 1).toNatClampNeg), .int (xs (x4 + 2).toNatClampNeg), .long (((Int32.toInt64 (xs (x4 + 3).toNatClampNeg)) <<< (Int32.toInt64 32 &&& 63)) ||| ((Int32.toInt64 (xs (x4 + 4).toNatClampNeg)) &&& 4294967295))]) (rest := []) ⟨hx, hb, hml, hown, hts⟩ (c_H_poke l hl9 D a k sa ao ko (u, f) (xs (x4 + 1).toNatClampNeg) (xs (x4 + 2).toNatClampNeg) (((Int32.toInt64 (xs (x4 + 3).toNatClampNeg)) <<< (Int32.toInt64 32 &&& 63)) ||| ((Int32.toInt64 (xs (x4 + 4).toNatClampNeg)) &&& 4294967295)) K hK0.symm (E_poke u (xs (x4 + 1).toNatClampNeg) (xs (x4 + 2).toNatClampNeg) (((Int32.toInt64 (xs (x4 + 3).toNatClampNeg)) <<< (Int32.toInt64 32 &&& 63)) ||| ((Int32.toInt64 (xs (x4 + 4).toNatClampNeg)) &&& 4294967295)))) kg_H_poke List.mem_cons_self kl_3 kl_1 kl_2 rfl rfl ⟨Nat.le_of_ble_eq_true rfl, Nat.le_of_ble_eq_true rfl⟩ (by decide +kernel) ⟨zPH_blind, fun U hU hW => ⟨rfl, zW_at hwX hU hW, by rw [hU]; exact hE.warm hW (zt_preA hwX) hS.2.1, fun q hq => va_Nc.moved hW.alike (hNc q hq)⟩⟩ hl.1 rfl (lv_room (Nat.le_of_ble_eq_true rfl)) d_law_135 ⟨by show 23 + t + 1 ≤ 1053; omega, by show 2793 + 6 * t + 6 ≤ 11021; omega⟩) hwX hS (fun H1 locs hwX hS hz hk => ?_)
        have hwM := zW_keep hwM hk (fun q hq hq2 => hdis _ _ q hq2 hq)
        obtain ⟨k5, u1, f1⟩ := K
        have hwX : zW D clX (tyL k ko) nwX (xL a k ao ko) (fun q : Nat => s.heap.size ≤ q) s (u1, f1) H1 := hwX
        clear hk hz
        refine W.eq (g2 := F0 m 138 ls [.int k5]) rfl ?_
        refine W.widen (k := 24 + t) (n := 2799 + 6 * t) (by omega) (by omega) ?_
        refine lv_istore (lv' := [(5, .int k5), (0, .ref sb), (1, .ref (a 0)), (2, .ref (b 0)), (3, .ref ao), (4, .int x4)]) hx hb d_law_138 hl (by decide) rfl (fun ls hl => ?_)
        refine lv_aload_n hx hb d_law_140 rfl (lv_at hl 3 rfl) ?_
        refine lv_aload_n hx hb d_law_141 rfl (lv_at hl 1 rfl) ?_
        refine lv_iload hx hb d_law_142 (lv_at hl 5 rfl) ?_
        refine lv_iconst (v := 1) hx hb d_law_144 (by decide) ?_
        refine lv_iadd hx hb d_law_145 ?_
        refine va_sld hx hb hX hbl hbA hS hi1 d_law_146 ?_
        refine lv_aload_n hx hb d_law_147 rfl (lv_at hl 1 rfl) ?_
        refine lv_iload hx hb d_law_148 (lv_at hl 5 rfl) ?_
        refine lv_iconst (v := 2) hx hb d_law_150 (by decide) ?_
        refine lv_iadd hx hb d_law_151 ?_
        refine va_sld hx hb hX hbl hbA hS hi2 d_law_152 ?_
        refine lv_aload_n hx hb d_law_153 rfl (lv_at hl 1 rfl) ?_
        refine lv_iload hx hb d_law_154 (lv_at hl 5 rfl) ?_
        refine lv_iconst (v := 3) hx hb d_law_156 (by decide) ?_
        refine lv_iadd hx hb d_law_157 ?_
        refine va_sld hx hb hX hbl hbA hS hi3 d_law_158 ?_
        refine lv_i2l (v := Int32.toInt64 (xs (x4 + 3).toNatClampNeg)) hx hb d_law_159 rfl ?_
        refine lv_bipush (v := 32) hx hb d_law_160 (by decide) ?_
        refine lv_lshl (v := (Int32.toInt64 (xs (x4 + 3).toNatClampNeg)) <<< (Int32.toInt64 32 &&& 63)) hx hb d_law_162 rfl ?_
        refine lv_aload_n hx hb d_law_163 rfl (lv_at hl 1 rfl) ?_
        refine lv_iload hx hb d_law_164 (lv_at hl 5 rfl) ?_
        refine lv_iconst (v := 4) hx hb d_law_166 (by decide) ?_
        refine lv_iadd hx hb d_law_167 ?_
        refine va_sld hx hb hX hbl hbA hS hi4 d_law_168 ?_
        refine lv_i2l (v := Int32.toInt64 (xs (x4 + 4).toNatClampNeg)) hx hb d_law_169 rfl ?_
        refine lv_ldc2 (v := 4294967295) hx hb hown (hts _ kl_0) d_law_170 ?_
        refine lv_land hx hb d_law_173 ?_
        refine lv_lor hx hb d_law_174 ?_
        obtain ⟨v1, hv1, he, hR1⟩ := P_poke hRel f (xs (x4 + 1).toNatClampNeg) (xs (x4 + 2).toNatClampNeg) (((Int32.toInt64 (xs (x4 + 3).toNatClampNeg)) <<< (Int32.toInt64 32 &&& 63)) ||| ((Int32.toInt64 (xs (x4 + 4).toNatClampNeg)) &&& 4294967295))
        rw [← hK0] at he hR1
        refine z_wVG (mc := 0) (ms := 0) (V := none) (F := v1) (z_runV (As := [.int (xs (x4 + 1).toNatClampNeg), .int (xs (x4 + 2).toNatClampNeg), .long (((Int32.toInt64 (xs (x4 + 3).toNatClampNeg)) <<< (Int32.toInt64 32 &&& 63)) ||| ((Int32.toInt64 (xs (x4 + 4).toNatClampNeg)) &&& 4294967295))]) (rest := []) ⟨hx, hb, hml, hown, hts⟩ (c_MMo_poke l D2 b j v (xs (x4 + 1).toNatClampNeg) (xs (x4 + 2).toNatClampNeg) (((Int32.toInt64 (xs (x4 + 3).toNatClampNeg)) <<< (Int32.toInt64 32 &&& 63)) ||| ((Int32.toInt64 (xs (x4 + 4).toNatClampNeg)) &&& 4294967295)) v1 hv1) (cwV 3 hts (zgV kl_4 kl_5 kl_6 kl_7 kc_MMo_poke) rfl rfl rfl (by decide +kernel) ⟨Nat.le_of_ble_eq_true rfl, Nat.le_of_ble_eq_true rfl⟩) hwM 0 rfl rfl hl.1 rfl (lv_room (Nat.le_of_ble_eq_true rfl)) d_law_175 ⟨by show 24 + t ≤ 1053; omega, by show 2799 + 6 * t ≤ 11021; omega⟩) hwM hS (fun H2 locs hwM hS hz hk => ?_)
        have hwX := zW_keep hwX hk (fun q hq hq2 => hdis _ _ q hq hq2)
        clear hk hz
        refine W.eq (g2 := F0 m 178 ls []) rfl ?_
        refine lv_aload_n hx hb d_law_178 rfl (lv_at hl 3 rfl) ?_
        refine z_rV (V := .int (mF v1 0)) (z_runV (As := []) (rest := []) ⟨hx, hb, hml, hown, hts⟩ (c_MMo_thrown l D2 b j v1 (mF v1 0) rfl) (cwV 0 hts (zgV kl_8 kl_9 kl_10 kl_7 kc_MMo_thrown) rfl rfl rfl (by decide +kernel) ⟨Nat.le_of_ble_eq_true rfl, Nat.le_of_ble_eq_true rfl⟩) hwM 0 rfl rfl hl.1 rfl (lv_room (Nat.le_of_ble_eq_true rfl)) d_law_179 ⟨by show 24 + t ≤ 1053; omega, by show 2799 + 6 * t ≤ 11021; omega⟩) ?_
        refine lv_iload hx hb d_law_182 (lv_at hl 0 rfl) ?_
        refine lv_icmp_eq (tgt := 189) hx hb d_law_184 (by decide) (fun _ => ?_) (fun c9 => absurd he c9)
        refine lv_goto (tgt := 941) hx hb d_law_189 (by decide) ?_
        exact hgo u1 f1 v1 _ _ _ (Nat.le_refl _) (Nat.le_refl _) hR1 hwX hwM hS (lv_sub hl [1, 2, 3, 4, 5] rfl)
      by_cases c_1 : x9 = 1
      · refine lv_tableIn (off := 152) (tgt := 192) hx hb d_law_40 (by rw [c_1]; decide +kernel) (by rw [c_1]; decide +kernel) (by rw [c_1]; decide +kernel) (by decide) ?_
        refine lv_aload_n hx hb d_law_192 rfl (lv_at hl 1 rfl) ?_
        refine lv_aload_n hx hb d_law_193 rfl (lv_at hl 0 rfl) ?_
        refine lv_iload hx hb d_law_194 (lv_at hl 4 rfl) ?_
        refine lv_iconst (v := 1) hx hb d_law_196 (by decide) ?_
        refine lv_iadd hx hb d_law_197 ?_
        refine va_sld hx hb hX hbl hbA hS hi1 d_law_198 ?_
        refine lv_aload_n hx hb d_law_199 rfl (lv_at hl 3 rfl) ?_
        obtain ⟨K, hK0⟩ : ∃ K, K = h_octet (u, f) (xs (x4 + 1).toNatClampNeg) := ⟨_, rfl⟩
        refine z_wVG (mc := 1) (ms := 6) (zl_runSW (n := 3) (As := [.ref (a 0), .int (xs (x4 + 1).toNatClampNeg), .ref ao]) (rest := []) ⟨hx, hb, hml, hown, hts⟩ (c_H_octet l hl9 D a k sa ao ko (u, f) (xs (x4 + 1).toNatClampNeg) K hK0.symm (E_octet u (xs (x4 + 1).toNatClampNeg))) kg_H_octet List.mem_cons_self kl_3 kl_11 kl_12 rfl rfl ⟨Nat.le_of_ble_eq_true rfl, Nat.le_of_ble_eq_true rfl⟩ (by decide +kernel) ⟨zPH_blind, fun U hU hW => ⟨rfl, zW_at hwX hU hW, by rw [hU]; exact hE.warm hW (zt_preA hwX) hS.2.1, fun q hq => va_Nc.moved hW.alike (hNc q hq)⟩⟩ hl.1 rfl (lv_room (Nat.le_of_ble_eq_true rfl)) d_law_200 ⟨by show 23 + t + 1 ≤ 1053; omega, by show 2793 + 6 * t + 6 ≤ 11021; omega⟩) hwX hS (fun H1 locs hwX hS hz hk => ?_)
        have hwM := zW_keep hwM hk (fun q hq hq2 => hdis _ _ q hq2 hq)
        obtain ⟨k5, u1, f1⟩ := K
        have hwX : zW D clX (tyL k ko) nwX (xL a k ao ko) (fun q : Nat => s.heap.size ≤ q) s (u1, f1) H1 := hwX
        clear hk hz
        refine W.eq (g2 := F0 m 203 ls [.int k5]) rfl ?_
        refine W.widen (k := 24 + t) (n := 2799 + 6 * t) (by omega) (by omega) ?_
        refine lv_istore (lv' := [(5, .int k5), (0, .ref sb), (1, .ref (a 0)), (2, .ref (b 0)), (3, .ref ao), (4, .int x4)]) hx hb d_law_203 hl (by decide) rfl (fun ls hl => ?_)
        refine lv_aload_n hx hb d_law_205 rfl (lv_at hl 3 rfl) ?_
        refine lv_aload_n hx hb d_law_206 rfl (lv_at hl 1 rfl) ?_
        refine lv_iload hx hb d_law_207 (lv_at hl 5 rfl) ?_
        refine lv_iconst (v := 1) hx hb d_law_209 (by decide) ?_
        refine lv_iadd hx hb d_law_210 ?_
        refine va_sld hx hb hX hbl hbA hS hi1 d_law_211 ?_
        obtain ⟨b6, v1, hv1, he, hb6, hR1⟩ := P_octet hRel f (xs (x4 + 1).toNatClampNeg)
        rw [← hK0] at hb6
        rw [← hK0] at he hR1
        refine z_wVG (mc := 0) (ms := 0) (V := (some (.int b6))) (F := v1) (z_runV (As := [.int (xs (x4 + 1).toNatClampNeg)]) (rest := []) ⟨hx, hb, hml, hown, hts⟩ (c_MMo_octet l D2 b j v (xs (x4 + 1).toNatClampNeg) (b6, v1) hv1) (cwV 1 hts (zgV kl_13 kl_14 kl_15 kl_7 kc_MMo_octet) rfl rfl rfl (by decide +kernel) ⟨Nat.le_of_ble_eq_true rfl, Nat.le_of_ble_eq_true rfl⟩) hwM 0 rfl rfl hl.1 rfl (lv_room (Nat.le_of_ble_eq_true rfl)) d_law_212 ⟨by show 24 + t ≤ 1053; omega, by show 2799 + 6 * t ≤ 11021; omega⟩) hwM hS (fun H2 locs hwM hS hz hk => ?_)
        have hwX := zW_keep hwX hk (fun q hq hq2 => hdis _ _ q hq hq2)
        clear hk hz
        refine W.eq (g2 := F0 m 215 ls [.int b6]) rfl ?_
        refine lv_istore (lv' := [(6, .int b6), (5, .int k5), (0, .ref sb), (1, .ref (a 0)), (2, .ref (b 0)), (3, .ref ao), (4, .int x4)]) hx hb d_law_215 hl (by decide) rfl (fun ls hl => ?_)
        refine lv_aload_n hx hb d_law_217 rfl (lv_at hl 4 rfl) ?_
        refine z_rV (V := .int (mF v1 0)) (z_runV (As := []) (rest := []) ⟨hx, hb, hml, hown, hts⟩ (c_MMo_thrown l D2 b j v1 (mF v1 0) rfl) (cwV 0 hts (zgV kl_8 kl_9 kl_10 kl_7 kc_MMo_thrown) rfl rfl rfl (by decide +kernel) ⟨Nat.le_of_ble_eq_true rfl, Nat.le_of_ble_eq_true rfl⟩) hwM 0 rfl rfl hl.1 rfl (lv_room (Nat.le_of_ble_eq_true rfl)) d_law_218 ⟨by show 24 + t ≤ 1053; omega, by show 2799 + 6 * t ≤ 11021; omega⟩) ?_
        refine lv_iload hx hb d_law_221 (lv_at hl 1 rfl) ?_
        refine lv_icmp_eq (tgt := 228) hx hb d_law_223 (by decide) (fun _ => ?_) (fun c9 => absurd he c9)
        refine lv_iload hx hb d_law_228 (lv_at hl 1 rfl) ?_
        refine lv_if_ne (tgt := 245) hx hb d_law_230 (by decide) (fun _ => ?_) (fun c8 => ?_)
        · refine lv_goto (tgt := 941) hx hb d_law_245 (by decide) ?_
          exact hgo u1 f1 v1 _ _ _ (Nat.le_refl _) (Nat.le_refl _) hR1 hwX hwM hS (lv_sub hl [2, 3, 4, 5, 6] rfl)
        refine lv_aload_n hx hb d_law_233 rfl (lv_at hl 5 rfl) ?_
        refine lv_iconst (v := 0) hx hb d_law_234 (by decide) ?_
        refine va_lald hx hb hwX.2.1 hwX.1 13 3 rfl rfl z_in01 d_law_235 ?_
        refine W.eq (g2 := F0 m 236 ls [.long (f1 0)]) rfl ?_
        refine lv_iload hx hb d_law_236 (lv_at hl 0 rfl) ?_
        refine lv_i2l (v := Int32.toInt64 b6) hx hb d_law_238 rfl ?_
        refine z_lcmp_eq (tgt := 245) hx hb d_law_239 d_law_240 (by decide) (fun _ => ?_) (fun c9 => absurd (hb6 c8) c9)
        refine lv_goto (tgt := 941) hx hb d_law_245 (by decide) ?_
        exact hgo u1 f1 v1 _ _ _ (Nat.le_refl _) (Nat.le_refl _) hR1 hwX hwM hS (lv_sub hl [2, 3, 4, 5, 6] rfl)
      by_cases c_2 : x9 = 2
      · refine lv_tableIn (off := 208) (tgt := 248) hx hb d_law_40 (by rw [c_2]; decide +kernel) (by rw [c_2]; decide +kernel) (by rw [c_2]; decide +kernel) (by decide) ?_
        refine lv_aload_n hx hb d_law_248 rfl (lv_at hl 1 rfl) ?_
        refine lv_aload_n hx hb d_law_249 rfl (lv_at hl 0 rfl) ?_
        refine lv_iload hx hb d_law_250 (lv_at hl 4 rfl) ?_
        refine lv_iconst (v := 1) hx hb d_law_252 (by decide) ?_
        refine lv_iadd hx hb d_law_253 ?_
        refine va_sld hx hb hX hbl hbA hS hi1 d_law_254 ?_
        refine lv_aload_n hx hb d_law_255 rfl (lv_at hl 0 rfl) ?_
        refine lv_iload hx hb d_law_256 (lv_at hl 4 rfl) ?_
        refine lv_iconst (v := 2) hx hb d_law_258 (by decide) ?_
        refine lv_iadd hx hb d_law_259 ?_
        refine va_sld hx hb hX hbl hbA hS hi2 d_law_260 ?_
        refine lv_aload_n hx hb d_law_261 rfl (lv_at hl 3 rfl) ?_
        obtain ⟨K, hK0⟩ : ∃ K, K = h_set (u, f) (xs (x4 + 1).toNatClampNeg) (xs (x4 + 2).toNatClampNeg) := ⟨_, rfl⟩
        refine z_wVG (mc := 1) (ms := 6) (zl_runSW (n := 4) (As := [.ref (a 0), .int (xs (x4 + 1).toNatClampNeg), .int (xs (x4 + 2).toNatClampNeg), .ref ao]) (rest := []) ⟨hx, hb, hml, hown, hts⟩ (c_H_set l hl9 D a k sa ao ko (u, f) (xs (x4 + 1).toNatClampNeg) (xs (x4 + 2).toNatClampNeg) K hK0.symm (E_set u (xs (x4 + 1).toNatClampNeg) (xs (x4 + 2).toNatClampNeg))) kg_H_set List.mem_cons_self kl_3 kl_16 kl_17 rfl rfl ⟨Nat.le_of_ble_eq_true rfl, Nat.le_of_ble_eq_true rfl⟩ (by decide +kernel) ⟨zPH_blind, fun U hU hW => ⟨rfl, zW_at hwX hU hW, by rw [hU]; exact hE.warm hW (zt_preA hwX) hS.2.1, fun q hq => va_Nc.moved hW.alike (hNc q hq)⟩⟩ hl.1 rfl (lv_room (Nat.le_of_ble_eq_true rfl)) d_law_262 ⟨by show 23 + t + 1 ≤ 1053; omega, by show 2793 + 6 * t + 6 ≤ 11021; omega⟩) hwX hS (fun H1 locs hwX hS hz hk => ?_)
        have hwM := zW_keep hwM hk (fun q hq hq2 => hdis _ _ q hq2 hq)
        obtain ⟨k5, u1, f1⟩ := K
        have hwX : zW D clX (tyL k ko) nwX (xL a k ao ko) (fun q : Nat => s.heap.size ≤ q) s (u1, f1) H1 := hwX
        clear hk hz
        refine W.eq (g2 := F0 m 265 ls [.int k5]) rfl ?_
        refine W.widen (k := 24 + t) (n := 2799 + 6 * t) (by omega) (by omega) ?_
        refine lv_istore (lv' := [(5, .int k5), (0, .ref sb), (1, .ref (a 0)), (2, .ref (b 0)), (3, .ref ao), (4, .int x4)]) hx hb d_law_265 hl (by decide) rfl (fun ls hl => ?_)
        refine lv_aload_n hx hb d_law_267 rfl (lv_at hl 3 rfl) ?_
        refine lv_aload_n hx hb d_law_268 rfl (lv_at hl 1 rfl) ?_
        refine lv_iload hx hb d_law_269 (lv_at hl 5 rfl) ?_
        refine lv_iconst (v := 1) hx hb d_law_271 (by decide) ?_
        refine lv_iadd hx hb d_law_272 ?_
        refine va_sld hx hb hX hbl hbA hS hi1 d_law_273 ?_
        refine lv_aload_n hx hb d_law_274 rfl (lv_at hl 1 rfl) ?_
        refine lv_iload hx hb d_law_275 (lv_at hl 5 rfl) ?_
        refine lv_iconst (v := 2) hx hb d_law_277 (by decide) ?_
        refine lv_iadd hx hb d_law_278 ?_
        refine va_sld hx hb hX hbl hbA hS hi2 d_law_279 ?_
        obtain ⟨b6, v1, hv1, he, hb6, hR1⟩ := P_set hRel f (xs (x4 + 1).toNatClampNeg) (xs (x4 + 2).toNatClampNeg)
        rw [← hK0] at hb6
        rw [← hK0] at he hR1
        refine z_wVG (mc := 0) (ms := 0) (V := (some (.int b6))) (F := v1) (z_runV (As := [.int (xs (x4 + 1).toNatClampNeg), .int (xs (x4 + 2).toNatClampNeg)]) (rest := []) ⟨hx, hb, hml, hown, hts⟩ (c_MMo_set l D2 b j v (xs (x4 + 1).toNatClampNeg) (xs (x4 + 2).toNatClampNeg) (b6, v1) hv1) (cwV 2 hts (zgV kl_18 kl_19 kl_20 kl_7 kc_MMo_set) rfl rfl rfl (by decide +kernel) ⟨Nat.le_of_ble_eq_true rfl, Nat.le_of_ble_eq_true rfl⟩) hwM 0 rfl rfl hl.1 rfl (lv_room (Nat.le_of_ble_eq_true rfl)) d_law_280 ⟨by show 24 + t ≤ 1053; omega, by show 2799 + 6 * t ≤ 11021; omega⟩) hwM hS (fun H2 locs hwM hS hz hk => ?_)
        have hwX := zW_keep hwX hk (fun q hq hq2 => hdis _ _ q hq hq2)
        clear hk hz
        refine W.eq (g2 := F0 m 283 ls [.int b6]) rfl ?_
        refine lv_istore (lv' := [(6, .int b6), (5, .int k5), (0, .ref sb), (1, .ref (a 0)), (2, .ref (b 0)), (3, .ref ao), (4, .int x4)]) hx hb d_law_283 hl (by decide) rfl (fun ls hl => ?_)
        refine lv_aload_n hx hb d_law_285 rfl (lv_at hl 4 rfl) ?_
        refine z_rV (V := .int (mF v1 0)) (z_runV (As := []) (rest := []) ⟨hx, hb, hml, hown, hts⟩ (c_MMo_thrown l D2 b j v1 (mF v1 0) rfl) (cwV 0 hts (zgV kl_8 kl_9 kl_10 kl_7 kc_MMo_thrown) rfl rfl rfl (by decide +kernel) ⟨Nat.le_of_ble_eq_true rfl, Nat.le_of_ble_eq_true rfl⟩) hwM 0 rfl rfl hl.1 rfl (lv_room (Nat.le_of_ble_eq_true rfl)) d_law_286 ⟨by show 24 + t ≤ 1053; omega, by show 2799 + 6 * t ≤ 11021; omega⟩) ?_
        refine lv_iload hx hb d_law_289 (lv_at hl 1 rfl) ?_
        refine lv_icmp_eq (tgt := 296) hx hb d_law_291 (by decide) (fun _ => ?_) (fun c9 => absurd he c9)
        refine lv_iload hx hb d_law_296 (lv_at hl 1 rfl) ?_
        refine lv_if_ne (tgt := 313) hx hb d_law_298 (by decide) (fun _ => ?_) (fun c8 => ?_)
        · refine lv_goto (tgt := 941) hx hb d_law_313 (by decide) ?_
          exact hgo u1 f1 v1 _ _ _ (Nat.le_refl _) (Nat.le_refl _) hR1 hwX hwM hS (lv_sub hl [2, 3, 4, 5, 6] rfl)
        refine lv_aload_n hx hb d_law_301 rfl (lv_at hl 5 rfl) ?_
        refine lv_iconst (v := 0) hx hb d_law_302 (by decide) ?_
        refine va_lald hx hb hwX.2.1 hwX.1 13 3 rfl rfl z_in01 d_law_303 ?_
        refine W.eq (g2 := F0 m 304 ls [.long (f1 0)]) rfl ?_
        refine lv_iload hx hb d_law_304 (lv_at hl 0 rfl) ?_
        refine lv_i2l (v := Int32.toInt64 b6) hx hb d_law_306 rfl ?_
        refine z_lcmp_eq (tgt := 313) hx hb d_law_307 d_law_308 (by decide) (fun _ => ?_) (fun c9 => absurd (hb6 c8) c9)
        refine lv_goto (tgt := 941) hx hb d_law_313 (by decide) ?_
        exact hgo u1 f1 v1 _ _ _ (Nat.le_refl _) (Nat.le_refl _) hR1 hwX hwM hS (lv_sub hl [2, 3, 4, 5, 6] rfl)
      by_cases c_3 : x9 = 3
      · refine lv_tableIn (off := 276) (tgt := 316) hx hb d_law_40 (by rw [c_3]; decide +kernel) (by rw [c_3]; decide +kernel) (by rw [c_3]; decide +kernel) (by decide) ?_
        refine lv_aload_n hx hb d_law_316 rfl (lv_at hl 1 rfl) ?_
        refine lv_aload_n hx hb d_law_317 rfl (lv_at hl 0 rfl) ?_
        refine lv_iload hx hb d_law_318 (lv_at hl 4 rfl) ?_
        refine lv_iconst (v := 1) hx hb d_law_320 (by decide) ?_
        refine lv_iadd hx hb d_law_321 ?_
        refine va_sld hx hb hX hbl hbA hS hi1 d_law_322 ?_
        refine lv_aload_n hx hb d_law_323 rfl (lv_at hl 3 rfl) ?_
        obtain ⟨K, hK0⟩ : ∃ K, K = h_register (u, f) (xs (x4 + 1).toNatClampNeg) := ⟨_, rfl⟩
        refine z_wVG (mc := 1) (ms := 6) (zl_runSW (n := 3) (As := [.ref (a 0), .int (xs (x4 + 1).toNatClampNeg), .ref ao]) (rest := []) ⟨hx, hb, hml, hown, hts⟩ (c_H_register l hl9 D a k sa ao ko (u, f) (xs (x4 + 1).toNatClampNeg) K hK0.symm (E_register u (xs (x4 + 1).toNatClampNeg))) kg_H_register List.mem_cons_self kl_3 kl_21 kl_22 rfl rfl ⟨Nat.le_of_ble_eq_true rfl, Nat.le_of_ble_eq_true rfl⟩ (by decide +kernel) ⟨zPH_blind, fun U hU hW => ⟨rfl, zW_at hwX hU hW, by rw [hU]; exact hE.warm hW (zt_preA hwX) hS.2.1, fun q hq => va_Nc.moved hW.alike (hNc q hq)⟩⟩ hl.1 rfl (lv_room (Nat.le_of_ble_eq_true rfl)) d_law_324 ⟨by show 23 + t + 1 ≤ 1053; omega, by show 2793 + 6 * t + 6 ≤ 11021; omega⟩) hwX hS (fun H1 locs hwX hS hz hk => ?_)
        have hwM := zW_keep hwM hk (fun q hq hq2 => hdis _ _ q hq2 hq)
        obtain ⟨k5, u1, f1⟩ := K
        have hwX : zW D clX (tyL k ko) nwX (xL a k ao ko) (fun q : Nat => s.heap.size ≤ q) s (u1, f1) H1 := hwX
        clear hk hz
        refine W.eq (g2 := F0 m 327 ls [.int k5]) rfl ?_
        refine W.widen (k := 24 + t) (n := 2799 + 6 * t) (by omega) (by omega) ?_
        refine lv_istore (lv' := [(5, .int k5), (0, .ref sb), (1, .ref (a 0)), (2, .ref (b 0)), (3, .ref ao), (4, .int x4)]) hx hb d_law_327 hl (by decide) rfl (fun ls hl => ?_)
        refine lv_aload_n hx hb d_law_329 rfl (lv_at hl 3 rfl) ?_
        refine lv_aload_n hx hb d_law_330 rfl (lv_at hl 1 rfl) ?_
        refine lv_iload hx hb d_law_331 (lv_at hl 5 rfl) ?_
        refine lv_iconst (v := 1) hx hb d_law_333 (by decide) ?_
        refine lv_iadd hx hb d_law_334 ?_
        refine va_sld hx hb hX hbl hbA hS hi1 d_law_335 ?_
        obtain ⟨b6, v1, hv1, he, hb6, hR1⟩ := P_register hRel f (xs (x4 + 1).toNatClampNeg)
        rw [← hK0] at hb6
        rw [← hK0] at he hR1
        refine z_wVG (mc := 0) (ms := 0) (V := (some (.int b6))) (F := v1) (z_runV (As := [.int (xs (x4 + 1).toNatClampNeg)]) (rest := []) ⟨hx, hb, hml, hown, hts⟩ (c_MMo_register l D2 b j v (xs (x4 + 1).toNatClampNeg) (b6, v1) hv1) (cwV 1 hts (zgV kl_23 kl_24 kl_25 kl_7 kc_MMo_register) rfl rfl rfl (by decide +kernel) ⟨Nat.le_of_ble_eq_true rfl, Nat.le_of_ble_eq_true rfl⟩) hwM 0 rfl rfl hl.1 rfl (lv_room (Nat.le_of_ble_eq_true rfl)) d_law_336 ⟨by show 24 + t ≤ 1053; omega, by show 2799 + 6 * t ≤ 11021; omega⟩) hwM hS (fun H2 locs hwM hS hz hk => ?_)
        have hwX := zW_keep hwX hk (fun q hq hq2 => hdis _ _ q hq hq2)
        clear hk hz
        refine W.eq (g2 := F0 m 339 ls [.int b6]) rfl ?_
        refine lv_istore (lv' := [(6, .int b6), (5, .int k5), (0, .ref sb), (1, .ref (a 0)), (2, .ref (b 0)), (3, .ref ao), (4, .int x4)]) hx hb d_law_339 hl (by decide) rfl (fun ls hl => ?_)
        refine lv_aload_n hx hb d_law_341 rfl (lv_at hl 4 rfl) ?_
        refine z_rV (V := .int (mF v1 0)) (z_runV (As := []) (rest := []) ⟨hx, hb, hml, hown, hts⟩ (c_MMo_thrown l D2 b j v1 (mF v1 0) rfl) (cwV 0 hts (zgV kl_8 kl_9 kl_10 kl_7 kc_MMo_thrown) rfl rfl rfl (by decide +kernel) ⟨Nat.le_of_ble_eq_true rfl, Nat.le_of_ble_eq_true rfl⟩) hwM 0 rfl rfl hl.1 rfl (lv_room (Nat.le_of_ble_eq_true rfl)) d_law_342 ⟨by show 24 + t ≤ 1053; omega, by show 2799 + 6 * t ≤ 11021; omega⟩) ?_
        refine lv_iload hx hb d_law_345 (lv_at hl 1 rfl) ?_
        refine lv_icmp_eq (tgt := 352) hx hb d_law_347 (by decide) (fun _ => ?_) (fun c9 => absurd he c9)
        refine lv_iload hx hb d_law_352 (lv_at hl 1 rfl) ?_
        refine lv_if_ne (tgt := 369) hx hb d_law_354 (by decide) (fun _ => ?_) (fun c8 => ?_)
        · refine lv_goto (tgt := 941) hx hb d_law_369 (by decide) ?_
          exact hgo u1 f1 v1 _ _ _ (Nat.le_refl _) (Nat.le_refl _) hR1 hwX hwM hS (lv_sub hl [2, 3, 4, 5, 6] rfl)
        refine lv_aload_n hx hb d_law_357 rfl (lv_at hl 5 rfl) ?_
        refine lv_iconst (v := 0) hx hb d_law_358 (by decide) ?_
        refine va_lald hx hb hwX.2.1 hwX.1 13 3 rfl rfl z_in01 d_law_359 ?_
        refine W.eq (g2 := F0 m 360 ls [.long (f1 0)]) rfl ?_
        refine lv_iload hx hb d_law_360 (lv_at hl 0 rfl) ?_
        refine lv_i2l (v := Int32.toInt64 b6) hx hb d_law_362 rfl ?_
        refine z_lcmp_eq (tgt := 369) hx hb d_law_363 d_law_364 (by decide) (fun _ => ?_) (fun c9 => absurd (hb6 c8) c9)
        refine lv_goto (tgt := 941) hx hb d_law_369 (by decide) ?_
        exact hgo u1 f1 v1 _ _ _ (Nat.le_refl _) (Nat.le_refl _) hR1 hwX hwM hS (lv_sub hl [2, 3, 4, 5, 6] rfl)
      by_cases c_4 : x9 = 4
      · refine lv_tableIn (off := 332) (tgt := 372) hx hb d_law_40 (by rw [c_4]; decide +kernel) (by rw [c_4]; decide +kernel) (by rw [c_4]; decide +kernel) (by decide) ?_
        refine lv_aload_n hx hb d_law_372 rfl (lv_at hl 1 rfl) ?_
        refine lv_aload_n hx hb d_law_373 rfl (lv_at hl 0 rfl) ?_
        refine lv_iload hx hb d_law_374 (lv_at hl 4 rfl) ?_
        refine lv_iconst (v := 1) hx hb d_law_376 (by decide) ?_
        refine lv_iadd hx hb d_law_377 ?_
        refine va_sld hx hb hX hbl hbA hS hi1 d_law_378 ?_
        refine lv_aload_n hx hb d_law_379 rfl (lv_at hl 0 rfl) ?_
        refine lv_iload hx hb d_law_380 (lv_at hl 4 rfl) ?_
        refine lv_iconst (v := 2) hx hb d_law_382 (by decide) ?_
        refine lv_iadd hx hb d_law_383 ?_
        refine va_sld hx hb hX hbl hbA hS hi2 d_law_384 ?_
        obtain ⟨K, hK0⟩ : ∃ K, K = h_start (u, f) (xs (x4 + 1).toNatClampNeg) (xs (x4 + 2).toNatClampNeg) := ⟨_, rfl⟩
        refine z_wVG (mc := 1) (ms := 6) (zl_runSW (n := 3) (As := [.ref (a 0), .int (xs (x4 + 1).toNatClampNeg), .int (xs (x4 + 2).toNatClampNeg)]) (rest := []) ⟨hx, hb, hml, hown, hts⟩ (c_H_start l hl9 D a k sa ao ko (u, f) (xs (x4 + 1).toNatClampNeg) (xs (x4 + 2).toNatClampNeg) K hK0.symm (E_start u (xs (x4 + 1).toNatClampNeg) (xs (x4 + 2).toNatClampNeg))) kg_H_start List.mem_cons_self kl_3 kl_26 kl_27 rfl rfl ⟨Nat.le_of_ble_eq_true rfl, Nat.le_of_ble_eq_true rfl⟩ (by decide +kernel) ⟨zPH_blind, fun U hU hW => ⟨rfl, zW_at hwX hU hW, by rw [hU]; exact hE.warm hW (zt_preA hwX) hS.2.1, fun q hq => va_Nc.moved hW.alike (hNc q hq)⟩⟩ hl.1 rfl (lv_room (Nat.le_of_ble_eq_true rfl)) d_law_385 ⟨by show 23 + t + 1 ≤ 1053; omega, by show 2793 + 6 * t + 6 ≤ 11021; omega⟩) hwX hS (fun H1 locs hwX hS hz hk => ?_)
        have hwM := zW_keep hwM hk (fun q hq hq2 => hdis _ _ q hq2 hq)
        obtain ⟨k5, u1, f1⟩ := K
        have hwX : zW D clX (tyL k ko) nwX (xL a k ao ko) (fun q : Nat => s.heap.size ≤ q) s (u1, f1) H1 := hwX
        clear hk hz
        refine W.eq (g2 := F0 m 388 ls [.int k5]) rfl ?_
        refine W.widen (k := 24 + t) (n := 2799 + 6 * t) (by omega) (by omega) ?_
        refine lv_istore (lv' := [(5, .int k5), (0, .ref sb), (1, .ref (a 0)), (2, .ref (b 0)), (3, .ref ao), (4, .int x4)]) hx hb d_law_388 hl (by decide) rfl (fun ls hl => ?_)
        refine lv_aload_n hx hb d_law_390 rfl (lv_at hl 3 rfl) ?_
        refine lv_aload_n hx hb d_law_391 rfl (lv_at hl 1 rfl) ?_
        refine lv_iload hx hb d_law_392 (lv_at hl 5 rfl) ?_
        refine lv_iconst (v := 1) hx hb d_law_394 (by decide) ?_
        refine lv_iadd hx hb d_law_395 ?_
        refine va_sld hx hb hX hbl hbA hS hi1 d_law_396 ?_
        refine lv_aload_n hx hb d_law_397 rfl (lv_at hl 1 rfl) ?_
        refine lv_iload hx hb d_law_398 (lv_at hl 5 rfl) ?_
        refine lv_iconst (v := 2) hx hb d_law_400 (by decide) ?_
        refine lv_iadd hx hb d_law_401 ?_
        refine va_sld hx hb hX hbl hbA hS hi2 d_law_402 ?_
        obtain ⟨v1, hv1, he, hR1⟩ := P_start hRel f (xs (x4 + 1).toNatClampNeg) (xs (x4 + 2).toNatClampNeg)
        rw [← hK0] at he hR1
        refine z_wVG (mc := 0) (ms := 0) (V := none) (F := v1) (z_runV (As := [.int (xs (x4 + 1).toNatClampNeg), .int (xs (x4 + 2).toNatClampNeg)]) (rest := []) ⟨hx, hb, hml, hown, hts⟩ (c_MMo_start l D2 b j v (xs (x4 + 1).toNatClampNeg) (xs (x4 + 2).toNatClampNeg) v1 hv1) (cwV 2 hts (zgV kl_28 kl_29 kl_30 kl_7 kc_MMo_start) rfl rfl rfl (by decide +kernel) ⟨Nat.le_of_ble_eq_true rfl, Nat.le_of_ble_eq_true rfl⟩) hwM 0 rfl rfl hl.1 rfl (lv_room (Nat.le_of_ble_eq_true rfl)) d_law_403 ⟨by show 24 + t ≤ 1053; omega, by show 2799 + 6 * t ≤ 11021; omega⟩) hwM hS (fun H2 locs hwM hS hz hk => ?_)
        have hwX := zW_keep hwX hk (fun q hq hq2 => hdis _ _ q hq hq2)
        clear hk hz
        refine W.eq (g2 := F0 m 406 ls []) rfl ?_
        refine lv_aload_n hx hb d_law_406 rfl (lv_at hl 3 rfl) ?_
        refine z_rV (V := .int (mF v1 0)) (z_runV (As := []) (rest := []) ⟨hx, hb, hml, hown, hts⟩ (c_MMo_thrown l D2 b j v1 (mF v1 0) rfl) (cwV 0 hts (zgV kl_8 kl_9 kl_10 kl_7 kc_MMo_thrown) rfl rfl rfl (by decide +kernel) ⟨Nat.le_of_ble_eq_true rfl, Nat.le_of_ble_eq_true rfl⟩) hwM 0 rfl rfl hl.1 rfl (lv_room (Nat.le_of_ble_eq_true rfl)) d_law_407 ⟨by show 24 + t ≤ 1053; omega, by show 2799 + 6 * t ≤ 11021; omega⟩) ?_
        refine lv_iload hx hb d_law_410 (lv_at hl 0 rfl) ?_
        refine lv_icmp_eq (tgt := 417) hx hb d_law_412 (by decide) (fun _ => ?_) (fun c9 => absurd he c9)
        refine lv_goto (tgt := 941) hx hb d_law_417 (by decide) ?_
        exact hgo u1 f1 v1 _ _ _ (Nat.le_refl _) (Nat.le_refl _) hR1 hwX hwM hS (lv_sub hl [1, 2, 3, 4, 5] rfl)
      by_cases c_5 : x9 = 5
      · refine lv_tableIn (off := 380) (tgt := 420) hx hb d_law_40 (by rw [c_5]; decide +kernel) (by rw [c_5]; decide +kernel) (by rw [c_5]; decide +kernel) (by decide) ?_
        refine lv_aload_n hx hb d_law_420 rfl (lv_at hl 1 rfl) ?_
        refine lv_aload_n hx hb d_law_421 rfl (lv_at hl 0 rfl) ?_
        refine lv_iload hx hb d_law_422 (lv_at hl 4 rfl) ?_
        refine lv_iconst (v := 1) hx hb d_law_424 (by decide) ?_
        refine lv_iadd hx hb d_law_425 ?_
        refine va_sld hx hb hX hbl hbA hS hi1 d_law_426 ?_
        refine lv_aload_n hx hb d_law_427 rfl (lv_at hl 0 rfl) ?_
        refine lv_iload hx hb d_law_428 (lv_at hl 4 rfl) ?_
        refine lv_iconst (v := 2) hx hb d_law_430 (by decide) ?_
        refine lv_iadd hx hb d_law_431 ?_
        refine va_sld hx hb hX hbl hbA hS hi2 d_law_432 ?_
        refine lv_aload_n hx hb d_law_433 rfl (lv_at hl 0 rfl) ?_
        refine lv_iload hx hb d_law_434 (lv_at hl 4 rfl) ?_
        refine lv_iconst (v := 3) hx hb d_law_436 (by decide) ?_
        refine lv_iadd hx hb d_law_437 ?_
        refine va_sld hx hb hX hbl hbA hS hi3 d_law_438 ?_
        refine lv_aload_n hx hb d_law_439 rfl (lv_at hl 0 rfl) ?_
        refine lv_iload hx hb d_law_440 (lv_at hl 4 rfl) ?_
        refine lv_iconst (v := 4) hx hb d_law_442 (by decide) ?_
        refine lv_iadd hx hb d_law_443 ?_
        refine va_sld hx hb hX hbl hbA hS hi4 d_law_444 ?_
        refine lv_aload_n hx hb d_law_445 rfl (lv_at hl 3 rfl) ?_
        obtain ⟨K, hK0⟩ : ∃ K, K = h_rr (u, f) (xs (x4 + 1).toNatClampNeg) (xs (x4 + 2).toNatClampNeg) (xs (x4 + 3).toNatClampNeg) (xs (x4 + 4).toNatClampNeg) := ⟨_, rfl⟩
        refine z_wVG (mc := 1) (ms := 6) (zl_runSW (n := 6) (As := [.ref (a 0), .int (xs (x4 + 1).toNatClampNeg), .int (xs (x4 + 2).toNatClampNeg), .int (xs (x4 + 3).toNatClampNeg), .int (xs (x4 + 4).toNatClampNeg), .ref ao]) (rest := []) ⟨hx, hb, hml, hown, hts⟩ (c_H_rr l hl9 D a k sa ao ko (u, f) (xs (x4 + 1).toNatClampNeg) (xs (x4 + 2).toNatClampNeg) (xs (x4 + 3).toNatClampNeg) (xs (x4 + 4).toNatClampNeg) K hK0.symm (E_rr u (xs (x4 + 1).toNatClampNeg) (xs (x4 + 2).toNatClampNeg) (xs (x4 + 3).toNatClampNeg) (xs (x4 + 4).toNatClampNeg))) kg_H_rr List.mem_cons_self kl_3 kl_31 kl_32 rfl rfl ⟨Nat.le_of_ble_eq_true rfl, Nat.le_of_ble_eq_true rfl⟩ (by decide +kernel) ⟨zPH_blind, fun U hU hW => ⟨rfl, zW_at hwX hU hW, by rw [hU]; exact hE.warm hW (zt_preA hwX) hS.2.1, fun q hq => va_Nc.moved hW.alike (hNc q hq)⟩⟩ hl.1 rfl (lv_room (Nat.le_of_ble_eq_true rfl)) d_law_446 ⟨by show 23 + t + 1 ≤ 1053; omega, by show 2793 + 6 * t + 6 ≤ 11021; omega⟩) hwX hS (fun H1 locs hwX hS hz hk => ?_)
        have hwM := zW_keep hwM hk (fun q hq hq2 => hdis _ _ q hq2 hq)
        obtain ⟨k5, u1, f1⟩ := K
        have hwX : zW D clX (tyL k ko) nwX (xL a k ao ko) (fun q : Nat => s.heap.size ≤ q) s (u1, f1) H1 := hwX
        clear hk hz
        refine W.eq (g2 := F0 m 449 ls [.int k5]) rfl ?_
        refine W.widen (k := 24 + t) (n := 2799 + 6 * t) (by omega) (by omega) ?_
        refine lv_istore (lv' := [(5, .int k5), (0, .ref sb), (1, .ref (a 0)), (2, .ref (b 0)), (3, .ref ao), (4, .int x4)]) hx hb d_law_449 hl (by decide) rfl (fun ls hl => ?_)
        refine lv_aload_n hx hb d_law_451 rfl (lv_at hl 3 rfl) ?_
        refine lv_aload_n hx hb d_law_452 rfl (lv_at hl 1 rfl) ?_
        refine lv_iload hx hb d_law_453 (lv_at hl 5 rfl) ?_
        refine lv_iconst (v := 1) hx hb d_law_455 (by decide) ?_
        refine lv_iadd hx hb d_law_456 ?_
        refine va_sld hx hb hX hbl hbA hS hi1 d_law_457 ?_
        refine lv_aload_n hx hb d_law_458 rfl (lv_at hl 1 rfl) ?_
        refine lv_iload hx hb d_law_459 (lv_at hl 5 rfl) ?_
        refine lv_iconst (v := 2) hx hb d_law_461 (by decide) ?_
        refine lv_iadd hx hb d_law_462 ?_
        refine va_sld hx hb hX hbl hbA hS hi2 d_law_463 ?_
        refine lv_aload_n hx hb d_law_464 rfl (lv_at hl 1 rfl) ?_
        refine lv_iload hx hb d_law_465 (lv_at hl 5 rfl) ?_
        refine lv_iconst (v := 3) hx hb d_law_467 (by decide) ?_
        refine lv_iadd hx hb d_law_468 ?_
        refine va_sld hx hb hX hbl hbA hS hi3 d_law_469 ?_
        refine lv_aload_n hx hb d_law_470 rfl (lv_at hl 1 rfl) ?_
        refine lv_iload hx hb d_law_471 (lv_at hl 5 rfl) ?_
        refine lv_iconst (v := 4) hx hb d_law_473 (by decide) ?_
        refine lv_iadd hx hb d_law_474 ?_
        refine va_sld hx hb hX hbl hbA hS hi4 d_law_475 ?_
        obtain ⟨b6, v1, hv1, he, hb6, hR1⟩ := P_rr hRel f (xs (x4 + 1).toNatClampNeg) (xs (x4 + 2).toNatClampNeg) (xs (x4 + 3).toNatClampNeg) (xs (x4 + 4).toNatClampNeg)
        rw [← hK0] at hb6
        rw [← hK0] at he hR1
        refine z_wVG (mc := 0) (ms := 0) (V := (some (.int b6))) (F := v1) (z_runV (As := [.int (xs (x4 + 1).toNatClampNeg), .int (xs (x4 + 2).toNatClampNeg), .int (xs (x4 + 3).toNatClampNeg), .int (xs (x4 + 4).toNatClampNeg)]) (rest := []) ⟨hx, hb, hml, hown, hts⟩ (c_MMo_rr l D2 b j v (xs (x4 + 1).toNatClampNeg) (xs (x4 + 2).toNatClampNeg) (xs (x4 + 3).toNatClampNeg) (xs (x4 + 4).toNatClampNeg) (b6, v1) hv1) (cwV 4 hts (zgV kl_33 kl_34 kl_35 kl_7 kc_MMo_rr) rfl rfl rfl (by decide +kernel) ⟨Nat.le_of_ble_eq_true rfl, Nat.le_of_ble_eq_true rfl⟩) hwM 0 rfl rfl hl.1 rfl (lv_room (Nat.le_of_ble_eq_true rfl)) d_law_476 ⟨by show 24 + t ≤ 1053; omega, by show 2799 + 6 * t ≤ 11021; omega⟩) hwM hS (fun H2 locs hwM hS hz hk => ?_)
        have hwX := zW_keep hwX hk (fun q hq hq2 => hdis _ _ q hq hq2)
        clear hk hz
        refine W.eq (g2 := F0 m 479 ls [.int b6]) rfl ?_
        refine lv_istore (lv' := [(6, .int b6), (5, .int k5), (0, .ref sb), (1, .ref (a 0)), (2, .ref (b 0)), (3, .ref ao), (4, .int x4)]) hx hb d_law_479 hl (by decide) rfl (fun ls hl => ?_)
        refine lv_aload_n hx hb d_law_481 rfl (lv_at hl 4 rfl) ?_
        refine z_rV (V := .int (mF v1 0)) (z_runV (As := []) (rest := []) ⟨hx, hb, hml, hown, hts⟩ (c_MMo_thrown l D2 b j v1 (mF v1 0) rfl) (cwV 0 hts (zgV kl_8 kl_9 kl_10 kl_7 kc_MMo_thrown) rfl rfl rfl (by decide +kernel) ⟨Nat.le_of_ble_eq_true rfl, Nat.le_of_ble_eq_true rfl⟩) hwM 0 rfl rfl hl.1 rfl (lv_room (Nat.le_of_ble_eq_true rfl)) d_law_482 ⟨by show 24 + t ≤ 1053; omega, by show 2799 + 6 * t ≤ 11021; omega⟩) ?_
        refine lv_iload hx hb d_law_485 (lv_at hl 1 rfl) ?_
        refine lv_icmp_eq (tgt := 492) hx hb d_law_487 (by decide) (fun _ => ?_) (fun c9 => absurd he c9)
        refine lv_iload hx hb d_law_492 (lv_at hl 1 rfl) ?_
        refine lv_if_ne (tgt := 509) hx hb d_law_494 (by decide) (fun _ => ?_) (fun c8 => ?_)
        · refine lv_goto (tgt := 941) hx hb d_law_509 (by decide) ?_
          exact hgo u1 f1 v1 _ _ _ (Nat.le_refl _) (Nat.le_refl _) hR1 hwX hwM hS (lv_sub hl [2, 3, 4, 5, 6] rfl)
        refine lv_aload_n hx hb d_law_497 rfl (lv_at hl 5 rfl) ?_
        refine lv_iconst (v := 0) hx hb d_law_498 (by decide) ?_
        refine va_lald hx hb hwX.2.1 hwX.1 13 3 rfl rfl z_in01 d_law_499 ?_
        refine W.eq (g2 := F0 m 500 ls [.long (f1 0)]) rfl ?_
        refine lv_iload hx hb d_law_500 (lv_at hl 0 rfl) ?_
        refine lv_i2l (v := Int32.toInt64 b6) hx hb d_law_502 rfl ?_
        refine z_lcmp_eq (tgt := 509) hx hb d_law_503 d_law_504 (by decide) (fun _ => ?_) (fun c9 => absurd (hb6 c8) c9)
        refine lv_goto (tgt := 941) hx hb d_law_509 (by decide) ?_
        exact hgo u1 f1 v1 _ _ _ (Nat.le_refl _) (Nat.le_refl _) hR1 hwX hwM hS (lv_sub hl [2, 3, 4, 5, 6] rfl)
      by_cases c_6 : x9 = 6
      · refine lv_tableIn (off := 472) (tgt := 512) hx hb d_law_40 (by rw [c_6]; decide +kernel) (by rw [c_6]; decide +kernel) (by rw [c_6]; decide +kernel) (by decide) ?_
        refine lv_aload_n hx hb d_law_512 rfl (lv_at hl 1 rfl) ?_
        refine lv_aload_n hx hb d_law_513 rfl (lv_at hl 0 rfl) ?_
        refine lv_iload hx hb d_law_514 (lv_at hl 4 rfl) ?_
        refine lv_iconst (v := 1) hx hb d_law_516 (by decide) ?_
        refine lv_iadd hx hb d_law_517 ?_
        refine va_sld hx hb hX hbl hbA hS hi1 d_law_518 ?_
        refine lv_aload_n hx hb d_law_519 rfl (lv_at hl 0 rfl) ?_
        refine lv_iload hx hb d_law_520 (lv_at hl 4 rfl) ?_
        refine lv_iconst (v := 2) hx hb d_law_522 (by decide) ?_
        refine lv_iadd hx hb d_law_523 ?_
        refine va_sld hx hb hX hbl hbA hS hi2 d_law_524 ?_
        refine lv_aload_n hx hb d_law_525 rfl (lv_at hl 0 rfl) ?_
        refine lv_iload hx hb d_law_526 (lv_at hl 4 rfl) ?_
        refine lv_iconst (v := 3) hx hb d_law_528 (by decide) ?_
        refine lv_iadd hx hb d_law_529 ?_
        refine va_sld hx hb hX hbl hbA hS hi3 d_law_530 ?_
        refine lv_aload_n hx hb d_law_531 rfl (lv_at hl 0 rfl) ?_
        refine lv_iload hx hb d_law_532 (lv_at hl 4 rfl) ?_
        refine lv_iconst (v := 4) hx hb d_law_534 (by decide) ?_
        refine lv_iadd hx hb d_law_535 ?_
        refine va_sld hx hb hX hbl hbA hS hi4 d_law_536 ?_
        refine lv_aload_n hx hb d_law_537 rfl (lv_at hl 0 rfl) ?_
        refine lv_iload hx hb d_law_538 (lv_at hl 4 rfl) ?_
        refine lv_iconst (v := 5) hx hb d_law_540 (by decide) ?_
        refine lv_iadd hx hb d_law_541 ?_
        refine va_sld hx hb hX hbl hbA hS hi5 d_law_542 ?_
        refine lv_aload_n hx hb d_law_543 rfl (lv_at hl 0 rfl) ?_
        refine lv_iload hx hb d_law_544 (lv_at hl 4 rfl) ?_
        refine lv_bipush (v := 6) hx hb d_law_546 (by decide) ?_
        refine lv_iadd hx hb d_law_548 ?_
        refine va_sld hx hb hX hbl hbA hS hi6 d_law_549 ?_
        refine lv_aload_n hx hb d_law_550 rfl (lv_at hl 3 rfl) ?_
        obtain ⟨K, hK0⟩ : ∃ K, K = h_rx (u, f) (xs (x4 + 1).toNatClampNeg) (xs (x4 + 2).toNatClampNeg) (xs (x4 + 3).toNatClampNeg) (xs (x4 + 4).toNatClampNeg) (xs (x4 + 5).toNatClampNeg) (xs (x4 + 6).toNatClampNeg) := ⟨_, rfl⟩
        refine z_wVG (mc := 1) (ms := 6) (zl_runSW (n := 8) (As := [.ref (a 0), .int (xs (x4 + 1).toNatClampNeg), .int (xs (x4 + 2).toNatClampNeg), .int (xs (x4 + 3).toNatClampNeg), .int (xs (x4 + 4).toNatClampNeg), .int (xs (x4 + 5).toNatClampNeg), .int (xs (x4 + 6).toNatClampNeg), .ref ao]) (rest := []) ⟨hx, hb, hml, hown, hts⟩ (c_H_rx l hl9 D a k sa ao ko (u, f) (xs (x4 + 1).toNatClampNeg) (xs (x4 + 2).toNatClampNeg) (xs (x4 + 3).toNatClampNeg) (xs (x4 + 4).toNatClampNeg) (xs (x4 + 5).toNatClampNeg) (xs (x4 + 6).toNatClampNeg) K hK0.symm (E_rx u (xs (x4 + 1).toNatClampNeg) (xs (x4 + 2).toNatClampNeg) (xs (x4 + 3).toNatClampNeg) (xs (x4 + 4).toNatClampNeg) (xs (x4 + 5).toNatClampNeg) (xs (x4 + 6).toNatClampNeg))) kg_H_rx List.mem_cons_self kl_3 kl_36 kl_37 rfl rfl ⟨Nat.le_of_ble_eq_true rfl, Nat.le_of_ble_eq_true rfl⟩ (by decide +kernel) ⟨zPH_blind, fun U hU hW => ⟨rfl, zW_at hwX hU hW, by rw [hU]; exact hE.warm hW (zt_preA hwX) hS.2.1, fun q hq => va_Nc.moved hW.alike (hNc q hq)⟩⟩ hl.1 rfl (lv_room (Nat.le_of_ble_eq_true rfl)) d_law_551 ⟨by show 23 + t + 1 ≤ 1053; omega, by show 2793 + 6 * t + 6 ≤ 11021; omega⟩) hwX hS (fun H1 locs hwX hS hz hk => ?_)
        have hwM := zW_keep hwM hk (fun q hq hq2 => hdis _ _ q hq2 hq)
        obtain ⟨k5, u1, f1⟩ := K
        have hwX : zW D clX (tyL k ko) nwX (xL a k ao ko) (fun q : Nat => s.heap.size ≤ q) s (u1, f1) H1 := hwX
        clear hk hz
        refine W.eq (g2 := F0 m 554 ls [.int k5]) rfl ?_
        refine W.widen (k := 24 + t) (n := 2799 + 6 * t) (by omega) (by omega) ?_
        refine lv_istore (lv' := [(5, .int k5), (0, .ref sb), (1, .ref (a 0)), (2, .ref (b 0)), (3, .ref ao), (4, .int x4)]) hx hb d_law_554 hl (by decide) rfl (fun ls hl => ?_)
        refine lv_aload_n hx hb d_law_556 rfl (lv_at hl 3 rfl) ?_
        refine lv_aload_n hx hb d_law_557 rfl (lv_at hl 1 rfl) ?_
        refine lv_iload hx hb d_law_558 (lv_at hl 5 rfl) ?_
        refine lv_iconst (v := 1) hx hb d_law_560 (by decide) ?_
        refine lv_iadd hx hb d_law_561 ?_
        refine va_sld hx hb hX hbl hbA hS hi1 d_law_562 ?_
        refine lv_aload_n hx hb d_law_563 rfl (lv_at hl 1 rfl) ?_
        refine lv_iload hx hb d_law_564 (lv_at hl 5 rfl) ?_
        refine lv_iconst (v := 2) hx hb d_law_566 (by decide) ?_
        refine lv_iadd hx hb d_law_567 ?_
        refine va_sld hx hb hX hbl hbA hS hi2 d_law_568 ?_
        refine lv_aload_n hx hb d_law_569 rfl (lv_at hl 1 rfl) ?_
        refine lv_iload hx hb d_law_570 (lv_at hl 5 rfl) ?_
        refine lv_iconst (v := 3) hx hb d_law_572 (by decide) ?_
        refine lv_iadd hx hb d_law_573 ?_
        refine va_sld hx hb hX hbl hbA hS hi3 d_law_574 ?_
        refine lv_aload_n hx hb d_law_575 rfl (lv_at hl 1 rfl) ?_
        refine lv_iload hx hb d_law_576 (lv_at hl 5 rfl) ?_
        refine lv_iconst (v := 4) hx hb d_law_578 (by decide) ?_
        refine lv_iadd hx hb d_law_579 ?_
        refine va_sld hx hb hX hbl hbA hS hi4 d_law_580 ?_
        refine lv_aload_n hx hb d_law_581 rfl (lv_at hl 1 rfl) ?_
        refine lv_iload hx hb d_law_582 (lv_at hl 5 rfl) ?_
        refine lv_iconst (v := 5) hx hb d_law_584 (by decide) ?_
        refine lv_iadd hx hb d_law_585 ?_
        refine va_sld hx hb hX hbl hbA hS hi5 d_law_586 ?_
        refine lv_aload_n hx hb d_law_587 rfl (lv_at hl 1 rfl) ?_
        refine lv_iload hx hb d_law_588 (lv_at hl 5 rfl) ?_
        refine lv_bipush (v := 6) hx hb d_law_590 (by decide) ?_
        refine lv_iadd hx hb d_law_592 ?_
        refine va_sld hx hb hX hbl hbA hS hi6 d_law_593 ?_
        obtain ⟨b6, v1, hv1, he, hb6, hR1⟩ := P_rx hRel f (xs (x4 + 1).toNatClampNeg) (xs (x4 + 2).toNatClampNeg) (xs (x4 + 3).toNatClampNeg) (xs (x4 + 4).toNatClampNeg) (xs (x4 + 5).toNatClampNeg) (xs (x4 + 6).toNatClampNeg)
        rw [← hK0] at hb6
        rw [← hK0] at he hR1
        refine z_wVG (mc := 0) (ms := 0) (V := (some (.int b6))) (F := v1) (z_runV (As := [.int (xs (x4 + 1).toNatClampNeg), .int (xs (x4 + 2).toNatClampNeg), .int (xs (x4 + 3).toNatClampNeg), .int (xs (x4 + 4).toNatClampNeg), .int (xs (x4 + 5).toNatClampNeg), .int (xs (x4 + 6).toNatClampNeg)]) (rest := []) ⟨hx, hb, hml, hown, hts⟩ (c_MMo_rx l D2 b j v (xs (x4 + 1).toNatClampNeg) (xs (x4 + 2).toNatClampNeg) (xs (x4 + 3).toNatClampNeg) (xs (x4 + 4).toNatClampNeg) (xs (x4 + 5).toNatClampNeg) (xs (x4 + 6).toNatClampNeg) (b6, v1) hv1) (cwV 6 hts (zgV kl_38 kl_39 kl_40 kl_7 kc_MMo_rx) rfl rfl rfl (by decide +kernel) ⟨Nat.le_of_ble_eq_true rfl, Nat.le_of_ble_eq_true rfl⟩) hwM 0 rfl rfl hl.1 rfl (lv_room (Nat.le_of_ble_eq_true rfl)) d_law_594 ⟨by show 24 + t ≤ 1053; omega, by show 2799 + 6 * t ≤ 11021; omega⟩) hwM hS (fun H2 locs hwM hS hz hk => ?_)
        have hwX := zW_keep hwX hk (fun q hq hq2 => hdis _ _ q hq hq2)
        clear hk hz
        refine W.eq (g2 := F0 m 597 ls [.int b6]) rfl ?_
        refine lv_istore (lv' := [(6, .int b6), (5, .int k5), (0, .ref sb), (1, .ref (a 0)), (2, .ref (b 0)), (3, .ref ao), (4, .int x4)]) hx hb d_law_597 hl (by decide) rfl (fun ls hl => ?_)
        refine lv_aload_n hx hb d_law_599 rfl (lv_at hl 4 rfl) ?_
        refine z_rV (V := .int (mF v1 0)) (z_runV (As := []) (rest := []) ⟨hx, hb, hml, hown, hts⟩ (c_MMo_thrown l D2 b j v1 (mF v1 0) rfl) (cwV 0 hts (zgV kl_8 kl_9 kl_10 kl_7 kc_MMo_thrown) rfl rfl rfl (by decide +kernel) ⟨Nat.le_of_ble_eq_true rfl, Nat.le_of_ble_eq_true rfl⟩) hwM 0 rfl rfl hl.1 rfl (lv_room (Nat.le_of_ble_eq_true rfl)) d_law_600 ⟨by show 24 + t ≤ 1053; omega, by show 2799 + 6 * t ≤ 11021; omega⟩) ?_
        refine lv_iload hx hb d_law_603 (lv_at hl 1 rfl) ?_
        refine lv_icmp_eq (tgt := 610) hx hb d_law_605 (by decide) (fun _ => ?_) (fun c9 => absurd he c9)
        refine lv_iload hx hb d_law_610 (lv_at hl 1 rfl) ?_
        refine lv_if_ne (tgt := 627) hx hb d_law_612 (by decide) (fun _ => ?_) (fun c8 => ?_)
        · refine lv_goto (tgt := 941) hx hb d_law_627 (by decide) ?_
          exact hgo u1 f1 v1 _ _ _ (Nat.le_refl _) (Nat.le_refl _) hR1 hwX hwM hS (lv_sub hl [2, 3, 4, 5, 6] rfl)
        refine lv_aload_n hx hb d_law_615 rfl (lv_at hl 5 rfl) ?_
        refine lv_iconst (v := 0) hx hb d_law_616 (by decide) ?_
        refine va_lald hx hb hwX.2.1 hwX.1 13 3 rfl rfl z_in01 d_law_617 ?_
        refine W.eq (g2 := F0 m 618 ls [.long (f1 0)]) rfl ?_
        refine lv_iload hx hb d_law_618 (lv_at hl 0 rfl) ?_
        refine lv_i2l (v := Int32.toInt64 b6) hx hb d_law_620 rfl ?_
        refine z_lcmp_eq (tgt := 627) hx hb d_law_621 d_law_622 (by decide) (fun _ => ?_) (fun c9 => absurd (hb6 c8) c9)
        refine lv_goto (tgt := 941) hx hb d_law_627 (by decide) ?_
        exact hgo u1 f1 v1 _ _ _ (Nat.le_refl _) (Nat.le_refl _) hR1 hwX hwM hS (lv_sub hl [2, 3, 4, 5, 6] rfl)
      by_cases c_7 : x9 = 7
      · refine lv_tableIn (off := 590) (tgt := 630) hx hb d_law_40 (by rw [c_7]; decide +kernel) (by rw [c_7]; decide +kernel) (by rw [c_7]; decide +kernel) (by decide) ?_
        refine lv_aload_n hx hb d_law_630 rfl (lv_at hl 1 rfl) ?_
        refine lv_aload_n hx hb d_law_631 rfl (lv_at hl 0 rfl) ?_
        refine lv_iload hx hb d_law_632 (lv_at hl 4 rfl) ?_
        refine lv_iconst (v := 1) hx hb d_law_634 (by decide) ?_
        refine lv_iadd hx hb d_law_635 ?_
        refine va_sld hx hb hX hbl hbA hS hi1 d_law_636 ?_
        refine lv_aload_n hx hb d_law_637 rfl (lv_at hl 0 rfl) ?_
        refine lv_iload hx hb d_law_638 (lv_at hl 4 rfl) ?_
        refine lv_iconst (v := 2) hx hb d_law_640 (by decide) ?_
        refine lv_iadd hx hb d_law_641 ?_
        refine va_sld hx hb hX hbl hbA hS hi2 d_law_642 ?_
        refine lv_aload_n hx hb d_law_643 rfl (lv_at hl 0 rfl) ?_
        refine lv_iload hx hb d_law_644 (lv_at hl 4 rfl) ?_
        refine lv_iconst (v := 3) hx hb d_law_646 (by decide) ?_
        refine lv_iadd hx hb d_law_647 ?_
        refine va_sld hx hb hX hbl hbA hS hi3 d_law_648 ?_
        refine lv_aload_n hx hb d_law_649 rfl (lv_at hl 0 rfl) ?_
        refine lv_iload hx hb d_law_650 (lv_at hl 4 rfl) ?_
        refine lv_iconst (v := 4) hx hb d_law_652 (by decide) ?_
        refine lv_iadd hx hb d_law_653 ?_
        refine va_sld hx hb hX hbl hbA hS hi4 d_law_654 ?_
        refine lv_aload_n hx hb d_law_655 rfl (lv_at hl 0 rfl) ?_
        refine lv_iload hx hb d_law_656 (lv_at hl 4 rfl) ?_
        refine lv_iconst (v := 5) hx hb d_law_658 (by decide) ?_
        refine lv_iadd hx hb d_law_659 ?_
        refine va_sld hx hb hX hbl hbA hS hi5 d_law_660 ?_
        refine lv_aload_n hx hb d_law_661 rfl (lv_at hl 0 rfl) ?_
        refine lv_iload hx hb d_law_662 (lv_at hl 4 rfl) ?_
        refine lv_bipush (v := 6) hx hb d_law_664 (by decide) ?_
        refine lv_iadd hx hb d_law_666 ?_
        refine va_sld hx hb hX hbl hbA hS hi6 d_law_667 ?_
        refine lv_aload_n hx hb d_law_668 rfl (lv_at hl 0 rfl) ?_
        refine lv_iload hx hb d_law_669 (lv_at hl 4 rfl) ?_
        refine lv_bipush (v := 7) hx hb d_law_671 (by decide) ?_
        refine lv_iadd hx hb d_law_673 ?_
        refine va_sld hx hb hX hbl hbA hS hi7 d_law_674 ?_
        refine lv_aload_n hx hb d_law_675 rfl (lv_at hl 3 rfl) ?_
        obtain ⟨K, hK0⟩ : ∃ K, K = h_ss (u, f) (xs (x4 + 1).toNatClampNeg) (xs (x4 + 2).toNatClampNeg) (xs (x4 + 3).toNatClampNeg) (xs (x4 + 4).toNatClampNeg) (xs (x4 + 5).toNatClampNeg) (xs (x4 + 6).toNatClampNeg) (xs (x4 + 7).toNatClampNeg) := ⟨_, rfl⟩
        refine z_wVG (mc := 1) (ms := 6) (zl_runSW (n := 9) (As := [.ref (a 0), .int (xs (x4 + 1).toNatClampNeg), .int (xs (x4 + 2).toNatClampNeg), .int (xs (x4 + 3).toNatClampNeg), .int (xs (x4 + 4).toNatClampNeg), .int (xs (x4 + 5).toNatClampNeg), .int (xs (x4 + 6).toNatClampNeg), .int (xs (x4 + 7).toNatClampNeg), .ref ao]) (rest := []) ⟨hx, hb, hml, hown, hts⟩ (c_H_ss l hl9 D a k sa ao ko (u, f) (xs (x4 + 1).toNatClampNeg) (xs (x4 + 2).toNatClampNeg) (xs (x4 + 3).toNatClampNeg) (xs (x4 + 4).toNatClampNeg) (xs (x4 + 5).toNatClampNeg) (xs (x4 + 6).toNatClampNeg) (xs (x4 + 7).toNatClampNeg) K hK0.symm (E_ss u (xs (x4 + 1).toNatClampNeg) (xs (x4 + 2).toNatClampNeg) (xs (x4 + 3).toNatClampNeg) (xs (x4 + 4).toNatClampNeg) (xs (x4 + 5).toNatClampNeg) (xs (x4 + 6).toNatClampNeg) (xs (x4 + 7).toNatClampNeg))) kg_H_ss List.mem_cons_self kl_3 kl_41 kl_42 rfl rfl ⟨Nat.le_of_ble_eq_true rfl, Nat.le_of_ble_eq_true rfl⟩ (by decide +kernel) ⟨zPH_blind, fun U hU hW => ⟨rfl, zW_at hwX hU hW, by rw [hU]; exact hE.warm hW (zt_preA hwX) hS.2.1, fun q hq => va_Nc.moved hW.alike (hNc q hq)⟩⟩ hl.1 rfl (lv_room (Nat.le_of_ble_eq_true rfl)) d_law_676 ⟨by show 23 + t + 1 ≤ 1053; omega, by show 2793 + 6 * t + 6 ≤ 11021; omega⟩) hwX hS (fun H1 locs hwX hS hz hk => ?_)
        have hwM := zW_keep hwM hk (fun q hq hq2 => hdis _ _ q hq2 hq)
        obtain ⟨k5, u1, f1⟩ := K
        have hwX : zW D clX (tyL k ko) nwX (xL a k ao ko) (fun q : Nat => s.heap.size ≤ q) s (u1, f1) H1 := hwX
        clear hk hz
        refine W.eq (g2 := F0 m 679 ls [.int k5]) rfl ?_
        refine W.widen (k := 24 + t) (n := 2799 + 6 * t) (by omega) (by omega) ?_
        refine lv_istore (lv' := [(5, .int k5), (0, .ref sb), (1, .ref (a 0)), (2, .ref (b 0)), (3, .ref ao), (4, .int x4)]) hx hb d_law_679 hl (by decide) rfl (fun ls hl => ?_)
        refine lv_aload_n hx hb d_law_681 rfl (lv_at hl 3 rfl) ?_
        refine lv_aload_n hx hb d_law_682 rfl (lv_at hl 1 rfl) ?_
        refine lv_iload hx hb d_law_683 (lv_at hl 5 rfl) ?_
        refine lv_iconst (v := 1) hx hb d_law_685 (by decide) ?_
        refine lv_iadd hx hb d_law_686 ?_
        refine va_sld hx hb hX hbl hbA hS hi1 d_law_687 ?_
        refine lv_aload_n hx hb d_law_688 rfl (lv_at hl 1 rfl) ?_
        refine lv_iload hx hb d_law_689 (lv_at hl 5 rfl) ?_
        refine lv_iconst (v := 2) hx hb d_law_691 (by decide) ?_
        refine lv_iadd hx hb d_law_692 ?_
        refine va_sld hx hb hX hbl hbA hS hi2 d_law_693 ?_
        refine lv_aload_n hx hb d_law_694 rfl (lv_at hl 1 rfl) ?_
        refine lv_iload hx hb d_law_695 (lv_at hl 5 rfl) ?_
        refine lv_iconst (v := 3) hx hb d_law_697 (by decide) ?_
        refine lv_iadd hx hb d_law_698 ?_
        refine va_sld hx hb hX hbl hbA hS hi3 d_law_699 ?_
        refine lv_aload_n hx hb d_law_700 rfl (lv_at hl 1 rfl) ?_
        refine lv_iload hx hb d_law_701 (lv_at hl 5 rfl) ?_
        refine lv_iconst (v := 4) hx hb d_law_703 (by decide) ?_
        refine lv_iadd hx hb d_law_704 ?_
        refine va_sld hx hb hX hbl hbA hS hi4 d_law_705 ?_
        refine lv_aload_n hx hb d_law_706 rfl (lv_at hl 1 rfl) ?_
        refine lv_iload hx hb d_law_707 (lv_at hl 5 rfl) ?_
        refine lv_iconst (v := 5) hx hb d_law_709 (by decide) ?_
        refine lv_iadd hx hb d_law_710 ?_
        refine va_sld hx hb hX hbl hbA hS hi5 d_law_711 ?_
        refine lv_aload_n hx hb d_law_712 rfl (lv_at hl 1 rfl) ?_
        refine lv_iload hx hb d_law_713 (lv_at hl 5 rfl) ?_
        refine lv_bipush (v := 6) hx hb d_law_715 (by decide) ?_
        refine lv_iadd hx hb d_law_717 ?_
        refine va_sld hx hb hX hbl hbA hS hi6 d_law_718 ?_
        refine lv_aload_n hx hb d_law_719 rfl (lv_at hl 1 rfl) ?_
        refine lv_iload hx hb d_law_720 (lv_at hl 5 rfl) ?_
        refine lv_bipush (v := 7) hx hb d_law_722 (by decide) ?_
        refine lv_iadd hx hb d_law_724 ?_
        refine va_sld hx hb hX hbl hbA hS hi7 d_law_725 ?_
        obtain ⟨b6, v1, hv1, he, hb6, hR1⟩ := P_ss hRel f (xs (x4 + 1).toNatClampNeg) (xs (x4 + 2).toNatClampNeg) (xs (x4 + 3).toNatClampNeg) (xs (x4 + 4).toNatClampNeg) (xs (x4 + 5).toNatClampNeg) (xs (x4 + 6).toNatClampNeg) (xs (x4 + 7).toNatClampNeg)
        rw [← hK0] at hb6
        rw [← hK0] at he hR1
        refine z_wVG (mc := 0) (ms := 0) (V := (some (.int b6))) (F := v1) (z_runV (As := [.int (xs (x4 + 1).toNatClampNeg), .int (xs (x4 + 2).toNatClampNeg), .int (xs (x4 + 3).toNatClampNeg), .int (xs (x4 + 4).toNatClampNeg), .int (xs (x4 + 5).toNatClampNeg), .int (xs (x4 + 6).toNatClampNeg), .int (xs (x4 + 7).toNatClampNeg)]) (rest := []) ⟨hx, hb, hml, hown, hts⟩ (c_MMo_ss l D2 b j v (xs (x4 + 1).toNatClampNeg) (xs (x4 + 2).toNatClampNeg) (xs (x4 + 3).toNatClampNeg) (xs (x4 + 4).toNatClampNeg) (xs (x4 + 5).toNatClampNeg) (xs (x4 + 6).toNatClampNeg) (xs (x4 + 7).toNatClampNeg) (b6, v1) hv1) (cwV 7 hts (zgV kl_43 kl_44 kl_45 kl_7 kc_MMo_ss) rfl rfl rfl (by decide +kernel) ⟨Nat.le_of_ble_eq_true rfl, Nat.le_of_ble_eq_true rfl⟩) hwM 0 rfl rfl hl.1 rfl (lv_room (Nat.le_of_ble_eq_true rfl)) d_law_726 ⟨by show 24 + t ≤ 1053; omega, by show 2799 + 6 * t ≤ 11021; omega⟩) hwM hS (fun H2 locs hwM hS hz hk => ?_)
        have hwX := zW_keep hwX hk (fun q hq hq2 => hdis _ _ q hq hq2)
        clear hk hz
        refine W.eq (g2 := F0 m 729 ls [.int b6]) rfl ?_
        refine lv_istore (lv' := [(6, .int b6), (5, .int k5), (0, .ref sb), (1, .ref (a 0)), (2, .ref (b 0)), (3, .ref ao), (4, .int x4)]) hx hb d_law_729 hl (by decide) rfl (fun ls hl => ?_)
        refine lv_aload_n hx hb d_law_731 rfl (lv_at hl 4 rfl) ?_
        refine z_rV (V := .int (mF v1 0)) (z_runV (As := []) (rest := []) ⟨hx, hb, hml, hown, hts⟩ (c_MMo_thrown l D2 b j v1 (mF v1 0) rfl) (cwV 0 hts (zgV kl_8 kl_9 kl_10 kl_7 kc_MMo_thrown) rfl rfl rfl (by decide +kernel) ⟨Nat.le_of_ble_eq_true rfl, Nat.le_of_ble_eq_true rfl⟩) hwM 0 rfl rfl hl.1 rfl (lv_room (Nat.le_of_ble_eq_true rfl)) d_law_732 ⟨by show 24 + t ≤ 1053; omega, by show 2799 + 6 * t ≤ 11021; omega⟩) ?_
        refine lv_iload hx hb d_law_735 (lv_at hl 1 rfl) ?_
        refine lv_icmp_eq (tgt := 742) hx hb d_law_737 (by decide) (fun _ => ?_) (fun c9 => absurd he c9)
        refine lv_iload hx hb d_law_742 (lv_at hl 1 rfl) ?_
        refine lv_if_ne (tgt := 759) hx hb d_law_744 (by decide) (fun _ => ?_) (fun c8 => ?_)
        · refine lv_goto (tgt := 941) hx hb d_law_759 (by decide) ?_
          exact hgo u1 f1 v1 _ _ _ (Nat.le_refl _) (Nat.le_refl _) hR1 hwX hwM hS (lv_sub hl [2, 3, 4, 5, 6] rfl)
        refine lv_aload_n hx hb d_law_747 rfl (lv_at hl 5 rfl) ?_
        refine lv_iconst (v := 0) hx hb d_law_748 (by decide) ?_
        refine va_lald hx hb hwX.2.1 hwX.1 13 3 rfl rfl z_in01 d_law_749 ?_
        refine W.eq (g2 := F0 m 750 ls [.long (f1 0)]) rfl ?_
        refine lv_iload hx hb d_law_750 (lv_at hl 0 rfl) ?_
        refine lv_i2l (v := Int32.toInt64 b6) hx hb d_law_752 rfl ?_
        refine z_lcmp_eq (tgt := 759) hx hb d_law_753 d_law_754 (by decide) (fun _ => ?_) (fun c9 => absurd (hb6 c8) c9)
        refine lv_goto (tgt := 941) hx hb d_law_759 (by decide) ?_
        exact hgo u1 f1 v1 _ _ _ (Nat.le_refl _) (Nat.le_refl _) hR1 hwX hwM hS (lv_sub hl [2, 3, 4, 5, 6] rfl)
      by_cases c_8 : x9 = 8
      · refine lv_tableIn (off := 722) (tgt := 762) hx hb d_law_40 (by rw [c_8]; decide +kernel) (by rw [c_8]; decide +kernel) (by rw [c_8]; decide +kernel) (by decide) ?_
        refine lv_aload_n hx hb d_law_762 rfl (lv_at hl 1 rfl) ?_
        refine lv_aload_n hx hb d_law_763 rfl (lv_at hl 0 rfl) ?_
        refine lv_iload hx hb d_law_764 (lv_at hl 4 rfl) ?_
        refine lv_iconst (v := 1) hx hb d_law_766 (by decide) ?_
        refine lv_iadd hx hb d_law_767 ?_
        refine va_sld hx hb hX hbl hbA hS hi1 d_law_768 ?_
        refine lv_aload_n hx hb d_law_769 rfl (lv_at hl 3 rfl) ?_
        obtain ⟨K, hK0⟩ : ∃ K, K = h_run (u, f) (xs (x4 + 1).toNatClampNeg) := ⟨_, rfl⟩
        refine z_wVG (mc := 1) (ms := 6) (zl_runSW (n := 3) (As := [.ref (a 0), .int (xs (x4 + 1).toNatClampNeg), .ref ao]) (rest := []) ⟨hx, hb, hml, hown, hts⟩ (c_H_run l hl9 D a k sa ao ko (u, f) (xs (x4 + 1).toNatClampNeg) K hK0.symm (E_run u (xs (x4 + 1).toNatClampNeg))) kg_H_run List.mem_cons_self kl_3 kl_46 kl_47 rfl rfl ⟨Nat.le_of_ble_eq_true rfl, Nat.le_of_ble_eq_true rfl⟩ (by decide +kernel) ⟨zPH_blind, fun U hU hW => ⟨rfl, zW_at hwX hU hW, by rw [hU]; exact hE.warm hW (zt_preA hwX) hS.2.1, fun q hq => va_Nc.moved hW.alike (hNc q hq)⟩⟩ hl.1 rfl (lv_room (Nat.le_of_ble_eq_true rfl)) d_law_770 ⟨by show 23 + t + 1 ≤ 1053; omega, by show 2793 + 6 * t + 6 ≤ 11021; omega⟩) hwX hS (fun H1 locs hwX hS hz hk => ?_)
        have hwM := zW_keep hwM hk (fun q hq hq2 => hdis _ _ q hq2 hq)
        obtain ⟨k5, u1, f1⟩ := K
        have hwX : zW D clX (tyL k ko) nwX (xL a k ao ko) (fun q : Nat => s.heap.size ≤ q) s (u1, f1) H1 := hwX
        clear hk hz
        refine W.eq (g2 := F0 m 773 ls [.int k5]) rfl ?_
        refine W.widen (k := 24 + t) (n := 2799 + 6 * t) (by omega) (by omega) ?_
        refine lv_istore (lv' := [(5, .int k5), (0, .ref sb), (1, .ref (a 0)), (2, .ref (b 0)), (3, .ref ao), (4, .int x4)]) hx hb d_law_773 hl (by decide) rfl (fun ls hl => ?_)
        refine lv_aload_n hx hb d_law_775 rfl (lv_at hl 3 rfl) ?_
        refine lv_aload_n hx hb d_law_776 rfl (lv_at hl 1 rfl) ?_
        refine lv_iload hx hb d_law_777 (lv_at hl 5 rfl) ?_
        refine lv_iconst (v := 1) hx hb d_law_779 (by decide) ?_
        refine lv_iadd hx hb d_law_780 ?_
        refine va_sld hx hb hX hbl hbA hS hi1 d_law_781 ?_
        obtain ⟨b6, v1, hv1, he, hb6, hR1⟩ := P_run hRel f (xs (x4 + 1).toNatClampNeg)
        rw [← hK0] at hb6
        rw [← hK0] at he hR1
        refine z_wVG (mc := 0) (ms := 0) (V := (some (.int b6))) (F := v1) (z_runV (As := [.int (xs (x4 + 1).toNatClampNeg)]) (rest := []) ⟨hx, hb, hml, hown, hts⟩ (c_MMo_run l D2 b j v (xs (x4 + 1).toNatClampNeg) (b6, v1) hv1) (cwV 1 hts (zgV kl_48 kl_49 kl_50 kl_7 kc_MMo_run) rfl rfl rfl (by decide +kernel) ⟨Nat.le_of_ble_eq_true rfl, Nat.le_of_ble_eq_true rfl⟩) hwM 0 rfl rfl hl.1 rfl (lv_room (Nat.le_of_ble_eq_true rfl)) d_law_782 ⟨by show 24 + t ≤ 1053; omega, by show 2799 + 6 * t ≤ 11021; omega⟩) hwM hS (fun H2 locs hwM hS hz hk => ?_)
        have hwX := zW_keep hwX hk (fun q hq hq2 => hdis _ _ q hq hq2)
        clear hk hz
        refine W.eq (g2 := F0 m 785 ls [.int b6]) rfl ?_
        refine lv_istore (lv' := [(6, .int b6), (5, .int k5), (0, .ref sb), (1, .ref (a 0)), (2, .ref (b 0)), (3, .ref ao), (4, .int x4)]) hx hb d_law_785 hl (by decide) rfl (fun ls hl => ?_)
        refine lv_aload_n hx hb d_law_787 rfl (lv_at hl 4 rfl) ?_
        refine z_rV (V := .int (mF v1 0)) (z_runV (As := []) (rest := []) ⟨hx, hb, hml, hown, hts⟩ (c_MMo_thrown l D2 b j v1 (mF v1 0) rfl) (cwV 0 hts (zgV kl_8 kl_9 kl_10 kl_7 kc_MMo_thrown) rfl rfl rfl (by decide +kernel) ⟨Nat.le_of_ble_eq_true rfl, Nat.le_of_ble_eq_true rfl⟩) hwM 0 rfl rfl hl.1 rfl (lv_room (Nat.le_of_ble_eq_true rfl)) d_law_788 ⟨by show 24 + t ≤ 1053; omega, by show 2799 + 6 * t ≤ 11021; omega⟩) ?_
        refine lv_iload hx hb d_law_791 (lv_at hl 1 rfl) ?_
        refine lv_icmp_eq (tgt := 798) hx hb d_law_793 (by decide) (fun _ => ?_) (fun c9 => absurd he c9)
        refine lv_iload hx hb d_law_798 (lv_at hl 1 rfl) ?_
        refine lv_if_ne (tgt := 815) hx hb d_law_800 (by decide) (fun _ => ?_) (fun c8 => ?_)
        · refine lv_goto (tgt := 941) hx hb d_law_815 (by decide) ?_
          exact hgo u1 f1 v1 _ _ _ (Nat.le_refl _) (Nat.le_refl _) hR1 hwX hwM hS (lv_sub hl [2, 3, 4, 5, 6] rfl)
        refine lv_aload_n hx hb d_law_803 rfl (lv_at hl 5 rfl) ?_
        refine lv_iconst (v := 0) hx hb d_law_804 (by decide) ?_
        refine va_lald hx hb hwX.2.1 hwX.1 13 3 rfl rfl z_in01 d_law_805 ?_
        refine W.eq (g2 := F0 m 806 ls [.long (f1 0)]) rfl ?_
        refine lv_iload hx hb d_law_806 (lv_at hl 0 rfl) ?_
        refine lv_i2l (v := Int32.toInt64 b6) hx hb d_law_808 rfl ?_
        refine z_lcmp_eq (tgt := 815) hx hb d_law_809 d_law_810 (by decide) (fun _ => ?_) (fun c9 => absurd (hb6 c8) c9)
        refine lv_goto (tgt := 941) hx hb d_law_815 (by decide) ?_
        exact hgo u1 f1 v1 _ _ _ (Nat.le_refl _) (Nat.le_refl _) hR1 hwX hwM hS (lv_sub hl [2, 3, 4, 5, 6] rfl)
      by_cases c_9 : x9 = 9
      · refine lv_tableIn (off := 778) (tgt := 818) hx hb d_law_40 (by rw [c_9]; decide +kernel) (by rw [c_9]; decide +kernel) (by rw [c_9]; decide +kernel) (by decide) ?_
        refine lv_aload_n hx hb d_law_818 rfl (lv_at hl 1 rfl) ?_
        refine lv_aload_n hx hb d_law_819 rfl (lv_at hl 0 rfl) ?_
        refine lv_iload hx hb d_law_820 (lv_at hl 4 rfl) ?_
        refine lv_iconst (v := 1) hx hb d_law_822 (by decide) ?_
        refine lv_iadd hx hb d_law_823 ?_
        refine va_sld hx hb hX hbl hbA hS hi1 d_law_824 ?_
        refine lv_aload_n hx hb d_law_825 rfl (lv_at hl 0 rfl) ?_
        refine lv_iload hx hb d_law_826 (lv_at hl 4 rfl) ?_
        refine lv_iconst (v := 2) hx hb d_law_828 (by decide) ?_
        refine lv_iadd hx hb d_law_829 ?_
        refine va_sld hx hb hX hbl hbA hS hi2 d_law_830 ?_
        refine lv_aload_n hx hb d_law_831 rfl (lv_at hl 3 rfl) ?_
        obtain ⟨K, hK0⟩ : ∃ K, K = h_packed (u, f) (xs (x4 + 1).toNatClampNeg) (xs (x4 + 2).toNatClampNeg) := ⟨_, rfl⟩
        refine z_wVG (mc := 1) (ms := 6) (zl_runSW (n := 4) (As := [.ref (a 0), .int (xs (x4 + 1).toNatClampNeg), .int (xs (x4 + 2).toNatClampNeg), .ref ao]) (rest := []) ⟨hx, hb, hml, hown, hts⟩ (c_H_packed l hl9 D a k sa ao ko (u, f) (xs (x4 + 1).toNatClampNeg) (xs (x4 + 2).toNatClampNeg) K hK0.symm (E_packed u (xs (x4 + 1).toNatClampNeg) (xs (x4 + 2).toNatClampNeg))) kg_H_packed List.mem_cons_self kl_3 kl_51 kl_52 rfl rfl ⟨Nat.le_of_ble_eq_true rfl, Nat.le_of_ble_eq_true rfl⟩ (by decide +kernel) ⟨zPH_blind, fun U hU hW => ⟨rfl, zW_at hwX hU hW, by rw [hU]; exact hE.warm hW (zt_preA hwX) hS.2.1, fun q hq => va_Nc.moved hW.alike (hNc q hq)⟩⟩ hl.1 rfl (lv_room (Nat.le_of_ble_eq_true rfl)) d_law_832 ⟨by show 23 + t + 1 ≤ 1053; omega, by show 2793 + 6 * t + 6 ≤ 11021; omega⟩) hwX hS (fun H1 locs hwX hS hz hk => ?_)
        have hwM := zW_keep hwM hk (fun q hq hq2 => hdis _ _ q hq2 hq)
        obtain ⟨k5, u1, f1⟩ := K
        have hwX : zW D clX (tyL k ko) nwX (xL a k ao ko) (fun q : Nat => s.heap.size ≤ q) s (u1, f1) H1 := hwX
        clear hk hz
        refine W.eq (g2 := F0 m 835 ls [.int k5]) rfl ?_
        refine W.widen (k := 24 + t) (n := 2799 + 6 * t) (by omega) (by omega) ?_
        refine lv_istore (lv' := [(5, .int k5), (0, .ref sb), (1, .ref (a 0)), (2, .ref (b 0)), (3, .ref ao), (4, .int x4)]) hx hb d_law_835 hl (by decide) rfl (fun ls hl => ?_)
        refine lv_aload_n hx hb d_law_837 rfl (lv_at hl 3 rfl) ?_
        refine lv_aload_n hx hb d_law_838 rfl (lv_at hl 1 rfl) ?_
        refine lv_iload hx hb d_law_839 (lv_at hl 5 rfl) ?_
        refine lv_iconst (v := 1) hx hb d_law_841 (by decide) ?_
        refine lv_iadd hx hb d_law_842 ?_
        refine va_sld hx hb hX hbl hbA hS hi1 d_law_843 ?_
        refine lv_aload_n hx hb d_law_844 rfl (lv_at hl 1 rfl) ?_
        refine lv_iload hx hb d_law_845 (lv_at hl 5 rfl) ?_
        refine lv_iconst (v := 2) hx hb d_law_847 (by decide) ?_
        refine lv_iadd hx hb d_law_848 ?_
        refine va_sld hx hb hX hbl hbA hS hi2 d_law_849 ?_
        obtain ⟨b6, v1, hv1, he, hb6, hR1⟩ := P_packed hRel f (xs (x4 + 1).toNatClampNeg) (xs (x4 + 2).toNatClampNeg)
        rw [← hK0] at hb6
        rw [← hK0] at he hR1
        refine z_wVG (mc := 0) (ms := 0) (V := (some (.long b6))) (F := v1) (z_runV (As := [.int (xs (x4 + 1).toNatClampNeg), .int (xs (x4 + 2).toNatClampNeg)]) (rest := []) ⟨hx, hb, hml, hown, hts⟩ (c_MMo_packed l D2 b j v (xs (x4 + 1).toNatClampNeg) (xs (x4 + 2).toNatClampNeg) (b6, v1) hv1) (cwV 2 hts (zgV kl_53 kl_54 kl_55 kl_7 kc_MMo_packed) rfl rfl rfl (by decide +kernel) ⟨Nat.le_of_ble_eq_true rfl, Nat.le_of_ble_eq_true rfl⟩) hwM 0 rfl rfl hl.1 rfl (lv_room (Nat.le_of_ble_eq_true rfl)) d_law_850 ⟨by show 24 + t ≤ 1053; omega, by show 2799 + 6 * t ≤ 11021; omega⟩) hwM hS (fun H2 locs hwM hS hz hk => ?_)
        have hwX := zW_keep hwX hk (fun q hq hq2 => hdis _ _ q hq hq2)
        clear hk hz
        refine W.eq (g2 := F0 m 853 ls [.long b6]) rfl ?_
        refine lv_lstore (lv' := [(6, .long b6), (5, .int k5), (0, .ref sb), (1, .ref (a 0)), (2, .ref (b 0)), (3, .ref ao), (4, .int x4)]) hx hb d_law_853 hl (by decide) rfl (fun ls hl => ?_)
        refine lv_aload_n hx hb d_law_855 rfl (lv_at hl 4 rfl) ?_
        refine z_rV (V := .int (mF v1 0)) (z_runV (As := []) (rest := []) ⟨hx, hb, hml, hown, hts⟩ (c_MMo_thrown l D2 b j v1 (mF v1 0) rfl) (cwV 0 hts (zgV kl_8 kl_9 kl_10 kl_7 kc_MMo_thrown) rfl rfl rfl (by decide +kernel) ⟨Nat.le_of_ble_eq_true rfl, Nat.le_of_ble_eq_true rfl⟩) hwM 0 rfl rfl hl.1 rfl (lv_room (Nat.le_of_ble_eq_true rfl)) d_law_856 ⟨by show 24 + t ≤ 1053; omega, by show 2799 + 6 * t ≤ 11021; omega⟩) ?_
        refine lv_iload hx hb d_law_859 (lv_at hl 1 rfl) ?_
        refine lv_icmp_eq (tgt := 866) hx hb d_law_861 (by decide) (fun _ => ?_) (fun c9 => absurd he c9)
        refine lv_iload hx hb d_law_866 (lv_at hl 1 rfl) ?_
        refine lv_if_ne (tgt := 882) hx hb d_law_868 (by decide) (fun _ => ?_) (fun c8 => ?_)
        · refine lv_goto (tgt := 941) hx hb d_law_882 (by decide) ?_
          exact hgo u1 f1 v1 _ _ _ (Nat.le_refl _) (Nat.le_refl _) hR1 hwX hwM hS (lv_sub hl [2, 3, 4, 5, 6] rfl)
        refine lv_aload_n hx hb d_law_871 rfl (lv_at hl 5 rfl) ?_
        refine lv_iconst (v := 0) hx hb d_law_872 (by decide) ?_
        refine va_lald hx hb hwX.2.1 hwX.1 13 3 rfl rfl z_in01 d_law_873 ?_
        refine W.eq (g2 := F0 m 874 ls [.long (f1 0)]) rfl ?_
        refine lv_lload hx hb d_law_874 (lv_at hl 0 rfl) ?_
        refine z_lcmp_eq (tgt := 882) hx hb d_law_876 d_law_877 (by decide) (fun _ => ?_) (fun c9 => absurd (hb6 c8) c9)
        refine lv_goto (tgt := 941) hx hb d_law_882 (by decide) ?_
        exact hgo u1 f1 v1 _ _ _ (Nat.le_refl _) (Nat.le_refl _) hR1 hwX hwM hS (lv_sub hl [2, 3, 4, 5, 6] rfl)
      by_cases c_10 : x9 = 10
      · refine lv_tableIn (off := 845) (tgt := 885) hx hb d_law_40 (by rw [c_10]; decide +kernel) (by rw [c_10]; decide +kernel) (by rw [c_10]; decide +kernel) (by decide) ?_
        refine lv_aload_n hx hb d_law_885 rfl (lv_at hl 1 rfl) ?_
        refine lv_aload_n hx hb d_law_886 rfl (lv_at hl 0 rfl) ?_
        refine lv_iload hx hb d_law_887 (lv_at hl 4 rfl) ?_
        refine lv_iconst (v := 1) hx hb d_law_889 (by decide) ?_
        refine lv_iadd hx hb d_law_890 ?_
        refine va_sld hx hb hX hbl hbA hS hi1 d_law_891 ?_
        refine lv_aload_n hx hb d_law_892 rfl (lv_at hl 3 rfl) ?_
        obtain ⟨K, hK0⟩ : ∃ K, K = h_count (u, f) (xs (x4 + 1).toNatClampNeg) := ⟨_, rfl⟩
        refine z_wVG (mc := 1) (ms := 6) (zl_runSW (n := 3) (As := [.ref (a 0), .int (xs (x4 + 1).toNatClampNeg), .ref ao]) (rest := []) ⟨hx, hb, hml, hown, hts⟩ (c_H_count l hl9 D a k sa ao ko (u, f) (xs (x4 + 1).toNatClampNeg) K hK0.symm (E_count u (xs (x4 + 1).toNatClampNeg))) kg_H_count List.mem_cons_self kl_3 kl_56 kl_57 rfl rfl ⟨Nat.le_of_ble_eq_true rfl, Nat.le_of_ble_eq_true rfl⟩ (by decide +kernel) ⟨zPH_blind, fun U hU hW => ⟨rfl, zW_at hwX hU hW, by rw [hU]; exact hE.warm hW (zt_preA hwX) hS.2.1, fun q hq => va_Nc.moved hW.alike (hNc q hq)⟩⟩ hl.1 rfl (lv_room (Nat.le_of_ble_eq_true rfl)) d_law_893 ⟨by show 23 + t + 1 ≤ 1053; omega, by show 2793 + 6 * t + 6 ≤ 11021; omega⟩) hwX hS (fun H1 locs hwX hS hz hk => ?_)
        have hwM := zW_keep hwM hk (fun q hq hq2 => hdis _ _ q hq2 hq)
        obtain ⟨k5, u1, f1⟩ := K
        have hwX : zW D clX (tyL k ko) nwX (xL a k ao ko) (fun q : Nat => s.heap.size ≤ q) s (u1, f1) H1 := hwX
        clear hk hz
        refine W.eq (g2 := F0 m 896 ls [.int k5]) rfl ?_
        refine W.widen (k := 24 + t) (n := 2799 + 6 * t) (by omega) (by omega) ?_
        refine lv_istore (lv' := [(5, .int k5), (0, .ref sb), (1, .ref (a 0)), (2, .ref (b 0)), (3, .ref ao), (4, .int x4)]) hx hb d_law_896 hl (by decide) rfl (fun ls hl => ?_)
        refine lv_aload_n hx hb d_law_898 rfl (lv_at hl 3 rfl) ?_
        refine lv_aload_n hx hb d_law_899 rfl (lv_at hl 1 rfl) ?_
        refine lv_iload hx hb d_law_900 (lv_at hl 5 rfl) ?_
        refine lv_iconst (v := 1) hx hb d_law_902 (by decide) ?_
        refine lv_iadd hx hb d_law_903 ?_
        refine va_sld hx hb hX hbl hbA hS hi1 d_law_904 ?_
        obtain ⟨b6, v1, hv1, he, hb6, hR1⟩ := P_count hRel f (xs (x4 + 1).toNatClampNeg)
        rw [← hK0] at hb6
        rw [← hK0] at he hR1
        refine z_wVG (mc := 0) (ms := 0) (V := (some (.int b6))) (F := v1) (z_runV (As := [.int (xs (x4 + 1).toNatClampNeg)]) (rest := []) ⟨hx, hb, hml, hown, hts⟩ (c_MMo_count l D2 b j v (xs (x4 + 1).toNatClampNeg) (b6, v1) hv1) (cwV 1 hts (zgV kl_58 kl_59 kl_60 kl_7 kc_MMo_count) rfl rfl rfl (by decide +kernel) ⟨Nat.le_of_ble_eq_true rfl, Nat.le_of_ble_eq_true rfl⟩) hwM 0 rfl rfl hl.1 rfl (lv_room (Nat.le_of_ble_eq_true rfl)) d_law_905 ⟨by show 24 + t ≤ 1053; omega, by show 2799 + 6 * t ≤ 11021; omega⟩) hwM hS (fun H2 locs hwM hS hz hk => ?_)
        have hwX := zW_keep hwX hk (fun q hq hq2 => hdis _ _ q hq hq2)
        clear hk hz
        refine W.eq (g2 := F0 m 908 ls [.int b6]) rfl ?_
        refine lv_istore (lv' := [(6, .int b6), (5, .int k5), (0, .ref sb), (1, .ref (a 0)), (2, .ref (b 0)), (3, .ref ao), (4, .int x4)]) hx hb d_law_908 hl (by decide) rfl (fun ls hl => ?_)
        refine lv_aload_n hx hb d_law_910 rfl (lv_at hl 4 rfl) ?_
        refine z_rV (V := .int (mF v1 0)) (z_runV (As := []) (rest := []) ⟨hx, hb, hml, hown, hts⟩ (c_MMo_thrown l D2 b j v1 (mF v1 0) rfl) (cwV 0 hts (zgV kl_8 kl_9 kl_10 kl_7 kc_MMo_thrown) rfl rfl rfl (by decide +kernel) ⟨Nat.le_of_ble_eq_true rfl, Nat.le_of_ble_eq_true rfl⟩) hwM 0 rfl rfl hl.1 rfl (lv_room (Nat.le_of_ble_eq_true rfl)) d_law_911 ⟨by show 24 + t ≤ 1053; omega, by show 2799 + 6 * t ≤ 11021; omega⟩) ?_
        refine lv_iload hx hb d_law_914 (lv_at hl 1 rfl) ?_
        refine lv_icmp_eq (tgt := 921) hx hb d_law_916 (by decide) (fun _ => ?_) (fun c9 => absurd he c9)
        refine lv_iload hx hb d_law_921 (lv_at hl 1 rfl) ?_
        refine lv_if_ne (tgt := 938) hx hb d_law_923 (by decide) (fun _ => ?_) (fun c8 => ?_)
        · refine lv_goto (tgt := 941) hx hb d_law_938 (by decide) ?_
          exact hgo u1 f1 v1 _ _ _ (Nat.le_refl _) (Nat.le_refl _) hR1 hwX hwM hS (lv_sub hl [2, 3, 4, 5, 6] rfl)
        refine lv_aload_n hx hb d_law_926 rfl (lv_at hl 5 rfl) ?_
        refine lv_iconst (v := 0) hx hb d_law_927 (by decide) ?_
        refine va_lald hx hb hwX.2.1 hwX.1 13 3 rfl rfl z_in01 d_law_928 ?_
        refine W.eq (g2 := F0 m 929 ls [.long (f1 0)]) rfl ?_
        refine lv_iload hx hb d_law_929 (lv_at hl 0 rfl) ?_
        refine lv_i2l (v := Int32.toInt64 b6) hx hb d_law_931 rfl ?_
        refine z_lcmp_eq (tgt := 938) hx hb d_law_932 d_law_933 (by decide) (fun _ => ?_) (fun c9 => absurd (hb6 c8) c9)
        refine lv_goto (tgt := 941) hx hb d_law_938 (by decide) ?_
        exact hgo u1 f1 v1 _ _ _ (Nat.le_refl _) (Nat.le_refl _) hR1 hwX hwM hS (lv_sub hl [2, 3, 4, 5, 6] rfl)
      refine lv_tableOut (tgt := 941) hx hb d_law_40 (by have := lv_neT c_0 (a := 0) (by decide +kernel); have := lv_neT c_1 (a := 1) (by decide +kernel); have := lv_neT c_2 (a := 2) (by decide +kernel); have := lv_neT c_3 (a := 3) (by decide +kernel); have := lv_neT c_4 (a := 4) (by decide +kernel); have := lv_neT c_5 (a := 5) (by decide +kernel); have := lv_neT c_6 (a := 6) (by decide +kernel); have := lv_neT c_7 (a := 7) (by decide +kernel); have := lv_neT c_8 (a := 8) (by decide +kernel); have := lv_neT c_9 (a := 9) (by decide +kernel); have := lv_neT c_10 (a := 10) (by decide +kernel); omega) (by decide) ?_
      exact hgo u f v _ _ _ (by omega) (by omega) hRel hwX hwM hS (lv_sub hl [0, 1, 2, 3, 4] rfl)
