def h_poke (w : XS × (Nat → Int64)) (x1 : Int32) (x2 : Int32) (y3 : Int64) : Int32 × (XS × (Nat → Int64)) := hv ["java/lang/IllegalArgumentException", "java/lang/IndexOutOfBoundsException"] w.2 (f_XDM_poke w.1 x1 x2 y3)
set_option maxHeartbeats 4000000 in
set_option maxRecDepth 100000 in
theorem c_H_poke (l : Launch) (hl9 : l.stackTraces = false) (D : va_G) (a : Nat → Nat) (k : Nat → ClassId) (sa : Nat → Nat) (ao : Nat) (ko : ClassId) (w : XS × (Nat → Int64)) (x1 : Int32) (x2 : Int32) (y3 : Int64) (F : Int32 × (XS × (Nat → Int64))) (hF : h_poke w x1 x2 y3 = F) (hEs : ∀ E u, f_XDM_poke w.1 x1 x2 y3 = Sum.inl (E, u) → E = "java/lang/IllegalArgumentException" ∨ E = "java/lang/IndexOutOfBoundsException") : Met l y_H_poke w_H_poke rm_H_poke (zPH D clX (tyL k ko) nwX (skX sa) (xL a k ao ko) [.ref (a 0), .int x1, .int x2, .long y3] w) (zQ D clX (xL a k ao ko) w (some (.int F.1)) F.2) 1 6 (zA (xL a k ao ko w)) := by
  refine va_MetW (cc := b_H_poke) (maxL := 6) (ret := some .int) (hh := hh_H_poke) (by decide) rfl ?_
  intro p e s m args below meth c s₁ B hml hv
  obtain ⟨rfl, hw, hE, hNc⟩ := hv
  have hx := B.exec
  have hb := B.bytes
  have hr := B.returns
  have hlocks := B.notSynchronized
  have hts0 := atoms_spec (ws := w_H_poke) B.pre
  have hts : ∀ w ∈ G0, w.before _ s = true := fun w h => hts0 w (List.mem_cons_of_mem _ h)
  have hown : s.vm.findClass RL = some m.cls := findClass_of_methodNamed B.named
  have htab : c.exceptionTable.toList = tableOf hh_H_poke := zl_table B (hts0 _ List.mem_cons_self)
  have hw : zW D clX (tyL k ko) nwX (xL a k ao ko) (zA (xL a k ao ko w)) s w s.heap := ⟨hw.1, hw.2.1, ⟨hw.2.2.1.1, fun k q hk => ⟨k, q.2, hk⟩⟩, hw.2.2.2⟩
  generalize hAe : zA (xL a k ao ko w) = A at hw hE ⊢
  have hS : va_S A s.heap s.heap [] := va_S.rf
  have hcs : 0 ≤ (rm_H_poke).cells ∧ 0 ≤ (rm_H_poke).slots := ⟨Nat.zero_le _, Nat.zero_le _⟩
  have hl := lv_entry ([.ref (a 0), .int x1, .int x2, .long y3]) (n := 6) (Nat.le_of_ble_eq_true rfl)
  rw [lg_entry_eq]
  generalize (lg_sl ([.ref (a 0), .int x1, .int x2, .long y3]) ++ List.replicate (6 - (lg_sl ([.ref (a 0), .int x1, .int x2, .long y3])).length) Slot.unset).toArray = ls at hl ⊢
  have hl : lv_has ls 6 [(0, .ref (a 0)), (1, .int x1), (2, .int x2), (3, .long y3)] := hl
  refine lv_aload_n hx hb d_H_poke_0 rfl (lv_at hl 0 rfl) ?_
  refine lv_iload_n hx hb d_H_poke_1 rfl (lv_at hl 1 rfl) ?_
  refine lv_iload_n hx hb d_H_poke_2 rfl (lv_at hl 2 rfl) ?_
  refine lv_lload_n hx hb d_H_poke_3 rfl (lv_at hl 3 rfl) ?_
  cases hq : f_XDM_poke w.1 x1 x2 y3 with
  | inl q =>
    obtain ⟨E, u1⟩ := q
    have hF1 : hv ["java/lang/IllegalArgumentException", "java/lang/IndexOutOfBoundsException"] w.2 (Sum.inl (E, u1)) = F := by rw [← hF, ← hq]; rfl
    have hE9 := hEs E u1 hq
    rcases hE9 with rfl | rfl
    · subst hF1
      refine zt_catch (ztV (rm := rx_XDM_poke) (As := [.int x1, .int x2, .long y3]) (rest := []) ⟨hx, hb, hml, hown, hts⟩ (cx_XDM_poke l hl9 D a k sa w.1 x1 x2 y3 "java/lang/IllegalArgumentException" u1 hq) (cwV 3 hts (zgV kh_0 kh_1 kh_2 kh_3 kc_XDM_poke) rfl rfl rfl (by decide +kernel) ⟨Nat.le_of_ble_eq_true rfl, Nat.le_of_ble_eq_true rfl⟩) (xL_sub hw) hE hS 0 rfl rfl hl.1 rfl (lv_room (Nat.le_of_ble_eq_true rfl)) d_H_poke_4 ⟨Nat.le_of_ble_eq_true rfl, Nat.le_of_ble_eq_true rfl⟩) hown [] ⟨0, 7, 10, 13⟩ [⟨0, 7, 14, 15⟩] htab (fun z hz => nomatch hz) (by decide) (by decide) (hts _ kh_4) (va_Nw.use rfl (hE.2.2.2 _ (List.mem_of_getElem? (i := 1) rfl))) (xL_sub hw) hS (fun q9 H locs hw1 hS hz hk => ?_)
      have hw := xL_ext hw hw1 hk
      refine lv_astore (lv' := [(5, .ref q9), (0, .ref (a 0)), (1, .int x1), (2, .int x2), (3, .long y3)]) hx hb d_H_poke_10 hl (by decide) rfl (fun ls hl => ?_)
      refine lv_iconst (v := 1) hx hb d_H_poke_12 (by decide) ?_
      rw [← hAe]
      rw [← hAe] at hw hS
      exact W.iret hx hb hr (fun t ht hW => ⟨congrArg (fun z => Outcome.returned (some (Value.int z))) (show (1 : Int32) = xc ["java/lang/IllegalArgumentException", "java/lang/IndexOutOfBoundsException"] 1 "java/lang/IllegalArgumentException" from by decide +kernel), ⟨by rw [ht]; exact hw.1, hw.2.2.1⟩, hS.F ht⟩) hS.2.2 d_H_poke_13
    · subst hF1
      refine zt_catch (ztV (rm := rx_XDM_poke) (As := [.int x1, .int x2, .long y3]) (rest := []) ⟨hx, hb, hml, hown, hts⟩ (cx_XDM_poke l hl9 D a k sa w.1 x1 x2 y3 "java/lang/IndexOutOfBoundsException" u1 hq) (cwV 3 hts (zgV kh_0 kh_1 kh_2 kh_3 kc_XDM_poke) rfl rfl rfl (by decide +kernel) ⟨Nat.le_of_ble_eq_true rfl, Nat.le_of_ble_eq_true rfl⟩) (xL_sub hw) hE hS 0 rfl rfl hl.1 rfl (lv_room (Nat.le_of_ble_eq_true rfl)) d_H_poke_4 ⟨Nat.le_of_ble_eq_true rfl, Nat.le_of_ble_eq_true rfl⟩) hown [⟨0, 7, 10, 13⟩] ⟨0, 7, 14, 15⟩ [] htab (by
        intro z hz
        simp only [List.mem_cons, List.not_mem_nil, or_false] at hz
        rcases hz with rfl
        · exact ⟨by decide, "java/lang/IllegalArgumentException", hts _ kh_4, hNc _ (List.mem_of_getElem? (i := 0) rfl)⟩) (by decide) (by decide) (hts _ kh_5) (va_Nw.use rfl (hE.2.2.2 _ (List.mem_of_getElem? (i := 2) rfl))) (xL_sub hw) hS (fun q9 H locs hw1 hS hz hk => ?_)
      have hw := xL_ext hw hw1 hk
      refine lv_astore (lv' := [(5, .ref q9), (0, .ref (a 0)), (1, .int x1), (2, .int x2), (3, .long y3)]) hx hb d_H_poke_14 hl (by decide) rfl (fun ls hl => ?_)
      refine lv_iconst (v := 2) hx hb d_H_poke_16 (by decide) ?_
      rw [← hAe]
      rw [← hAe] at hw hS
      exact W.iret hx hb hr (fun t ht hW => ⟨congrArg (fun z => Outcome.returned (some (Value.int z))) (show (2 : Int32) = xc ["java/lang/IllegalArgumentException", "java/lang/IndexOutOfBoundsException"] 1 "java/lang/IndexOutOfBoundsException" from by decide +kernel), ⟨by rw [ht]; exact hw.1, hw.2.2.1⟩, hS.F ht⟩) hS.2.2 d_H_poke_17
  | inr r =>
    have hF1 : hv ["java/lang/IllegalArgumentException", "java/lang/IndexOutOfBoundsException"] w.2 (Sum.inr r) = F := by rw [← hF, ← hq]; rfl
    subst hF1
    refine z_wVG (mc := 0) (ms := 0) (z_runV (rm := rm_XDM_poke) (As := [.int x1, .int x2, .long y3]) (rest := []) ⟨hx, hb, hml, hown, hts⟩ (cn_XDM_poke l D a k w.1 x1 x2 y3 r hq) (cwV 3 hts (zgV kh_0 kh_1 kh_2 kh_3 kc_XDM_poke) rfl rfl rfl (by decide +kernel) ⟨Nat.le_of_ble_eq_true rfl, Nat.le_of_ble_eq_true rfl⟩) (xL_sub hw) 0 rfl rfl hl.1 rfl (lv_room (Nat.le_of_ble_eq_true rfl)) d_H_poke_4 ⟨Nat.zero_le _, Nat.zero_le _⟩) (xL_sub hw) hS (fun H locs hw1 hS hz hk => ?_)
    have hw := xL_ext hw hw1 hk
    refine W.eq (g2 := F0 m 7 ls []) rfl ?_
    refine lv_goto (tgt := 18) hx hb d_H_poke_7 (by decide) ?_
    refine lv_iconst (v := 0) hx hb d_H_poke_18 (by decide) ?_
    refine W.widen (k := 1) (n := 6) (by omega) (by omega) ?_
    rw [← hAe]
    rw [← hAe] at hw hS
    exact W.iret hx hb hr (fun t ht hW => ⟨rfl, ⟨by rw [ht]; exact hw.1, hw.2.2.1⟩, hS.F ht⟩) hS.2.2 d_H_poke_19
def h_octet (w : XS × (Nat → Int64)) (x1 : Int32) : Int32 × (XS × (Nat → Int64)) := hi ["java/lang/IndexOutOfBoundsException"] w.2 (f_XDM_octet w.1 x1)
set_option maxHeartbeats 4000000 in
set_option maxRecDepth 100000 in
theorem c_H_octet (l : Launch) (hl9 : l.stackTraces = false) (D : va_G) (a : Nat → Nat) (k : Nat → ClassId) (sa : Nat → Nat) (ao : Nat) (ko : ClassId) (w : XS × (Nat → Int64)) (x1 : Int32) (F : Int32 × (XS × (Nat → Int64))) (hF : h_octet w x1 = F) (hEs : ∀ E u, f_XDM_octet w.1 x1 = Sum.inl (E, u) → E = "java/lang/IndexOutOfBoundsException") : Met l y_H_octet w_H_octet rm_H_octet (zPH D clX (tyL k ko) nwX (skX sa) (xL a k ao ko) [.ref (a 0), .int x1, .ref ao] w) (zQ D clX (xL a k ao ko) w (some (.int F.1)) F.2) 1 6 (zA (xL a k ao ko w)) := by
  refine va_MetW (cc := b_H_octet) (maxL := 4) (ret := some .int) (hh := hh_H_octet) (by decide) rfl ?_
  intro p e s m args below meth c s₁ B hml hv
  obtain ⟨rfl, hw, hE, hNc⟩ := hv
  have hx := B.exec
  have hb := B.bytes
  have hr := B.returns
  have hlocks := B.notSynchronized
  have hts0 := atoms_spec (ws := w_H_octet) B.pre
  have hts : ∀ w ∈ G0, w.before _ s = true := fun w h => hts0 w (List.mem_cons_of_mem _ h)
  have hown : s.vm.findClass RL = some m.cls := findClass_of_methodNamed B.named
  have htab : c.exceptionTable.toList = tableOf hh_H_octet := zl_table B (hts0 _ List.mem_cons_self)
  have hw : zW D clX (tyL k ko) nwX (xL a k ao ko) (zA (xL a k ao ko w)) s w s.heap := ⟨hw.1, hw.2.1, ⟨hw.2.2.1.1, fun k q hk => ⟨k, q.2, hk⟩⟩, hw.2.2.2⟩
  generalize hAe : zA (xL a k ao ko w) = A at hw hE ⊢
  have hS : va_S A s.heap s.heap [] := va_S.rf
  have hcs : 0 ≤ (rm_H_octet).cells ∧ 0 ≤ (rm_H_octet).slots := ⟨Nat.zero_le _, Nat.zero_le _⟩
  have hl := lv_entry ([.ref (a 0), .int x1, .ref ao]) (n := 4) (Nat.le_of_ble_eq_true rfl)
  rw [lg_entry_eq]
  generalize (lg_sl ([.ref (a 0), .int x1, .ref ao]) ++ List.replicate (4 - (lg_sl ([.ref (a 0), .int x1, .ref ao])).length) Slot.unset).toArray = ls at hl ⊢
  have hl : lv_has ls 4 [(0, .ref (a 0)), (1, .int x1), (2, .ref ao)] := hl
  refine lv_aload_n hx hb d_H_octet_0 rfl (lv_at hl 2 rfl) ?_
  refine lv_iconst (v := 0) hx hb d_H_octet_1 (by decide) ?_
  refine lv_aload_n hx hb d_H_octet_2 rfl (lv_at hl 0 rfl) ?_
  refine lv_iload_n hx hb d_H_octet_3 rfl (lv_at hl 1 rfl) ?_
  cases hq : f_XDM_octet w.1 x1 with
  | inl q =>
    obtain ⟨E, u1⟩ := q
    have hF1 : hi ["java/lang/IndexOutOfBoundsException"] w.2 (Sum.inl (E, u1)) = F := by rw [← hF, ← hq]; rfl
    have hE9 := hEs E u1 hq
    subst hE9
    subst hF1
    refine zt_catch (ztV (rm := rx_XDM_octet) (As := [.int x1]) (rest := [.int 0, .ref ao]) ⟨hx, hb, hml, hown, hts⟩ (cx_XDM_octet l hl9 D a k sa w.1 x1 "java/lang/IndexOutOfBoundsException" u1 hq) (cwV 1 hts (zgV kh_6 kh_7 kh_8 kh_3 kc_XDM_octet) rfl rfl rfl (by decide +kernel) ⟨Nat.le_of_ble_eq_true rfl, Nat.le_of_ble_eq_true rfl⟩) (xL_sub hw) hE hS 0 rfl rfl hl.1 rfl (lv_room (Nat.le_of_ble_eq_true rfl)) d_H_octet_4 ⟨Nat.le_of_ble_eq_true rfl, Nat.le_of_ble_eq_true rfl⟩) hown [] ⟨0, 9, 12, 15⟩ [] htab (fun z hz => nomatch hz) (by decide) (by decide) (hts _ kh_5) (va_Nw.use rfl (hE.2.2.2 _ (List.mem_of_getElem? (i := 2) rfl))) (xL_sub hw) hS (fun q9 H locs hw1 hS hz hk => ?_)
    have hw := xL_ext hw hw1 hk
    refine lv_astore_n (lv' := [(3, .ref q9), (0, .ref (a 0)), (1, .int x1), (2, .ref ao)]) hx hb d_H_octet_12 rfl hl (by decide) rfl (fun ls hl => ?_)
    refine lv_iconst (v := 1) hx hb d_H_octet_13 (by decide) ?_
    rw [← hAe]
    rw [← hAe] at hw hS
    exact W.iret hx hb hr (fun t ht hW => ⟨congrArg (fun z => Outcome.returned (some (Value.int z))) (show (1 : Int32) = xc ["java/lang/IndexOutOfBoundsException"] 1 "java/lang/IndexOutOfBoundsException" from by decide +kernel), ⟨by rw [ht]; exact hw.1, hw.2.2.1⟩, hS.F ht⟩) hS.2.2 d_H_octet_14
  | inr r =>
    have hF1 : hi ["java/lang/IndexOutOfBoundsException"] w.2 (Sum.inr r) = F := by rw [← hF, ← hq]; rfl
    subst hF1
    refine z_wVG (mc := 0) (ms := 0) (z_runV (rm := rm_XDM_octet) (As := [.int x1]) (rest := [.int 0, .ref ao]) ⟨hx, hb, hml, hown, hts⟩ (cn_XDM_octet l D a k w.1 x1 r hq) (cwV 1 hts (zgV kh_6 kh_7 kh_8 kh_3 kc_XDM_octet) rfl rfl rfl (by decide +kernel) ⟨Nat.le_of_ble_eq_true rfl, Nat.le_of_ble_eq_true rfl⟩) (xL_sub hw) 0 rfl rfl hl.1 rfl (lv_room (Nat.le_of_ble_eq_true rfl)) d_H_octet_4 ⟨Nat.zero_le _, Nat.zero_le _⟩) (xL_sub hw) hS (fun H locs hw1 hS hz hk => ?_)
    have hw := xL_ext hw hw1 hk
    refine W.eq (g2 := F0 m 7 ls [.int r.1, .int 0, .ref ao]) rfl ?_
    refine lv_i2l (v := r.1.toInt64) hx hb d_H_octet_7 rfl ?_
    refine va_last hx hb hw.2.1 hw.1 hw.2.2.1 hS 13 3 rfl rfl z_in01 d_H_octet_8 (fun H locs hP hD hS => ?_)
    have hw : zW D clX (tyL k ko) nwX (xL a k ao ko) A s (r.2, vp_updL w.2 0 r.1.toInt64) H := ⟨hP, hw.2.1, hD, hw.2.2.2⟩
    refine lv_goto (tgt := 15) hx hb d_H_octet_9 (by decide) ?_
    refine lv_iconst (v := 0) hx hb d_H_octet_15 (by decide) ?_
    refine W.widen (k := 1) (n := 6) (by omega) (by omega) ?_
    rw [← hAe]
    rw [← hAe] at hw hS
    exact W.iret hx hb hr (fun t ht hW => ⟨rfl, ⟨by rw [ht]; exact hw.1, hw.2.2.1⟩, hS.F ht⟩) hS.2.2 d_H_octet_16
def h_set (w : XS × (Nat → Int64)) (x1 : Int32) (x2 : Int32) : Int32 × (XS × (Nat → Int64)) := hi ["java/lang/IllegalArgumentException"] w.2 (f_XDM_set w.1 x1 x2)
set_option maxHeartbeats 4000000 in
set_option maxRecDepth 100000 in
theorem c_H_set (l : Launch) (hl9 : l.stackTraces = false) (D : va_G) (a : Nat → Nat) (k : Nat → ClassId) (sa : Nat → Nat) (ao : Nat) (ko : ClassId) (w : XS × (Nat → Int64)) (x1 : Int32) (x2 : Int32) (F : Int32 × (XS × (Nat → Int64))) (hF : h_set w x1 x2 = F) (hEs : ∀ E u, f_XDM_set w.1 x1 x2 = Sum.inl (E, u) → E = "java/lang/IllegalArgumentException") : Met l y_H_set w_H_set rm_H_set (zPH D clX (tyL k ko) nwX (skX sa) (xL a k ao ko) [.ref (a 0), .int x1, .int x2, .ref ao] w) (zQ D clX (xL a k ao ko) w (some (.int F.1)) F.2) 1 6 (zA (xL a k ao ko w)) := by
  refine va_MetW (cc := b_H_set) (maxL := 5) (ret := some .int) (hh := hh_H_set) (by decide) rfl ?_
  intro p e s m args below meth c s₁ B hml hv
  obtain ⟨rfl, hw, hE, hNc⟩ := hv
  have hx := B.exec
  have hb := B.bytes
  have hr := B.returns
  have hlocks := B.notSynchronized
  have hts0 := atoms_spec (ws := w_H_set) B.pre
  have hts : ∀ w ∈ G0, w.before _ s = true := fun w h => hts0 w (List.mem_cons_of_mem _ h)
  have hown : s.vm.findClass RL = some m.cls := findClass_of_methodNamed B.named
  have htab : c.exceptionTable.toList = tableOf hh_H_set := zl_table B (hts0 _ List.mem_cons_self)
  have hw : zW D clX (tyL k ko) nwX (xL a k ao ko) (zA (xL a k ao ko w)) s w s.heap := ⟨hw.1, hw.2.1, ⟨hw.2.2.1.1, fun k q hk => ⟨k, q.2, hk⟩⟩, hw.2.2.2⟩
  generalize hAe : zA (xL a k ao ko w) = A at hw hE ⊢
  have hS : va_S A s.heap s.heap [] := va_S.rf
  have hcs : 0 ≤ (rm_H_set).cells ∧ 0 ≤ (rm_H_set).slots := ⟨Nat.zero_le _, Nat.zero_le _⟩
  have hl := lv_entry ([.ref (a 0), .int x1, .int x2, .ref ao]) (n := 5) (Nat.le_of_ble_eq_true rfl)
  rw [lg_entry_eq]
  generalize (lg_sl ([.ref (a 0), .int x1, .int x2, .ref ao]) ++ List.replicate (5 - (lg_sl ([.ref (a 0), .int x1, .int x2, .ref ao])).length) Slot.unset).toArray = ls at hl ⊢
  have hl : lv_has ls 5 [(0, .ref (a 0)), (1, .int x1), (2, .int x2), (3, .ref ao)] := hl
  refine lv_aload_n hx hb d_H_set_0 rfl (lv_at hl 3 rfl) ?_
  refine lv_iconst (v := 0) hx hb d_H_set_1 (by decide) ?_
  refine lv_aload_n hx hb d_H_set_2 rfl (lv_at hl 0 rfl) ?_
  refine lv_iload_n hx hb d_H_set_3 rfl (lv_at hl 1 rfl) ?_
  refine lv_iload_n hx hb d_H_set_4 rfl (lv_at hl 2 rfl) ?_
  cases hq : f_XDM_set w.1 x1 x2 with
  | inl q =>
    obtain ⟨E, u1⟩ := q
    have hF1 : hi ["java/lang/IllegalArgumentException"] w.2 (Sum.inl (E, u1)) = F := by rw [← hF, ← hq]; rfl
    have hE9 := hEs E u1 hq
    subst hE9
    subst hF1
    refine zt_catch (ztV (rm := rx_XDM_set) (As := [.int x1, .int x2]) (rest := [.int 0, .ref ao]) ⟨hx, hb, hml, hown, hts⟩ (cx_XDM_set l hl9 D a k sa w.1 x1 x2 "java/lang/IllegalArgumentException" u1 hq) (cwV 2 hts (zgV kh_9 kh_10 kh_11 kh_3 kc_XDM_set) rfl rfl rfl (by decide +kernel) ⟨Nat.le_of_ble_eq_true rfl, Nat.le_of_ble_eq_true rfl⟩) (xL_sub hw) hE hS 0 rfl rfl hl.1 rfl (lv_room (Nat.le_of_ble_eq_true rfl)) d_H_set_5 ⟨Nat.le_of_ble_eq_true rfl, Nat.le_of_ble_eq_true rfl⟩) hown [] ⟨0, 10, 13, 13⟩ [] htab (fun z hz => nomatch hz) (by decide) (by decide) (hts _ kh_4) (va_Nw.use rfl (hE.2.2.2 _ (List.mem_of_getElem? (i := 1) rfl))) (xL_sub hw) hS (fun q9 H locs hw1 hS hz hk => ?_)
    have hw := xL_ext hw hw1 hk
    refine lv_astore (lv' := [(4, .ref q9), (0, .ref (a 0)), (1, .int x1), (2, .int x2), (3, .ref ao)]) hx hb d_H_set_13 hl (by decide) rfl (fun ls hl => ?_)
    refine lv_iconst (v := 1) hx hb d_H_set_15 (by decide) ?_
    rw [← hAe]
    rw [← hAe] at hw hS
    exact W.iret hx hb hr (fun t ht hW => ⟨congrArg (fun z => Outcome.returned (some (Value.int z))) (show (1 : Int32) = xc ["java/lang/IllegalArgumentException"] 1 "java/lang/IllegalArgumentException" from by decide +kernel), ⟨by rw [ht]; exact hw.1, hw.2.2.1⟩, hS.F ht⟩) hS.2.2 d_H_set_16
  | inr r =>
    have hF1 : hi ["java/lang/IllegalArgumentException"] w.2 (Sum.inr r) = F := by rw [← hF, ← hq]; rfl
    subst hF1
    refine z_wVG (mc := 0) (ms := 0) (z_runV (rm := rm_XDM_set) (As := [.int x1, .int x2]) (rest := [.int 0, .ref ao]) ⟨hx, hb, hml, hown, hts⟩ (cn_XDM_set l D a k w.1 x1 x2 r hq) (cwV 2 hts (zgV kh_9 kh_10 kh_11 kh_3 kc_XDM_set) rfl rfl rfl (by decide +kernel) ⟨Nat.le_of_ble_eq_true rfl, Nat.le_of_ble_eq_true rfl⟩) (xL_sub hw) 0 rfl rfl hl.1 rfl (lv_room (Nat.le_of_ble_eq_true rfl)) d_H_set_5 ⟨Nat.zero_le _, Nat.zero_le _⟩) (xL_sub hw) hS (fun H locs hw1 hS hz hk => ?_)
    have hw := xL_ext hw hw1 hk
    refine W.eq (g2 := F0 m 8 ls [.int r.1, .int 0, .ref ao]) rfl ?_
    refine lv_i2l (v := r.1.toInt64) hx hb d_H_set_8 rfl ?_
    refine va_last hx hb hw.2.1 hw.1 hw.2.2.1 hS 13 3 rfl rfl z_in01 d_H_set_9 (fun H locs hP hD hS => ?_)
    have hw : zW D clX (tyL k ko) nwX (xL a k ao ko) A s (r.2, vp_updL w.2 0 r.1.toInt64) H := ⟨hP, hw.2.1, hD, hw.2.2.2⟩
    refine lv_goto (tgt := 17) hx hb d_H_set_10 (by decide) ?_
    refine lv_iconst (v := 0) hx hb d_H_set_17 (by decide) ?_
    refine W.widen (k := 1) (n := 6) (by omega) (by omega) ?_
    rw [← hAe]
    rw [← hAe] at hw hS
    exact W.iret hx hb hr (fun t ht hW => ⟨rfl, ⟨by rw [ht]; exact hw.1, hw.2.2.1⟩, hS.F ht⟩) hS.2.2 d_H_set_18
def h_register (w : XS × (Nat → Int64)) (x1 : Int32) : Int32 × (XS × (Nat → Int64)) := hi ["java/lang/IllegalArgumentException"] w.2 (f_XDM_register w.1 x1)
set_option maxHeartbeats 4000000 in
set_option maxRecDepth 100000 in
theorem c_H_register (l : Launch) (hl9 : l.stackTraces = false) (D : va_G) (a : Nat → Nat) (k : Nat → ClassId) (sa : Nat → Nat) (ao : Nat) (ko : ClassId) (w : XS × (Nat → Int64)) (x1 : Int32) (F : Int32 × (XS × (Nat → Int64))) (hF : h_register w x1 = F) (hEs : ∀ E u, f_XDM_register w.1 x1 = Sum.inl (E, u) → E = "java/lang/IllegalArgumentException") : Met l y_H_register w_H_register rm_H_register (zPH D clX (tyL k ko) nwX (skX sa) (xL a k ao ko) [.ref (a 0), .int x1, .ref ao] w) (zQ D clX (xL a k ao ko) w (some (.int F.1)) F.2) 1 6 (zA (xL a k ao ko w)) := by
  refine va_MetW (cc := b_H_register) (maxL := 4) (ret := some .int) (hh := hh_H_register) (by decide) rfl ?_
  intro p e s m args below meth c s₁ B hml hv
  obtain ⟨rfl, hw, hE, hNc⟩ := hv
  have hx := B.exec
  have hb := B.bytes
  have hr := B.returns
  have hlocks := B.notSynchronized
  have hts0 := atoms_spec (ws := w_H_register) B.pre
  have hts : ∀ w ∈ G0, w.before _ s = true := fun w h => hts0 w (List.mem_cons_of_mem _ h)
  have hown : s.vm.findClass RL = some m.cls := findClass_of_methodNamed B.named
  have htab : c.exceptionTable.toList = tableOf hh_H_register := zl_table B (hts0 _ List.mem_cons_self)
  have hw : zW D clX (tyL k ko) nwX (xL a k ao ko) (zA (xL a k ao ko w)) s w s.heap := ⟨hw.1, hw.2.1, ⟨hw.2.2.1.1, fun k q hk => ⟨k, q.2, hk⟩⟩, hw.2.2.2⟩
  generalize hAe : zA (xL a k ao ko w) = A at hw hE ⊢
  have hS : va_S A s.heap s.heap [] := va_S.rf
  have hcs : 0 ≤ (rm_H_register).cells ∧ 0 ≤ (rm_H_register).slots := ⟨Nat.zero_le _, Nat.zero_le _⟩
  have hl := lv_entry ([.ref (a 0), .int x1, .ref ao]) (n := 4) (Nat.le_of_ble_eq_true rfl)
  rw [lg_entry_eq]
  generalize (lg_sl ([.ref (a 0), .int x1, .ref ao]) ++ List.replicate (4 - (lg_sl ([.ref (a 0), .int x1, .ref ao])).length) Slot.unset).toArray = ls at hl ⊢
  have hl : lv_has ls 4 [(0, .ref (a 0)), (1, .int x1), (2, .ref ao)] := hl
  refine lv_aload_n hx hb d_H_register_0 rfl (lv_at hl 2 rfl) ?_
  refine lv_iconst (v := 0) hx hb d_H_register_1 (by decide) ?_
  refine lv_aload_n hx hb d_H_register_2 rfl (lv_at hl 0 rfl) ?_
  refine lv_iload_n hx hb d_H_register_3 rfl (lv_at hl 1 rfl) ?_
  cases hq : f_XDM_register w.1 x1 with
  | inl q =>
    obtain ⟨E, u1⟩ := q
    have hF1 : hi ["java/lang/IllegalArgumentException"] w.2 (Sum.inl (E, u1)) = F := by rw [← hF, ← hq]; rfl
    have hE9 := hEs E u1 hq
    subst hE9
    subst hF1
    refine zt_catch (ztV (rm := rx_XDM_register) (As := [.int x1]) (rest := [.int 0, .ref ao]) ⟨hx, hb, hml, hown, hts⟩ (cx_XDM_register l hl9 D a k sa w.1 x1 "java/lang/IllegalArgumentException" u1 hq) (cwV 1 hts (zgV kh_12 kh_13 kh_14 kh_3 kc_XDM_register) rfl rfl rfl (by decide +kernel) ⟨Nat.le_of_ble_eq_true rfl, Nat.le_of_ble_eq_true rfl⟩) (xL_sub hw) hE hS 0 rfl rfl hl.1 rfl (lv_room (Nat.le_of_ble_eq_true rfl)) d_H_register_4 ⟨Nat.le_of_ble_eq_true rfl, Nat.le_of_ble_eq_true rfl⟩) hown [] ⟨0, 9, 12, 13⟩ [] htab (fun z hz => nomatch hz) (by decide) (by decide) (hts _ kh_4) (va_Nw.use rfl (hE.2.2.2 _ (List.mem_of_getElem? (i := 1) rfl))) (xL_sub hw) hS (fun q9 H locs hw1 hS hz hk => ?_)
    have hw := xL_ext hw hw1 hk
    refine lv_astore_n (lv' := [(3, .ref q9), (0, .ref (a 0)), (1, .int x1), (2, .ref ao)]) hx hb d_H_register_12 rfl hl (by decide) rfl (fun ls hl => ?_)
    refine lv_iconst (v := 1) hx hb d_H_register_13 (by decide) ?_
    rw [← hAe]
    rw [← hAe] at hw hS
    exact W.iret hx hb hr (fun t ht hW => ⟨congrArg (fun z => Outcome.returned (some (Value.int z))) (show (1 : Int32) = xc ["java/lang/IllegalArgumentException"] 1 "java/lang/IllegalArgumentException" from by decide +kernel), ⟨by rw [ht]; exact hw.1, hw.2.2.1⟩, hS.F ht⟩) hS.2.2 d_H_register_14
  | inr r =>
    have hF1 : hi ["java/lang/IllegalArgumentException"] w.2 (Sum.inr r) = F := by rw [← hF, ← hq]; rfl
    subst hF1
    refine z_wVG (mc := 0) (ms := 0) (z_runV (rm := rm_XDM_register) (As := [.int x1]) (rest := [.int 0, .ref ao]) ⟨hx, hb, hml, hown, hts⟩ (cn_XDM_register l D a k w.1 x1 r hq) (cwV 1 hts (zgV kh_12 kh_13 kh_14 kh_3 kc_XDM_register) rfl rfl rfl (by decide +kernel) ⟨Nat.le_of_ble_eq_true rfl, Nat.le_of_ble_eq_true rfl⟩) (xL_sub hw) 0 rfl rfl hl.1 rfl (lv_room (Nat.le_of_ble_eq_true rfl)) d_H_register_4 ⟨Nat.zero_le _, Nat.zero_le _⟩) (xL_sub hw) hS (fun H locs hw1 hS hz hk => ?_)
    have hw := xL_ext hw hw1 hk
    refine W.eq (g2 := F0 m 7 ls [.int r.1, .int 0, .ref ao]) rfl ?_
    refine lv_i2l (v := r.1.toInt64) hx hb d_H_register_7 rfl ?_
    refine va_last hx hb hw.2.1 hw.1 hw.2.2.1 hS 13 3 rfl rfl z_in01 d_H_register_8 (fun H locs hP hD hS => ?_)
    have hw : zW D clX (tyL k ko) nwX (xL a k ao ko) A s (r.2, vp_updL w.2 0 r.1.toInt64) H := ⟨hP, hw.2.1, hD, hw.2.2.2⟩
    refine lv_goto (tgt := 15) hx hb d_H_register_9 (by decide) ?_
    refine lv_iconst (v := 0) hx hb d_H_register_15 (by decide) ?_
    refine W.widen (k := 1) (n := 6) (by omega) (by omega) ?_
    rw [← hAe]
    rw [← hAe] at hw hS
    exact W.iret hx hb hr (fun t ht hW => ⟨rfl, ⟨by rw [ht]; exact hw.1, hw.2.2.1⟩, hS.F ht⟩) hS.2.2 d_H_register_16
def h_start (w : XS × (Nat → Int64)) (x1 : Int32) (x2 : Int32) : Int32 × (XS × (Nat → Int64)) := hv ["java/lang/IllegalArgumentException"] w.2 (f_XDM_start w.1 x1 x2)
set_option maxHeartbeats 4000000 in
set_option maxRecDepth 100000 in
theorem c_H_start (l : Launch) (hl9 : l.stackTraces = false) (D : va_G) (a : Nat → Nat) (k : Nat → ClassId) (sa : Nat → Nat) (ao : Nat) (ko : ClassId) (w : XS × (Nat → Int64)) (x1 : Int32) (x2 : Int32) (F : Int32 × (XS × (Nat → Int64))) (hF : h_start w x1 x2 = F) (hEs : ∀ E u, f_XDM_start w.1 x1 x2 = Sum.inl (E, u) → E = "java/lang/IllegalArgumentException") : Met l y_H_start w_H_start rm_H_start (zPH D clX (tyL k ko) nwX (skX sa) (xL a k ao ko) [.ref (a 0), .int x1, .int x2] w) (zQ D clX (xL a k ao ko) w (some (.int F.1)) F.2) 1 6 (zA (xL a k ao ko w)) := by
  refine va_MetW (cc := b_H_start) (maxL := 4) (ret := some .int) (hh := hh_H_start) (by decide) rfl ?_
  intro p e s m args below meth c s₁ B hml hv
  obtain ⟨rfl, hw, hE, hNc⟩ := hv
  have hx := B.exec
  have hb := B.bytes
  have hr := B.returns
  have hlocks := B.notSynchronized
  have hts0 := atoms_spec (ws := w_H_start) B.pre
  have hts : ∀ w ∈ G0, w.before _ s = true := fun w h => hts0 w (List.mem_cons_of_mem _ h)
  have hown : s.vm.findClass RL = some m.cls := findClass_of_methodNamed B.named
  have htab : c.exceptionTable.toList = tableOf hh_H_start := zl_table B (hts0 _ List.mem_cons_self)
  have hw : zW D clX (tyL k ko) nwX (xL a k ao ko) (zA (xL a k ao ko w)) s w s.heap := ⟨hw.1, hw.2.1, ⟨hw.2.2.1.1, fun k q hk => ⟨k, q.2, hk⟩⟩, hw.2.2.2⟩
  generalize hAe : zA (xL a k ao ko w) = A at hw hE ⊢
  have hS : va_S A s.heap s.heap [] := va_S.rf
  have hcs : 0 ≤ (rm_H_start).cells ∧ 0 ≤ (rm_H_start).slots := ⟨Nat.zero_le _, Nat.zero_le _⟩
  have hl := lv_entry ([.ref (a 0), .int x1, .int x2]) (n := 4) (Nat.le_of_ble_eq_true rfl)
  rw [lg_entry_eq]
  generalize (lg_sl ([.ref (a 0), .int x1, .int x2]) ++ List.replicate (4 - (lg_sl ([.ref (a 0), .int x1, .int x2])).length) Slot.unset).toArray = ls at hl ⊢
  have hl : lv_has ls 4 [(0, .ref (a 0)), (1, .int x1), (2, .int x2)] := hl
  refine lv_aload_n hx hb d_H_start_0 rfl (lv_at hl 0 rfl) ?_
  refine lv_iload_n hx hb d_H_start_1 rfl (lv_at hl 1 rfl) ?_
  refine lv_iload_n hx hb d_H_start_2 rfl (lv_at hl 2 rfl) ?_
  cases hq : f_XDM_start w.1 x1 x2 with
  | inl q =>
    obtain ⟨E, u1⟩ := q
    have hF1 : hv ["java/lang/IllegalArgumentException"] w.2 (Sum.inl (E, u1)) = F := by rw [← hF, ← hq]; rfl
    have hE9 := hEs E u1 hq
    subst hE9
    subst hF1
    refine zt_catch (ztV (rm := rx_XDM_start) (As := [.int x1, .int x2]) (rest := []) ⟨hx, hb, hml, hown, hts⟩ (cx_XDM_start l hl9 D a k sa w.1 x1 x2 "java/lang/IllegalArgumentException" u1 hq) (cwV 2 hts (zgV kh_15 kh_16 kh_17 kh_3 kc_XDM_start) rfl rfl rfl (by decide +kernel) ⟨Nat.le_of_ble_eq_true rfl, Nat.le_of_ble_eq_true rfl⟩) (xL_sub hw) hE hS 0 rfl rfl hl.1 rfl (lv_room (Nat.le_of_ble_eq_true rfl)) d_H_start_3 ⟨Nat.le_of_ble_eq_true rfl, Nat.le_of_ble_eq_true rfl⟩) hown [] ⟨0, 6, 9, 13⟩ [] htab (fun z hz => nomatch hz) (by decide) (by decide) (hts _ kh_4) (va_Nw.use rfl (hE.2.2.2 _ (List.mem_of_getElem? (i := 1) rfl))) (xL_sub hw) hS (fun q9 H locs hw1 hS hz hk => ?_)
    have hw := xL_ext hw hw1 hk
    refine lv_astore_n (lv' := [(3, .ref q9), (0, .ref (a 0)), (1, .int x1), (2, .int x2)]) hx hb d_H_start_9 rfl hl (by decide) rfl (fun ls hl => ?_)
    refine lv_iconst (v := 1) hx hb d_H_start_10 (by decide) ?_
    rw [← hAe]
    rw [← hAe] at hw hS
    exact W.iret hx hb hr (fun t ht hW => ⟨congrArg (fun z => Outcome.returned (some (Value.int z))) (show (1 : Int32) = xc ["java/lang/IllegalArgumentException"] 1 "java/lang/IllegalArgumentException" from by decide +kernel), ⟨by rw [ht]; exact hw.1, hw.2.2.1⟩, hS.F ht⟩) hS.2.2 d_H_start_11
  | inr r =>
    have hF1 : hv ["java/lang/IllegalArgumentException"] w.2 (Sum.inr r) = F := by rw [← hF, ← hq]; rfl
    subst hF1
    refine z_wVG (mc := 0) (ms := 0) (z_runV (rm := rm_XDM_start) (As := [.int x1, .int x2]) (rest := []) ⟨hx, hb, hml, hown, hts⟩ (cn_XDM_start l D a k w.1 x1 x2 r hq) (cwV 2 hts (zgV kh_15 kh_16 kh_17 kh_3 kc_XDM_start) rfl rfl rfl (by decide +kernel) ⟨Nat.le_of_ble_eq_true rfl, Nat.le_of_ble_eq_true rfl⟩) (xL_sub hw) 0 rfl rfl hl.1 rfl (lv_room (Nat.le_of_ble_eq_true rfl)) d_H_start_3 ⟨Nat.zero_le _, Nat.zero_le _⟩) (xL_sub hw) hS (fun H locs hw1 hS hz hk => ?_)
    have hw := xL_ext hw hw1 hk
    refine W.eq (g2 := F0 m 6 ls []) rfl ?_
    refine lv_goto (tgt := 12) hx hb d_H_start_6 (by decide) ?_
    refine lv_iconst (v := 0) hx hb d_H_start_12 (by decide) ?_
    refine W.widen (k := 1) (n := 6) (by omega) (by omega) ?_
    rw [← hAe]
    rw [← hAe] at hw hS
    exact W.iret hx hb hr (fun t ht hW => ⟨rfl, ⟨by rw [ht]; exact hw.1, hw.2.2.1⟩, hS.F ht⟩) hS.2.2 d_H_start_13
def h_rr (w : XS × (Nat → Int64)) (x1 : Int32) (x2 : Int32) (x3 : Int32) (x4 : Int32) : Int32 × (XS × (Nat → Int64)) := hi ["java/lang/IllegalArgumentException", "java/lang/IndexOutOfBoundsException"] w.2 (f_XDM_rr w.1 x1 x2 x3 x4)
set_option maxHeartbeats 4000000 in
set_option maxRecDepth 100000 in
theorem c_H_rr (l : Launch) (hl9 : l.stackTraces = false) (D : va_G) (a : Nat → Nat) (k : Nat → ClassId) (sa : Nat → Nat) (ao : Nat) (ko : ClassId) (w : XS × (Nat → Int64)) (x1 : Int32) (x2 : Int32) (x3 : Int32) (x4 : Int32) (F : Int32 × (XS × (Nat → Int64))) (hF : h_rr w x1 x2 x3 x4 = F) (hEs : ∀ E u, f_XDM_rr w.1 x1 x2 x3 x4 = Sum.inl (E, u) → E = "java/lang/IllegalArgumentException" ∨ E = "java/lang/IndexOutOfBoundsException") : Met l y_H_rr w_H_rr rm_H_rr (zPH D clX (tyL k ko) nwX (skX sa) (xL a k ao ko) [.ref (a 0), .int x1, .int x2, .int x3, .int x4, .ref ao] w) (zQ D clX (xL a k ao ko) w (some (.int F.1)) F.2) 1 6 (zA (xL a k ao ko w)) := by
  refine va_MetW (cc := b_H_rr) (maxL := 7) (ret := some .int) (hh := hh_H_rr) (by decide) rfl ?_
  intro p e s m args below meth c s₁ B hml hv
  obtain ⟨rfl, hw, hE, hNc⟩ := hv
  have hx := B.exec
  have hb := B.bytes
  have hr := B.returns
  have hlocks := B.notSynchronized
  have hts0 := atoms_spec (ws := w_H_rr) B.pre
  have hts : ∀ w ∈ G0, w.before _ s = true := fun w h => hts0 w (List.mem_cons_of_mem _ h)
  have hown : s.vm.findClass RL = some m.cls := findClass_of_methodNamed B.named
  have htab : c.exceptionTable.toList = tableOf hh_H_rr := zl_table B (hts0 _ List.mem_cons_self)
  have hw : zW D clX (tyL k ko) nwX (xL a k ao ko) (zA (xL a k ao ko w)) s w s.heap := ⟨hw.1, hw.2.1, ⟨hw.2.2.1.1, fun k q hk => ⟨k, q.2, hk⟩⟩, hw.2.2.2⟩
  generalize hAe : zA (xL a k ao ko w) = A at hw hE ⊢
  have hS : va_S A s.heap s.heap [] := va_S.rf
  have hcs : 0 ≤ (rm_H_rr).cells ∧ 0 ≤ (rm_H_rr).slots := ⟨Nat.zero_le _, Nat.zero_le _⟩
  have hl := lv_entry ([.ref (a 0), .int x1, .int x2, .int x3, .int x4, .ref ao]) (n := 7) (Nat.le_of_ble_eq_true rfl)
  rw [lg_entry_eq]
  generalize (lg_sl ([.ref (a 0), .int x1, .int x2, .int x3, .int x4, .ref ao]) ++ List.replicate (7 - (lg_sl ([.ref (a 0), .int x1, .int x2, .int x3, .int x4, .ref ao])).length) Slot.unset).toArray = ls at hl ⊢
  have hl : lv_has ls 7 [(0, .ref (a 0)), (1, .int x1), (2, .int x2), (3, .int x3), (4, .int x4), (5, .ref ao)] := hl
  refine lv_aload hx hb d_H_rr_0 (lv_at hl 5 rfl) ?_
  refine lv_iconst (v := 0) hx hb d_H_rr_2 (by decide) ?_
  refine lv_aload_n hx hb d_H_rr_3 rfl (lv_at hl 0 rfl) ?_
  refine lv_iload_n hx hb d_H_rr_4 rfl (lv_at hl 1 rfl) ?_
  refine lv_iload_n hx hb d_H_rr_5 rfl (lv_at hl 2 rfl) ?_
  refine lv_iload_n hx hb d_H_rr_6 rfl (lv_at hl 3 rfl) ?_
  refine lv_iload hx hb d_H_rr_7 (lv_at hl 4 rfl) ?_
  cases hq : f_XDM_rr w.1 x1 x2 x3 x4 with
  | inl q =>
    obtain ⟨E, u1⟩ := q
    have hF1 : hi ["java/lang/IllegalArgumentException", "java/lang/IndexOutOfBoundsException"] w.2 (Sum.inl (E, u1)) = F := by rw [← hF, ← hq]; rfl
    have hE9 := hEs E u1 hq
    rcases hE9 with rfl | rfl
    · subst hF1
      refine zt_catch (ztV (rm := rx_XDM_rr) (As := [.int x1, .int x2, .int x3, .int x4]) (rest := [.int 0, .ref ao]) ⟨hx, hb, hml, hown, hts⟩ (cx_XDM_rr l hl9 D a k sa w.1 x1 x2 x3 x4 "java/lang/IllegalArgumentException" u1 hq) (cwV 4 hts (zgV kh_18 kh_19 kh_20 kh_3 kc_XDM_rr) rfl rfl rfl (by decide +kernel) ⟨Nat.le_of_ble_eq_true rfl, Nat.le_of_ble_eq_true rfl⟩) (xL_sub hw) hE hS 0 rfl rfl hl.1 rfl (lv_room (Nat.le_of_ble_eq_true rfl)) d_H_rr_9 ⟨Nat.le_of_ble_eq_true rfl, Nat.le_of_ble_eq_true rfl⟩) hown [] ⟨0, 14, 17, 13⟩ [⟨0, 14, 21, 15⟩] htab (fun z hz => nomatch hz) (by decide) (by decide) (hts _ kh_4) (va_Nw.use rfl (hE.2.2.2 _ (List.mem_of_getElem? (i := 1) rfl))) (xL_sub hw) hS (fun q9 H locs hw1 hS hz hk => ?_)
      have hw := xL_ext hw hw1 hk
      refine lv_astore (lv' := [(6, .ref q9), (0, .ref (a 0)), (1, .int x1), (2, .int x2), (3, .int x3), (4, .int x4), (5, .ref ao)]) hx hb d_H_rr_17 hl (by decide) rfl (fun ls hl => ?_)
      refine lv_iconst (v := 1) hx hb d_H_rr_19 (by decide) ?_
      rw [← hAe]
      rw [← hAe] at hw hS
      exact W.iret hx hb hr (fun t ht hW => ⟨congrArg (fun z => Outcome.returned (some (Value.int z))) (show (1 : Int32) = xc ["java/lang/IllegalArgumentException", "java/lang/IndexOutOfBoundsException"] 1 "java/lang/IllegalArgumentException" from by decide +kernel), ⟨by rw [ht]; exact hw.1, hw.2.2.1⟩, hS.F ht⟩) hS.2.2 d_H_rr_20
    · subst hF1
      refine zt_catch (ztV (rm := rx_XDM_rr) (As := [.int x1, .int x2, .int x3, .int x4]) (rest := [.int 0, .ref ao]) ⟨hx, hb, hml, hown, hts⟩ (cx_XDM_rr l hl9 D a k sa w.1 x1 x2 x3 x4 "java/lang/IndexOutOfBoundsException" u1 hq) (cwV 4 hts (zgV kh_18 kh_19 kh_20 kh_3 kc_XDM_rr) rfl rfl rfl (by decide +kernel) ⟨Nat.le_of_ble_eq_true rfl, Nat.le_of_ble_eq_true rfl⟩) (xL_sub hw) hE hS 0 rfl rfl hl.1 rfl (lv_room (Nat.le_of_ble_eq_true rfl)) d_H_rr_9 ⟨Nat.le_of_ble_eq_true rfl, Nat.le_of_ble_eq_true rfl⟩) hown [⟨0, 14, 17, 13⟩] ⟨0, 14, 21, 15⟩ [] htab (by
        intro z hz
        simp only [List.mem_cons, List.not_mem_nil, or_false] at hz
        rcases hz with rfl
        · exact ⟨by decide, "java/lang/IllegalArgumentException", hts _ kh_4, hNc _ (List.mem_of_getElem? (i := 0) rfl)⟩) (by decide) (by decide) (hts _ kh_5) (va_Nw.use rfl (hE.2.2.2 _ (List.mem_of_getElem? (i := 2) rfl))) (xL_sub hw) hS (fun q9 H locs hw1 hS hz hk => ?_)
      have hw := xL_ext hw hw1 hk
      refine lv_astore (lv' := [(6, .ref q9), (0, .ref (a 0)), (1, .int x1), (2, .int x2), (3, .int x3), (4, .int x4), (5, .ref ao)]) hx hb d_H_rr_21 hl (by decide) rfl (fun ls hl => ?_)
      refine lv_iconst (v := 2) hx hb d_H_rr_23 (by decide) ?_
      rw [← hAe]
      rw [← hAe] at hw hS
      exact W.iret hx hb hr (fun t ht hW => ⟨congrArg (fun z => Outcome.returned (some (Value.int z))) (show (2 : Int32) = xc ["java/lang/IllegalArgumentException", "java/lang/IndexOutOfBoundsException"] 1 "java/lang/IndexOutOfBoundsException" from by decide +kernel), ⟨by rw [ht]; exact hw.1, hw.2.2.1⟩, hS.F ht⟩) hS.2.2 d_H_rr_24
  | inr r =>
    have hF1 : hi ["java/lang/IllegalArgumentException", "java/lang/IndexOutOfBoundsException"] w.2 (Sum.inr r) = F := by rw [← hF, ← hq]; rfl
    subst hF1
    refine z_wVG (mc := 0) (ms := 0) (z_runV (rm := rm_XDM_rr) (As := [.int x1, .int x2, .int x3, .int x4]) (rest := [.int 0, .ref ao]) ⟨hx, hb, hml, hown, hts⟩ (cn_XDM_rr l D a k w.1 x1 x2 x3 x4 r hq) (cwV 4 hts (zgV kh_18 kh_19 kh_20 kh_3 kc_XDM_rr) rfl rfl rfl (by decide +kernel) ⟨Nat.le_of_ble_eq_true rfl, Nat.le_of_ble_eq_true rfl⟩) (xL_sub hw) 0 rfl rfl hl.1 rfl (lv_room (Nat.le_of_ble_eq_true rfl)) d_H_rr_9 ⟨Nat.zero_le _, Nat.zero_le _⟩) (xL_sub hw) hS (fun H locs hw1 hS hz hk => ?_)
    have hw := xL_ext hw hw1 hk
    refine W.eq (g2 := F0 m 12 ls [.int r.1, .int 0, .ref ao]) rfl ?_
    refine lv_i2l (v := r.1.toInt64) hx hb d_H_rr_12 rfl ?_
    refine va_last hx hb hw.2.1 hw.1 hw.2.2.1 hS 13 3 rfl rfl z_in01 d_H_rr_13 (fun H locs hP hD hS => ?_)
    have hw : zW D clX (tyL k ko) nwX (xL a k ao ko) A s (r.2, vp_updL w.2 0 r.1.toInt64) H := ⟨hP, hw.2.1, hD, hw.2.2.2⟩
    refine lv_goto (tgt := 25) hx hb d_H_rr_14 (by decide) ?_
    refine lv_iconst (v := 0) hx hb d_H_rr_25 (by decide) ?_
    refine W.widen (k := 1) (n := 6) (by omega) (by omega) ?_
    rw [← hAe]
    rw [← hAe] at hw hS
    exact W.iret hx hb hr (fun t ht hW => ⟨rfl, ⟨by rw [ht]; exact hw.1, hw.2.2.1⟩, hS.F ht⟩) hS.2.2 d_H_rr_26
def h_rx (w : XS × (Nat → Int64)) (x1 : Int32) (x2 : Int32) (x3 : Int32) (x4 : Int32) (x5 : Int32) (x6 : Int32) : Int32 × (XS × (Nat → Int64)) := hi ["java/lang/IllegalArgumentException", "java/lang/IndexOutOfBoundsException"] w.2 (f_XDM_rx w.1 x1 x2 x3 x4 x5 x6)
set_option maxHeartbeats 4000000 in
set_option maxRecDepth 100000 in
theorem c_H_rx (l : Launch) (hl9 : l.stackTraces = false) (D : va_G) (a : Nat → Nat) (k : Nat → ClassId) (sa : Nat → Nat) (ao : Nat) (ko : ClassId) (w : XS × (Nat → Int64)) (x1 : Int32) (x2 : Int32) (x3 : Int32) (x4 : Int32) (x5 : Int32) (x6 : Int32) (F : Int32 × (XS × (Nat → Int64))) (hF : h_rx w x1 x2 x3 x4 x5 x6 = F) (hEs : ∀ E u, f_XDM_rx w.1 x1 x2 x3 x4 x5 x6 = Sum.inl (E, u) → E = "java/lang/IllegalArgumentException" ∨ E = "java/lang/IndexOutOfBoundsException") : Met l y_H_rx w_H_rx rm_H_rx (zPH D clX (tyL k ko) nwX (skX sa) (xL a k ao ko) [.ref (a 0), .int x1, .int x2, .int x3, .int x4, .int x5, .int x6, .ref ao] w) (zQ D clX (xL a k ao ko) w (some (.int F.1)) F.2) 1 6 (zA (xL a k ao ko w)) := by
  refine va_MetW (cc := b_H_rx) (maxL := 9) (ret := some .int) (hh := hh_H_rx) (by decide) rfl ?_
  intro p e s m args below meth c s₁ B hml hv
  obtain ⟨rfl, hw, hE, hNc⟩ := hv
  have hx := B.exec
  have hb := B.bytes
  have hr := B.returns
  have hlocks := B.notSynchronized
  have hts0 := atoms_spec (ws := w_H_rx) B.pre
  have hts : ∀ w ∈ G0, w.before _ s = true := fun w h => hts0 w (List.mem_cons_of_mem _ h)
  have hown : s.vm.findClass RL = some m.cls := findClass_of_methodNamed B.named
  have htab : c.exceptionTable.toList = tableOf hh_H_rx := zl_table B (hts0 _ List.mem_cons_self)
  have hw : zW D clX (tyL k ko) nwX (xL a k ao ko) (zA (xL a k ao ko w)) s w s.heap := ⟨hw.1, hw.2.1, ⟨hw.2.2.1.1, fun k q hk => ⟨k, q.2, hk⟩⟩, hw.2.2.2⟩
  generalize hAe : zA (xL a k ao ko w) = A at hw hE ⊢
  have hS : va_S A s.heap s.heap [] := va_S.rf
  have hcs : 0 ≤ (rm_H_rx).cells ∧ 0 ≤ (rm_H_rx).slots := ⟨Nat.zero_le _, Nat.zero_le _⟩
  have hl := lv_entry ([.ref (a 0), .int x1, .int x2, .int x3, .int x4, .int x5, .int x6, .ref ao]) (n := 9) (Nat.le_of_ble_eq_true rfl)
  rw [lg_entry_eq]
  generalize (lg_sl ([.ref (a 0), .int x1, .int x2, .int x3, .int x4, .int x5, .int x6, .ref ao]) ++ List.replicate (9 - (lg_sl ([.ref (a 0), .int x1, .int x2, .int x3, .int x4, .int x5, .int x6, .ref ao])).length) Slot.unset).toArray = ls at hl ⊢
  have hl : lv_has ls 9 [(0, .ref (a 0)), (1, .int x1), (2, .int x2), (3, .int x3), (4, .int x4), (5, .int x5), (6, .int x6), (7, .ref ao)] := hl
  refine lv_aload hx hb d_H_rx_0 (lv_at hl 7 rfl) ?_
  refine lv_iconst (v := 0) hx hb d_H_rx_2 (by decide) ?_
  refine lv_aload_n hx hb d_H_rx_3 rfl (lv_at hl 0 rfl) ?_
  refine lv_iload_n hx hb d_H_rx_4 rfl (lv_at hl 1 rfl) ?_
  refine lv_iload_n hx hb d_H_rx_5 rfl (lv_at hl 2 rfl) ?_
  refine lv_iload_n hx hb d_H_rx_6 rfl (lv_at hl 3 rfl) ?_
  refine lv_iload hx hb d_H_rx_7 (lv_at hl 4 rfl) ?_
  refine lv_iload hx hb d_H_rx_9 (lv_at hl 5 rfl) ?_
  refine lv_iload hx hb d_H_rx_11 (lv_at hl 6 rfl) ?_
  cases hq : f_XDM_rx w.1 x1 x2 x3 x4 x5 x6 with
  | inl q =>
    obtain ⟨E, u1⟩ := q
    have hF1 : hi ["java/lang/IllegalArgumentException", "java/lang/IndexOutOfBoundsException"] w.2 (Sum.inl (E, u1)) = F := by rw [← hF, ← hq]; rfl
    have hE9 := hEs E u1 hq
    rcases hE9 with rfl | rfl
    · subst hF1
      refine zt_catch (ztV (rm := rx_XDM_rx) (As := [.int x1, .int x2, .int x3, .int x4, .int x5, .int x6]) (rest := [.int 0, .ref ao]) ⟨hx, hb, hml, hown, hts⟩ (cx_XDM_rx l hl9 D a k sa w.1 x1 x2 x3 x4 x5 x6 "java/lang/IllegalArgumentException" u1 hq) (cwV 6 hts (zgV kh_21 kh_22 kh_23 kh_3 kc_XDM_rx) rfl rfl rfl (by decide +kernel) ⟨Nat.le_of_ble_eq_true rfl, Nat.le_of_ble_eq_true rfl⟩) (xL_sub hw) hE hS 0 rfl rfl hl.1 rfl (lv_room (Nat.le_of_ble_eq_true rfl)) d_H_rx_13 ⟨Nat.le_of_ble_eq_true rfl, Nat.le_of_ble_eq_true rfl⟩) hown [] ⟨0, 18, 21, 13⟩ [⟨0, 18, 25, 15⟩] htab (fun z hz => nomatch hz) (by decide) (by decide) (hts _ kh_4) (va_Nw.use rfl (hE.2.2.2 _ (List.mem_of_getElem? (i := 1) rfl))) (xL_sub hw) hS (fun q9 H locs hw1 hS hz hk => ?_)
      have hw := xL_ext hw hw1 hk
      refine lv_astore (lv' := [(8, .ref q9), (0, .ref (a 0)), (1, .int x1), (2, .int x2), (3, .int x3), (4, .int x4), (5, .int x5), (6, .int x6), (7, .ref ao)]) hx hb d_H_rx_21 hl (by decide) rfl (fun ls hl => ?_)
      refine lv_iconst (v := 1) hx hb d_H_rx_23 (by decide) ?_
      rw [← hAe]
      rw [← hAe] at hw hS
      exact W.iret hx hb hr (fun t ht hW => ⟨congrArg (fun z => Outcome.returned (some (Value.int z))) (show (1 : Int32) = xc ["java/lang/IllegalArgumentException", "java/lang/IndexOutOfBoundsException"] 1 "java/lang/IllegalArgumentException" from by decide +kernel), ⟨by rw [ht]; exact hw.1, hw.2.2.1⟩, hS.F ht⟩) hS.2.2 d_H_rx_24
    · subst hF1
      refine zt_catch (ztV (rm := rx_XDM_rx) (As := [.int x1, .int x2, .int x3, .int x4, .int x5, .int x6]) (rest := [.int 0, .ref ao]) ⟨hx, hb, hml, hown, hts⟩ (cx_XDM_rx l hl9 D a k sa w.1 x1 x2 x3 x4 x5 x6 "java/lang/IndexOutOfBoundsException" u1 hq) (cwV 6 hts (zgV kh_21 kh_22 kh_23 kh_3 kc_XDM_rx) rfl rfl rfl (by decide +kernel) ⟨Nat.le_of_ble_eq_true rfl, Nat.le_of_ble_eq_true rfl⟩) (xL_sub hw) hE hS 0 rfl rfl hl.1 rfl (lv_room (Nat.le_of_ble_eq_true rfl)) d_H_rx_13 ⟨Nat.le_of_ble_eq_true rfl, Nat.le_of_ble_eq_true rfl⟩) hown [⟨0, 18, 21, 13⟩] ⟨0, 18, 25, 15⟩ [] htab (by
        intro z hz
        simp only [List.mem_cons, List.not_mem_nil, or_false] at hz
        rcases hz with rfl
        · exact ⟨by decide, "java/lang/IllegalArgumentException", hts _ kh_4, hNc _ (List.mem_of_getElem? (i := 0) rfl)⟩) (by decide) (by decide) (hts _ kh_5) (va_Nw.use rfl (hE.2.2.2 _ (List.mem_of_getElem? (i := 2) rfl))) (xL_sub hw) hS (fun q9 H locs hw1 hS hz hk => ?_)
      have hw := xL_ext hw hw1 hk
      refine lv_astore (lv' := [(8, .ref q9), (0, .ref (a 0)), (1, .int x1), (2, .int x2), (3, .int x3), (4, .int x4), (5, .int x5), (6, .int x6), (7, .ref ao)]) hx hb d_H_rx_25 hl (by decide) rfl (fun ls hl => ?_)
      refine lv_iconst (v := 2) hx hb d_H_rx_27 (by decide) ?_
      rw [← hAe]
      rw [← hAe] at hw hS
      exact W.iret hx hb hr (fun t ht hW => ⟨congrArg (fun z => Outcome.returned (some (Value.int z))) (show (2 : Int32) = xc ["java/lang/IllegalArgumentException", "java/lang/IndexOutOfBoundsException"] 1 "java/lang/IndexOutOfBoundsException" from by decide +kernel), ⟨by rw [ht]; exact hw.1, hw.2.2.1⟩, hS.F ht⟩) hS.2.2 d_H_rx_28
  | inr r =>
    have hF1 : hi ["java/lang/IllegalArgumentException", "java/lang/IndexOutOfBoundsException"] w.2 (Sum.inr r) = F := by rw [← hF, ← hq]; rfl
    subst hF1
    refine z_wVG (mc := 0) (ms := 0) (z_runV (rm := rm_XDM_rx) (As := [.int x1, .int x2, .int x3, .int x4, .int x5, .int x6]) (rest := [.int 0, .ref ao]) ⟨hx, hb, hml, hown, hts⟩ (cn_XDM_rx l D a k w.1 x1 x2 x3 x4 x5 x6 r hq) (cwV 6 hts (zgV kh_21 kh_22 kh_23 kh_3 kc_XDM_rx) rfl rfl rfl (by decide +kernel) ⟨Nat.le_of_ble_eq_true rfl, Nat.le_of_ble_eq_true rfl⟩) (xL_sub hw) 0 rfl rfl hl.1 rfl (lv_room (Nat.le_of_ble_eq_true rfl)) d_H_rx_13 ⟨Nat.zero_le _, Nat.zero_le _⟩) (xL_sub hw) hS (fun H locs hw1 hS hz hk => ?_)
    have hw := xL_ext hw hw1 hk
    refine W.eq (g2 := F0 m 16 ls [.int r.1, .int 0, .ref ao]) rfl ?_
    refine lv_i2l (v := r.1.toInt64) hx hb d_H_rx_16 rfl ?_
    refine va_last hx hb hw.2.1 hw.1 hw.2.2.1 hS 13 3 rfl rfl z_in01 d_H_rx_17 (fun H locs hP hD hS => ?_)
    have hw : zW D clX (tyL k ko) nwX (xL a k ao ko) A s (r.2, vp_updL w.2 0 r.1.toInt64) H := ⟨hP, hw.2.1, hD, hw.2.2.2⟩
    refine lv_goto (tgt := 29) hx hb d_H_rx_18 (by decide) ?_
    refine lv_iconst (v := 0) hx hb d_H_rx_29 (by decide) ?_
    refine W.widen (k := 1) (n := 6) (by omega) (by omega) ?_
    rw [← hAe]
    rw [← hAe] at hw hS
    exact W.iret hx hb hr (fun t ht hW => ⟨rfl, ⟨by rw [ht]; exact hw.1, hw.2.2.1⟩, hS.F ht⟩) hS.2.2 d_H_rx_30
def h_ss (w : XS × (Nat → Int64)) (x1 : Int32) (x2 : Int32) (x3 : Int32) (x4 : Int32) (x5 : Int32) (x6 : Int32) (x7 : Int32) : Int32 × (XS × (Nat → Int64)) := hi ["java/lang/IllegalArgumentException", "java/lang/IndexOutOfBoundsException"] w.2 (f_XDM_ss w.1 x1 x2 x3 x4 x5 x6 x7)
set_option maxHeartbeats 4000000 in
set_option maxRecDepth 100000 in
theorem c_H_ss (l : Launch) (hl9 : l.stackTraces = false) (D : va_G) (a : Nat → Nat) (k : Nat → ClassId) (sa : Nat → Nat) (ao : Nat) (ko : ClassId) (w : XS × (Nat → Int64)) (x1 : Int32) (x2 : Int32) (x3 : Int32) (x4 : Int32) (x5 : Int32) (x6 : Int32) (x7 : Int32) (F : Int32 × (XS × (Nat → Int64))) (hF : h_ss w x1 x2 x3 x4 x5 x6 x7 = F) (hEs : ∀ E u, f_XDM_ss w.1 x1 x2 x3 x4 x5 x6 x7 = Sum.inl (E, u) → E = "java/lang/IllegalArgumentException" ∨ E = "java/lang/IndexOutOfBoundsException") : Met l y_H_ss w_H_ss rm_H_ss (zPH D clX (tyL k ko) nwX (skX sa) (xL a k ao ko) [.ref (a 0), .int x1, .int x2, .int x3, .int x4, .int x5, .int x6, .int x7, .ref ao] w) (zQ D clX (xL a k ao ko) w (some (.int F.1)) F.2) 1 6 (zA (xL a k ao ko w)) := by
  refine va_MetW (cc := b_H_ss) (maxL := 10) (ret := some .int) (hh := hh_H_ss) (by decide) rfl ?_
  intro p e s m args below meth c s₁ B hml hv
  obtain ⟨rfl, hw, hE, hNc⟩ := hv
  have hx := B.exec
  have hb := B.bytes
  have hr := B.returns
  have hlocks := B.notSynchronized
  have hts0 := atoms_spec (ws := w_H_ss) B.pre
  have hts : ∀ w ∈ G0, w.before _ s = true := fun w h => hts0 w (List.mem_cons_of_mem _ h)
  have hown : s.vm.findClass RL = some m.cls := findClass_of_methodNamed B.named
  have htab : c.exceptionTable.toList = tableOf hh_H_ss := zl_table B (hts0 _ List.mem_cons_self)
  have hw : zW D clX (tyL k ko) nwX (xL a k ao ko) (zA (xL a k ao ko w)) s w s.heap := ⟨hw.1, hw.2.1, ⟨hw.2.2.1.1, fun k q hk => ⟨k, q.2, hk⟩⟩, hw.2.2.2⟩
  generalize hAe : zA (xL a k ao ko w) = A at hw hE ⊢
  have hS : va_S A s.heap s.heap [] := va_S.rf
  have hcs : 0 ≤ (rm_H_ss).cells ∧ 0 ≤ (rm_H_ss).slots := ⟨Nat.zero_le _, Nat.zero_le _⟩
  have hl := lv_entry ([.ref (a 0), .int x1, .int x2, .int x3, .int x4, .int x5, .int x6, .int x7, .ref ao]) (n := 10) (Nat.le_of_ble_eq_true rfl)
  rw [lg_entry_eq]
  generalize (lg_sl ([.ref (a 0), .int x1, .int x2, .int x3, .int x4, .int x5, .int x6, .int x7, .ref ao]) ++ List.replicate (10 - (lg_sl ([.ref (a 0), .int x1, .int x2, .int x3, .int x4, .int x5, .int x6, .int x7, .ref ao])).length) Slot.unset).toArray = ls at hl ⊢
  have hl : lv_has ls 10 [(0, .ref (a 0)), (1, .int x1), (2, .int x2), (3, .int x3), (4, .int x4), (5, .int x5), (6, .int x6), (7, .int x7), (8, .ref ao)] := hl
  refine lv_aload hx hb d_H_ss_0 (lv_at hl 8 rfl) ?_
  refine lv_iconst (v := 0) hx hb d_H_ss_2 (by decide) ?_
  refine lv_aload_n hx hb d_H_ss_3 rfl (lv_at hl 0 rfl) ?_
  refine lv_iload_n hx hb d_H_ss_4 rfl (lv_at hl 1 rfl) ?_
  refine lv_iload_n hx hb d_H_ss_5 rfl (lv_at hl 2 rfl) ?_
  refine lv_iload_n hx hb d_H_ss_6 rfl (lv_at hl 3 rfl) ?_
  refine lv_iload hx hb d_H_ss_7 (lv_at hl 4 rfl) ?_
  refine lv_iload hx hb d_H_ss_9 (lv_at hl 5 rfl) ?_
  refine lv_iload hx hb d_H_ss_11 (lv_at hl 6 rfl) ?_
  refine lv_iload hx hb d_H_ss_13 (lv_at hl 7 rfl) ?_
  cases hq : f_XDM_ss w.1 x1 x2 x3 x4 x5 x6 x7 with
  | inl q =>
    obtain ⟨E, u1⟩ := q
    have hF1 : hi ["java/lang/IllegalArgumentException", "java/lang/IndexOutOfBoundsException"] w.2 (Sum.inl (E, u1)) = F := by rw [← hF, ← hq]; rfl
    have hE9 := hEs E u1 hq
    rcases hE9 with rfl | rfl
    · subst hF1
      refine zt_catch (ztV (rm := rx_XDM_ss) (As := [.int x1, .int x2, .int x3, .int x4, .int x5, .int x6, .int x7]) (rest := [.int 0, .ref ao]) ⟨hx, hb, hml, hown, hts⟩ (cx_XDM_ss l hl9 D a k sa w.1 x1 x2 x3 x4 x5 x6 x7 "java/lang/IllegalArgumentException" u1 hq) (cwV 7 hts (zgV kh_24 kh_25 kh_26 kh_3 kc_XDM_ss) rfl rfl rfl (by decide +kernel) ⟨Nat.le_of_ble_eq_true rfl, Nat.le_of_ble_eq_true rfl⟩) (xL_sub hw) hE hS 0 rfl rfl hl.1 rfl (lv_room (Nat.le_of_ble_eq_true rfl)) d_H_ss_15 ⟨Nat.le_of_ble_eq_true rfl, Nat.le_of_ble_eq_true rfl⟩) hown [] ⟨0, 20, 23, 13⟩ [⟨0, 20, 27, 15⟩] htab (fun z hz => nomatch hz) (by decide) (by decide) (hts _ kh_4) (va_Nw.use rfl (hE.2.2.2 _ (List.mem_of_getElem? (i := 1) rfl))) (xL_sub hw) hS (fun q9 H locs hw1 hS hz hk => ?_)
      have hw := xL_ext hw hw1 hk
      refine lv_astore (lv' := [(9, .ref q9), (0, .ref (a 0)), (1, .int x1), (2, .int x2), (3, .int x3), (4, .int x4), (5, .int x5), (6, .int x6), (7, .int x7), (8, .ref ao)]) hx hb d_H_ss_23 hl (by decide) rfl (fun ls hl => ?_)
      refine lv_iconst (v := 1) hx hb d_H_ss_25 (by decide) ?_
      rw [← hAe]
      rw [← hAe] at hw hS
      exact W.iret hx hb hr (fun t ht hW => ⟨congrArg (fun z => Outcome.returned (some (Value.int z))) (show (1 : Int32) = xc ["java/lang/IllegalArgumentException", "java/lang/IndexOutOfBoundsException"] 1 "java/lang/IllegalArgumentException" from by decide +kernel), ⟨by rw [ht]; exact hw.1, hw.2.2.1⟩, hS.F ht⟩) hS.2.2 d_H_ss_26
    · subst hF1
      refine zt_catch (ztV (rm := rx_XDM_ss) (As := [.int x1, .int x2, .int x3, .int x4, .int x5, .int x6, .int x7]) (rest := [.int 0, .ref ao]) ⟨hx, hb, hml, hown, hts⟩ (cx_XDM_ss l hl9 D a k sa w.1 x1 x2 x3 x4 x5 x6 x7 "java/lang/IndexOutOfBoundsException" u1 hq) (cwV 7 hts (zgV kh_24 kh_25 kh_26 kh_3 kc_XDM_ss) rfl rfl rfl (by decide +kernel) ⟨Nat.le_of_ble_eq_true rfl, Nat.le_of_ble_eq_true rfl⟩) (xL_sub hw) hE hS 0 rfl rfl hl.1 rfl (lv_room (Nat.le_of_ble_eq_true rfl)) d_H_ss_15 ⟨Nat.le_of_ble_eq_true rfl, Nat.le_of_ble_eq_true rfl⟩) hown [⟨0, 20, 23, 13⟩] ⟨0, 20, 27, 15⟩ [] htab (by
        intro z hz
        simp only [List.mem_cons, List.not_mem_nil, or_false] at hz
        rcases hz with rfl
        · exact ⟨by decide, "java/lang/IllegalArgumentException", hts _ kh_4, hNc _ (List.mem_of_getElem? (i := 0) rfl)⟩) (by decide) (by decide) (hts _ kh_5) (va_Nw.use rfl (hE.2.2.2 _ (List.mem_of_getElem? (i := 2) rfl))) (xL_sub hw) hS (fun q9 H locs hw1 hS hz hk => ?_)
      have hw := xL_ext hw hw1 hk
      refine lv_astore (lv' := [(9, .ref q9), (0, .ref (a 0)), (1, .int x1), (2, .int x2), (3, .int x3), (4, .int x4), (5, .int x5), (6, .int x6), (7, .int x7), (8, .ref ao)]) hx hb d_H_ss_27 hl (by decide) rfl (fun ls hl => ?_)
      refine lv_iconst (v := 2) hx hb d_H_ss_29 (by decide) ?_
      rw [← hAe]
      rw [← hAe] at hw hS
      exact W.iret hx hb hr (fun t ht hW => ⟨congrArg (fun z => Outcome.returned (some (Value.int z))) (show (2 : Int32) = xc ["java/lang/IllegalArgumentException", "java/lang/IndexOutOfBoundsException"] 1 "java/lang/IndexOutOfBoundsException" from by decide +kernel), ⟨by rw [ht]; exact hw.1, hw.2.2.1⟩, hS.F ht⟩) hS.2.2 d_H_ss_30
  | inr r =>
    have hF1 : hi ["java/lang/IllegalArgumentException", "java/lang/IndexOutOfBoundsException"] w.2 (Sum.inr r) = F := by rw [← hF, ← hq]; rfl
    subst hF1
    refine z_wVG (mc := 0) (ms := 0) (z_runV (rm := rm_XDM_ss) (As := [.int x1, .int x2, .int x3, .int x4, .int x5, .int x6, .int x7]) (rest := [.int 0, .ref ao]) ⟨hx, hb, hml, hown, hts⟩ (cn_XDM_ss l D a k w.1 x1 x2 x3 x4 x5 x6 x7 r hq) (cwV 7 hts (zgV kh_24 kh_25 kh_26 kh_3 kc_XDM_ss) rfl rfl rfl (by decide +kernel) ⟨Nat.le_of_ble_eq_true rfl, Nat.le_of_ble_eq_true rfl⟩) (xL_sub hw) 0 rfl rfl hl.1 rfl (lv_room (Nat.le_of_ble_eq_true rfl)) d_H_ss_15 ⟨Nat.zero_le _, Nat.zero_le _⟩) (xL_sub hw) hS (fun H locs hw1 hS hz hk => ?_)
    have hw := xL_ext hw hw1 hk
    refine W.eq (g2 := F0 m 18 ls [.int r.1, .int 0, .ref ao]) rfl ?_
    refine lv_i2l (v := r.1.toInt64) hx hb d_H_ss_18 rfl ?_
    refine va_last hx hb hw.2.1 hw.1 hw.2.2.1 hS 13 3 rfl rfl z_in01 d_H_ss_19 (fun H locs hP hD hS => ?_)
    have hw : zW D clX (tyL k ko) nwX (xL a k ao ko) A s (r.2, vp_updL w.2 0 r.1.toInt64) H := ⟨hP, hw.2.1, hD, hw.2.2.2⟩
    refine lv_goto (tgt := 31) hx hb d_H_ss_20 (by decide) ?_
    refine lv_iconst (v := 0) hx hb d_H_ss_31 (by decide) ?_
    refine W.widen (k := 1) (n := 6) (by omega) (by omega) ?_
    rw [← hAe]
    rw [← hAe] at hw hS
    exact W.iret hx hb hr (fun t ht hW => ⟨rfl, ⟨by rw [ht]; exact hw.1, hw.2.2.1⟩, hS.F ht⟩) hS.2.2 d_H_ss_32
def h_run (w : XS × (Nat → Int64)) (x1 : Int32) : Int32 × (XS × (Nat → Int64)) := hi ["java/lang/IllegalStateException", "java/lang/IllegalArgumentException", "java/lang/IndexOutOfBoundsException", "java/lang/ArithmeticException"] w.2 (f_XDM_run w.1 x1)
set_option maxHeartbeats 4000000 in
set_option maxRecDepth 100000 in
theorem c_H_run (l : Launch) (hl9 : l.stackTraces = false) (D : va_G) (a : Nat → Nat) (k : Nat → ClassId) (sa : Nat → Nat) (ao : Nat) (ko : ClassId) (w : XS × (Nat → Int64)) (x1 : Int32) (F : Int32 × (XS × (Nat → Int64))) (hF : h_run w x1 = F) (hEs : ∀ E u, f_XDM_run w.1 x1 = Sum.inl (E, u) → E = "java/lang/IllegalStateException" ∨ E = "java/lang/IllegalArgumentException" ∨ E = "java/lang/IndexOutOfBoundsException" ∨ E = "java/lang/ArithmeticException") : Met l y_H_run w_H_run rm_H_run (zPH D clX (tyL k ko) nwX (skX sa) (xL a k ao ko) [.ref (a 0), .int x1, .ref ao] w) (zQ D clX (xL a k ao ko) w (some (.int F.1)) F.2) 1 6 (zA (xL a k ao ko w)) := by
  refine va_MetW (cc := b_H_run) (maxL := 4) (ret := some .int) (hh := hh_H_run) (by decide) rfl ?_
  intro p e s m args below meth c s₁ B hml hv
  obtain ⟨rfl, hw, hE, hNc⟩ := hv
  have hx := B.exec
  have hb := B.bytes
  have hr := B.returns
  have hlocks := B.notSynchronized
  have hts0 := atoms_spec (ws := w_H_run) B.pre
  have hts : ∀ w ∈ G0, w.before _ s = true := fun w h => hts0 w (List.mem_cons_of_mem _ h)
  have hown : s.vm.findClass RL = some m.cls := findClass_of_methodNamed B.named
  have htab : c.exceptionTable.toList = tableOf hh_H_run := zl_table B (hts0 _ List.mem_cons_self)
  have hw : zW D clX (tyL k ko) nwX (xL a k ao ko) (zA (xL a k ao ko w)) s w s.heap := ⟨hw.1, hw.2.1, ⟨hw.2.2.1.1, fun k q hk => ⟨k, q.2, hk⟩⟩, hw.2.2.2⟩
  generalize hAe : zA (xL a k ao ko w) = A at hw hE ⊢
  have hS : va_S A s.heap s.heap [] := va_S.rf
  have hcs : 0 ≤ (rm_H_run).cells ∧ 0 ≤ (rm_H_run).slots := ⟨Nat.zero_le _, Nat.zero_le _⟩
  have hl := lv_entry ([.ref (a 0), .int x1, .ref ao]) (n := 4) (Nat.le_of_ble_eq_true rfl)
  rw [lg_entry_eq]
  generalize (lg_sl ([.ref (a 0), .int x1, .ref ao]) ++ List.replicate (4 - (lg_sl ([.ref (a 0), .int x1, .ref ao])).length) Slot.unset).toArray = ls at hl ⊢
  have hl : lv_has ls 4 [(0, .ref (a 0)), (1, .int x1), (2, .ref ao)] := hl
  refine lv_aload_n hx hb d_H_run_0 rfl (lv_at hl 2 rfl) ?_
  refine lv_iconst (v := 0) hx hb d_H_run_1 (by decide) ?_
  refine lv_aload_n hx hb d_H_run_2 rfl (lv_at hl 0 rfl) ?_
  refine lv_iload_n hx hb d_H_run_3 rfl (lv_at hl 1 rfl) ?_
  cases hq : f_XDM_run w.1 x1 with
  | inl q =>
    obtain ⟨E, u1⟩ := q
    have hF1 : hi ["java/lang/IllegalStateException", "java/lang/IllegalArgumentException", "java/lang/IndexOutOfBoundsException", "java/lang/ArithmeticException"] w.2 (Sum.inl (E, u1)) = F := by rw [← hF, ← hq]; rfl
    have hE9 := hEs E u1 hq
    rcases hE9 with rfl | rfl | rfl | rfl
    · subst hF1
      refine zt_catch (ztV (rm := rx_XDM_run) (As := [.int x1]) (rest := [.int 0, .ref ao]) ⟨hx, hb, hml, hown, hts⟩ (cx_XDM_run l hl9 D a k sa w.1 x1 "java/lang/IllegalStateException" u1 hq) (cwV 1 hts (zgV kh_27 kh_28 kh_29 kh_3 kc_XDM_run) rfl rfl rfl (by decide +kernel) ⟨Nat.le_of_ble_eq_true rfl, Nat.le_of_ble_eq_true rfl⟩) (xL_sub hw) hE hS 0 rfl rfl hl.1 rfl (lv_room (Nat.le_of_ble_eq_true rfl)) d_H_run_4 ⟨Nat.le_of_ble_eq_true rfl, Nat.le_of_ble_eq_true rfl⟩) hown [] ⟨0, 9, 12, 47⟩ [⟨0, 9, 15, 13⟩, ⟨0, 9, 18, 15⟩, ⟨0, 9, 21, 49⟩] htab (fun z hz => nomatch hz) (by decide) (by decide) (hts _ kh_30) (va_Nw.use rfl (hE.2.2.2 _ (List.mem_of_getElem? (i := 0) rfl))) (xL_sub hw) hS (fun q9 H locs hw1 hS hz hk => ?_)
      have hw := xL_ext hw hw1 hk
      refine lv_astore_n (lv' := [(3, .ref q9), (0, .ref (a 0)), (1, .int x1), (2, .ref ao)]) hx hb d_H_run_12 rfl hl (by decide) rfl (fun ls hl => ?_)
      refine lv_iconst (v := 1) hx hb d_H_run_13 (by decide) ?_
      rw [← hAe]
      rw [← hAe] at hw hS
      exact W.iret hx hb hr (fun t ht hW => ⟨congrArg (fun z => Outcome.returned (some (Value.int z))) (show (1 : Int32) = xc ["java/lang/IllegalStateException", "java/lang/IllegalArgumentException", "java/lang/IndexOutOfBoundsException", "java/lang/ArithmeticException"] 1 "java/lang/IllegalStateException" from by decide +kernel), ⟨by rw [ht]; exact hw.1, hw.2.2.1⟩, hS.F ht⟩) hS.2.2 d_H_run_14
    · subst hF1
      refine zt_catch (ztV (rm := rx_XDM_run) (As := [.int x1]) (rest := [.int 0, .ref ao]) ⟨hx, hb, hml, hown, hts⟩ (cx_XDM_run l hl9 D a k sa w.1 x1 "java/lang/IllegalArgumentException" u1 hq) (cwV 1 hts (zgV kh_27 kh_28 kh_29 kh_3 kc_XDM_run) rfl rfl rfl (by decide +kernel) ⟨Nat.le_of_ble_eq_true rfl, Nat.le_of_ble_eq_true rfl⟩) (xL_sub hw) hE hS 0 rfl rfl hl.1 rfl (lv_room (Nat.le_of_ble_eq_true rfl)) d_H_run_4 ⟨Nat.le_of_ble_eq_true rfl, Nat.le_of_ble_eq_true rfl⟩) hown [⟨0, 9, 12, 47⟩] ⟨0, 9, 15, 13⟩ [⟨0, 9, 18, 15⟩, ⟨0, 9, 21, 49⟩] htab (by
        intro z hz
        simp only [List.mem_cons, List.not_mem_nil, or_false] at hz
        rcases hz with rfl
        · exact ⟨by decide, "java/lang/IllegalStateException", hts _ kh_30, hNc _ (List.mem_of_getElem? (i := 1) rfl)⟩) (by decide) (by decide) (hts _ kh_4) (va_Nw.use rfl (hE.2.2.2 _ (List.mem_of_getElem? (i := 1) rfl))) (xL_sub hw) hS (fun q9 H locs hw1 hS hz hk => ?_)
      have hw := xL_ext hw hw1 hk
      refine lv_astore_n (lv' := [(3, .ref q9), (0, .ref (a 0)), (1, .int x1), (2, .ref ao)]) hx hb d_H_run_15 rfl hl (by decide) rfl (fun ls hl => ?_)
      refine lv_iconst (v := 2) hx hb d_H_run_16 (by decide) ?_
      rw [← hAe]
      rw [← hAe] at hw hS
      exact W.iret hx hb hr (fun t ht hW => ⟨congrArg (fun z => Outcome.returned (some (Value.int z))) (show (2 : Int32) = xc ["java/lang/IllegalStateException", "java/lang/IllegalArgumentException", "java/lang/IndexOutOfBoundsException", "java/lang/ArithmeticException"] 1 "java/lang/IllegalArgumentException" from by decide +kernel), ⟨by rw [ht]; exact hw.1, hw.2.2.1⟩, hS.F ht⟩) hS.2.2 d_H_run_17
    · subst hF1
      refine zt_catch (ztV (rm := rx_XDM_run) (As := [.int x1]) (rest := [.int 0, .ref ao]) ⟨hx, hb, hml, hown, hts⟩ (cx_XDM_run l hl9 D a k sa w.1 x1 "java/lang/IndexOutOfBoundsException" u1 hq) (cwV 1 hts (zgV kh_27 kh_28 kh_29 kh_3 kc_XDM_run) rfl rfl rfl (by decide +kernel) ⟨Nat.le_of_ble_eq_true rfl, Nat.le_of_ble_eq_true rfl⟩) (xL_sub hw) hE hS 0 rfl rfl hl.1 rfl (lv_room (Nat.le_of_ble_eq_true rfl)) d_H_run_4 ⟨Nat.le_of_ble_eq_true rfl, Nat.le_of_ble_eq_true rfl⟩) hown [⟨0, 9, 12, 47⟩, ⟨0, 9, 15, 13⟩] ⟨0, 9, 18, 15⟩ [⟨0, 9, 21, 49⟩] htab (by
        intro z hz
        simp only [List.mem_cons, List.not_mem_nil, or_false] at hz
        rcases hz with rfl | rfl
        · exact ⟨by decide, "java/lang/IllegalStateException", hts _ kh_30, hNc _ (List.mem_of_getElem? (i := 2) rfl)⟩
        · exact ⟨by decide, "java/lang/IllegalArgumentException", hts _ kh_4, hNc _ (List.mem_of_getElem? (i := 0) rfl)⟩) (by decide) (by decide) (hts _ kh_5) (va_Nw.use rfl (hE.2.2.2 _ (List.mem_of_getElem? (i := 2) rfl))) (xL_sub hw) hS (fun q9 H locs hw1 hS hz hk => ?_)
      have hw := xL_ext hw hw1 hk
      refine lv_astore_n (lv' := [(3, .ref q9), (0, .ref (a 0)), (1, .int x1), (2, .ref ao)]) hx hb d_H_run_18 rfl hl (by decide) rfl (fun ls hl => ?_)
      refine lv_iconst (v := 3) hx hb d_H_run_19 (by decide) ?_
      rw [← hAe]
      rw [← hAe] at hw hS
      exact W.iret hx hb hr (fun t ht hW => ⟨congrArg (fun z => Outcome.returned (some (Value.int z))) (show (3 : Int32) = xc ["java/lang/IllegalStateException", "java/lang/IllegalArgumentException", "java/lang/IndexOutOfBoundsException", "java/lang/ArithmeticException"] 1 "java/lang/IndexOutOfBoundsException" from by decide +kernel), ⟨by rw [ht]; exact hw.1, hw.2.2.1⟩, hS.F ht⟩) hS.2.2 d_H_run_20
    · subst hF1
      refine zt_catch (ztV (rm := rx_XDM_run) (As := [.int x1]) (rest := [.int 0, .ref ao]) ⟨hx, hb, hml, hown, hts⟩ (cx_XDM_run l hl9 D a k sa w.1 x1 "java/lang/ArithmeticException" u1 hq) (cwV 1 hts (zgV kh_27 kh_28 kh_29 kh_3 kc_XDM_run) rfl rfl rfl (by decide +kernel) ⟨Nat.le_of_ble_eq_true rfl, Nat.le_of_ble_eq_true rfl⟩) (xL_sub hw) hE hS 0 rfl rfl hl.1 rfl (lv_room (Nat.le_of_ble_eq_true rfl)) d_H_run_4 ⟨Nat.le_of_ble_eq_true rfl, Nat.le_of_ble_eq_true rfl⟩) hown [⟨0, 9, 12, 47⟩, ⟨0, 9, 15, 13⟩, ⟨0, 9, 18, 15⟩] ⟨0, 9, 21, 49⟩ [] htab (by
        intro z hz
        simp only [List.mem_cons, List.not_mem_nil, or_false] at hz
        rcases hz with rfl | rfl | rfl
        · exact ⟨by decide, "java/lang/IllegalStateException", hts _ kh_30, hNc _ (List.mem_of_getElem? (i := 3) rfl)⟩
        · exact ⟨by decide, "java/lang/IllegalArgumentException", hts _ kh_4, hNc _ (List.mem_of_getElem? (i := 4) rfl)⟩
        · exact ⟨by decide, "java/lang/IndexOutOfBoundsException", hts _ kh_5, hNc _ (List.mem_of_getElem? (i := 5) rfl)⟩) (by decide) (by decide) (hts _ kh_31) (va_Nw.use rfl (hE.2.2.2 _ (List.mem_of_getElem? (i := 3) rfl))) (xL_sub hw) hS (fun q9 H locs hw1 hS hz hk => ?_)
      have hw := xL_ext hw hw1 hk
      refine lv_astore_n (lv' := [(3, .ref q9), (0, .ref (a 0)), (1, .int x1), (2, .ref ao)]) hx hb d_H_run_21 rfl hl (by decide) rfl (fun ls hl => ?_)
      refine lv_iconst (v := 4) hx hb d_H_run_22 (by decide) ?_
      rw [← hAe]
      rw [← hAe] at hw hS
      exact W.iret hx hb hr (fun t ht hW => ⟨congrArg (fun z => Outcome.returned (some (Value.int z))) (show (4 : Int32) = xc ["java/lang/IllegalStateException", "java/lang/IllegalArgumentException", "java/lang/IndexOutOfBoundsException", "java/lang/ArithmeticException"] 1 "java/lang/ArithmeticException" from by decide +kernel), ⟨by rw [ht]; exact hw.1, hw.2.2.1⟩, hS.F ht⟩) hS.2.2 d_H_run_23
  | inr r =>
    have hF1 : hi ["java/lang/IllegalStateException", "java/lang/IllegalArgumentException", "java/lang/IndexOutOfBoundsException", "java/lang/ArithmeticException"] w.2 (Sum.inr r) = F := by rw [← hF, ← hq]; rfl
    subst hF1
    refine z_wVG (mc := 0) (ms := 0) (z_runV (rm := rm_XDM_run) (As := [.int x1]) (rest := [.int 0, .ref ao]) ⟨hx, hb, hml, hown, hts⟩ (cn_XDM_run l D a k w.1 x1 r hq) (cwV 1 hts (zgV kh_27 kh_28 kh_29 kh_3 kc_XDM_run) rfl rfl rfl (by decide +kernel) ⟨Nat.le_of_ble_eq_true rfl, Nat.le_of_ble_eq_true rfl⟩) (xL_sub hw) 0 rfl rfl hl.1 rfl (lv_room (Nat.le_of_ble_eq_true rfl)) d_H_run_4 ⟨Nat.zero_le _, Nat.zero_le _⟩) (xL_sub hw) hS (fun H locs hw1 hS hz hk => ?_)
    have hw := xL_ext hw hw1 hk
    refine W.eq (g2 := F0 m 7 ls [.int r.1, .int 0, .ref ao]) rfl ?_
    refine lv_i2l (v := r.1.toInt64) hx hb d_H_run_7 rfl ?_
    refine va_last hx hb hw.2.1 hw.1 hw.2.2.1 hS 13 3 rfl rfl z_in01 d_H_run_8 (fun H locs hP hD hS => ?_)
    have hw : zW D clX (tyL k ko) nwX (xL a k ao ko) A s (r.2, vp_updL w.2 0 r.1.toInt64) H := ⟨hP, hw.2.1, hD, hw.2.2.2⟩
    refine lv_goto (tgt := 24) hx hb d_H_run_9 (by decide) ?_
    refine lv_iconst (v := 0) hx hb d_H_run_24 (by decide) ?_
    refine W.widen (k := 1) (n := 6) (by omega) (by omega) ?_
    rw [← hAe]
    rw [← hAe] at hw hS
    exact W.iret hx hb hr (fun t ht hW => ⟨rfl, ⟨by rw [ht]; exact hw.1, hw.2.2.1⟩, hS.F ht⟩) hS.2.2 d_H_run_25
def h_packed (w : XS × (Nat → Int64)) (x1 : Int32) (x2 : Int32) : Int32 × (XS × (Nat → Int64)) := hj ["java/lang/IllegalArgumentException", "java/lang/IndexOutOfBoundsException"] w.2 (f_XDM_packed w.1 x1 x2)
set_option maxHeartbeats 4000000 in
set_option maxRecDepth 100000 in
theorem c_H_packed (l : Launch) (hl9 : l.stackTraces = false) (D : va_G) (a : Nat → Nat) (k : Nat → ClassId) (sa : Nat → Nat) (ao : Nat) (ko : ClassId) (w : XS × (Nat → Int64)) (x1 : Int32) (x2 : Int32) (F : Int32 × (XS × (Nat → Int64))) (hF : h_packed w x1 x2 = F) (hEs : ∀ E u, f_XDM_packed w.1 x1 x2 = Sum.inl (E, u) → E = "java/lang/IllegalArgumentException" ∨ E = "java/lang/IndexOutOfBoundsException") : Met l y_H_packed w_H_packed rm_H_packed (zPH D clX (tyL k ko) nwX (skX sa) (xL a k ao ko) [.ref (a 0), .int x1, .int x2, .ref ao] w) (zQ D clX (xL a k ao ko) w (some (.int F.1)) F.2) 1 6 (zA (xL a k ao ko w)) := by
  refine va_MetW (cc := b_H_packed) (maxL := 5) (ret := some .int) (hh := hh_H_packed) (by decide) rfl ?_
  intro p e s m args below meth c s₁ B hml hv
  obtain ⟨rfl, hw, hE, hNc⟩ := hv
  have hx := B.exec
  have hb := B.bytes
  have hr := B.returns
  have hlocks := B.notSynchronized
  have hts0 := atoms_spec (ws := w_H_packed) B.pre
  have hts : ∀ w ∈ G0, w.before _ s = true := fun w h => hts0 w (List.mem_cons_of_mem _ h)
  have hown : s.vm.findClass RL = some m.cls := findClass_of_methodNamed B.named
  have htab : c.exceptionTable.toList = tableOf hh_H_packed := zl_table B (hts0 _ List.mem_cons_self)
  have hw : zW D clX (tyL k ko) nwX (xL a k ao ko) (zA (xL a k ao ko w)) s w s.heap := ⟨hw.1, hw.2.1, ⟨hw.2.2.1.1, fun k q hk => ⟨k, q.2, hk⟩⟩, hw.2.2.2⟩
  generalize hAe : zA (xL a k ao ko w) = A at hw hE ⊢
  have hS : va_S A s.heap s.heap [] := va_S.rf
  have hcs : 0 ≤ (rm_H_packed).cells ∧ 0 ≤ (rm_H_packed).slots := ⟨Nat.zero_le _, Nat.zero_le _⟩
  have hl := lv_entry ([.ref (a 0), .int x1, .int x2, .ref ao]) (n := 5) (Nat.le_of_ble_eq_true rfl)
  rw [lg_entry_eq]
  generalize (lg_sl ([.ref (a 0), .int x1, .int x2, .ref ao]) ++ List.replicate (5 - (lg_sl ([.ref (a 0), .int x1, .int x2, .ref ao])).length) Slot.unset).toArray = ls at hl ⊢
  have hl : lv_has ls 5 [(0, .ref (a 0)), (1, .int x1), (2, .int x2), (3, .ref ao)] := hl
  refine lv_aload_n hx hb d_H_packed_0 rfl (lv_at hl 3 rfl) ?_
  refine lv_iconst (v := 0) hx hb d_H_packed_1 (by decide) ?_
  refine lv_aload_n hx hb d_H_packed_2 rfl (lv_at hl 0 rfl) ?_
  refine lv_iload_n hx hb d_H_packed_3 rfl (lv_at hl 1 rfl) ?_
  refine lv_iload_n hx hb d_H_packed_4 rfl (lv_at hl 2 rfl) ?_
  cases hq : f_XDM_packed w.1 x1 x2 with
  | inl q =>
    obtain ⟨E, u1⟩ := q
    have hF1 : hj ["java/lang/IllegalArgumentException", "java/lang/IndexOutOfBoundsException"] w.2 (Sum.inl (E, u1)) = F := by rw [← hF, ← hq]; rfl
    have hE9 := hEs E u1 hq
    rcases hE9 with rfl | rfl
    · subst hF1
      refine zt_catch (ztV (rm := rx_XDM_packed) (As := [.int x1, .int x2]) (rest := [.int 0, .ref ao]) ⟨hx, hb, hml, hown, hts⟩ (cx_XDM_packed l hl9 D a k sa w.1 x1 x2 "java/lang/IllegalArgumentException" u1 hq) (cwV 2 hts (zgV kh_32 kh_33 kh_34 kh_3 kc_XDM_packed) rfl rfl rfl (by decide +kernel) ⟨Nat.le_of_ble_eq_true rfl, Nat.le_of_ble_eq_true rfl⟩) (xL_sub hw) hE hS 0 rfl rfl hl.1 rfl (lv_room (Nat.le_of_ble_eq_true rfl)) d_H_packed_5 ⟨Nat.le_of_ble_eq_true rfl, Nat.le_of_ble_eq_true rfl⟩) hown [] ⟨0, 9, 12, 13⟩ [⟨0, 9, 16, 15⟩] htab (fun z hz => nomatch hz) (by decide) (by decide) (hts _ kh_4) (va_Nw.use rfl (hE.2.2.2 _ (List.mem_of_getElem? (i := 1) rfl))) (xL_sub hw) hS (fun q9 H locs hw1 hS hz hk => ?_)
      have hw := xL_ext hw hw1 hk
      refine lv_astore (lv' := [(4, .ref q9), (0, .ref (a 0)), (1, .int x1), (2, .int x2), (3, .ref ao)]) hx hb d_H_packed_12 hl (by decide) rfl (fun ls hl => ?_)
      refine lv_iconst (v := 1) hx hb d_H_packed_14 (by decide) ?_
      rw [← hAe]
      rw [← hAe] at hw hS
      exact W.iret hx hb hr (fun t ht hW => ⟨congrArg (fun z => Outcome.returned (some (Value.int z))) (show (1 : Int32) = xc ["java/lang/IllegalArgumentException", "java/lang/IndexOutOfBoundsException"] 1 "java/lang/IllegalArgumentException" from by decide +kernel), ⟨by rw [ht]; exact hw.1, hw.2.2.1⟩, hS.F ht⟩) hS.2.2 d_H_packed_15
    · subst hF1
      refine zt_catch (ztV (rm := rx_XDM_packed) (As := [.int x1, .int x2]) (rest := [.int 0, .ref ao]) ⟨hx, hb, hml, hown, hts⟩ (cx_XDM_packed l hl9 D a k sa w.1 x1 x2 "java/lang/IndexOutOfBoundsException" u1 hq) (cwV 2 hts (zgV kh_32 kh_33 kh_34 kh_3 kc_XDM_packed) rfl rfl rfl (by decide +kernel) ⟨Nat.le_of_ble_eq_true rfl, Nat.le_of_ble_eq_true rfl⟩) (xL_sub hw) hE hS 0 rfl rfl hl.1 rfl (lv_room (Nat.le_of_ble_eq_true rfl)) d_H_packed_5 ⟨Nat.le_of_ble_eq_true rfl, Nat.le_of_ble_eq_true rfl⟩) hown [⟨0, 9, 12, 13⟩] ⟨0, 9, 16, 15⟩ [] htab (by
        intro z hz
        simp only [List.mem_cons, List.not_mem_nil, or_false] at hz
        rcases hz with rfl
        · exact ⟨by decide, "java/lang/IllegalArgumentException", hts _ kh_4, hNc _ (List.mem_of_getElem? (i := 0) rfl)⟩) (by decide) (by decide) (hts _ kh_5) (va_Nw.use rfl (hE.2.2.2 _ (List.mem_of_getElem? (i := 2) rfl))) (xL_sub hw) hS (fun q9 H locs hw1 hS hz hk => ?_)
      have hw := xL_ext hw hw1 hk
      refine lv_astore (lv' := [(4, .ref q9), (0, .ref (a 0)), (1, .int x1), (2, .int x2), (3, .ref ao)]) hx hb d_H_packed_16 hl (by decide) rfl (fun ls hl => ?_)
      refine lv_iconst (v := 2) hx hb d_H_packed_18 (by decide) ?_
      rw [← hAe]
      rw [← hAe] at hw hS
      exact W.iret hx hb hr (fun t ht hW => ⟨congrArg (fun z => Outcome.returned (some (Value.int z))) (show (2 : Int32) = xc ["java/lang/IllegalArgumentException", "java/lang/IndexOutOfBoundsException"] 1 "java/lang/IndexOutOfBoundsException" from by decide +kernel), ⟨by rw [ht]; exact hw.1, hw.2.2.1⟩, hS.F ht⟩) hS.2.2 d_H_packed_19
  | inr r =>
    have hF1 : hj ["java/lang/IllegalArgumentException", "java/lang/IndexOutOfBoundsException"] w.2 (Sum.inr r) = F := by rw [← hF, ← hq]; rfl
    subst hF1
    refine z_wVG (mc := 0) (ms := 0) (z_runV (rm := rm_XDM_packed) (As := [.int x1, .int x2]) (rest := [.int 0, .ref ao]) ⟨hx, hb, hml, hown, hts⟩ (cn_XDM_packed l D a k w.1 x1 x2 r hq) (cwV 2 hts (zgV kh_32 kh_33 kh_34 kh_3 kc_XDM_packed) rfl rfl rfl (by decide +kernel) ⟨Nat.le_of_ble_eq_true rfl, Nat.le_of_ble_eq_true rfl⟩) (xL_sub hw) 0 rfl rfl hl.1 rfl (lv_room (Nat.le_of_ble_eq_true rfl)) d_H_packed_5 ⟨Nat.zero_le _, Nat.zero_le _⟩) (xL_sub hw) hS (fun H locs hw1 hS hz hk => ?_)
    have hw := xL_ext hw hw1 hk
    refine W.eq (g2 := F0 m 8 ls [.long r.1, .int 0, .ref ao]) rfl ?_
    refine va_last hx hb hw.2.1 hw.1 hw.2.2.1 hS 13 3 rfl rfl z_in01 d_H_packed_8 (fun H locs hP hD hS => ?_)
    have hw : zW D clX (tyL k ko) nwX (xL a k ao ko) A s (r.2, vp_updL w.2 0 r.1) H := ⟨hP, hw.2.1, hD, hw.2.2.2⟩
    refine lv_goto (tgt := 20) hx hb d_H_packed_9 (by decide) ?_
    refine lv_iconst (v := 0) hx hb d_H_packed_20 (by decide) ?_
    refine W.widen (k := 1) (n := 6) (by omega) (by omega) ?_
    rw [← hAe]
    rw [← hAe] at hw hS
    exact W.iret hx hb hr (fun t ht hW => ⟨rfl, ⟨by rw [ht]; exact hw.1, hw.2.2.1⟩, hS.F ht⟩) hS.2.2 d_H_packed_21
def h_count (w : XS × (Nat → Int64)) (x1 : Int32) : Int32 × (XS × (Nat → Int64)) := hi ["java/lang/IllegalArgumentException"] w.2 (f_XDM_count w.1 x1)
set_option maxHeartbeats 4000000 in
set_option maxRecDepth 100000 in
theorem c_H_count (l : Launch) (hl9 : l.stackTraces = false) (D : va_G) (a : Nat → Nat) (k : Nat → ClassId) (sa : Nat → Nat) (ao : Nat) (ko : ClassId) (w : XS × (Nat → Int64)) (x1 : Int32) (F : Int32 × (XS × (Nat → Int64))) (hF : h_count w x1 = F) (hEs : ∀ E u, f_XDM_count w.1 x1 = Sum.inl (E, u) → E = "java/lang/IllegalArgumentException") : Met l y_H_count w_H_count rm_H_count (zPH D clX (tyL k ko) nwX (skX sa) (xL a k ao ko) [.ref (a 0), .int x1, .ref ao] w) (zQ D clX (xL a k ao ko) w (some (.int F.1)) F.2) 1 6 (zA (xL a k ao ko w)) := by
  refine va_MetW (cc := b_H_count) (maxL := 4) (ret := some .int) (hh := hh_H_count) (by decide) rfl ?_
  intro p e s m args below meth c s₁ B hml hv
  obtain ⟨rfl, hw, hE, hNc⟩ := hv
  have hx := B.exec
  have hb := B.bytes
  have hr := B.returns
  have hlocks := B.notSynchronized
  have hts0 := atoms_spec (ws := w_H_count) B.pre
  have hts : ∀ w ∈ G0, w.before _ s = true := fun w h => hts0 w (List.mem_cons_of_mem _ h)
  have hown : s.vm.findClass RL = some m.cls := findClass_of_methodNamed B.named
  have htab : c.exceptionTable.toList = tableOf hh_H_count := zl_table B (hts0 _ List.mem_cons_self)
  have hw : zW D clX (tyL k ko) nwX (xL a k ao ko) (zA (xL a k ao ko w)) s w s.heap := ⟨hw.1, hw.2.1, ⟨hw.2.2.1.1, fun k q hk => ⟨k, q.2, hk⟩⟩, hw.2.2.2⟩
  generalize hAe : zA (xL a k ao ko w) = A at hw hE ⊢
  have hS : va_S A s.heap s.heap [] := va_S.rf
  have hcs : 0 ≤ (rm_H_count).cells ∧ 0 ≤ (rm_H_count).slots := ⟨Nat.zero_le _, Nat.zero_le _⟩
  have hl := lv_entry ([.ref (a 0), .int x1, .ref ao]) (n := 4) (Nat.le_of_ble_eq_true rfl)
  rw [lg_entry_eq]
  generalize (lg_sl ([.ref (a 0), .int x1, .ref ao]) ++ List.replicate (4 - (lg_sl ([.ref (a 0), .int x1, .ref ao])).length) Slot.unset).toArray = ls at hl ⊢
  have hl : lv_has ls 4 [(0, .ref (a 0)), (1, .int x1), (2, .ref ao)] := hl
  refine lv_aload_n hx hb d_H_count_0 rfl (lv_at hl 2 rfl) ?_
  refine lv_iconst (v := 0) hx hb d_H_count_1 (by decide) ?_
  refine lv_aload_n hx hb d_H_count_2 rfl (lv_at hl 0 rfl) ?_
  refine lv_iload_n hx hb d_H_count_3 rfl (lv_at hl 1 rfl) ?_
  cases hq : f_XDM_count w.1 x1 with
  | inl q =>
    obtain ⟨E, u1⟩ := q
    have hF1 : hi ["java/lang/IllegalArgumentException"] w.2 (Sum.inl (E, u1)) = F := by rw [← hF, ← hq]; rfl
    have hE9 := hEs E u1 hq
    subst hE9
    subst hF1
    refine zt_catch (ztV (rm := rx_XDM_count) (As := [.int x1]) (rest := [.int 0, .ref ao]) ⟨hx, hb, hml, hown, hts⟩ (cx_XDM_count l hl9 D a k sa w.1 x1 "java/lang/IllegalArgumentException" u1 hq) (cwV 1 hts (zgV kh_35 kh_36 kh_37 kh_3 kc_XDM_count) rfl rfl rfl (by decide +kernel) ⟨Nat.le_of_ble_eq_true rfl, Nat.le_of_ble_eq_true rfl⟩) (xL_sub hw) hE hS 0 rfl rfl hl.1 rfl (lv_room (Nat.le_of_ble_eq_true rfl)) d_H_count_4 ⟨Nat.le_of_ble_eq_true rfl, Nat.le_of_ble_eq_true rfl⟩) hown [] ⟨0, 9, 12, 13⟩ [] htab (fun z hz => nomatch hz) (by decide) (by decide) (hts _ kh_4) (va_Nw.use rfl (hE.2.2.2 _ (List.mem_of_getElem? (i := 1) rfl))) (xL_sub hw) hS (fun q9 H locs hw1 hS hz hk => ?_)
    have hw := xL_ext hw hw1 hk
    refine lv_astore_n (lv' := [(3, .ref q9), (0, .ref (a 0)), (1, .int x1), (2, .ref ao)]) hx hb d_H_count_12 rfl hl (by decide) rfl (fun ls hl => ?_)
    refine lv_iconst (v := 1) hx hb d_H_count_13 (by decide) ?_
    rw [← hAe]
    rw [← hAe] at hw hS
    exact W.iret hx hb hr (fun t ht hW => ⟨congrArg (fun z => Outcome.returned (some (Value.int z))) (show (1 : Int32) = xc ["java/lang/IllegalArgumentException"] 1 "java/lang/IllegalArgumentException" from by decide +kernel), ⟨by rw [ht]; exact hw.1, hw.2.2.1⟩, hS.F ht⟩) hS.2.2 d_H_count_14
  | inr r =>
    have hF1 : hi ["java/lang/IllegalArgumentException"] w.2 (Sum.inr r) = F := by rw [← hF, ← hq]; rfl
    subst hF1
    refine z_wVG (mc := 0) (ms := 0) (z_runV (rm := rm_XDM_count) (As := [.int x1]) (rest := [.int 0, .ref ao]) ⟨hx, hb, hml, hown, hts⟩ (cn_XDM_count l D a k w.1 x1 r hq) (cwV 1 hts (zgV kh_35 kh_36 kh_37 kh_3 kc_XDM_count) rfl rfl rfl (by decide +kernel) ⟨Nat.le_of_ble_eq_true rfl, Nat.le_of_ble_eq_true rfl⟩) (xL_sub hw) 0 rfl rfl hl.1 rfl (lv_room (Nat.le_of_ble_eq_true rfl)) d_H_count_4 ⟨Nat.zero_le _, Nat.zero_le _⟩) (xL_sub hw) hS (fun H locs hw1 hS hz hk => ?_)
    have hw := xL_ext hw hw1 hk
    refine W.eq (g2 := F0 m 7 ls [.int r.1, .int 0, .ref ao]) rfl ?_
    refine lv_i2l (v := r.1.toInt64) hx hb d_H_count_7 rfl ?_
    refine va_last hx hb hw.2.1 hw.1 hw.2.2.1 hS 13 3 rfl rfl z_in01 d_H_count_8 (fun H locs hP hD hS => ?_)
    have hw : zW D clX (tyL k ko) nwX (xL a k ao ko) A s (r.2, vp_updL w.2 0 r.1.toInt64) H := ⟨hP, hw.2.1, hD, hw.2.2.2⟩
    refine lv_goto (tgt := 15) hx hb d_H_count_9 (by decide) ?_
    refine lv_iconst (v := 0) hx hb d_H_count_15 (by decide) ?_
    refine W.widen (k := 1) (n := 6) (by omega) (by omega) ?_
    rw [← hAe]
    rw [← hAe] at hw hS
    exact W.iret hx hb hr (fun t ht hW => ⟨rfl, ⟨by rw [ht]; exact hw.1, hw.2.2.1⟩, hS.F ht⟩) hS.2.2 d_H_count_16
