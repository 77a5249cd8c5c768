def rm_XMe_init : Room := { frames := 1, cells := 1, slots := 1024, locals := 20 }
set_option maxHeartbeats 4000000 in
set_option maxRecDepth 100000 in
theorem c_XMe_init (l : Launch) (D : va_G) (h0 sz : Nat) : Met l y_XMe_init w_XMe_init rm_XMe_init (va_Pc [.ref h0] (fun U => U.heap.size = sz ∧ va_P D clX [(h0, .inr (2, [.null]))] U.heap ∧ va_K D clX [] U ∧ va_D (fun _ => True) [(h0, .inr (2, [.null]))] ∧ ∀ w ∈ nwC, va_Nw w U)) (va_Qv (fun _ : (Nat → Nat) × (Nat → Nat) => True) (fun u t => va_P D clX [(h0, .inr (2, [.ref (u.1 0)])), ((u.1 0), .inl ((u.2 0), 1024, .inl (fun _ => 0)))] t.heap ∧ va_K D clX [(u.2 0, .int)] t ∧ va_D (va_A [(h0, .inr (2, [.null]))] sz) [(h0, .inr (2, [.ref (u.1 0)])), ((u.1 0), .inl ((u.2 0), 1024, .inl (fun _ => 0)))]) (va_A [(h0, .inr (2, [.null]))] sz)) 1 1024 (va_A [(h0, .inr (2, [.null]))] sz) := by
  refine Met.ofW (cc := b_XMe_init) (maxL := 1) (ret := none) (by decide) rfl ?_
  intro p e s m args below meth c s₁ B hml hv
  obtain ⟨rfl, hsz, hP, hK, hD0, hN⟩ := hv
  have hx := B.exec
  have hb := B.bytes
  have hr := B.returns
  have hts0 := atoms_spec (ws := w_XMe_init) B.pre
  have hts : ∀ w ∈ G0, w.before _ s = true := fun w h => hts0 w (List.mem_cons_of_mem _ h)
  have hown : s.vm.findClass RX_Me = some m.cls := findClass_of_methodNamed B.named
  have hlocks := B.notSynchronized
  have hin : meth.name = "<init>" := (name_of_methodNamed B.named B.method).1
  subst hsz
  have hD := hD0.self (sz := s.heap.size)
  generalize hAe : va_A [(h0, .inr (2, [.null]))] s.heap.size = A at hD ⊢
  have hA : ∀ q : Nat, s.heap.size ≤ q → A q := fun q h => by rw [← hAe]; exact Or.inr h
  have hS : va_S A s.heap s.heap [] := va_S.rf
  obtain ⟨H, hH⟩ : ∃ z, z = s.heap := ⟨_, rfl⟩
  have hP : va_P D clX [(h0, .inr (2, [.null]))] s.heap := hP
  have hl := lv_entry ([.ref h0]) (n := 1) (Nat.le_of_ble_eq_true rfl)
  rw [lg_entry_eq]
  generalize (lg_sl ([.ref h0]) ++ List.replicate (1 - (lg_sl ([.ref h0])).length) Slot.unset).toArray = ls at hl ⊢
  have hl : lv_has ls 1 [(0, .ref h0)] := hl
  refine lv_aload_n hx hb d_XMe_init_0 rfl (lv_at hl 0 rfl) ?_
  refine W.objInit hx hb hown (hts _ kq_0) (hts _ kq_oi) (hts _ kq_oc) rfl (by rw [hml]; exact hl.1) rfl d_XMe_init_1 (Nat.le_of_ble_eq_true rfl) (Nat.le_of_ble_eq_true rfl) ?_
  refine W.eq (g2 := F0 m 4 ls []) rfl ?_
  refine lv_aload_n hx hb d_XMe_init_4 rfl (lv_at hl 0 rfl) ?_
  refine lv_sipush (v := 1024) hx hb d_XMe_init_5 (by decide) ?_
  refine va_newa (atype := .int) (a0 := (1024, .inl (fun _ => 0))) (ty := .int) (N' := 1024) hx hb (hts _ kq_arr) rfl hK hP hD hS hA (fun _ => rfl) (by decide) (by decide) (by decide) (Nat.le_of_ble_eq_true rfl) (Nat.le_of_ble_eq_true rfl) d_XMe_init_8 (fun q8 k8 H hK hP hD hS => ?_)
  have hP : va_P D clX [(h0, .inr (2, [.null])), (q8, .inl (k8, 1024, .inl (fun _ => 0)))] H := hP
  have hD : va_D A [(h0, .inr (2, [.null])), (q8, .inl (k8, 1024, .inl (fun _ => 0)))] := hD
  have hK : va_K D clX [(k8, .int)] s := hK
  refine W.widen (k := 1) (n := 1024) (by omega) (by omega) ?_
  refine va_putF (v := .ref q8) (ty := .array .int) (C := RX_Me) (T := TX_Me) hx hb hts iX_Me tX_Me tX_Me_ok nX_Me hown hK hP hD hS 0 rfl rfl 0 (by decide) (hts _ kq_1) (fun _ h9 => h9) rfl hin rfl (by decide +kernel) rfl rfl (Nat.le_of_ble_eq_true rfl) d_XMe_init_10 (fun H locs hP hD hS => ?_)
  have hP : va_P D clX [(h0, .inr (2, [.ref q8])), (q8, .inl (k8, 1024, .inl (fun _ => 0)))] H := hP
  have hD : va_D A [(h0, .inr (2, [.ref q8])), (q8, .inl (k8, 1024, .inl (fun _ => 0)))] := hD
  exact W.vret hx hb hr (fun t ht hW => ⟨⟨(fun i => ([q8] : List Nat).getD i 0, fun i => ([k8] : List Nat).getD i 0), rfl, trivial, by rw [ht]; exact hP.sub [0, 1] rfl, va_K.moved hW.alike (hK.sub [0] rfl), hD.sub [0, 1] (by decide) rfl⟩, hS.F ht⟩) hS.2.2 d_XMe_init_13
def rm_XSt_init : Room := { frames := 2, cells := 3, slots := 1041, locals := 40 }
set_option maxHeartbeats 4000000 in
set_option maxRecDepth 100000 in
theorem c_XSt_init (l : Launch) (D : va_G) (h0 sz : Nat) : Met l y_XSt_init w_XSt_init rm_XSt_init (va_Pc [.ref h0] (fun U => U.heap.size = sz ∧ va_P D clX [(h0, .inr (1, [.null, .null, .int 0, .int 0, .int 0, .int 0]))] U.heap ∧ va_K D clX [] U ∧ va_D (fun _ => True) [(h0, .inr (1, [.null, .null, .int 0, .int 0, .int 0, .int 0]))] ∧ ∀ w ∈ nwC, va_Nw w U)) (va_Qv (fun _ : (Nat → Nat) × (Nat → Nat) => True) (fun u t => va_P D clX [(h0, .inr (1, [.ref (u.1 0), .ref (u.1 2), .int 0, .int 0, .int 0, .int (-1)])), ((u.1 0), .inr (2, [.ref (u.1 1)])), ((u.1 1), .inl ((u.2 0), 1024, .inl (fun _ => 0))), ((u.1 2), .inl ((u.2 1), 16, .inl (fun _ => 0)))] t.heap ∧ va_K D clX [(u.2 0, .int), (u.2 1, .int)] t ∧ va_D (va_A [(h0, .inr (1, [.null, .null, .int 0, .int 0, .int 0, .int 0]))] sz) [(h0, .inr (1, [.ref (u.1 0), .ref (u.1 2), .int 0, .int 0, .int 0, .int (-1)])), ((u.1 0), .inr (2, [.ref (u.1 1)])), ((u.1 1), .inl ((u.2 0), 1024, .inl (fun _ => 0))), ((u.1 2), .inl ((u.2 1), 16, .inl (fun _ => 0)))]) (va_A [(h0, .inr (1, [.null, .null, .int 0, .int 0, .int 0, .int 0]))] sz)) 3 1041 (va_A [(h0, .inr (1, [.null, .null, .int 0, .int 0, .int 0, .int 0]))] sz) := by
  refine Met.ofW (cc := b_XSt_init) (maxL := 1) (ret := none) (by decide) rfl ?_
  intro p e s m args below meth c s₁ B hml hv
  obtain ⟨rfl, hsz, hP, hK, hD0, hN⟩ := hv
  have hx := B.exec
  have hb := B.bytes
  have hr := B.returns
  have hts0 := atoms_spec (ws := w_XSt_init) B.pre
  have hts : ∀ w ∈ G0, w.before _ s = true := fun w h => hts0 w (List.mem_cons_of_mem _ h)
  have hown : s.vm.findClass RX_St = some m.cls := findClass_of_methodNamed B.named
  have hlocks := B.notSynchronized
  have hin : meth.name = "<init>" := (name_of_methodNamed B.named B.method).1
  subst hsz
  have hD := hD0.self (sz := s.heap.size)
  generalize hAe : va_A [(h0, .inr (1, [.null, .null, .int 0, .int 0, .int 0, .int 0]))] s.heap.size = A at hD ⊢
  have hA : ∀ q : Nat, s.heap.size ≤ q → A q := fun q h => by rw [← hAe]; exact Or.inr h
  have hS : va_S A s.heap s.heap [] := va_S.rf
  obtain ⟨H, hH⟩ : ∃ z, z = s.heap := ⟨_, rfl⟩
  have hP : va_P D clX [(h0, .inr (1, [.null, .null, .int 0, .int 0, .int 0, .int 0]))] s.heap := hP
  have hl := lv_entry ([.ref h0]) (n := 1) (Nat.le_of_ble_eq_true rfl)
  rw [lg_entry_eq]
  generalize (lg_sl ([.ref h0]) ++ List.replicate (1 - (lg_sl ([.ref h0])).length) Slot.unset).toArray = ls at hl ⊢
  have hl : lv_has ls 1 [(0, .ref h0)] := hl
  refine lv_aload_n hx hb d_XSt_init_0 rfl (lv_at hl 0 rfl) ?_
  refine W.objInit hx hb hown (hts _ kq_2) (hts _ kq_oi) (hts _ kq_oc) rfl (by rw [hml]; exact hl.1) rfl d_XSt_init_1 (Nat.le_of_ble_eq_true rfl) (Nat.le_of_ble_eq_true rfl) ?_
  refine W.eq (g2 := F0 m 4 ls []) rfl ?_
  refine lv_aload_n hx hb d_XSt_init_4 rfl (lv_at hl 0 rfl) ?_
  refine va_new (ci := 2) (fs := [.null]) (C := RX_Me) (T := TX_Me) (N := 1) hx hb hts iX_Me tX_Me tX_Me_ok hown (hts _ kq_3) (hts _ kq_4) (hts _ kq_5) hK hP hD hS hA rfl (fun j hj => by rcases (show j = 0 by omega) with rfl <;> rfl) (Nat.le_of_ble_eq_true rfl) (Nat.le_of_ble_eq_true rfl) d_XSt_init_5 (fun q5 H hP hD hS => ?_)
  have hP : va_P D clX [(h0, .inr (1, [.null, .null, .int 0, .int 0, .int 0, .int 0])), (q5, .inr (2, [.null]))] H := hP
  have hD : va_D A [(h0, .inr (1, [.null, .null, .int 0, .int 0, .int 0, .int 0])), (q5, .inr (2, [.null]))] := hD
  refine W.widen (k := 1) (n := 1) (by omega) (by omega) ?_
  refine lv_dup hx hb d_XSt_init_8 rfl ?_
  have hPc := hP.sub (ws' := [(q5, .inr (2, [.null]))]) [1] rfl
  have hDc := hD.sub (ws' := [(q5, .inr (2, [.null]))]) [1] (by decide) rfl
  have hKc := hK.sub (tys' := []) [] rfl
  have hFc := va_free (wc := [(q5, .inr (2, [.null]))]) hD hS hA [1] rfl
  refine va_callv (va_runIN (As := []) (rest := [.ref q5, .ref h0]) ⟨hx, hb, hml, hown, hts⟩ (c_XMe_init l D (q5) H.size) (⟨va_cnB 0 hts kg_XMe_init rfl rfl rfl (hN _ nc_0) (hts _ kq_5) (by decide +kernel) ⟨Nat.le_of_ble_eq_true rfl, Nat.le_of_ble_eq_true rfl⟩, rfl, hts _ kq_6⟩) ⟨nC_blind, fun U hU hW => ⟨rfl, by rw [hU], by rw [hU]; exact hPc, va_K.moved hW.alike hKc, hDc.weaken (fun _ _ _ _ => trivial), fun w hw => zNest_warm (nwC_ok w hw) hW (hN w hw)⟩⟩ rfl rfl hl.1 rfl (lv_room (Nat.le_of_ble_eq_true rfl)) d_XSt_init_9 ⟨Nat.le_of_ble_eq_true rfl, Nat.le_of_ble_eq_true rfl⟩) hS (fun q _ h => hFc q h) hFc (fun u9 t H1 locs ht hvm hw hB hz1 hk1 hS => ?_)
  obtain ⟨hP1, hK1, hD1⟩ := hB
  rw [ht] at hP1
  have hK1 := va_K.moved hvm.symm hK1
  obtain ⟨hP, hD⟩ := va_join (wr := [(h0, .inr (1, [.null, .null, .int 0, .int 0, .int 0, .int 0]))]) (w1 := [(q5, .inr (2, [.ref (u9.1 0)])), ((u9.1 0), .inl ((u9.2 0), 1024, .inl (fun _ => 0)))]) hP hD [1] [0] rfl rfl (by decide) (by decide) hk1 hFc hP1 hD1
  have hK := (hK.sub (tys' := []) [] rfl).app hK1
  generalize H1 = H at hP hS ⊢
  have hP : va_P D clX [(h0, .inr (1, [.null, .null, .int 0, .int 0, .int 0, .int 0])), (q5, .inr (2, [.ref (u9.1 0)])), ((u9.1 0), .inl ((u9.2 0), 1024, .inl (fun _ => 0)))] H := hP
  have hD : va_D A [(h0, .inr (1, [.null, .null, .int 0, .int 0, .int 0, .int 0])), (q5, .inr (2, [.ref (u9.1 0)])), ((u9.1 0), .inl ((u9.2 0), 1024, .inl (fun _ => 0)))] := hD
  have hK : va_K D clX [((u9.2 0), .int)] s := hK
  refine W.widen (k := 2) (n := 1025) (by omega) (by omega) ?_
  refine va_putF (v := .ref q5) (ty := .object "DecimalMachine$Memory") (C := RX_St) (T := TX_St) hx hb hts iX_St tX_St tX_St_ok nX_St hown hK hP hD hS 0 rfl rfl 0 (by decide) (hts _ kq_7) (fun _ h9 => h9) rfl hin rfl (by decide +kernel) rfl rfl (Nat.le_of_ble_eq_true rfl) d_XSt_init_12 (fun H locs hP hD hS => ?_)
  have hP : va_P D clX [(h0, .inr (1, [.ref q5, .null, .int 0, .int 0, .int 0, .int 0])), (q5, .inr (2, [.ref (u9.1 0)])), ((u9.1 0), .inl ((u9.2 0), 1024, .inl (fun _ => 0)))] H := hP
  have hD : va_D A [(h0, .inr (1, [.ref q5, .null, .int 0, .int 0, .int 0, .int 0])), (q5, .inr (2, [.ref (u9.1 0)])), ((u9.1 0), .inl ((u9.2 0), 1024, .inl (fun _ => 0)))] := hD
  refine lv_aload_n hx hb d_XSt_init_15 rfl (lv_at hl 0 rfl) ?_
  refine lv_bipush (v := 16) hx hb d_XSt_init_16 (by decide) ?_
  refine va_newa (atype := .int) (a0 := (16, .inl (fun _ => 0))) (ty := .int) (N' := 16) hx hb (hts _ kq_arr) rfl hK hP hD hS hA (fun _ => rfl) (by decide) (by decide) (by decide) (Nat.le_of_ble_eq_true rfl) (Nat.le_of_ble_eq_true rfl) d_XSt_init_18 (fun q18 k18 H hK hP hD hS => ?_)
  have hP : va_P D clX [(h0, .inr (1, [.ref q5, .null, .int 0, .int 0, .int 0, .int 0])), (q5, .inr (2, [.ref (u9.1 0)])), ((u9.1 0), .inl ((u9.2 0), 1024, .inl (fun _ => 0))), (q18, .inl (k18, 16, .inl (fun _ => 0)))] H := hP
  have hD : va_D A [(h0, .inr (1, [.ref q5, .null, .int 0, .int 0, .int 0, .int 0])), (q5, .inr (2, [.ref (u9.1 0)])), ((u9.1 0), .inl ((u9.2 0), 1024, .inl (fun _ => 0))), (q18, .inl (k18, 16, .inl (fun _ => 0)))] := hD
  have hK : va_K D clX [((u9.2 0), .int), (k18, .int)] s := hK
  refine W.widen (k := 3) (n := 1041) (by omega) (by omega) ?_
  refine va_putF (v := .ref q18) (ty := .array .int) (C := RX_St) (T := TX_St) hx hb hts iX_St tX_St tX_St_ok nX_St hown hK hP hD hS 0 rfl rfl 1 (by decide) (hts _ kq_8) (fun _ h9 => h9) rfl hin rfl (by decide +kernel) rfl rfl (Nat.le_of_ble_eq_true rfl) d_XSt_init_20 (fun H locs hP hD hS => ?_)
  have hP : va_P D clX [(h0, .inr (1, [.ref q5, .ref q18, .int 0, .int 0, .int 0, .int 0])), (q5, .inr (2, [.ref (u9.1 0)])), ((u9.1 0), .inl ((u9.2 0), 1024, .inl (fun _ => 0))), (q18, .inl (k18, 16, .inl (fun _ => 0)))] H := hP
  have hD : va_D A [(h0, .inr (1, [.ref q5, .ref q18, .int 0, .int 0, .int 0, .int 0])), (q5, .inr (2, [.ref (u9.1 0)])), ((u9.1 0), .inl ((u9.2 0), 1024, .inl (fun _ => 0))), (q18, .inl (k18, 16, .inl (fun _ => 0)))] := hD
  refine lv_aload_n hx hb d_XSt_init_23 rfl (lv_at hl 0 rfl) ?_
  refine lv_iconst (v := 0) hx hb d_XSt_init_24 (by decide) ?_
  refine va_put (v := .int 0) (ty := .int) (C := RX_St) (T := TX_St) hx hb hts iX_St tX_St tX_St_ok nX_St hown hK hP hD hS 0 rfl rfl 2 (by decide) (hts _ kq_9) (fun _ h9 => h9) rfl (by decide +kernel) rfl rfl (Nat.le_of_ble_eq_true rfl) d_XSt_init_25 (fun H locs hP hD hS => ?_)
  have hP : va_P D clX [(h0, .inr (1, [.ref q5, .ref q18, .int 0, .int 0, .int 0, .int 0])), (q5, .inr (2, [.ref (u9.1 0)])), ((u9.1 0), .inl ((u9.2 0), 1024, .inl (fun _ => 0))), (q18, .inl (k18, 16, .inl (fun _ => 0)))] H := hP
  have hD : va_D A [(h0, .inr (1, [.ref q5, .ref q18, .int 0, .int 0, .int 0, .int 0])), (q5, .inr (2, [.ref (u9.1 0)])), ((u9.1 0), .inl ((u9.2 0), 1024, .inl (fun _ => 0))), (q18, .inl (k18, 16, .inl (fun _ => 0)))] := hD
  refine lv_aload_n hx hb d_XSt_init_28 rfl (lv_at hl 0 rfl) ?_
  refine lv_iconst (v := 0) hx hb d_XSt_init_29 (by decide) ?_
  refine va_put (v := .int 0) (ty := .int) (C := RX_St) (T := TX_St) hx hb hts iX_St tX_St tX_St_ok nX_St hown hK hP hD hS 0 rfl rfl 3 (by decide) (hts _ kq_10) (fun _ h9 => h9) rfl (by decide +kernel) rfl rfl (Nat.le_of_ble_eq_true rfl) d_XSt_init_30 (fun H locs hP hD hS => ?_)
  have hP : va_P D clX [(h0, .inr (1, [.ref q5, .ref q18, .int 0, .int 0, .int 0, .int 0])), (q5, .inr (2, [.ref (u9.1 0)])), ((u9.1 0), .inl ((u9.2 0), 1024, .inl (fun _ => 0))), (q18, .inl (k18, 16, .inl (fun _ => 0)))] H := hP
  have hD : va_D A [(h0, .inr (1, [.ref q5, .ref q18, .int 0, .int 0, .int 0, .int 0])), (q5, .inr (2, [.ref (u9.1 0)])), ((u9.1 0), .inl ((u9.2 0), 1024, .inl (fun _ => 0))), (q18, .inl (k18, 16, .inl (fun _ => 0)))] := hD
  refine lv_aload_n hx hb d_XSt_init_33 rfl (lv_at hl 0 rfl) ?_
  refine lv_iconst (v := 0) hx hb d_XSt_init_34 (by decide) ?_
  refine va_put (v := .int 0) (ty := .int) (C := RX_St) (T := TX_St) hx hb hts iX_St tX_St tX_St_ok nX_St hown hK hP hD hS 0 rfl rfl 4 (by decide) (hts _ kq_11) (fun _ h9 => h9) rfl (by decide +kernel) rfl rfl (Nat.le_of_ble_eq_true rfl) d_XSt_init_35 (fun H locs hP hD hS => ?_)
  have hP : va_P D clX [(h0, .inr (1, [.ref q5, .ref q18, .int 0, .int 0, .int 0, .int 0])), (q5, .inr (2, [.ref (u9.1 0)])), ((u9.1 0), .inl ((u9.2 0), 1024, .inl (fun _ => 0))), (q18, .inl (k18, 16, .inl (fun _ => 0)))] H := hP
  have hD : va_D A [(h0, .inr (1, [.ref q5, .ref q18, .int 0, .int 0, .int 0, .int 0])), (q5, .inr (2, [.ref (u9.1 0)])), ((u9.1 0), .inl ((u9.2 0), 1024, .inl (fun _ => 0))), (q18, .inl (k18, 16, .inl (fun _ => 0)))] := hD
  refine lv_aload_n hx hb d_XSt_init_38 rfl (lv_at hl 0 rfl) ?_
  refine lv_iconst (v := -1) hx hb d_XSt_init_39 (by decide) ?_
  refine va_put (v := .int (-1)) (ty := .int) (C := RX_St) (T := TX_St) hx hb hts iX_St tX_St tX_St_ok nX_St hown hK hP hD hS 0 rfl rfl 5 (by decide) (hts _ kq_12) (fun _ h9 => h9) rfl (by decide +kernel) rfl rfl (Nat.le_of_ble_eq_true rfl) d_XSt_init_40 (fun H locs hP hD hS => ?_)
  have hP : va_P D clX [(h0, .inr (1, [.ref q5, .ref q18, .int 0, .int 0, .int 0, .int (-1)])), (q5, .inr (2, [.ref (u9.1 0)])), ((u9.1 0), .inl ((u9.2 0), 1024, .inl (fun _ => 0))), (q18, .inl (k18, 16, .inl (fun _ => 0)))] H := hP
  have hD : va_D A [(h0, .inr (1, [.ref q5, .ref q18, .int 0, .int 0, .int 0, .int (-1)])), (q5, .inr (2, [.ref (u9.1 0)])), ((u9.1 0), .inl ((u9.2 0), 1024, .inl (fun _ => 0))), (q18, .inl (k18, 16, .inl (fun _ => 0)))] := hD
  exact W.vret hx hb hr (fun t ht hW => ⟨⟨(fun i => ([q5, (u9.1 0), q18] : List Nat).getD i 0, fun i => ([(u9.2 0), k18] : List Nat).getD i 0), rfl, trivial, by rw [ht]; exact hP.sub [0, 1, 2, 3] rfl, va_K.moved hW.alike (hK.sub [0, 1] rfl), hD.sub [0, 1, 2, 3] (by decide) rfl⟩, hS.F ht⟩) hS.2.2 d_XSt_init_43
def rm_XIn_init : Room := { frames := 1, cells := 0, slots := 0, locals := 20 }
set_option maxHeartbeats 4000000 in
set_option maxRecDepth 100000 in
theorem c_XIn_init (l : Launch) (D : va_G) (h0 sz : Nat) : Met l y_XIn_init w_XIn_init rm_XIn_init (va_Pc [.ref h0] (fun U => U.heap.size = sz ∧ va_P D clX [(h0, .inr (4, [.int 0, .int 0, .int 0, .int 0, .int 0, .int 0, .int 0]))] U.heap ∧ va_K D clX [] U ∧ va_D (fun _ => True) [(h0, .inr (4, [.int 0, .int 0, .int 0, .int 0, .int 0, .int 0, .int 0]))] ∧ ∀ w ∈ nwC, va_Nw w U)) (va_Qv (fun _ : (Nat → Nat) × (Nat → Nat) => True) (fun u t => va_P D clX [(h0, .inr (4, [.int 0, .int 0, .int 0, .int 0, .int 0, .int 0, .int 0]))] t.heap ∧ va_K D clX [] t ∧ va_D (va_A [(h0, .inr (4, [.int 0, .int 0, .int 0, .int 0, .int 0, .int 0, .int 0]))] sz) [(h0, .inr (4, [.int 0, .int 0, .int 0, .int 0, .int 0, .int 0, .int 0]))]) (va_A [(h0, .inr (4, [.int 0, .int 0, .int 0, .int 0, .int 0, .int 0, .int 0]))] sz)) 0 0 (va_A [(h0, .inr (4, [.int 0, .int 0, .int 0, .int 0, .int 0, .int 0, .int 0]))] sz) := by
  refine Met.ofW (cc := b_XIn_init) (maxL := 1) (ret := none) (by decide) rfl ?_
  intro p e s m args below meth c s₁ B hml hv
  obtain ⟨rfl, hsz, hP, hK, hD0, hN⟩ := hv
  have hx := B.exec
  have hb := B.bytes
  have hr := B.returns
  have hts0 := atoms_spec (ws := w_XIn_init) B.pre
  have hts : ∀ w ∈ G0, w.before _ s = true := fun w h => hts0 w (List.mem_cons_of_mem _ h)
  have hown : s.vm.findClass RX_In = some m.cls := findClass_of_methodNamed B.named
  have hlocks := B.notSynchronized
  have hin : meth.name = "<init>" := (name_of_methodNamed B.named B.method).1
  subst hsz
  have hD := hD0.self (sz := s.heap.size)
  generalize hAe : va_A [(h0, .inr (4, [.int 0, .int 0, .int 0, .int 0, .int 0, .int 0, .int 0]))] s.heap.size = A at hD ⊢
  have hA : ∀ q : Nat, s.heap.size ≤ q → A q := fun q h => by rw [← hAe]; exact Or.inr h
  have hS : va_S A s.heap s.heap [] := va_S.rf
  obtain ⟨H, hH⟩ : ∃ z, z = s.heap := ⟨_, rfl⟩
  have hP : va_P D clX [(h0, .inr (4, [.int 0, .int 0, .int 0, .int 0, .int 0, .int 0, .int 0]))] s.heap := hP
  have hl := lv_entry ([.ref h0]) (n := 1) (Nat.le_of_ble_eq_true rfl)
  rw [lg_entry_eq]
  generalize (lg_sl ([.ref h0]) ++ List.replicate (1 - (lg_sl ([.ref h0])).length) Slot.unset).toArray = ls at hl ⊢
  have hl : lv_has ls 1 [(0, .ref h0)] := hl
  refine lv_aload_n hx hb d_XIn_init_0 rfl (lv_at hl 0 rfl) ?_
  refine W.objInit hx hb hown (hts _ kq_13) (hts _ kq_oi) (hts _ kq_oc) rfl (by rw [hml]; exact hl.1) rfl d_XIn_init_1 (Nat.le_of_ble_eq_true rfl) (Nat.le_of_ble_eq_true rfl) ?_
  refine W.eq (g2 := F0 m 4 ls []) rfl ?_
  exact W.vret hx hb hr (fun t ht hW => ⟨⟨(fun i => ([] : List Nat).getD i 0, fun i => ([] : List Nat).getD i 0), rfl, trivial, by rw [ht]; exact hP.sub [0] rfl, va_K.moved hW.alike (hK.sub [] rfl), hD.sub [0] (by decide) rfl⟩, hS.F ht⟩) hS.2.2 d_XIn_init_4
def rm_XAr_init : Room := { frames := 1, cells := 0, slots := 0, locals := 20 }
set_option maxHeartbeats 4000000 in
set_option maxRecDepth 100000 in
theorem c_XAr_init (l : Launch) (D : va_G) (h0 h1 sz : Nat) : Met l y_XAr_init w_XAr_init rm_XAr_init (va_Pc [.ref h0, .ref h1] (fun U => U.heap.size = sz ∧ va_P D clX [(h0, .inr (5, [.null]))] U.heap ∧ va_K D clX [] U ∧ va_D (fun _ => True) [(h0, .inr (5, [.null]))] ∧ ∀ w ∈ nwC, va_Nw w U)) (va_Qv (fun _ : (Nat → Nat) × (Nat → Nat) => True) (fun u t => va_P D clX [(h0, .inr (5, [.ref h1]))] t.heap ∧ va_K D clX [] t ∧ va_D (va_A [(h0, .inr (5, [.null]))] sz) [(h0, .inr (5, [.ref h1]))]) (va_A [(h0, .inr (5, [.null]))] sz)) 0 0 (va_A [(h0, .inr (5, [.null]))] sz) := by
  refine Met.ofW (cc := b_XAr_init) (maxL := 2) (ret := none) (by decide) rfl ?_
  intro p e s m args below meth c s₁ B hml hv
  obtain ⟨rfl, hsz, hP, hK, hD0, hN⟩ := hv
  have hx := B.exec
  have hb := B.bytes
  have hr := B.returns
  have hts0 := atoms_spec (ws := w_XAr_init) B.pre
  have hts : ∀ w ∈ G0, w.before _ s = true := fun w h => hts0 w (List.mem_cons_of_mem _ h)
  have hown : s.vm.findClass RX_Ar = some m.cls := findClass_of_methodNamed B.named
  have hlocks := B.notSynchronized
  have hin : meth.name = "<init>" := (name_of_methodNamed B.named B.method).1
  subst hsz
  have hD := hD0.self (sz := s.heap.size)
  generalize hAe : va_A [(h0, .inr (5, [.null]))] s.heap.size = A at hD ⊢
  have hA : ∀ q : Nat, s.heap.size ≤ q → A q := fun q h => by rw [← hAe]; exact Or.inr h
  have hS : va_S A s.heap s.heap [] := va_S.rf
  obtain ⟨H, hH⟩ : ∃ z, z = s.heap := ⟨_, rfl⟩
  have hP : va_P D clX [(h0, .inr (5, [.null]))] s.heap := hP
  have hl := lv_entry ([.ref h0, .ref h1]) (n := 2) (Nat.le_of_ble_eq_true rfl)
  rw [lg_entry_eq]
  generalize (lg_sl ([.ref h0, .ref h1]) ++ List.replicate (2 - (lg_sl ([.ref h0, .ref h1])).length) Slot.unset).toArray = ls at hl ⊢
  have hl : lv_has ls 2 [(0, .ref h0), (1, .ref h1)] := hl
  refine lv_aload_n hx hb d_XAr_init_0 rfl (lv_at hl 0 rfl) ?_
  refine W.objInit hx hb hown (hts _ kq_14) (hts _ kq_oi) (hts _ kq_oc) rfl (by rw [hml]; exact hl.1) rfl d_XAr_init_1 (Nat.le_of_ble_eq_true rfl) (Nat.le_of_ble_eq_true rfl) ?_
  refine W.eq (g2 := F0 m 4 ls []) rfl ?_
  refine lv_aload_n hx hb d_XAr_init_4 rfl (lv_at hl 0 rfl) ?_
  refine lv_aload_n hx hb d_XAr_init_5 rfl (lv_at hl 1 rfl) ?_
  refine va_putF (v := .ref h1) (ty := .object "DecimalMachine$State") (C := RX_Ar) (T := TX_Ar) hx hb hts iX_Ar tX_Ar tX_Ar_ok nX_Ar hown hK hP hD hS 0 rfl rfl 0 (by decide) (hts _ kq_15) (fun _ h9 => h9) rfl hin rfl (by decide +kernel) rfl rfl (Nat.le_of_ble_eq_true rfl) d_XAr_init_6 (fun H locs hP hD hS => ?_)
  have hP : va_P D clX [(h0, .inr (5, [.ref h1]))] H := hP
  have hD : va_D A [(h0, .inr (5, [.ref h1]))] := hD
  exact W.vret hx hb hr (fun t ht hW => ⟨⟨(fun i => ([] : List Nat).getD i 0, fun i => ([] : List Nat).getD i 0), rfl, trivial, by rw [ht]; exact hP.sub [0] rfl, va_K.moved hW.alike (hK.sub [] rfl), hD.sub [0] (by decide) rfl⟩, hS.F ht⟩) hS.2.2 d_XAr_init_9
def rm_XTr_init : Room := { frames := 1, cells := 0, slots := 0, locals := 20 }
set_option maxHeartbeats 4000000 in
set_option maxRecDepth 100000 in
theorem c_XTr_init (l : Launch) (D : va_G) (h0 h1 sz : Nat) : Met l y_XTr_init w_XTr_init rm_XTr_init (va_Pc [.ref h0, .ref h1] (fun U => U.heap.size = sz ∧ va_P D clX [(h0, .inr (6, [.null]))] U.heap ∧ va_K D clX [] U ∧ va_D (fun _ => True) [(h0, .inr (6, [.null]))] ∧ ∀ w ∈ nwC, va_Nw w U)) (va_Qv (fun _ : (Nat → Nat) × (Nat → Nat) => True) (fun u t => va_P D clX [(h0, .inr (6, [.ref h1]))] t.heap ∧ va_K D clX [] t ∧ va_D (va_A [(h0, .inr (6, [.null]))] sz) [(h0, .inr (6, [.ref h1]))]) (va_A [(h0, .inr (6, [.null]))] sz)) 0 0 (va_A [(h0, .inr (6, [.null]))] sz) := by
  refine Met.ofW (cc := b_XTr_init) (maxL := 2) (ret := none) (by decide) rfl ?_
  intro p e s m args below meth c s₁ B hml hv
  obtain ⟨rfl, hsz, hP, hK, hD0, hN⟩ := hv
  have hx := B.exec
  have hb := B.bytes
  have hr := B.returns
  have hts0 := atoms_spec (ws := w_XTr_init) B.pre
  have hts : ∀ w ∈ G0, w.before _ s = true := fun w h => hts0 w (List.mem_cons_of_mem _ h)
  have hown : s.vm.findClass RX_Tr = some m.cls := findClass_of_methodNamed B.named
  have hlocks := B.notSynchronized
  have hin : meth.name = "<init>" := (name_of_methodNamed B.named B.method).1
  subst hsz
  have hD := hD0.self (sz := s.heap.size)
  generalize hAe : va_A [(h0, .inr (6, [.null]))] s.heap.size = A at hD ⊢
  have hA : ∀ q : Nat, s.heap.size ≤ q → A q := fun q h => by rw [← hAe]; exact Or.inr h
  have hS : va_S A s.heap s.heap [] := va_S.rf
  obtain ⟨H, hH⟩ : ∃ z, z = s.heap := ⟨_, rfl⟩
  have hP : va_P D clX [(h0, .inr (6, [.null]))] s.heap := hP
  have hl := lv_entry ([.ref h0, .ref h1]) (n := 2) (Nat.le_of_ble_eq_true rfl)
  rw [lg_entry_eq]
  generalize (lg_sl ([.ref h0, .ref h1]) ++ List.replicate (2 - (lg_sl ([.ref h0, .ref h1])).length) Slot.unset).toArray = ls at hl ⊢
  have hl : lv_has ls 2 [(0, .ref h0), (1, .ref h1)] := hl
  refine lv_aload_n hx hb d_XTr_init_0 rfl (lv_at hl 0 rfl) ?_
  refine W.objInit hx hb hown (hts _ kq_16) (hts _ kq_oi) (hts _ kq_oc) rfl (by rw [hml]; exact hl.1) rfl d_XTr_init_1 (Nat.le_of_ble_eq_true rfl) (Nat.le_of_ble_eq_true rfl) ?_
  refine W.eq (g2 := F0 m 4 ls []) rfl ?_
  refine lv_aload_n hx hb d_XTr_init_4 rfl (lv_at hl 0 rfl) ?_
  refine lv_aload_n hx hb d_XTr_init_5 rfl (lv_at hl 1 rfl) ?_
  refine va_putF (v := .ref h1) (ty := .object "DecimalMachine$State") (C := RX_Tr) (T := TX_Tr) hx hb hts iX_Tr tX_Tr tX_Tr_ok nX_Tr hown hK hP hD hS 0 rfl rfl 0 (by decide) (hts _ kq_17) (fun _ h9 => h9) rfl hin rfl (by decide +kernel) rfl rfl (Nat.le_of_ble_eq_true rfl) d_XTr_init_6 (fun H locs hP hD hS => ?_)
  have hP : va_P D clX [(h0, .inr (6, [.ref h1]))] H := hP
  have hD : va_D A [(h0, .inr (6, [.ref h1]))] := hD
  exact W.vret hx hb hr (fun t ht hW => ⟨⟨(fun i => ([] : List Nat).getD i 0, fun i => ([] : List Nat).getD i 0), rfl, trivial, by rw [ht]; exact hP.sub [0] rfl, va_K.moved hW.alike (hK.sub [] rfl), hD.sub [0] (by decide) rfl⟩, hS.F ht⟩) hS.2.2 d_XTr_init_9
def rm_XBr_init : Room := { frames := 1, cells := 0, slots := 0, locals := 20 }
set_option maxHeartbeats 4000000 in
set_option maxRecDepth 100000 in
theorem c_XBr_init (l : Launch) (D : va_G) (h0 h1 sz : Nat) : Met l y_XBr_init w_XBr_init rm_XBr_init (va_Pc [.ref h0, .ref h1] (fun U => U.heap.size = sz ∧ va_P D clX [(h0, .inr (7, [.null]))] U.heap ∧ va_K D clX [] U ∧ va_D (fun _ => True) [(h0, .inr (7, [.null]))] ∧ ∀ w ∈ nwC, va_Nw w U)) (va_Qv (fun _ : (Nat → Nat) × (Nat → Nat) => True) (fun u t => va_P D clX [(h0, .inr (7, [.ref h1]))] t.heap ∧ va_K D clX [] t ∧ va_D (va_A [(h0, .inr (7, [.null]))] sz) [(h0, .inr (7, [.ref h1]))]) (va_A [(h0, .inr (7, [.null]))] sz)) 0 0 (va_A [(h0, .inr (7, [.null]))] sz) := by
  refine Met.ofW (cc := b_XBr_init) (maxL := 2) (ret := none) (by decide) rfl ?_
  intro p e s m args below meth c s₁ B hml hv
  obtain ⟨rfl, hsz, hP, hK, hD0, hN⟩ := hv
  have hx := B.exec
  have hb := B.bytes
  have hr := B.returns
  have hts0 := atoms_spec (ws := w_XBr_init) B.pre
  have hts : ∀ w ∈ G0, w.before _ s = true := fun w h => hts0 w (List.mem_cons_of_mem _ h)
  have hown : s.vm.findClass RX_Br = some m.cls := findClass_of_methodNamed B.named
  have hlocks := B.notSynchronized
  have hin : meth.name = "<init>" := (name_of_methodNamed B.named B.method).1
  subst hsz
  have hD := hD0.self (sz := s.heap.size)
  generalize hAe : va_A [(h0, .inr (7, [.null]))] s.heap.size = A at hD ⊢
  have hA : ∀ q : Nat, s.heap.size ≤ q → A q := fun q h => by rw [← hAe]; exact Or.inr h
  have hS : va_S A s.heap s.heap [] := va_S.rf
  obtain ⟨H, hH⟩ : ∃ z, z = s.heap := ⟨_, rfl⟩
  have hP : va_P D clX [(h0, .inr (7, [.null]))] s.heap := hP
  have hl := lv_entry ([.ref h0, .ref h1]) (n := 2) (Nat.le_of_ble_eq_true rfl)
  rw [lg_entry_eq]
  generalize (lg_sl ([.ref h0, .ref h1]) ++ List.replicate (2 - (lg_sl ([.ref h0, .ref h1])).length) Slot.unset).toArray = ls at hl ⊢
  have hl : lv_has ls 2 [(0, .ref h0), (1, .ref h1)] := hl
  refine lv_aload_n hx hb d_XBr_init_0 rfl (lv_at hl 0 rfl) ?_
  refine W.objInit hx hb hown (hts _ kq_18) (hts _ kq_oi) (hts _ kq_oc) rfl (by rw [hml]; exact hl.1) rfl d_XBr_init_1 (Nat.le_of_ble_eq_true rfl) (Nat.le_of_ble_eq_true rfl) ?_
  refine W.eq (g2 := F0 m 4 ls []) rfl ?_
  refine lv_aload_n hx hb d_XBr_init_4 rfl (lv_at hl 0 rfl) ?_
  refine lv_aload_n hx hb d_XBr_init_5 rfl (lv_at hl 1 rfl) ?_
  refine va_putF (v := .ref h1) (ty := .object "DecimalMachine$State") (C := RX_Br) (T := TX_Br) hx hb hts iX_Br tX_Br tX_Br_ok nX_Br hown hK hP hD hS 0 rfl rfl 0 (by decide) (hts _ kq_19) (fun _ h9 => h9) rfl hin rfl (by decide +kernel) rfl rfl (Nat.le_of_ble_eq_true rfl) d_XBr_init_6 (fun H locs hP hD hS => ?_)
  have hP : va_P D clX [(h0, .inr (7, [.ref h1]))] H := hP
  have hD : va_D A [(h0, .inr (7, [.ref h1]))] := hD
  exact W.vret hx hb hr (fun t ht hW => ⟨⟨(fun i => ([] : List Nat).getD i 0, fun i => ([] : List Nat).getD i 0), rfl, trivial, by rw [ht]; exact hP.sub [0] rfl, va_K.moved hW.alike (hK.sub [] rfl), hD.sub [0] (by decide) rfl⟩, hS.F ht⟩) hS.2.2 d_XBr_init_9
def rm_XOc_init : Room := { frames := 1, cells := 0, slots := 0, locals := 20 }
set_option maxHeartbeats 4000000 in
set_option maxRecDepth 100000 in
theorem c_XOc_init (l : Launch) (D : va_G) (h0 h1 sz h2 h3 : Nat) : Met l y_XOc_init w_XOc_init rm_XOc_init (va_Pc [.ref h0, .ref h1] (fun U => U.heap.size = sz ∧ va_P D clX [(h0, .inr (8, [.null, .null])), (h1, .inr (1, [.ref h2, .ref h3, .int 0, .int 0, .int 0, .int (-1)]))] U.heap ∧ va_K D clX [] U ∧ va_D (fun _ => True) [(h0, .inr (8, [.null, .null])), (h1, .inr (1, [.ref h2, .ref h3, .int 0, .int 0, .int 0, .int (-1)]))] ∧ ∀ w ∈ nwC, va_Nw w U)) (va_Qv (fun _ : (Nat → Nat) × (Nat → Nat) => True) (fun u t => va_P D clX [(h0, .inr (8, [.ref h1, .ref h2])), (h1, .inr (1, [.ref h2, .ref h3, .int 0, .int 0, .int 0, .int (-1)]))] t.heap ∧ va_K D clX [] t ∧ va_D (va_A [(h0, .inr (8, [.null, .null])), (h1, .inr (1, [.ref h2, .ref h3, .int 0, .int 0, .int 0, .int (-1)]))] sz) [(h0, .inr (8, [.ref h1, .ref h2])), (h1, .inr (1, [.ref h2, .ref h3, .int 0, .int 0, .int 0, .int (-1)]))]) (va_A [(h0, .inr (8, [.null, .null])), (h1, .inr (1, [.ref h2, .ref h3, .int 0, .int 0, .int 0, .int (-1)]))] sz)) 0 0 (va_A [(h0, .inr (8, [.null, .null])), (h1, .inr (1, [.ref h2, .ref h3, .int 0, .int 0, .int 0, .int (-1)]))] sz) := by
  refine Met.ofW (cc := b_XOc_init) (maxL := 2) (ret := none) (by decide) rfl ?_
  intro p e s m args below meth c s₁ B hml hv
  obtain ⟨rfl, hsz, hP, hK, hD0, hN⟩ := hv
  have hx := B.exec
  have hb := B.bytes
  have hr := B.returns
  have hts0 := atoms_spec (ws := w_XOc_init) B.pre
  have hts : ∀ w ∈ G0, w.before _ s = true := fun w h => hts0 w (List.mem_cons_of_mem _ h)
  have hown : s.vm.findClass RX_Oc = some m.cls := findClass_of_methodNamed B.named
  have hlocks := B.notSynchronized
  have hin : meth.name = "<init>" := (name_of_methodNamed B.named B.method).1
  subst hsz
  have hD := hD0.self (sz := s.heap.size)
  generalize hAe : va_A [(h0, .inr (8, [.null, .null])), (h1, .inr (1, [.ref h2, .ref h3, .int 0, .int 0, .int 0, .int (-1)]))] s.heap.size = A at hD ⊢
  have hA : ∀ q : Nat, s.heap.size ≤ q → A q := fun q h => by rw [← hAe]; exact Or.inr h
  have hS : va_S A s.heap s.heap [] := va_S.rf
  obtain ⟨H, hH⟩ : ∃ z, z = s.heap := ⟨_, rfl⟩
  have hP : va_P D clX [(h0, .inr (8, [.null, .null])), (h1, .inr (1, [.ref h2, .ref h3, .int 0, .int 0, .int 0, .int (-1)]))] s.heap := hP
  have hl := lv_entry ([.ref h0, .ref h1]) (n := 2) (Nat.le_of_ble_eq_true rfl)
  rw [lg_entry_eq]
  generalize (lg_sl ([.ref h0, .ref h1]) ++ List.replicate (2 - (lg_sl ([.ref h0, .ref h1])).length) Slot.unset).toArray = ls at hl ⊢
  have hl : lv_has ls 2 [(0, .ref h0), (1, .ref h1)] := hl
  refine lv_aload_n hx hb d_XOc_init_0 rfl (lv_at hl 0 rfl) ?_
  refine W.objInit hx hb hown (hts _ kq_20) (hts _ kq_oi) (hts _ kq_oc) rfl (by rw [hml]; exact hl.1) rfl d_XOc_init_1 (Nat.le_of_ble_eq_true rfl) (Nat.le_of_ble_eq_true rfl) ?_
  refine W.eq (g2 := F0 m 4 ls []) rfl ?_
  refine lv_aload_n hx hb d_XOc_init_4 rfl (lv_at hl 0 rfl) ?_
  refine lv_aload_n hx hb d_XOc_init_5 rfl (lv_at hl 1 rfl) ?_
  refine va_putF (v := .ref h1) (ty := .object "DecimalMachine$State") (C := RX_Oc) (T := TX_Oc) hx hb hts iX_Oc tX_Oc tX_Oc_ok nX_Oc hown hK hP hD hS 0 rfl rfl 0 (by decide) (hts _ kq_21) (fun _ h9 => h9) rfl hin rfl (by decide +kernel) rfl rfl (Nat.le_of_ble_eq_true rfl) d_XOc_init_6 (fun H locs hP hD hS => ?_)
  have hP : va_P D clX [(h0, .inr (8, [.ref h1, .null])), (h1, .inr (1, [.ref h2, .ref h3, .int 0, .int 0, .int 0, .int (-1)]))] H := hP
  have hD : va_D A [(h0, .inr (8, [.ref h1, .null])), (h1, .inr (1, [.ref h2, .ref h3, .int 0, .int 0, .int 0, .int (-1)]))] := hD
  refine lv_aload_n hx hb d_XOc_init_9 rfl (lv_at hl 0 rfl) ?_
  refine lv_aload_n hx hb d_XOc_init_10 rfl (lv_at hl 1 rfl) ?_
  refine va_getN (v := .ref h2) (C := RX_St) (T := TX_St) hx hb hts iX_St hown hK hP 1 rfl rfl 0 (by decide) (va_Nw.use rfl (hN _ nc_1)) (fun _ h9 => h9) rfl d_XOc_init_11 ?_
  refine va_putF (v := .ref h2) (ty := .object "DecimalMachine$Memory") (C := RX_Oc) (T := TX_Oc) hx hb hts iX_Oc tX_Oc tX_Oc_ok nX_Oc hown hK hP hD hS 0 rfl rfl 1 (by decide) (hts _ kq_22) (fun _ h9 => h9) rfl hin rfl (by decide +kernel) rfl rfl (Nat.le_of_ble_eq_true rfl) d_XOc_init_14 (fun H locs hP hD hS => ?_)
  have hP : va_P D clX [(h0, .inr (8, [.ref h1, .ref h2])), (h1, .inr (1, [.ref h2, .ref h3, .int 0, .int 0, .int 0, .int (-1)]))] H := hP
  have hD : va_D A [(h0, .inr (8, [.ref h1, .ref h2])), (h1, .inr (1, [.ref h2, .ref h3, .int 0, .int 0, .int 0, .int (-1)]))] := hD
  exact W.vret hx hb hr (fun t ht hW => ⟨⟨(fun i => ([] : List Nat).getD i 0, fun i => ([] : List Nat).getD i 0), rfl, trivial, by rw [ht]; exact hP.sub [0, 1] rfl, va_K.moved hW.alike (hK.sub [] rfl), hD.sub [0, 1] (by decide) rfl⟩, hS.F ht⟩) hS.2.2 d_XOc_init_17
def rm_XDe_init : Room := { frames := 1, cells := 1, slots := 16, locals := 20 }
set_option maxHeartbeats 4000000 in
set_option maxRecDepth 100000 in
theorem c_XDe_init (l : Launch) (D : va_G) (h0 h1 sz h2 h3 : Nat) : Met l y_XDe_init w_XDe_init rm_XDe_init (va_Pc [.ref h0, .ref h1] (fun U => U.heap.size = sz ∧ va_P D clX [(h0, .inr (9, [.null, .null, .null])), (h1, .inr (1, [.ref h2, .ref h3, .int 0, .int 0, .int 0, .int (-1)]))] U.heap ∧ va_K D clX [] U ∧ va_D (fun _ => True) [(h0, .inr (9, [.null, .null, .null])), (h1, .inr (1, [.ref h2, .ref h3, .int 0, .int 0, .int 0, .int (-1)]))] ∧ ∀ w ∈ nwC, va_Nw w U)) (va_Qv (fun _ : (Nat → Nat) × (Nat → Nat) => True) (fun u t => va_P D clX [(h0, .inr (9, [.ref h1, .ref h2, .ref (u.1 0)])), (h1, .inr (1, [.ref h2, .ref h3, .int 0, .int 0, .int 0, .int (-1)])), ((u.1 0), .inl ((u.2 0), 16, .inl (fun _ => 0)))] t.heap ∧ va_K D clX [(u.2 0, .int)] t ∧ va_D (va_A [(h0, .inr (9, [.null, .null, .null])), (h1, .inr (1, [.ref h2, .ref h3, .int 0, .int 0, .int 0, .int (-1)]))] sz) [(h0, .inr (9, [.ref h1, .ref h2, .ref (u.1 0)])), (h1, .inr (1, [.ref h2, .ref h3, .int 0, .int 0, .int 0, .int (-1)])), ((u.1 0), .inl ((u.2 0), 16, .inl (fun _ => 0)))]) (va_A [(h0, .inr (9, [.null, .null, .null])), (h1, .inr (1, [.ref h2, .ref h3, .int 0, .int 0, .int 0, .int (-1)]))] sz)) 1 16 (va_A [(h0, .inr (9, [.null, .null, .null])), (h1, .inr (1, [.ref h2, .ref h3, .int 0, .int 0, .int 0, .int (-1)]))] sz) := by
  refine Met.ofW (cc := b_XDe_init) (maxL := 2) (ret := none) (by decide) rfl ?_
  intro p e s m args below meth c s₁ B hml hv
  obtain ⟨rfl, hsz, hP, hK, hD0, hN⟩ := hv
  have hx := B.exec
  have hb := B.bytes
  have hr := B.returns
  have hts0 := atoms_spec (ws := w_XDe_init) B.pre
  have hts : ∀ w ∈ G0, w.before _ s = true := fun w h => hts0 w (List.mem_cons_of_mem _ h)
  have hown : s.vm.findClass RX_De = some m.cls := findClass_of_methodNamed B.named
  have hlocks := B.notSynchronized
  have hin : meth.name = "<init>" := (name_of_methodNamed B.named B.method).1
  subst hsz
  have hD := hD0.self (sz := s.heap.size)
  generalize hAe : va_A [(h0, .inr (9, [.null, .null, .null])), (h1, .inr (1, [.ref h2, .ref h3, .int 0, .int 0, .int 0, .int (-1)]))] s.heap.size = A at hD ⊢
  have hA : ∀ q : Nat, s.heap.size ≤ q → A q := fun q h => by rw [← hAe]; exact Or.inr h
  have hS : va_S A s.heap s.heap [] := va_S.rf
  obtain ⟨H, hH⟩ : ∃ z, z = s.heap := ⟨_, rfl⟩
  have hP : va_P D clX [(h0, .inr (9, [.null, .null, .null])), (h1, .inr (1, [.ref h2, .ref h3, .int 0, .int 0, .int 0, .int (-1)]))] s.heap := hP
  have hl := lv_entry ([.ref h0, .ref h1]) (n := 2) (Nat.le_of_ble_eq_true rfl)
  rw [lg_entry_eq]
  generalize (lg_sl ([.ref h0, .ref h1]) ++ List.replicate (2 - (lg_sl ([.ref h0, .ref h1])).length) Slot.unset).toArray = ls at hl ⊢
  have hl : lv_has ls 2 [(0, .ref h0), (1, .ref h1)] := hl
  refine lv_aload_n hx hb d_XDe_init_0 rfl (lv_at hl 0 rfl) ?_
  refine W.objInit hx hb hown (hts _ kq_23) (hts _ kq_oi) (hts _ kq_oc) rfl (by rw [hml]; exact hl.1) rfl d_XDe_init_1 (Nat.le_of_ble_eq_true rfl) (Nat.le_of_ble_eq_true rfl) ?_
  refine W.eq (g2 := F0 m 4 ls []) rfl ?_
  refine lv_aload_n hx hb d_XDe_init_4 rfl (lv_at hl 0 rfl) ?_
  refine lv_bipush (v := 16) hx hb d_XDe_init_5 (by decide) ?_
  refine va_newa (atype := .int) (a0 := (16, .inl (fun _ => 0))) (ty := .int) (N' := 16) hx hb (hts _ kq_arr) rfl hK hP hD hS hA (fun _ => rfl) (by decide) (by decide) (by decide) (Nat.le_of_ble_eq_true rfl) (Nat.le_of_ble_eq_true rfl) d_XDe_init_7 (fun q7 k7 H hK hP hD hS => ?_)
  have hP : va_P D clX [(h0, .inr (9, [.null, .null, .null])), (h1, .inr (1, [.ref h2, .ref h3, .int 0, .int 0, .int 0, .int (-1)])), (q7, .inl (k7, 16, .inl (fun _ => 0)))] H := hP
  have hD : va_D A [(h0, .inr (9, [.null, .null, .null])), (h1, .inr (1, [.ref h2, .ref h3, .int 0, .int 0, .int 0, .int (-1)])), (q7, .inl (k7, 16, .inl (fun _ => 0)))] := hD
  have hK : va_K D clX [(k7, .int)] s := hK
  refine W.widen (k := 1) (n := 16) (by omega) (by omega) ?_
  refine va_putF (v := .ref q7) (ty := .array .int) (C := RX_De) (T := TX_De) hx hb hts iX_De tX_De tX_De_ok nX_De hown hK hP hD hS 0 rfl rfl 2 (by decide) (hts _ kq_24) (fun _ h9 => h9) rfl hin rfl (by decide +kernel) rfl rfl (Nat.le_of_ble_eq_true rfl) d_XDe_init_9 (fun H locs hP hD hS => ?_)
  have hP : va_P D clX [(h0, .inr (9, [.null, .null, .ref q7])), (h1, .inr (1, [.ref h2, .ref h3, .int 0, .int 0, .int 0, .int (-1)])), (q7, .inl (k7, 16, .inl (fun _ => 0)))] H := hP
  have hD : va_D A [(h0, .inr (9, [.null, .null, .ref q7])), (h1, .inr (1, [.ref h2, .ref h3, .int 0, .int 0, .int 0, .int (-1)])), (q7, .inl (k7, 16, .inl (fun _ => 0)))] := hD
  refine lv_aload_n hx hb d_XDe_init_12 rfl (lv_at hl 0 rfl) ?_
  refine lv_aload_n hx hb d_XDe_init_13 rfl (lv_at hl 1 rfl) ?_
  refine va_putF (v := .ref h1) (ty := .object "DecimalMachine$State") (C := RX_De) (T := TX_De) hx hb hts iX_De tX_De tX_De_ok nX_De hown hK hP hD hS 0 rfl rfl 0 (by decide) (hts _ kq_25) (fun _ h9 => h9) rfl hin rfl (by decide +kernel) rfl rfl (Nat.le_of_ble_eq_true rfl) d_XDe_init_14 (fun H locs hP hD hS => ?_)
  have hP : va_P D clX [(h0, .inr (9, [.ref h1, .null, .ref q7])), (h1, .inr (1, [.ref h2, .ref h3, .int 0, .int 0, .int 0, .int (-1)])), (q7, .inl (k7, 16, .inl (fun _ => 0)))] H := hP
  have hD : va_D A [(h0, .inr (9, [.ref h1, .null, .ref q7])), (h1, .inr (1, [.ref h2, .ref h3, .int 0, .int 0, .int 0, .int (-1)])), (q7, .inl (k7, 16, .inl (fun _ => 0)))] := hD
  refine lv_aload_n hx hb d_XDe_init_17 rfl (lv_at hl 0 rfl) ?_
  refine lv_aload_n hx hb d_XDe_init_18 rfl (lv_at hl 1 rfl) ?_
  refine va_getN (v := .ref h2) (C := RX_St) (T := TX_St) hx hb hts iX_St hown hK hP 1 rfl rfl 0 (by decide) (va_Nw.use rfl (hN _ nc_2)) (fun _ h9 => h9) rfl d_XDe_init_19 ?_
  refine va_putF (v := .ref h2) (ty := .object "DecimalMachine$Memory") (C := RX_De) (T := TX_De) hx hb hts iX_De tX_De tX_De_ok nX_De hown hK hP hD hS 0 rfl rfl 1 (by decide) (hts _ kq_26) (fun _ h9 => h9) rfl hin rfl (by decide +kernel) rfl rfl (Nat.le_of_ble_eq_true rfl) d_XDe_init_22 (fun H locs hP hD hS => ?_)
  have hP : va_P D clX [(h0, .inr (9, [.ref h1, .ref h2, .ref q7])), (h1, .inr (1, [.ref h2, .ref h3, .int 0, .int 0, .int 0, .int (-1)])), (q7, .inl (k7, 16, .inl (fun _ => 0)))] H := hP
  have hD : va_D A [(h0, .inr (9, [.ref h1, .ref h2, .ref q7])), (h1, .inr (1, [.ref h2, .ref h3, .int 0, .int 0, .int 0, .int (-1)])), (q7, .inl (k7, 16, .inl (fun _ => 0)))] := hD
  exact W.vret hx hb hr (fun t ht hW => ⟨⟨(fun i => ([q7] : List Nat).getD i 0, fun i => ([k7] : List Nat).getD i 0), rfl, trivial, by rw [ht]; exact hP.sub [0, 1, 2] rfl, va_K.moved hW.alike (hK.sub [0] rfl), hD.sub [0, 1, 2] (by decide) rfl⟩, hS.F ht⟩) hS.2.2 d_XDe_init_25
def rm_XPr_init : Room := { frames := 2, cells := 7, slots := 31, locals := 41 }
set_option maxHeartbeats 4000000 in
set_option maxRecDepth 100000 in
theorem c_XPr_init (l : Launch) (D : va_G) (h0 h1 sz h2 h3 : Nat) : Met l y_XPr_init w_XPr_init rm_XPr_init (va_Pc [.ref h0, .ref h1] (fun U => U.heap.size = sz ∧ va_P D clX [(h0, .inr (3, [.null, .null, .null, .null, .null, .null, .null, .int 0, .int 0, .int 0])), (h1, .inr (1, [.ref h2, .ref h3, .int 0, .int 0, .int 0, .int (-1)]))] U.heap ∧ va_K D clX [] U ∧ va_D (fun _ => True) [(h0, .inr (3, [.null, .null, .null, .null, .null, .null, .null, .int 0, .int 0, .int 0])), (h1, .inr (1, [.ref h2, .ref h3, .int 0, .int 0, .int 0, .int (-1)]))] ∧ ∀ w ∈ nwC, va_Nw w U)) (va_Qv (fun _ : (Nat → Nat) × (Nat → Nat) => True) (fun u t => va_P D clX [(h0, .inr (3, [.ref h1, .ref (u.1 0), .ref (u.1 1), .ref (u.1 2), .ref (u.1 3), .ref (u.1 4), .ref (u.1 5), .int 0, .int 0, .int 0])), (h1, .inr (1, [.ref h2, .ref h3, .int 0, .int 0, .int 0, .int (-1)])), ((u.1 0), .inr (4, [.int 0, .int 0, .int 0, .int 0, .int 0, .int 0, .int 0])), ((u.1 1), .inr (5, [.ref h1])), ((u.1 2), .inr (6, [.ref h1])), ((u.1 3), .inr (7, [.ref h1])), ((u.1 4), .inr (8, [.ref h1, .ref h2])), ((u.1 5), .inr (9, [.ref h1, .ref h2, .ref (u.1 6)])), ((u.1 6), .inl ((u.2 0), 16, .inl (fun _ => 0)))] t.heap ∧ va_K D clX [(u.2 0, .int)] t ∧ va_D (va_A [(h0, .inr (3, [.null, .null, .null, .null, .null, .null, .null, .int 0, .int 0, .int 0])), (h1, .inr (1, [.ref h2, .ref h3, .int 0, .int 0, .int 0, .int (-1)]))] sz) [(h0, .inr (3, [.ref h1, .ref (u.1 0), .ref (u.1 1), .ref (u.1 2), .ref (u.1 3), .ref (u.1 4), .ref (u.1 5), .int 0, .int 0, .int 0])), (h1, .inr (1, [.ref h2, .ref h3, .int 0, .int 0, .int 0, .int (-1)])), ((u.1 0), .inr (4, [.int 0, .int 0, .int 0, .int 0, .int 0, .int 0, .int 0])), ((u.1 1), .inr (5, [.ref h1])), ((u.1 2), .inr (6, [.ref h1])), ((u.1 3), .inr (7, [.ref h1])), ((u.1 4), .inr (8, [.ref h1, .ref h2])), ((u.1 5), .inr (9, [.ref h1, .ref h2, .ref (u.1 6)])), ((u.1 6), .inl ((u.2 0), 16, .inl (fun _ => 0)))]) (va_A [(h0, .inr (3, [.null, .null, .null, .null, .null, .null, .null, .int 0, .int 0, .int 0])), (h1, .inr (1, [.ref h2, .ref h3, .int 0, .int 0, .int 0, .int (-1)]))] sz)) 7 31 (va_A [(h0, .inr (3, [.null, .null, .null, .null, .null, .null, .null, .int 0, .int 0, .int 0])), (h1, .inr (1, [.ref h2, .ref h3, .int 0, .int 0, .int 0, .int (-1)]))] sz) := by
  refine Met.ofW (cc := b_XPr_init) (maxL := 2) (ret := none) (by decide) rfl ?_
  intro p e s m args below meth c s₁ B hml hv
  obtain ⟨rfl, hsz, hP, hK, hD0, hN⟩ := hv
  have hx := B.exec
  have hb := B.bytes
  have hr := B.returns
  have hts0 := atoms_spec (ws := w_XPr_init) B.pre
  have hts : ∀ w ∈ G0, w.before _ s = true := fun w h => hts0 w (List.mem_cons_of_mem _ h)
  have hown : s.vm.findClass RX_Pr = some m.cls := findClass_of_methodNamed B.named
  have hlocks := B.notSynchronized
  have hin : meth.name = "<init>" := (name_of_methodNamed B.named B.method).1
  subst hsz
  have hD := hD0.self (sz := s.heap.size)
  generalize hAe : va_A [(h0, .inr (3, [.null, .null, .null, .null, .null, .null, .null, .int 0, .int 0, .int 0])), (h1, .inr (1, [.ref h2, .ref h3, .int 0, .int 0, .int 0, .int (-1)]))] s.heap.size = A at hD ⊢
  have hA : ∀ q : Nat, s.heap.size ≤ q → A q := fun q h => by rw [← hAe]; exact Or.inr h
  have hS : va_S A s.heap s.heap [] := va_S.rf
  obtain ⟨H, hH⟩ : ∃ z, z = s.heap := ⟨_, rfl⟩
  have hP : va_P D clX [(h0, .inr (3, [.null, .null, .null, .null, .null, .null, .null, .int 0, .int 0, .int 0])), (h1, .inr (1, [.ref h2, .ref h3, .int 0, .int 0, .int 0, .int (-1)]))] s.heap := hP
  have hl := lv_entry ([.ref h0, .ref h1]) (n := 2) (Nat.le_of_ble_eq_true rfl)
  rw [lg_entry_eq]
  generalize (lg_sl ([.ref h0, .ref h1]) ++ List.replicate (2 - (lg_sl ([.ref h0, .ref h1])).length) Slot.unset).toArray = ls at hl ⊢
  have hl : lv_has ls 2 [(0, .ref h0), (1, .ref h1)] := hl
  refine lv_aload_n hx hb d_XPr_init_0 rfl (lv_at hl 0 rfl) ?_
  refine W.objInit hx hb hown (hts _ kq_27) (hts _ kq_oi) (hts _ kq_oc) rfl (by rw [hml]; exact hl.1) rfl d_XPr_init_1 (Nat.le_of_ble_eq_true rfl) (Nat.le_of_ble_eq_true rfl) ?_
  refine W.eq (g2 := F0 m 4 ls []) rfl ?_
  refine lv_aload_n hx hb d_XPr_init_4 rfl (lv_at hl 0 rfl) ?_
  refine va_new (ci := 4) (fs := [.int 0, .int 0, .int 0, .int 0, .int 0, .int 0, .int 0]) (C := RX_In) (T := TX_In) (N := 7) hx hb hts iX_In tX_In tX_In_ok hown (hts _ kq_28) (hts _ kq_29) (hts _ kq_30) hK hP hD hS hA rfl (fun j hj => by rcases (show j = 0 ∨ j = 1 ∨ j = 2 ∨ j = 3 ∨ j = 4 ∨ j = 5 ∨ j = 6 by omega) with rfl | rfl | rfl | rfl | rfl | rfl | rfl <;> rfl) (Nat.le_of_ble_eq_true rfl) (Nat.le_of_ble_eq_true rfl) d_XPr_init_5 (fun q5 H hP hD hS => ?_)
  have hP : va_P D clX [(h0, .inr (3, [.null, .null, .null, .null, .null, .null, .null, .int 0, .int 0, .int 0])), (h1, .inr (1, [.ref h2, .ref h3, .int 0, .int 0, .int 0, .int (-1)])), (q5, .inr (4, [.int 0, .int 0, .int 0, .int 0, .int 0, .int 0, .int 0]))] H := hP
  have hD : va_D A [(h0, .inr (3, [.null, .null, .null, .null, .null, .null, .null, .int 0, .int 0, .int 0])), (h1, .inr (1, [.ref h2, .ref h3, .int 0, .int 0, .int 0, .int (-1)])), (q5, .inr (4, [.int 0, .int 0, .int 0, .int 0, .int 0, .int 0, .int 0]))] := hD
  refine W.widen (k := 1) (n := 7) (by omega) (by omega) ?_
  refine lv_dup hx hb d_XPr_init_8 rfl ?_
  have hPc := hP.sub (ws' := [(q5, .inr (4, [.int 0, .int 0, .int 0, .int 0, .int 0, .int 0, .int 0]))]) [2] rfl
  have hDc := hD.sub (ws' := [(q5, .inr (4, [.int 0, .int 0, .int 0, .int 0, .int 0, .int 0, .int 0]))]) [2] (by decide) rfl
  have hKc := hK.sub (tys' := []) [] rfl
  have hFc := va_free (wc := [(q5, .inr (4, [.int 0, .int 0, .int 0, .int 0, .int 0, .int 0, .int 0]))]) hD hS hA [2] rfl
  refine va_callv (va_runIN (As := []) (rest := [.ref q5, .ref h0]) ⟨hx, hb, hml, hown, hts⟩ (c_XIn_init l D (q5) H.size) (⟨va_cnB 0 hts kg_XIn_init rfl rfl rfl (hN _ nc_3) (hts _ kq_30) (by decide +kernel) ⟨Nat.le_of_ble_eq_true rfl, Nat.le_of_ble_eq_true rfl⟩, rfl, hts _ kq_31⟩) ⟨nC_blind, fun U hU hW => ⟨rfl, by rw [hU], by rw [hU]; exact hPc, va_K.moved hW.alike hKc, hDc.weaken (fun _ _ _ _ => trivial), fun w hw => zNest_warm (nwC_ok w hw) hW (hN w hw)⟩⟩ rfl rfl hl.1 rfl (lv_room (Nat.le_of_ble_eq_true rfl)) d_XPr_init_9 ⟨Nat.le_of_ble_eq_true rfl, Nat.le_of_ble_eq_true rfl⟩) hS (fun q _ h => hFc q h) hFc (fun u9 t H1 locs ht hvm hw hB hz1 hk1 hS => ?_)
  obtain ⟨hP1, hK1, hD1⟩ := hB
  rw [ht] at hP1
  have hK1 := va_K.moved hvm.symm hK1
  obtain ⟨hP, hD⟩ := va_join (wr := [(h0, .inr (3, [.null, .null, .null, .null, .null, .null, .null, .int 0, .int 0, .int 0])), (h1, .inr (1, [.ref h2, .ref h3, .int 0, .int 0, .int 0, .int (-1)]))]) (w1 := [(q5, .inr (4, [.int 0, .int 0, .int 0, .int 0, .int 0, .int 0, .int 0]))]) hP hD [2] [0, 1] rfl rfl (by decide) (by decide) hk1 hFc hP1 hD1
  have hK := (hK.sub (tys' := []) [] rfl).app hK1
  generalize H1 = H at hP hS ⊢
  have hP : va_P D clX [(h0, .inr (3, [.null, .null, .null, .null, .null, .null, .null, .int 0, .int 0, .int 0])), (h1, .inr (1, [.ref h2, .ref h3, .int 0, .int 0, .int 0, .int (-1)])), (q5, .inr (4, [.int 0, .int 0, .int 0, .int 0, .int 0, .int 0, .int 0]))] H := hP
  have hD : va_D A [(h0, .inr (3, [.null, .null, .null, .null, .null, .null, .null, .int 0, .int 0, .int 0])), (h1, .inr (1, [.ref h2, .ref h3, .int 0, .int 0, .int 0, .int (-1)])), (q5, .inr (4, [.int 0, .int 0, .int 0, .int 0, .int 0, .int 0, .int 0]))] := hD
  have hK : va_K D clX [] s := hK
  refine W.widen (k := 1) (n := 7) (by omega) (by omega) ?_
  refine va_putF (v := .ref q5) (ty := .object "DecimalMachine$Instruction") (C := RX_Pr) (T := TX_Pr) hx hb hts iX_Pr tX_Pr tX_Pr_ok nX_Pr hown hK hP hD hS 0 rfl rfl 1 (by decide) (hts _ kq_32) (fun _ h9 => h9) rfl hin rfl (by decide +kernel) rfl rfl (Nat.le_of_ble_eq_true rfl) d_XPr_init_12 (fun H locs hP hD hS => ?_)
  have hP : va_P D clX [(h0, .inr (3, [.null, .ref q5, .null, .null, .null, .null, .null, .int 0, .int 0, .int 0])), (h1, .inr (1, [.ref h2, .ref h3, .int 0, .int 0, .int 0, .int (-1)])), (q5, .inr (4, [.int 0, .int 0, .int 0, .int 0, .int 0, .int 0, .int 0]))] H := hP
  have hD : va_D A [(h0, .inr (3, [.null, .ref q5, .null, .null, .null, .null, .null, .int 0, .int 0, .int 0])), (h1, .inr (1, [.ref h2, .ref h3, .int 0, .int 0, .int 0, .int (-1)])), (q5, .inr (4, [.int 0, .int 0, .int 0, .int 0, .int 0, .int 0, .int 0]))] := hD
  refine lv_aload_n hx hb d_XPr_init_15 rfl (lv_at hl 0 rfl) ?_
  refine lv_iconst (v := 0) hx hb d_XPr_init_16 (by decide) ?_
  refine va_put (v := .int 0) (ty := .int) (C := RX_Pr) (T := TX_Pr) hx hb hts iX_Pr tX_Pr tX_Pr_ok nX_Pr hown hK hP hD hS 0 rfl rfl 7 (by decide) (hts _ kq_33) (fun _ h9 => h9) rfl (by decide +kernel) rfl rfl (Nat.le_of_ble_eq_true rfl) d_XPr_init_17 (fun H locs hP hD hS => ?_)
  have hP : va_P D clX [(h0, .inr (3, [.null, .ref q5, .null, .null, .null, .null, .null, .int 0, .int 0, .int 0])), (h1, .inr (1, [.ref h2, .ref h3, .int 0, .int 0, .int 0, .int (-1)])), (q5, .inr (4, [.int 0, .int 0, .int 0, .int 0, .int 0, .int 0, .int 0]))] H := hP
  have hD : va_D A [(h0, .inr (3, [.null, .ref q5, .null, .null, .null, .null, .null, .int 0, .int 0, .int 0])), (h1, .inr (1, [.ref h2, .ref h3, .int 0, .int 0, .int 0, .int (-1)])), (q5, .inr (4, [.int 0, .int 0, .int 0, .int 0, .int 0, .int 0, .int 0]))] := hD
  refine lv_aload_n hx hb d_XPr_init_20 rfl (lv_at hl 0 rfl) ?_
  refine lv_iconst (v := 0) hx hb d_XPr_init_21 (by decide) ?_
  refine va_put (v := .int 0) (ty := .int) (C := RX_Pr) (T := TX_Pr) hx hb hts iX_Pr tX_Pr tX_Pr_ok nX_Pr hown hK hP hD hS 0 rfl rfl 8 (by decide) (hts _ kq_34) (fun _ h9 => h9) rfl (by decide +kernel) rfl rfl (Nat.le_of_ble_eq_true rfl) d_XPr_init_22 (fun H locs hP hD hS => ?_)
  have hP : va_P D clX [(h0, .inr (3, [.null, .ref q5, .null, .null, .null, .null, .null, .int 0, .int 0, .int 0])), (h1, .inr (1, [.ref h2, .ref h3, .int 0, .int 0, .int 0, .int (-1)])), (q5, .inr (4, [.int 0, .int 0, .int 0, .int 0, .int 0, .int 0, .int 0]))] H := hP
  have hD : va_D A [(h0, .inr (3, [.null, .ref q5, .null, .null, .null, .null, .null, .int 0, .int 0, .int 0])), (h1, .inr (1, [.ref h2, .ref h3, .int 0, .int 0, .int 0, .int (-1)])), (q5, .inr (4, [.int 0, .int 0, .int 0, .int 0, .int 0, .int 0, .int 0]))] := hD
  refine lv_aload_n hx hb d_XPr_init_25 rfl (lv_at hl 0 rfl) ?_
  refine lv_iconst (v := 0) hx hb d_XPr_init_26 (by decide) ?_
  refine va_put (v := .int 0) (ty := .int) (C := RX_Pr) (T := TX_Pr) hx hb hts iX_Pr tX_Pr tX_Pr_ok nX_Pr hown hK hP hD hS 0 rfl rfl 9 (by decide) (hts _ kq_35) (fun _ h9 => h9) rfl (by decide +kernel) rfl rfl (Nat.le_of_ble_eq_true rfl) d_XPr_init_27 (fun H locs hP hD hS => ?_)
  have hP : va_P D clX [(h0, .inr (3, [.null, .ref q5, .null, .null, .null, .null, .null, .int 0, .int 0, .int 0])), (h1, .inr (1, [.ref h2, .ref h3, .int 0, .int 0, .int 0, .int (-1)])), (q5, .inr (4, [.int 0, .int 0, .int 0, .int 0, .int 0, .int 0, .int 0]))] H := hP
  have hD : va_D A [(h0, .inr (3, [.null, .ref q5, .null, .null, .null, .null, .null, .int 0, .int 0, .int 0])), (h1, .inr (1, [.ref h2, .ref h3, .int 0, .int 0, .int 0, .int (-1)])), (q5, .inr (4, [.int 0, .int 0, .int 0, .int 0, .int 0, .int 0, .int 0]))] := hD
  refine lv_aload_n hx hb d_XPr_init_30 rfl (lv_at hl 0 rfl) ?_
  refine lv_aload_n hx hb d_XPr_init_31 rfl (lv_at hl 1 rfl) ?_
  refine va_putF (v := .ref h1) (ty := .object "DecimalMachine$State") (C := RX_Pr) (T := TX_Pr) hx hb hts iX_Pr tX_Pr tX_Pr_ok nX_Pr hown hK hP hD hS 0 rfl rfl 0 (by decide) (hts _ kq_36) (fun _ h9 => h9) rfl hin rfl (by decide +kernel) rfl rfl (Nat.le_of_ble_eq_true rfl) d_XPr_init_32 (fun H locs hP hD hS => ?_)
  have hP : va_P D clX [(h0, .inr (3, [.ref h1, .ref q5, .null, .null, .null, .null, .null, .int 0, .int 0, .int 0])), (h1, .inr (1, [.ref h2, .ref h3, .int 0, .int 0, .int 0, .int (-1)])), (q5, .inr (4, [.int 0, .int 0, .int 0, .int 0, .int 0, .int 0, .int 0]))] H := hP
  have hD : va_D A [(h0, .inr (3, [.ref h1, .ref q5, .null, .null, .null, .null, .null, .int 0, .int 0, .int 0])), (h1, .inr (1, [.ref h2, .ref h3, .int 0, .int 0, .int 0, .int (-1)])), (q5, .inr (4, [.int 0, .int 0, .int 0, .int 0, .int 0, .int 0, .int 0]))] := hD
  refine lv_aload_n hx hb d_XPr_init_35 rfl (lv_at hl 0 rfl) ?_
  refine va_new (ci := 5) (fs := [.null]) (C := RX_Ar) (T := TX_Ar) (N := 1) hx hb hts iX_Ar tX_Ar tX_Ar_ok hown (hts _ kq_37) (hts _ kq_38) (hts _ kq_39) hK hP hD hS hA rfl (fun j hj => by rcases (show j = 0 by omega) with rfl <;> rfl) (Nat.le_of_ble_eq_true rfl) (Nat.le_of_ble_eq_true rfl) d_XPr_init_36 (fun q36 H hP hD hS => ?_)
  have hP : va_P D clX [(h0, .inr (3, [.ref h1, .ref q5, .null, .null, .null, .null, .null, .int 0, .int 0, .int 0])), (h1, .inr (1, [.ref h2, .ref h3, .int 0, .int 0, .int 0, .int (-1)])), (q5, .inr (4, [.int 0, .int 0, .int 0, .int 0, .int 0, .int 0, .int 0])), (q36, .inr (5, [.null]))] H := hP
  have hD : va_D A [(h0, .inr (3, [.ref h1, .ref q5, .null, .null, .null, .null, .null, .int 0, .int 0, .int 0])), (h1, .inr (1, [.ref h2, .ref h3, .int 0, .int 0, .int 0, .int (-1)])), (q5, .inr (4, [.int 0, .int 0, .int 0, .int 0, .int 0, .int 0, .int 0])), (q36, .inr (5, [.null]))] := hD
  refine W.widen (k := 2) (n := 8) (by omega) (by omega) ?_
  refine lv_dup hx hb d_XPr_init_39 rfl ?_
  refine lv_aload_n hx hb d_XPr_init_40 rfl (lv_at hl 1 rfl) ?_
  have hPc := hP.sub (ws' := [(q36, .inr (5, [.null]))]) [3] rfl
  have hDc := hD.sub (ws' := [(q36, .inr (5, [.null]))]) [3] (by decide) rfl
  have hKc := hK.sub (tys' := []) [] rfl
  have hFc := va_free (wc := [(q36, .inr (5, [.null]))]) hD hS hA [3] rfl
  refine va_callv (va_runI (As := [.ref h1]) (rest := [.ref q36, .ref h0]) ⟨hx, hb, hml, hown, hts⟩ (c_XAr_init l D (q36) (h1) H.size) (cwI 1 hts kg_XAr_init rfl rfl rfl (hts _ kq_39) (hts _ kq_40) (hts _ kq_41) rfl (by decide +kernel) ⟨Nat.le_of_ble_eq_true rfl, Nat.le_of_ble_eq_true rfl⟩) ⟨nC_blind, fun U hU hW => ⟨rfl, by rw [hU], by rw [hU]; exact hPc, va_K.moved hW.alike hKc, hDc.weaken (fun _ _ _ _ => trivial), fun w hw => zNest_warm (nwC_ok w hw) hW (hN w hw)⟩⟩ rfl rfl hl.1 rfl (lv_room (Nat.le_of_ble_eq_true rfl)) d_XPr_init_41 ⟨Nat.le_of_ble_eq_true rfl, Nat.le_of_ble_eq_true rfl⟩) hS (fun q _ h => hFc q h) hFc (fun u41 t H1 locs ht hvm hw hB hz1 hk1 hS => ?_)
  obtain ⟨hP1, hK1, hD1⟩ := hB
  rw [ht] at hP1
  have hK1 := va_K.moved hvm.symm hK1
  obtain ⟨hP, hD⟩ := va_join (wr := [(h0, .inr (3, [.ref h1, .ref q5, .null, .null, .null, .null, .null, .int 0, .int 0, .int 0])), (h1, .inr (1, [.ref h2, .ref h3, .int 0, .int 0, .int 0, .int (-1)])), (q5, .inr (4, [.int 0, .int 0, .int 0, .int 0, .int 0, .int 0, .int 0]))]) (w1 := [(q36, .inr (5, [.ref h1]))]) hP hD [3] [0, 1, 2] rfl rfl (by decide) (by decide) hk1 hFc hP1 hD1
  have hK := (hK.sub (tys' := []) [] rfl).app hK1
  generalize H1 = H at hP hS ⊢
  have hP : va_P D clX [(h0, .inr (3, [.ref h1, .ref q5, .null, .null, .null, .null, .null, .int 0, .int 0, .int 0])), (h1, .inr (1, [.ref h2, .ref h3, .int 0, .int 0, .int 0, .int (-1)])), (q5, .inr (4, [.int 0, .int 0, .int 0, .int 0, .int 0, .int 0, .int 0])), (q36, .inr (5, [.ref h1]))] H := hP
  have hD : va_D A [(h0, .inr (3, [.ref h1, .ref q5, .null, .null, .null, .null, .null, .int 0, .int 0, .int 0])), (h1, .inr (1, [.ref h2, .ref h3, .int 0, .int 0, .int 0, .int (-1)])), (q5, .inr (4, [.int 0, .int 0, .int 0, .int 0, .int 0, .int 0, .int 0])), (q36, .inr (5, [.ref h1]))] := hD
  have hK : va_K D clX [] s := hK
  refine W.widen (k := 2) (n := 8) (by omega) (by omega) ?_
  refine va_putF (v := .ref q36) (ty := .object "DecimalMachine$Arithmetic") (C := RX_Pr) (T := TX_Pr) hx hb hts iX_Pr tX_Pr tX_Pr_ok nX_Pr hown hK hP hD hS 0 rfl rfl 2 (by decide) (hts _ kq_42) (fun _ h9 => h9) rfl hin rfl (by decide +kernel) rfl rfl (Nat.le_of_ble_eq_true rfl) d_XPr_init_44 (fun H locs hP hD hS => ?_)
  have hP : va_P D clX [(h0, .inr (3, [.ref h1, .ref q5, .ref q36, .null, .null, .null, .null, .int 0, .int 0, .int 0])), (h1, .inr (1, [.ref h2, .ref h3, .int 0, .int 0, .int 0, .int (-1)])), (q5, .inr (4, [.int 0, .int 0, .int 0, .int 0, .int 0, .int 0, .int 0])), (q36, .inr (5, [.ref h1]))] H := hP
  have hD : va_D A [(h0, .inr (3, [.ref h1, .ref q5, .ref q36, .null, .null, .null, .null, .int 0, .int 0, .int 0])), (h1, .inr (1, [.ref h2, .ref h3, .int 0, .int 0, .int 0, .int (-1)])), (q5, .inr (4, [.int 0, .int 0, .int 0, .int 0, .int 0, .int 0, .int 0])), (q36, .inr (5, [.ref h1]))] := hD
  refine lv_aload_n hx hb d_XPr_init_47 rfl (lv_at hl 0 rfl) ?_
  refine va_new (ci := 6) (fs := [.null]) (C := RX_Tr) (T := TX_Tr) (N := 1) hx hb hts iX_Tr tX_Tr tX_Tr_ok hown (hts _ kq_43) (hts _ kq_44) (hts _ kq_45) hK hP hD hS hA rfl (fun j hj => by rcases (show j = 0 by omega) with rfl <;> rfl) (Nat.le_of_ble_eq_true rfl) (Nat.le_of_ble_eq_true rfl) d_XPr_init_48 (fun q48 H hP hD hS => ?_)
  have hP : va_P D clX [(h0, .inr (3, [.ref h1, .ref q5, .ref q36, .null, .null, .null, .null, .int 0, .int 0, .int 0])), (h1, .inr (1, [.ref h2, .ref h3, .int 0, .int 0, .int 0, .int (-1)])), (q5, .inr (4, [.int 0, .int 0, .int 0, .int 0, .int 0, .int 0, .int 0])), (q36, .inr (5, [.ref h1])), (q48, .inr (6, [.null]))] H := hP
  have hD : va_D A [(h0, .inr (3, [.ref h1, .ref q5, .ref q36, .null, .null, .null, .null, .int 0, .int 0, .int 0])), (h1, .inr (1, [.ref h2, .ref h3, .int 0, .int 0, .int 0, .int (-1)])), (q5, .inr (4, [.int 0, .int 0, .int 0, .int 0, .int 0, .int 0, .int 0])), (q36, .inr (5, [.ref h1])), (q48, .inr (6, [.null]))] := hD
  refine W.widen (k := 3) (n := 9) (by omega) (by omega) ?_
  refine lv_dup hx hb d_XPr_init_51 rfl ?_
  refine lv_aload_n hx hb d_XPr_init_52 rfl (lv_at hl 1 rfl) ?_
  have hPc := hP.sub (ws' := [(q48, .inr (6, [.null]))]) [4] rfl
  have hDc := hD.sub (ws' := [(q48, .inr (6, [.null]))]) [4] (by decide) rfl
  have hKc := hK.sub (tys' := []) [] rfl
  have hFc := va_free (wc := [(q48, .inr (6, [.null]))]) hD hS hA [4] rfl
  refine va_callv (va_runI (As := [.ref h1]) (rest := [.ref q48, .ref h0]) ⟨hx, hb, hml, hown, hts⟩ (c_XTr_init l D (q48) (h1) H.size) (cwI 1 hts kg_XTr_init rfl rfl rfl (hts _ kq_45) (hts _ kq_46) (hts _ kq_47) rfl (by decide +kernel) ⟨Nat.le_of_ble_eq_true rfl, Nat.le_of_ble_eq_true rfl⟩) ⟨nC_blind, fun U hU hW => ⟨rfl, by rw [hU], by rw [hU]; exact hPc, va_K.moved hW.alike hKc, hDc.weaken (fun _ _ _ _ => trivial), fun w hw => zNest_warm (nwC_ok w hw) hW (hN w hw)⟩⟩ rfl rfl hl.1 rfl (lv_room (Nat.le_of_ble_eq_true rfl)) d_XPr_init_53 ⟨Nat.le_of_ble_eq_true rfl, Nat.le_of_ble_eq_true rfl⟩) hS (fun q _ h => hFc q h) hFc (fun u53 t H1 locs ht hvm hw hB hz1 hk1 hS => ?_)
  obtain ⟨hP1, hK1, hD1⟩ := hB
  rw [ht] at hP1
  have hK1 := va_K.moved hvm.symm hK1
  obtain ⟨hP, hD⟩ := va_join (wr := [(h0, .inr (3, [.ref h1, .ref q5, .ref q36, .null, .null, .null, .null, .int 0, .int 0, .int 0])), (h1, .inr (1, [.ref h2, .ref h3, .int 0, .int 0, .int 0, .int (-1)])), (q5, .inr (4, [.int 0, .int 0, .int 0, .int 0, .int 0, .int 0, .int 0])), (q36, .inr (5, [.ref h1]))]) (w1 := [(q48, .inr (6, [.ref h1]))]) hP hD [4] [0, 1, 2, 3] rfl rfl (by decide) (by decide) hk1 hFc hP1 hD1
  have hK := (hK.sub (tys' := []) [] rfl).app hK1
  generalize H1 = H at hP hS ⊢
  have hP : va_P D clX [(h0, .inr (3, [.ref h1, .ref q5, .ref q36, .null, .null, .null, .null, .int 0, .int 0, .int 0])), (h1, .inr (1, [.ref h2, .ref h3, .int 0, .int 0, .int 0, .int (-1)])), (q5, .inr (4, [.int 0, .int 0, .int 0, .int 0, .int 0, .int 0, .int 0])), (q36, .inr (5, [.ref h1])), (q48, .inr (6, [.ref h1]))] H := hP
  have hD : va_D A [(h0, .inr (3, [.ref h1, .ref q5, .ref q36, .null, .null, .null, .null, .int 0, .int 0, .int 0])), (h1, .inr (1, [.ref h2, .ref h3, .int 0, .int 0, .int 0, .int (-1)])), (q5, .inr (4, [.int 0, .int 0, .int 0, .int 0, .int 0, .int 0, .int 0])), (q36, .inr (5, [.ref h1])), (q48, .inr (6, [.ref h1]))] := hD
  have hK : va_K D clX [] s := hK
  refine W.widen (k := 3) (n := 9) (by omega) (by omega) ?_
  refine va_putF (v := .ref q48) (ty := .object "DecimalMachine$Transfers") (C := RX_Pr) (T := TX_Pr) hx hb hts iX_Pr tX_Pr tX_Pr_ok nX_Pr hown hK hP hD hS 0 rfl rfl 3 (by decide) (hts _ kq_48) (fun _ h9 => h9) rfl hin rfl (by decide +kernel) rfl rfl (Nat.le_of_ble_eq_true rfl) d_XPr_init_56 (fun H locs hP hD hS => ?_)
  have hP : va_P D clX [(h0, .inr (3, [.ref h1, .ref q5, .ref q36, .ref q48, .null, .null, .null, .int 0, .int 0, .int 0])), (h1, .inr (1, [.ref h2, .ref h3, .int 0, .int 0, .int 0, .int (-1)])), (q5, .inr (4, [.int 0, .int 0, .int 0, .int 0, .int 0, .int 0, .int 0])), (q36, .inr (5, [.ref h1])), (q48, .inr (6, [.ref h1]))] H := hP
  have hD : va_D A [(h0, .inr (3, [.ref h1, .ref q5, .ref q36, .ref q48, .null, .null, .null, .int 0, .int 0, .int 0])), (h1, .inr (1, [.ref h2, .ref h3, .int 0, .int 0, .int 0, .int (-1)])), (q5, .inr (4, [.int 0, .int 0, .int 0, .int 0, .int 0, .int 0, .int 0])), (q36, .inr (5, [.ref h1])), (q48, .inr (6, [.ref h1]))] := hD
  refine lv_aload_n hx hb d_XPr_init_59 rfl (lv_at hl 0 rfl) ?_
  refine va_new (ci := 7) (fs := [.null]) (C := RX_Br) (T := TX_Br) (N := 1) hx hb hts iX_Br tX_Br tX_Br_ok hown (hts _ kq_49) (hts _ kq_50) (hts _ kq_51) hK hP hD hS hA rfl (fun j hj => by rcases (show j = 0 by omega) with rfl <;> rfl) (Nat.le_of_ble_eq_true rfl) (Nat.le_of_ble_eq_true rfl) d_XPr_init_60 (fun q60 H hP hD hS => ?_)
  have hP : va_P D clX [(h0, .inr (3, [.ref h1, .ref q5, .ref q36, .ref q48, .null, .null, .null, .int 0, .int 0, .int 0])), (h1, .inr (1, [.ref h2, .ref h3, .int 0, .int 0, .int 0, .int (-1)])), (q5, .inr (4, [.int 0, .int 0, .int 0, .int 0, .int 0, .int 0, .int 0])), (q36, .inr (5, [.ref h1])), (q48, .inr (6, [.ref h1])), (q60, .inr (7, [.null]))] H := hP
  have hD : va_D A [(h0, .inr (3, [.ref h1, .ref q5, .ref q36, .ref q48, .null, .null, .null, .int 0, .int 0, .int 0])), (h1, .inr (1, [.ref h2, .ref h3, .int 0, .int 0, .int 0, .int (-1)])), (q5, .inr (4, [.int 0, .int 0, .int 0, .int 0, .int 0, .int 0, .int 0])), (q36, .inr (5, [.ref h1])), (q48, .inr (6, [.ref h1])), (q60, .inr (7, [.null]))] := hD
  refine W.widen (k := 4) (n := 10) (by omega) (by omega) ?_
  refine lv_dup hx hb d_XPr_init_63 rfl ?_
  refine lv_aload_n hx hb d_XPr_init_64 rfl (lv_at hl 1 rfl) ?_
  have hPc := hP.sub (ws' := [(q60, .inr (7, [.null]))]) [5] rfl
  have hDc := hD.sub (ws' := [(q60, .inr (7, [.null]))]) [5] (by decide) rfl
  have hKc := hK.sub (tys' := []) [] rfl
  have hFc := va_free (wc := [(q60, .inr (7, [.null]))]) hD hS hA [5] rfl
  refine va_callv (va_runI (As := [.ref h1]) (rest := [.ref q60, .ref h0]) ⟨hx, hb, hml, hown, hts⟩ (c_XBr_init l D (q60) (h1) H.size) (cwI 1 hts kg_XBr_init rfl rfl rfl (hts _ kq_51) (hts _ kq_52) (hts _ kq_53) rfl (by decide +kernel) ⟨Nat.le_of_ble_eq_true rfl, Nat.le_of_ble_eq_true rfl⟩) ⟨nC_blind, fun U hU hW => ⟨rfl, by rw [hU], by rw [hU]; exact hPc, va_K.moved hW.alike hKc, hDc.weaken (fun _ _ _ _ => trivial), fun w hw => zNest_warm (nwC_ok w hw) hW (hN w hw)⟩⟩ rfl rfl hl.1 rfl (lv_room (Nat.le_of_ble_eq_true rfl)) d_XPr_init_65 ⟨Nat.le_of_ble_eq_true rfl, Nat.le_of_ble_eq_true rfl⟩) hS (fun q _ h => hFc q h) hFc (fun u65 t H1 locs ht hvm hw hB hz1 hk1 hS => ?_)
  obtain ⟨hP1, hK1, hD1⟩ := hB
  rw [ht] at hP1
  have hK1 := va_K.moved hvm.symm hK1
  obtain ⟨hP, hD⟩ := va_join (wr := [(h0, .inr (3, [.ref h1, .ref q5, .ref q36, .ref q48, .null, .null, .null, .int 0, .int 0, .int 0])), (h1, .inr (1, [.ref h2, .ref h3, .int 0, .int 0, .int 0, .int (-1)])), (q5, .inr (4, [.int 0, .int 0, .int 0, .int 0, .int 0, .int 0, .int 0])), (q36, .inr (5, [.ref h1])), (q48, .inr (6, [.ref h1]))]) (w1 := [(q60, .inr (7, [.ref h1]))]) hP hD [5] [0, 1, 2, 3, 4] rfl rfl (by decide) (by decide) hk1 hFc hP1 hD1
  have hK := (hK.sub (tys' := []) [] rfl).app hK1
  generalize H1 = H at hP hS ⊢
  have hP : va_P D clX [(h0, .inr (3, [.ref h1, .ref q5, .ref q36, .ref q48, .null, .null, .null, .int 0, .int 0, .int 0])), (h1, .inr (1, [.ref h2, .ref h3, .int 0, .int 0, .int 0, .int (-1)])), (q5, .inr (4, [.int 0, .int 0, .int 0, .int 0, .int 0, .int 0, .int 0])), (q36, .inr (5, [.ref h1])), (q48, .inr (6, [.ref h1])), (q60, .inr (7, [.ref h1]))] H := hP
  have hD : va_D A [(h0, .inr (3, [.ref h1, .ref q5, .ref q36, .ref q48, .null, .null, .null, .int 0, .int 0, .int 0])), (h1, .inr (1, [.ref h2, .ref h3, .int 0, .int 0, .int 0, .int (-1)])), (q5, .inr (4, [.int 0, .int 0, .int 0, .int 0, .int 0, .int 0, .int 0])), (q36, .inr (5, [.ref h1])), (q48, .inr (6, [.ref h1])), (q60, .inr (7, [.ref h1]))] := hD
  have hK : va_K D clX [] s := hK
  refine W.widen (k := 4) (n := 10) (by omega) (by omega) ?_
  refine va_putF (v := .ref q60) (ty := .object "DecimalMachine$Branches") (C := RX_Pr) (T := TX_Pr) hx hb hts iX_Pr tX_Pr tX_Pr_ok nX_Pr hown hK hP hD hS 0 rfl rfl 4 (by decide) (hts _ kq_54) (fun _ h9 => h9) rfl hin rfl (by decide +kernel) rfl rfl (Nat.le_of_ble_eq_true rfl) d_XPr_init_68 (fun H locs hP hD hS => ?_)
  have hP : va_P D clX [(h0, .inr (3, [.ref h1, .ref q5, .ref q36, .ref q48, .ref q60, .null, .null, .int 0, .int 0, .int 0])), (h1, .inr (1, [.ref h2, .ref h3, .int 0, .int 0, .int 0, .int (-1)])), (q5, .inr (4, [.int 0, .int 0, .int 0, .int 0, .int 0, .int 0, .int 0])), (q36, .inr (5, [.ref h1])), (q48, .inr (6, [.ref h1])), (q60, .inr (7, [.ref h1]))] H := hP
  have hD : va_D A [(h0, .inr (3, [.ref h1, .ref q5, .ref q36, .ref q48, .ref q60, .null, .null, .int 0, .int 0, .int 0])), (h1, .inr (1, [.ref h2, .ref h3, .int 0, .int 0, .int 0, .int (-1)])), (q5, .inr (4, [.int 0, .int 0, .int 0, .int 0, .int 0, .int 0, .int 0])), (q36, .inr (5, [.ref h1])), (q48, .inr (6, [.ref h1])), (q60, .inr (7, [.ref h1]))] := hD
  refine lv_aload_n hx hb d_XPr_init_71 rfl (lv_at hl 0 rfl) ?_
  refine va_new (ci := 8) (fs := [.null, .null]) (C := RX_Oc) (T := TX_Oc) (N := 2) hx hb hts iX_Oc tX_Oc tX_Oc_ok hown (hts _ kq_55) (hts _ kq_56) (hts _ kq_57) hK hP hD hS hA rfl (fun j hj => by rcases (show j = 0 ∨ j = 1 by omega) with rfl | rfl <;> rfl) (Nat.le_of_ble_eq_true rfl) (Nat.le_of_ble_eq_true rfl) d_XPr_init_72 (fun q72 H hP hD hS => ?_)
  have hP : va_P D clX [(h0, .inr (3, [.ref h1, .ref q5, .ref q36, .ref q48, .ref q60, .null, .null, .int 0, .int 0, .int 0])), (h1, .inr (1, [.ref h2, .ref h3, .int 0, .int 0, .int 0, .int (-1)])), (q5, .inr (4, [.int 0, .int 0, .int 0, .int 0, .int 0, .int 0, .int 0])), (q36, .inr (5, [.ref h1])), (q48, .inr (6, [.ref h1])), (q60, .inr (7, [.ref h1])), (q72, .inr (8, [.null, .null]))] H := hP
  have hD : va_D A [(h0, .inr (3, [.ref h1, .ref q5, .ref q36, .ref q48, .ref q60, .null, .null, .int 0, .int 0, .int 0])), (h1, .inr (1, [.ref h2, .ref h3, .int 0, .int 0, .int 0, .int (-1)])), (q5, .inr (4, [.int 0, .int 0, .int 0, .int 0, .int 0, .int 0, .int 0])), (q36, .inr (5, [.ref h1])), (q48, .inr (6, [.ref h1])), (q60, .inr (7, [.ref h1])), (q72, .inr (8, [.null, .null]))] := hD
  refine W.widen (k := 5) (n := 12) (by omega) (by omega) ?_
  refine lv_dup hx hb d_XPr_init_75 rfl ?_
  refine lv_aload_n hx hb d_XPr_init_76 rfl (lv_at hl 1 rfl) ?_
  have hPc := hP.sub (ws' := [(q72, .inr (8, [.null, .null])), (h1, .inr (1, [.ref h2, .ref h3, .int 0, .int 0, .int 0, .int (-1)]))]) [6, 1] rfl
  have hDc := hD.sub (ws' := [(q72, .inr (8, [.null, .null])), (h1, .inr (1, [.ref h2, .ref h3, .int 0, .int 0, .int 0, .int (-1)]))]) [6, 1] (by decide) rfl
  have hKc := hK.sub (tys' := []) [] rfl
  have hFc := va_free (wc := [(q72, .inr (8, [.null, .null])), (h1, .inr (1, [.ref h2, .ref h3, .int 0, .int 0, .int 0, .int (-1)]))]) hD hS hA [6, 1] rfl
  refine va_callv (va_runI (As := [.ref h1]) (rest := [.ref q72, .ref h0]) ⟨hx, hb, hml, hown, hts⟩ (c_XOc_init l D (q72) (h1) H.size (h2) (h3)) (cwI 1 hts kg_XOc_init rfl rfl rfl (hts _ kq_57) (hts _ kq_58) (hts _ kq_59) rfl (by decide +kernel) ⟨Nat.le_of_ble_eq_true rfl, Nat.le_of_ble_eq_true rfl⟩) ⟨nC_blind, fun U hU hW => ⟨rfl, by rw [hU], by rw [hU]; exact hPc, va_K.moved hW.alike hKc, hDc.weaken (fun _ _ _ _ => trivial), fun w hw => zNest_warm (nwC_ok w hw) hW (hN w hw)⟩⟩ rfl rfl hl.1 rfl (lv_room (Nat.le_of_ble_eq_true rfl)) d_XPr_init_77 ⟨Nat.le_of_ble_eq_true rfl, Nat.le_of_ble_eq_true rfl⟩) hS (fun q _ h => hFc q h) hFc (fun u77 t H1 locs ht hvm hw hB hz1 hk1 hS => ?_)
  obtain ⟨hP1, hK1, hD1⟩ := hB
  rw [ht] at hP1
  have hK1 := va_K.moved hvm.symm hK1
  obtain ⟨hP, hD⟩ := va_join (wr := [(h0, .inr (3, [.ref h1, .ref q5, .ref q36, .ref q48, .ref q60, .null, .null, .int 0, .int 0, .int 0])), (q5, .inr (4, [.int 0, .int 0, .int 0, .int 0, .int 0, .int 0, .int 0])), (q36, .inr (5, [.ref h1])), (q48, .inr (6, [.ref h1])), (q60, .inr (7, [.ref h1]))]) (w1 := [(q72, .inr (8, [.ref h1, .ref h2])), (h1, .inr (1, [.ref h2, .ref h3, .int 0, .int 0, .int 0, .int (-1)]))]) hP hD [6, 1] [0, 2, 3, 4, 5] rfl rfl (by decide) (by decide) hk1 hFc hP1 hD1
  have hK := (hK.sub (tys' := []) [] rfl).app hK1
  generalize H1 = H at hP hS ⊢
  have hP : va_P D clX [(h0, .inr (3, [.ref h1, .ref q5, .ref q36, .ref q48, .ref q60, .null, .null, .int 0, .int 0, .int 0])), (q5, .inr (4, [.int 0, .int 0, .int 0, .int 0, .int 0, .int 0, .int 0])), (q36, .inr (5, [.ref h1])), (q48, .inr (6, [.ref h1])), (q60, .inr (7, [.ref h1])), (q72, .inr (8, [.ref h1, .ref h2])), (h1, .inr (1, [.ref h2, .ref h3, .int 0, .int 0, .int 0, .int (-1)]))] H := hP
  have hD : va_D A [(h0, .inr (3, [.ref h1, .ref q5, .ref q36, .ref q48, .ref q60, .null, .null, .int 0, .int 0, .int 0])), (q5, .inr (4, [.int 0, .int 0, .int 0, .int 0, .int 0, .int 0, .int 0])), (q36, .inr (5, [.ref h1])), (q48, .inr (6, [.ref h1])), (q60, .inr (7, [.ref h1])), (q72, .inr (8, [.ref h1, .ref h2])), (h1, .inr (1, [.ref h2, .ref h3, .int 0, .int 0, .int 0, .int (-1)]))] := hD
  have hK : va_K D clX [] s := hK
  refine W.widen (k := 5) (n := 12) (by omega) (by omega) ?_
  refine va_putF (v := .ref q72) (ty := .object "DecimalMachine$Octets") (C := RX_Pr) (T := TX_Pr) hx hb hts iX_Pr tX_Pr tX_Pr_ok nX_Pr hown hK hP hD hS 0 rfl rfl 5 (by decide) (hts _ kq_60) (fun _ h9 => h9) rfl hin rfl (by decide +kernel) rfl rfl (Nat.le_of_ble_eq_true rfl) d_XPr_init_80 (fun H locs hP hD hS => ?_)
  have hP : va_P D clX [(h0, .inr (3, [.ref h1, .ref q5, .ref q36, .ref q48, .ref q60, .ref q72, .null, .int 0, .int 0, .int 0])), (q5, .inr (4, [.int 0, .int 0, .int 0, .int 0, .int 0, .int 0, .int 0])), (q36, .inr (5, [.ref h1])), (q48, .inr (6, [.ref h1])), (q60, .inr (7, [.ref h1])), (q72, .inr (8, [.ref h1, .ref h2])), (h1, .inr (1, [.ref h2, .ref h3, .int 0, .int 0, .int 0, .int (-1)]))] H := hP
  have hD : va_D A [(h0, .inr (3, [.ref h1, .ref q5, .ref q36, .ref q48, .ref q60, .ref q72, .null, .int 0, .int 0, .int 0])), (q5, .inr (4, [.int 0, .int 0, .int 0, .int 0, .int 0, .int 0, .int 0])), (q36, .inr (5, [.ref h1])), (q48, .inr (6, [.ref h1])), (q60, .inr (7, [.ref h1])), (q72, .inr (8, [.ref h1, .ref h2])), (h1, .inr (1, [.ref h2, .ref h3, .int 0, .int 0, .int 0, .int (-1)]))] := hD
  refine lv_aload_n hx hb d_XPr_init_83 rfl (lv_at hl 0 rfl) ?_
  refine va_new (ci := 9) (fs := [.null, .null, .null]) (C := RX_De) (T := TX_De) (N := 3) hx hb hts iX_De tX_De tX_De_ok hown (hts _ kq_61) (hts _ kq_62) (hts _ kq_63) hK hP hD hS hA rfl (fun j hj => by rcases (show j = 0 ∨ j = 1 ∨ j = 2 by omega) with rfl | rfl | rfl <;> rfl) (Nat.le_of_ble_eq_true rfl) (Nat.le_of_ble_eq_true rfl) d_XPr_init_84 (fun q84 H hP hD hS => ?_)
  have hP : va_P D clX [(h0, .inr (3, [.ref h1, .ref q5, .ref q36, .ref q48, .ref q60, .ref q72, .null, .int 0, .int 0, .int 0])), (q5, .inr (4, [.int 0, .int 0, .int 0, .int 0, .int 0, .int 0, .int 0])), (q36, .inr (5, [.ref h1])), (q48, .inr (6, [.ref h1])), (q60, .inr (7, [.ref h1])), (q72, .inr (8, [.ref h1, .ref h2])), (h1, .inr (1, [.ref h2, .ref h3, .int 0, .int 0, .int 0, .int (-1)])), (q84, .inr (9, [.null, .null, .null]))] H := hP
  have hD : va_D A [(h0, .inr (3, [.ref h1, .ref q5, .ref q36, .ref q48, .ref q60, .ref q72, .null, .int 0, .int 0, .int 0])), (q5, .inr (4, [.int 0, .int 0, .int 0, .int 0, .int 0, .int 0, .int 0])), (q36, .inr (5, [.ref h1])), (q48, .inr (6, [.ref h1])), (q60, .inr (7, [.ref h1])), (q72, .inr (8, [.ref h1, .ref h2])), (h1, .inr (1, [.ref h2, .ref h3, .int 0, .int 0, .int 0, .int (-1)])), (q84, .inr (9, [.null, .null, .null]))] := hD
  refine W.widen (k := 6) (n := 15) (by omega) (by omega) ?_
  refine lv_dup hx hb d_XPr_init_87 rfl ?_
  refine lv_aload_n hx hb d_XPr_init_88 rfl (lv_at hl 1 rfl) ?_
  have hPc := hP.sub (ws' := [(q84, .inr (9, [.null, .null, .null])), (h1, .inr (1, [.ref h2, .ref h3, .int 0, .int 0, .int 0, .int (-1)]))]) [7, 6] rfl
  have hDc := hD.sub (ws' := [(q84, .inr (9, [.null, .null, .null])), (h1, .inr (1, [.ref h2, .ref h3, .int 0, .int 0, .int 0, .int (-1)]))]) [7, 6] (by decide) rfl
  have hKc := hK.sub (tys' := []) [] rfl
  have hFc := va_free (wc := [(q84, .inr (9, [.null, .null, .null])), (h1, .inr (1, [.ref h2, .ref h3, .int 0, .int 0, .int 0, .int (-1)]))]) hD hS hA [7, 6] rfl
  refine va_callv (va_runI (As := [.ref h1]) (rest := [.ref q84, .ref h0]) ⟨hx, hb, hml, hown, hts⟩ (c_XDe_init l D (q84) (h1) H.size (h2) (h3)) (cwI 1 hts kg_XDe_init rfl rfl rfl (hts _ kq_63) (hts _ kq_64) (hts _ kq_65) rfl (by decide +kernel) ⟨Nat.le_of_ble_eq_true rfl, Nat.le_of_ble_eq_true rfl⟩) ⟨nC_blind, fun U hU hW => ⟨rfl, by rw [hU], by rw [hU]; exact hPc, va_K.moved hW.alike hKc, hDc.weaken (fun _ _ _ _ => trivial), fun w hw => zNest_warm (nwC_ok w hw) hW (hN w hw)⟩⟩ rfl rfl hl.1 rfl (lv_room (Nat.le_of_ble_eq_true rfl)) d_XPr_init_89 ⟨Nat.le_of_ble_eq_true rfl, Nat.le_of_ble_eq_true rfl⟩) hS (fun q _ h => hFc q h) hFc (fun u89 t H1 locs ht hvm hw hB hz1 hk1 hS => ?_)
  obtain ⟨hP1, hK1, hD1⟩ := hB
  rw [ht] at hP1
  have hK1 := va_K.moved hvm.symm hK1
  obtain ⟨hP, hD⟩ := va_join (wr := [(h0, .inr (3, [.ref h1, .ref q5, .ref q36, .ref q48, .ref q60, .ref q72, .null, .int 0, .int 0, .int 0])), (q5, .inr (4, [.int 0, .int 0, .int 0, .int 0, .int 0, .int 0, .int 0])), (q36, .inr (5, [.ref h1])), (q48, .inr (6, [.ref h1])), (q60, .inr (7, [.ref h1])), (q72, .inr (8, [.ref h1, .ref h2]))]) (w1 := [(q84, .inr (9, [.ref h1, .ref h2, .ref (u89.1 0)])), (h1, .inr (1, [.ref h2, .ref h3, .int 0, .int 0, .int 0, .int (-1)])), ((u89.1 0), .inl ((u89.2 0), 16, .inl (fun _ => 0)))]) hP hD [7, 6] [0, 1, 2, 3, 4, 5] rfl rfl (by decide) (by decide) hk1 hFc hP1 hD1
  have hK := (hK.sub (tys' := []) [] rfl).app hK1
  generalize H1 = H at hP hS ⊢
  have hP : va_P D clX [(h0, .inr (3, [.ref h1, .ref q5, .ref q36, .ref q48, .ref q60, .ref q72, .null, .int 0, .int 0, .int 0])), (q5, .inr (4, [.int 0, .int 0, .int 0, .int 0, .int 0, .int 0, .int 0])), (q36, .inr (5, [.ref h1])), (q48, .inr (6, [.ref h1])), (q60, .inr (7, [.ref h1])), (q72, .inr (8, [.ref h1, .ref h2])), (q84, .inr (9, [.ref h1, .ref h2, .ref (u89.1 0)])), (h1, .inr (1, [.ref h2, .ref h3, .int 0, .int 0, .int 0, .int (-1)])), ((u89.1 0), .inl ((u89.2 0), 16, .inl (fun _ => 0)))] H := hP
  have hD : va_D A [(h0, .inr (3, [.ref h1, .ref q5, .ref q36, .ref q48, .ref q60, .ref q72, .null, .int 0, .int 0, .int 0])), (q5, .inr (4, [.int 0, .int 0, .int 0, .int 0, .int 0, .int 0, .int 0])), (q36, .inr (5, [.ref h1])), (q48, .inr (6, [.ref h1])), (q60, .inr (7, [.ref h1])), (q72, .inr (8, [.ref h1, .ref h2])), (q84, .inr (9, [.ref h1, .ref h2, .ref (u89.1 0)])), (h1, .inr (1, [.ref h2, .ref h3, .int 0, .int 0, .int 0, .int (-1)])), ((u89.1 0), .inl ((u89.2 0), 16, .inl (fun _ => 0)))] := hD
  have hK : va_K D clX [((u89.2 0), .int)] s := hK
  refine W.widen (k := 7) (n := 31) (by omega) (by omega) ?_
  refine va_putF (v := .ref q84) (ty := .object "DecimalMachine$Decimals") (C := RX_Pr) (T := TX_Pr) hx hb hts iX_Pr tX_Pr tX_Pr_ok nX_Pr hown hK hP hD hS 0 rfl rfl 6 (by decide) (hts _ kq_66) (fun _ h9 => h9) rfl hin rfl (by decide +kernel) rfl rfl (Nat.le_of_ble_eq_true rfl) d_XPr_init_92 (fun H locs hP hD hS => ?_)
  have hP : va_P D clX [(h0, .inr (3, [.ref h1, .ref q5, .ref q36, .ref q48, .ref q60, .ref q72, .ref q84, .int 0, .int 0, .int 0])), (q5, .inr (4, [.int 0, .int 0, .int 0, .int 0, .int 0, .int 0, .int 0])), (q36, .inr (5, [.ref h1])), (q48, .inr (6, [.ref h1])), (q60, .inr (7, [.ref h1])), (q72, .inr (8, [.ref h1, .ref h2])), (q84, .inr (9, [.ref h1, .ref h2, .ref (u89.1 0)])), (h1, .inr (1, [.ref h2, .ref h3, .int 0, .int 0, .int 0, .int (-1)])), ((u89.1 0), .inl ((u89.2 0), 16, .inl (fun _ => 0)))] H := hP
  have hD : va_D A [(h0, .inr (3, [.ref h1, .ref q5, .ref q36, .ref q48, .ref q60, .ref q72, .ref q84, .int 0, .int 0, .int 0])), (q5, .inr (4, [.int 0, .int 0, .int 0, .int 0, .int 0, .int 0, .int 0])), (q36, .inr (5, [.ref h1])), (q48, .inr (6, [.ref h1])), (q60, .inr (7, [.ref h1])), (q72, .inr (8, [.ref h1, .ref h2])), (q84, .inr (9, [.ref h1, .ref h2, .ref (u89.1 0)])), (h1, .inr (1, [.ref h2, .ref h3, .int 0, .int 0, .int 0, .int (-1)])), ((u89.1 0), .inl ((u89.2 0), 16, .inl (fun _ => 0)))] := hD
  exact W.vret hx hb hr (fun t ht hW => ⟨⟨(fun i => ([q5, q36, q48, q60, q72, q84, (u89.1 0)] : List Nat).getD i 0, fun i => ([(u89.2 0)] : List Nat).getD i 0), rfl, trivial, by rw [ht]; exact hP.sub [0, 7, 1, 2, 3, 4, 5, 6, 8] rfl, va_K.moved hW.alike (hK.sub [0] rfl), hD.sub [0, 7, 1, 2, 3, 4, 5, 6, 8] (by decide) rfl⟩, hS.F ht⟩) hS.2.2 d_XPr_init_95
def rm_XDM_init : Room := { frames := 3, cells := 12, slots := 1088, locals := 62 }
set_option maxHeartbeats 4000000 in
set_option maxRecDepth 100000 in
theorem c_XDM_init (l : Launch) (D : va_G) (h0 sz : Nat) : Met l y_XDM_init w_XDM_init rm_XDM_init (va_Pc [.ref h0] (fun U => U.heap.size = sz ∧ va_P D clX [(h0, .inr (0, [.null, .null]))] U.heap ∧ va_K D clX [] U ∧ va_D (fun _ => True) [(h0, .inr (0, [.null, .null]))] ∧ ∀ w ∈ nwC, va_Nw w U)) (va_Qv (fun _ : (Nat → Nat) × (Nat → Nat) => True) (fun u t => va_P D clX [(h0, .inr (0, [.ref (u.1 0), .ref (u.1 4)])), ((u.1 0), .inr (1, [.ref (u.1 1), .ref (u.1 3), .int 0, .int 0, .int 0, .int (-1)])), ((u.1 1), .inr (2, [.ref (u.1 2)])), ((u.1 2), .inl ((u.2 0), 1024, .inl (fun _ => 0))), ((u.1 3), .inl ((u.2 1), 16, .inl (fun _ => 0))), ((u.1 4), .inr (3, [.ref (u.1 0), .ref (u.1 5), .ref (u.1 6), .ref (u.1 7), .ref (u.1 8), .ref (u.1 9), .ref (u.1 10), .int 0, .int 0, .int 0])), ((u.1 5), .inr (4, [.int 0, .int 0, .int 0, .int 0, .int 0, .int 0, .int 0])), ((u.1 6), .inr (5, [.ref (u.1 0)])), ((u.1 7), .inr (6, [.ref (u.1 0)])), ((u.1 8), .inr (7, [.ref (u.1 0)])), ((u.1 9), .inr (8, [.ref (u.1 0), .ref (u.1 1)])), ((u.1 10), .inr (9, [.ref (u.1 0), .ref (u.1 1), .ref (u.1 11)])), ((u.1 11), .inl ((u.2 2), 16, .inl (fun _ => 0)))] t.heap ∧ va_K D clX [(u.2 0, .int), (u.2 1, .int), (u.2 2, .int)] t ∧ va_D (va_A [(h0, .inr (0, [.null, .null]))] sz) [(h0, .inr (0, [.ref (u.1 0), .ref (u.1 4)])), ((u.1 0), .inr (1, [.ref (u.1 1), .ref (u.1 3), .int 0, .int 0, .int 0, .int (-1)])), ((u.1 1), .inr (2, [.ref (u.1 2)])), ((u.1 2), .inl ((u.2 0), 1024, .inl (fun _ => 0))), ((u.1 3), .inl ((u.2 1), 16, .inl (fun _ => 0))), ((u.1 4), .inr (3, [.ref (u.1 0), .ref (u.1 5), .ref (u.1 6), .ref (u.1 7), .ref (u.1 8), .ref (u.1 9), .ref (u.1 10), .int 0, .int 0, .int 0])), ((u.1 5), .inr (4, [.int 0, .int 0, .int 0, .int 0, .int 0, .int 0, .int 0])), ((u.1 6), .inr (5, [.ref (u.1 0)])), ((u.1 7), .inr (6, [.ref (u.1 0)])), ((u.1 8), .inr (7, [.ref (u.1 0)])), ((u.1 9), .inr (8, [.ref (u.1 0), .ref (u.1 1)])), ((u.1 10), .inr (9, [.ref (u.1 0), .ref (u.1 1), .ref (u.1 11)])), ((u.1 11), .inl ((u.2 2), 16, .inl (fun _ => 0)))]) (va_A [(h0, .inr (0, [.null, .null]))] sz)) 12 1088 (va_A [(h0, .inr (0, [.null, .null]))] sz) := by
  refine Met.ofW (cc := b_XDM_init) (maxL := 1) (ret := none) (by decide) rfl ?_
  intro p e s m args below meth c s₁ B hml hv
  obtain ⟨rfl, hsz, hP, hK, hD0, hN⟩ := hv
  have hx := B.exec
  have hb := B.bytes
  have hr := B.returns
  have hts0 := atoms_spec (ws := w_XDM_init) B.pre
  have hts : ∀ w ∈ G0, w.before _ s = true := fun w h => hts0 w (List.mem_cons_of_mem _ h)
  have hown : s.vm.findClass RX_DM = some m.cls := findClass_of_methodNamed B.named
  have hlocks := B.notSynchronized
  have hin : meth.name = "<init>" := (name_of_methodNamed B.named B.method).1
  subst hsz
  have hD := hD0.self (sz := s.heap.size)
  generalize hAe : va_A [(h0, .inr (0, [.null, .null]))] s.heap.size = A at hD ⊢
  have hA : ∀ q : Nat, s.heap.size ≤ q → A q := fun q h => by rw [← hAe]; exact Or.inr h
  have hS : va_S A s.heap s.heap [] := va_S.rf
  obtain ⟨H, hH⟩ : ∃ z, z = s.heap := ⟨_, rfl⟩
  have hP : va_P D clX [(h0, .inr (0, [.null, .null]))] s.heap := hP
  have hl := lv_entry ([.ref h0]) (n := 1) (Nat.le_of_ble_eq_true rfl)
  rw [lg_entry_eq]
  generalize (lg_sl ([.ref h0]) ++ List.replicate (1 - (lg_sl ([.ref h0])).length) Slot.unset).toArray = ls at hl ⊢
  have hl : lv_has ls 1 [(0, .ref h0)] := hl
  refine lv_aload_n hx hb d_XDM_init_0 rfl (lv_at hl 0 rfl) ?_
  refine W.objInit hx hb hown (hts _ kq_67) (hts _ kq_oi) (hts _ kq_oc) rfl (by rw [hml]; exact hl.1) rfl d_XDM_init_1 (Nat.le_of_ble_eq_true rfl) (Nat.le_of_ble_eq_true rfl) ?_
  refine W.eq (g2 := F0 m 4 ls []) rfl ?_
  refine lv_aload_n hx hb d_XDM_init_4 rfl (lv_at hl 0 rfl) ?_
  refine va_new (ci := 1) (fs := [.null, .null, .int 0, .int 0, .int 0, .int 0]) (C := RX_St) (T := TX_St) (N := 6) hx hb hts iX_St tX_St tX_St_ok hown (hts _ kq_68) (hts _ kq_69) (hts _ kq_70) hK hP hD hS hA rfl (fun j hj => by rcases (show j = 0 ∨ j = 1 ∨ j = 2 ∨ j = 3 ∨ j = 4 ∨ j = 5 by omega) with rfl | rfl | rfl | rfl | rfl | rfl <;> rfl) (Nat.le_of_ble_eq_true rfl) (Nat.le_of_ble_eq_true rfl) d_XDM_init_5 (fun q5 H hP hD hS => ?_)
  have hP : va_P D clX [(h0, .inr (0, [.null, .null])), (q5, .inr (1, [.null, .null, .int 0, .int 0, .int 0, .int 0]))] H := hP
  have hD : va_D A [(h0, .inr (0, [.null, .null])), (q5, .inr (1, [.null, .null, .int 0, .int 0, .int 0, .int 0]))] := hD
  refine W.widen (k := 1) (n := 6) (by omega) (by omega) ?_
  refine lv_dup hx hb d_XDM_init_8 rfl ?_
  have hPc := hP.sub (ws' := [(q5, .inr (1, [.null, .null, .int 0, .int 0, .int 0, .int 0]))]) [1] rfl
  have hDc := hD.sub (ws' := [(q5, .inr (1, [.null, .null, .int 0, .int 0, .int 0, .int 0]))]) [1] (by decide) rfl
  have hKc := hK.sub (tys' := []) [] rfl
  have hFc := va_free (wc := [(q5, .inr (1, [.null, .null, .int 0, .int 0, .int 0, .int 0]))]) hD hS hA [1] rfl
  refine va_callv (va_runIN (As := []) (rest := [.ref q5, .ref h0]) ⟨hx, hb, hml, hown, hts⟩ (c_XSt_init l D (q5) H.size) (⟨va_cnB 0 hts kg_XSt_init rfl rfl rfl (hN _ nc_4) (hts _ kq_70) (by decide +kernel) ⟨Nat.le_of_ble_eq_true rfl, Nat.le_of_ble_eq_true rfl⟩, rfl, hts _ kq_71⟩) ⟨nC_blind, fun U hU hW => ⟨rfl, by rw [hU], by rw [hU]; exact hPc, va_K.moved hW.alike hKc, hDc.weaken (fun _ _ _ _ => trivial), fun w hw => zNest_warm (nwC_ok w hw) hW (hN w hw)⟩⟩ rfl rfl hl.1 rfl (lv_room (Nat.le_of_ble_eq_true rfl)) d_XDM_init_9 ⟨Nat.le_of_ble_eq_true rfl, Nat.le_of_ble_eq_true rfl⟩) hS (fun q _ h => hFc q h) hFc (fun u9 t H1 locs ht hvm hw hB hz1 hk1 hS => ?_)
  obtain ⟨hP1, hK1, hD1⟩ := hB
  rw [ht] at hP1
  have hK1 := va_K.moved hvm.symm hK1
  obtain ⟨hP, hD⟩ := va_join (wr := [(h0, .inr (0, [.null, .null]))]) (w1 := [(q5, .inr (1, [.ref (u9.1 0), .ref (u9.1 2), .int 0, .int 0, .int 0, .int (-1)])), ((u9.1 0), .inr (2, [.ref (u9.1 1)])), ((u9.1 1), .inl ((u9.2 0), 1024, .inl (fun _ => 0))), ((u9.1 2), .inl ((u9.2 1), 16, .inl (fun _ => 0)))]) hP hD [1] [0] rfl rfl (by decide) (by decide) hk1 hFc hP1 hD1
  have hK := (hK.sub (tys' := []) [] rfl).app hK1
  generalize H1 = H at hP hS ⊢
  have hP : va_P D clX [(h0, .inr (0, [.null, .null])), (q5, .inr (1, [.ref (u9.1 0), .ref (u9.1 2), .int 0, .int 0, .int 0, .int (-1)])), ((u9.1 0), .inr (2, [.ref (u9.1 1)])), ((u9.1 1), .inl ((u9.2 0), 1024, .inl (fun _ => 0))), ((u9.1 2), .inl ((u9.2 1), 16, .inl (fun _ => 0)))] H := hP
  have hD : va_D A [(h0, .inr (0, [.null, .null])), (q5, .inr (1, [.ref (u9.1 0), .ref (u9.1 2), .int 0, .int 0, .int 0, .int (-1)])), ((u9.1 0), .inr (2, [.ref (u9.1 1)])), ((u9.1 1), .inl ((u9.2 0), 1024, .inl (fun _ => 0))), ((u9.1 2), .inl ((u9.2 1), 16, .inl (fun _ => 0)))] := hD
  have hK : va_K D clX [((u9.2 0), .int), ((u9.2 1), .int)] s := hK
  refine W.widen (k := 4) (n := 1047) (by omega) (by omega) ?_
  refine va_putF (v := .ref q5) (ty := .object "DecimalMachine$State") (C := RX_DM) (T := TX_DM) hx hb hts iX_DM tX_DM tX_DM_ok nX_DM hown hK hP hD hS 0 rfl rfl 0 (by decide) (hts _ kq_72) (fun _ h9 => h9) rfl hin rfl (by decide +kernel) rfl rfl (Nat.le_of_ble_eq_true rfl) d_XDM_init_12 (fun H locs hP hD hS => ?_)
  have hP : va_P D clX [(h0, .inr (0, [.ref q5, .null])), (q5, .inr (1, [.ref (u9.1 0), .ref (u9.1 2), .int 0, .int 0, .int 0, .int (-1)])), ((u9.1 0), .inr (2, [.ref (u9.1 1)])), ((u9.1 1), .inl ((u9.2 0), 1024, .inl (fun _ => 0))), ((u9.1 2), .inl ((u9.2 1), 16, .inl (fun _ => 0)))] H := hP
  have hD : va_D A [(h0, .inr (0, [.ref q5, .null])), (q5, .inr (1, [.ref (u9.1 0), .ref (u9.1 2), .int 0, .int 0, .int 0, .int (-1)])), ((u9.1 0), .inr (2, [.ref (u9.1 1)])), ((u9.1 1), .inl ((u9.2 0), 1024, .inl (fun _ => 0))), ((u9.1 2), .inl ((u9.2 1), 16, .inl (fun _ => 0)))] := hD
  refine lv_aload_n hx hb d_XDM_init_15 rfl (lv_at hl 0 rfl) ?_
  refine va_new (ci := 3) (fs := [.null, .null, .null, .null, .null, .null, .null, .int 0, .int 0, .int 0]) (C := RX_Pr) (T := TX_Pr) (N := 10) hx hb hts iX_Pr tX_Pr tX_Pr_ok hown (hts _ kq_73) (hts _ kq_74) (hts _ kq_75) hK hP hD hS hA rfl (fun j hj => by rcases (show j = 0 ∨ j = 1 ∨ j = 2 ∨ j = 3 ∨ j = 4 ∨ j = 5 ∨ j = 6 ∨ j = 7 ∨ j = 8 ∨ j = 9 by omega) with rfl | rfl | rfl | rfl | rfl | rfl | rfl | rfl | rfl | rfl <;> rfl) (Nat.le_of_ble_eq_true rfl) (Nat.le_of_ble_eq_true rfl) d_XDM_init_16 (fun q16 H hP hD hS => ?_)
  have hP : va_P D clX [(h0, .inr (0, [.ref q5, .null])), (q5, .inr (1, [.ref (u9.1 0), .ref (u9.1 2), .int 0, .int 0, .int 0, .int (-1)])), ((u9.1 0), .inr (2, [.ref (u9.1 1)])), ((u9.1 1), .inl ((u9.2 0), 1024, .inl (fun _ => 0))), ((u9.1 2), .inl ((u9.2 1), 16, .inl (fun _ => 0))), (q16, .inr (3, [.null, .null, .null, .null, .null, .null, .null, .int 0, .int 0, .int 0]))] H := hP
  have hD : va_D A [(h0, .inr (0, [.ref q5, .null])), (q5, .inr (1, [.ref (u9.1 0), .ref (u9.1 2), .int 0, .int 0, .int 0, .int (-1)])), ((u9.1 0), .inr (2, [.ref (u9.1 1)])), ((u9.1 1), .inl ((u9.2 0), 1024, .inl (fun _ => 0))), ((u9.1 2), .inl ((u9.2 1), 16, .inl (fun _ => 0))), (q16, .inr (3, [.null, .null, .null, .null, .null, .null, .null, .int 0, .int 0, .int 0]))] := hD
  refine W.widen (k := 5) (n := 1057) (by omega) (by omega) ?_
  refine lv_dup hx hb d_XDM_init_19 rfl ?_
  refine lv_aload_n hx hb d_XDM_init_20 rfl (lv_at hl 0 rfl) ?_
  refine va_get (v := .ref q5) (C := RX_DM) (T := TX_DM) hx hb hts iX_DM hown hK hP 0 rfl rfl 0 (by decide) (hts _ kq_72) (fun _ h9 => h9) rfl d_XDM_init_21 ?_
  have hPc := hP.sub (ws' := [(q16, .inr (3, [.null, .null, .null, .null, .null, .null, .null, .int 0, .int 0, .int 0])), (q5, .inr (1, [.ref (u9.1 0), .ref (u9.1 2), .int 0, .int 0, .int 0, .int (-1)]))]) [5, 1] rfl
  have hDc := hD.sub (ws' := [(q16, .inr (3, [.null, .null, .null, .null, .null, .null, .null, .int 0, .int 0, .int 0])), (q5, .inr (1, [.ref (u9.1 0), .ref (u9.1 2), .int 0, .int 0, .int 0, .int (-1)]))]) [5, 1] (by decide) rfl
  have hKc := hK.sub (tys' := []) [] rfl
  have hFc := va_free (wc := [(q16, .inr (3, [.null, .null, .null, .null, .null, .null, .null, .int 0, .int 0, .int 0])), (q5, .inr (1, [.ref (u9.1 0), .ref (u9.1 2), .int 0, .int 0, .int 0, .int (-1)]))]) hD hS hA [5, 1] rfl
  refine va_callv (va_runI (As := [.ref q5]) (rest := [.ref q16, .ref h0]) ⟨hx, hb, hml, hown, hts⟩ (c_XPr_init l D (q16) (q5) H.size ((u9.1 0)) ((u9.1 2))) (cwI 1 hts kg_XPr_init rfl rfl rfl (hts _ kq_75) (hts _ kq_76) (hts _ kq_77) rfl (by decide +kernel) ⟨Nat.le_of_ble_eq_true rfl, Nat.le_of_ble_eq_true rfl⟩) ⟨nC_blind, fun U hU hW => ⟨rfl, by rw [hU], by rw [hU]; exact hPc, va_K.moved hW.alike hKc, hDc.weaken (fun _ _ _ _ => trivial), fun w hw => zNest_warm (nwC_ok w hw) hW (hN w hw)⟩⟩ rfl rfl hl.1 rfl (lv_room (Nat.le_of_ble_eq_true rfl)) d_XDM_init_24 ⟨Nat.le_of_ble_eq_true rfl, Nat.le_of_ble_eq_true rfl⟩) hS (fun q _ h => hFc q h) hFc (fun u24 t H1 locs ht hvm hw hB hz1 hk1 hS => ?_)
  obtain ⟨hP1, hK1, hD1⟩ := hB
  rw [ht] at hP1
  have hK1 := va_K.moved hvm.symm hK1
  obtain ⟨hP, hD⟩ := va_join (wr := [(h0, .inr (0, [.ref q5, .null])), ((u9.1 0), .inr (2, [.ref (u9.1 1)])), ((u9.1 1), .inl ((u9.2 0), 1024, .inl (fun _ => 0))), ((u9.1 2), .inl ((u9.2 1), 16, .inl (fun _ => 0)))]) (w1 := [(q16, .inr (3, [.ref q5, .ref (u24.1 0), .ref (u24.1 1), .ref (u24.1 2), .ref (u24.1 3), .ref (u24.1 4), .ref (u24.1 5), .int 0, .int 0, .int 0])), (q5, .inr (1, [.ref (u9.1 0), .ref (u9.1 2), .int 0, .int 0, .int 0, .int (-1)])), ((u24.1 0), .inr (4, [.int 0, .int 0, .int 0, .int 0, .int 0, .int 0, .int 0])), ((u24.1 1), .inr (5, [.ref q5])), ((u24.1 2), .inr (6, [.ref q5])), ((u24.1 3), .inr (7, [.ref q5])), ((u24.1 4), .inr (8, [.ref q5, .ref (u9.1 0)])), ((u24.1 5), .inr (9, [.ref q5, .ref (u9.1 0), .ref (u24.1 6)])), ((u24.1 6), .inl ((u24.2 0), 16, .inl (fun _ => 0)))]) hP hD [5, 1] [0, 2, 3, 4] rfl rfl (by decide) (by decide) hk1 hFc hP1 hD1
  have hK := (hK.sub (tys' := [((u9.2 0), .int), ((u9.2 1), .int)]) [0, 1] rfl).app hK1
  generalize H1 = H at hP hS ⊢
  have hP : va_P D clX [(h0, .inr (0, [.ref q5, .null])), ((u9.1 0), .inr (2, [.ref (u9.1 1)])), ((u9.1 1), .inl ((u9.2 0), 1024, .inl (fun _ => 0))), ((u9.1 2), .inl ((u9.2 1), 16, .inl (fun _ => 0))), (q16, .inr (3, [.ref q5, .ref (u24.1 0), .ref (u24.1 1), .ref (u24.1 2), .ref (u24.1 3), .ref (u24.1 4), .ref (u24.1 5), .int 0, .int 0, .int 0])), (q5, .inr (1, [.ref (u9.1 0), .ref (u9.1 2), .int 0, .int 0, .int 0, .int (-1)])), ((u24.1 0), .inr (4, [.int 0, .int 0, .int 0, .int 0, .int 0, .int 0, .int 0])), ((u24.1 1), .inr (5, [.ref q5])), ((u24.1 2), .inr (6, [.ref q5])), ((u24.1 3), .inr (7, [.ref q5])), ((u24.1 4), .inr (8, [.ref q5, .ref (u9.1 0)])), ((u24.1 5), .inr (9, [.ref q5, .ref (u9.1 0), .ref (u24.1 6)])), ((u24.1 6), .inl ((u24.2 0), 16, .inl (fun _ => 0)))] H := hP
  have hD : va_D A [(h0, .inr (0, [.ref q5, .null])), ((u9.1 0), .inr (2, [.ref (u9.1 1)])), ((u9.1 1), .inl ((u9.2 0), 1024, .inl (fun _ => 0))), ((u9.1 2), .inl ((u9.2 1), 16, .inl (fun _ => 0))), (q16, .inr (3, [.ref q5, .ref (u24.1 0), .ref (u24.1 1), .ref (u24.1 2), .ref (u24.1 3), .ref (u24.1 4), .ref (u24.1 5), .int 0, .int 0, .int 0])), (q5, .inr (1, [.ref (u9.1 0), .ref (u9.1 2), .int 0, .int 0, .int 0, .int (-1)])), ((u24.1 0), .inr (4, [.int 0, .int 0, .int 0, .int 0, .int 0, .int 0, .int 0])), ((u24.1 1), .inr (5, [.ref q5])), ((u24.1 2), .inr (6, [.ref q5])), ((u24.1 3), .inr (7, [.ref q5])), ((u24.1 4), .inr (8, [.ref q5, .ref (u9.1 0)])), ((u24.1 5), .inr (9, [.ref q5, .ref (u9.1 0), .ref (u24.1 6)])), ((u24.1 6), .inl ((u24.2 0), 16, .inl (fun _ => 0)))] := hD
  have hK : va_K D clX [((u9.2 0), .int), ((u9.2 1), .int), ((u24.2 0), .int)] s := hK
  refine W.widen (k := 12) (n := 1088) (by omega) (by omega) ?_
  refine va_putF (v := .ref q16) (ty := .object "DecimalMachine$Processor") (C := RX_DM) (T := TX_DM) hx hb hts iX_DM tX_DM tX_DM_ok nX_DM hown hK hP hD hS 0 rfl rfl 1 (by decide) (hts _ kq_78) (fun _ h9 => h9) rfl hin rfl (by decide +kernel) rfl rfl (Nat.le_of_ble_eq_true rfl) d_XDM_init_27 (fun H locs hP hD hS => ?_)
  have hP : va_P D clX [(h0, .inr (0, [.ref q5, .ref q16])), ((u9.1 0), .inr (2, [.ref (u9.1 1)])), ((u9.1 1), .inl ((u9.2 0), 1024, .inl (fun _ => 0))), ((u9.1 2), .inl ((u9.2 1), 16, .inl (fun _ => 0))), (q16, .inr (3, [.ref q5, .ref (u24.1 0), .ref (u24.1 1), .ref (u24.1 2), .ref (u24.1 3), .ref (u24.1 4), .ref (u24.1 5), .int 0, .int 0, .int 0])), (q5, .inr (1, [.ref (u9.1 0), .ref (u9.1 2), .int 0, .int 0, .int 0, .int (-1)])), ((u24.1 0), .inr (4, [.int 0, .int 0, .int 0, .int 0, .int 0, .int 0, .int 0])), ((u24.1 1), .inr (5, [.ref q5])), ((u24.1 2), .inr (6, [.ref q5])), ((u24.1 3), .inr (7, [.ref q5])), ((u24.1 4), .inr (8, [.ref q5, .ref (u9.1 0)])), ((u24.1 5), .inr (9, [.ref q5, .ref (u9.1 0), .ref (u24.1 6)])), ((u24.1 6), .inl ((u24.2 0), 16, .inl (fun _ => 0)))] H := hP
  have hD : va_D A [(h0, .inr (0, [.ref q5, .ref q16])), ((u9.1 0), .inr (2, [.ref (u9.1 1)])), ((u9.1 1), .inl ((u9.2 0), 1024, .inl (fun _ => 0))), ((u9.1 2), .inl ((u9.2 1), 16, .inl (fun _ => 0))), (q16, .inr (3, [.ref q5, .ref (u24.1 0), .ref (u24.1 1), .ref (u24.1 2), .ref (u24.1 3), .ref (u24.1 4), .ref (u24.1 5), .int 0, .int 0, .int 0])), (q5, .inr (1, [.ref (u9.1 0), .ref (u9.1 2), .int 0, .int 0, .int 0, .int (-1)])), ((u24.1 0), .inr (4, [.int 0, .int 0, .int 0, .int 0, .int 0, .int 0, .int 0])), ((u24.1 1), .inr (5, [.ref q5])), ((u24.1 2), .inr (6, [.ref q5])), ((u24.1 3), .inr (7, [.ref q5])), ((u24.1 4), .inr (8, [.ref q5, .ref (u9.1 0)])), ((u24.1 5), .inr (9, [.ref q5, .ref (u9.1 0), .ref (u24.1 6)])), ((u24.1 6), .inl ((u24.2 0), 16, .inl (fun _ => 0)))] := hD
  exact W.vret hx hb hr (fun t ht hW => ⟨⟨(fun i => ([q5, (u9.1 0), (u9.1 1), (u9.1 2), q16, (u24.1 0), (u24.1 1), (u24.1 2), (u24.1 3), (u24.1 4), (u24.1 5), (u24.1 6)] : List Nat).getD i 0, fun i => ([(u9.2 0), (u9.2 1), (u24.2 0)] : List Nat).getD i 0), rfl, trivial, by rw [ht]; exact hP.sub [0, 5, 1, 2, 3, 4, 6, 7, 8, 9, 10, 11, 12] rfl, va_K.moved hW.alike (hK.sub [0, 1, 2] rfl), hD.sub [0, 5, 1, 2, 3, 4, 6, 7, 8, 9, 10, 11, 12] (by decide) rfl⟩, hS.F ht⟩) hS.2.2 d_XDM_init_30
def rm_MMo_init : Room := { frames := 1, cells := 8, slots := 1680, locals := 20 }
set_option maxHeartbeats 4000000 in
set_option maxRecDepth 100000 in
theorem c_MMo_init (l : Launch) (D : va_G) (h0 sz : Nat) : Met l y_MMo_init w_MMo_init rm_MMo_init (va_Pc [.ref h0] (fun U => U.heap.size = sz ∧ va_P D clM [(h0, .inr (0, [.null, .null, .null, .null, .null, .null, .null, .null, .int 0, .int 0, .int 0, .int 0, .int 0, .int 0, .int 0, .int 0, .int 0, .int 0, .int 0, .int 0, .int 0, .int 0]))] U.heap ∧ va_K D clM [] U ∧ va_D (fun _ => True) [(h0, .inr (0, [.null, .null, .null, .null, .null, .null, .null, .null, .int 0, .int 0, .int 0, .int 0, .int 0, .int 0, .int 0, .int 0, .int 0, .int 0, .int 0, .int 0, .int 0, .int 0]))] ∧ ∀ w ∈ nwC, va_Nw w U)) (va_Qv (fun _ : (Nat → Nat) × (Nat → Nat) => True) (fun u t => va_P D clM [(h0, .inr (0, [.ref (u.1 0), .ref (u.1 1), .ref (u.1 2), .ref (u.1 3), .ref (u.1 4), .ref (u.1 5), .ref (u.1 6), .ref (u.1 7), .int 0, .int 0, .int 0, .int 0, .int (-1), .int 0, .int 0, .int 0, .int 0, .int 0, .int 0, .int 0, .int 0, .int 0])), ((u.1 0), .inl ((u.2 0), 1024, .inl (fun _ => 0))), ((u.1 1), .inl ((u.2 1), 16, .inl (fun _ => 0))), ((u.1 2), .inl ((u.2 2), 256, .inl (fun _ => 0))), ((u.1 3), .inl ((u.2 3), 32, .inl (fun _ => 0))), ((u.1 4), .inl ((u.2 4), 32, .inl (fun _ => 0))), ((u.1 5), .inl ((u.2 5), 32, .inl (fun _ => 0))), ((u.1 6), .inl ((u.2 6), 32, .inl (fun _ => 0))), ((u.1 7), .inl ((u.2 7), 256, .inl (fun _ => 0)))] t.heap ∧ va_K D clM [(u.2 0, .int), (u.2 1, .int), (u.2 2, .int), (u.2 3, .int), (u.2 4, .int), (u.2 5, .int), (u.2 6, .int), (u.2 7, .int)] t ∧ va_D (va_A [(h0, .inr (0, [.null, .null, .null, .null, .null, .null, .null, .null, .int 0, .int 0, .int 0, .int 0, .int 0, .int 0, .int 0, .int 0, .int 0, .int 0, .int 0, .int 0, .int 0, .int 0]))] sz) [(h0, .inr (0, [.ref (u.1 0), .ref (u.1 1), .ref (u.1 2), .ref (u.1 3), .ref (u.1 4), .ref (u.1 5), .ref (u.1 6), .ref (u.1 7), .int 0, .int 0, .int 0, .int 0, .int (-1), .int 0, .int 0, .int 0, .int 0, .int 0, .int 0, .int 0, .int 0, .int 0])), ((u.1 0), .inl ((u.2 0), 1024, .inl (fun _ => 0))), ((u.1 1), .inl ((u.2 1), 16, .inl (fun _ => 0))), ((u.1 2), .inl ((u.2 2), 256, .inl (fun _ => 0))), ((u.1 3), .inl ((u.2 3), 32, .inl (fun _ => 0))), ((u.1 4), .inl ((u.2 4), 32, .inl (fun _ => 0))), ((u.1 5), .inl ((u.2 5), 32, .inl (fun _ => 0))), ((u.1 6), .inl ((u.2 6), 32, .inl (fun _ => 0))), ((u.1 7), .inl ((u.2 7), 256, .inl (fun _ => 0)))]) (va_A [(h0, .inr (0, [.null, .null, .null, .null, .null, .null, .null, .null, .int 0, .int 0, .int 0, .int 0, .int 0, .int 0, .int 0, .int 0, .int 0, .int 0, .int 0, .int 0, .int 0, .int 0]))] sz)) 8 1680 (va_A [(h0, .inr (0, [.null, .null, .null, .null, .null, .null, .null, .null, .int 0, .int 0, .int 0, .int 0, .int 0, .int 0, .int 0, .int 0, .int 0, .int 0, .int 0, .int 0, .int 0, .int 0]))] sz) := by
  refine Met.ofW (cc := b_MMo_init) (maxL := 1) (ret := none) (by decide) rfl ?_
  intro p e s m args below meth c s₁ B hml hv
  obtain ⟨rfl, hsz, hP, hK, hD0, hN⟩ := hv
  have hx := B.exec
  have hb := B.bytes
  have hr := B.returns
  have hts0 := atoms_spec (ws := w_MMo_init) B.pre
  have hts : ∀ w ∈ G0, w.before _ s = true := fun w h => hts0 w (List.mem_cons_of_mem _ h)
  have hown : s.vm.findClass RM_Mo = some m.cls := findClass_of_methodNamed B.named
  have hlocks := B.notSynchronized
  have hin : meth.name = "<init>" := (name_of_methodNamed B.named B.method).1
  subst hsz
  have hD := hD0.self (sz := s.heap.size)
  generalize hAe : va_A [(h0, .inr (0, [.null, .null, .null, .null, .null, .null, .null, .null, .int 0, .int 0, .int 0, .int 0, .int 0, .int 0, .int 0, .int 0, .int 0, .int 0, .int 0, .int 0, .int 0, .int 0]))] s.heap.size = A at hD ⊢
  have hA : ∀ q : Nat, s.heap.size ≤ q → A q := fun q h => by rw [← hAe]; exact Or.inr h
  have hS : va_S A s.heap s.heap [] := va_S.rf
  obtain ⟨H, hH⟩ : ∃ z, z = s.heap := ⟨_, rfl⟩
  have hP : va_P D clM [(h0, .inr (0, [.null, .null, .null, .null, .null, .null, .null, .null, .int 0, .int 0, .int 0, .int 0, .int 0, .int 0, .int 0, .int 0, .int 0, .int 0, .int 0, .int 0, .int 0, .int 0]))] s.heap := hP
  have hl := lv_entry ([.ref h0]) (n := 1) (Nat.le_of_ble_eq_true rfl)
  rw [lg_entry_eq]
  generalize (lg_sl ([.ref h0]) ++ List.replicate (1 - (lg_sl ([.ref h0])).length) Slot.unset).toArray = ls at hl ⊢
  have hl : lv_has ls 1 [(0, .ref h0)] := hl
  refine lv_aload_n hx hb d_MMo_init_0 rfl (lv_at hl 0 rfl) ?_
  refine W.objInit hx hb hown (hts _ kq_79) (hts _ kq_oi) (hts _ kq_oc) rfl (by rw [hml]; exact hl.1) rfl d_MMo_init_1 (Nat.le_of_ble_eq_true rfl) (Nat.le_of_ble_eq_true rfl) ?_
  refine W.eq (g2 := F0 m 4 ls []) rfl ?_
  refine lv_aload_n hx hb d_MMo_init_4 rfl (lv_at hl 0 rfl) ?_
  refine lv_sipush (v := 1024) hx hb d_MMo_init_5 (by decide) ?_
  refine va_newa (atype := .int) (a0 := (1024, .inl (fun _ => 0))) (ty := .int) (N' := 1024) hx hb (hts _ kq_arr) rfl hK hP hD hS hA (fun _ => rfl) (by decide) (by decide) (by decide) (Nat.le_of_ble_eq_true rfl) (Nat.le_of_ble_eq_true rfl) d_MMo_init_8 (fun q8 k8 H hK hP hD hS => ?_)
  have hP : va_P D clM [(h0, .inr (0, [.null, .null, .null, .null, .null, .null, .null, .null, .int 0, .int 0, .int 0, .int 0, .int 0, .int 0, .int 0, .int 0, .int 0, .int 0, .int 0, .int 0, .int 0, .int 0])), (q8, .inl (k8, 1024, .inl (fun _ => 0)))] H := hP
  have hD : va_D A [(h0, .inr (0, [.null, .null, .null, .null, .null, .null, .null, .null, .int 0, .int 0, .int 0, .int 0, .int 0, .int 0, .int 0, .int 0, .int 0, .int 0, .int 0, .int 0, .int 0, .int 0])), (q8, .inl (k8, 1024, .inl (fun _ => 0)))] := hD
  have hK : va_K D clM [(k8, .int)] s := hK
  refine W.widen (k := 1) (n := 1024) (by omega) (by omega) ?_
  refine va_putF (v := .ref q8) (ty := .array .int) (C := RM_Mo) (T := TM_Mo) hx hb hts iM_Mo tM_Mo tM_Mo_ok nM_Mo hown hK hP hD hS 0 rfl rfl 0 (by decide) (hts _ kq_80) (fun _ h9 => h9) rfl hin rfl (by decide +kernel) rfl rfl (Nat.le_of_ble_eq_true rfl) d_MMo_init_10 (fun H locs hP hD hS => ?_)
  have hP : va_P D clM [(h0, .inr (0, [.ref q8, .null, .null, .null, .null, .null, .null, .null, .int 0, .int 0, .int 0, .int 0, .int 0, .int 0, .int 0, .int 0, .int 0, .int 0, .int 0, .int 0, .int 0, .int 0])), (q8, .inl (k8, 1024, .inl (fun _ => 0)))] H := hP
  have hD : va_D A [(h0, .inr (0, [.ref q8, .null, .null, .null, .null, .null, .null, .null, .int 0, .int 0, .int 0, .int 0, .int 0, .int 0, .int 0, .int 0, .int 0, .int 0, .int 0, .int 0, .int 0, .int 0])), (q8, .inl (k8, 1024, .inl (fun _ => 0)))] := hD
  refine lv_aload_n hx hb d_MMo_init_13 rfl (lv_at hl 0 rfl) ?_
  refine lv_bipush (v := 16) hx hb d_MMo_init_14 (by decide) ?_
  refine va_newa (atype := .int) (a0 := (16, .inl (fun _ => 0))) (ty := .int) (N' := 16) hx hb (hts _ kq_arr) rfl hK hP hD hS hA (fun _ => rfl) (by decide) (by decide) (by decide) (Nat.le_of_ble_eq_true rfl) (Nat.le_of_ble_eq_true rfl) d_MMo_init_16 (fun q16 k16 H hK hP hD hS => ?_)
  have hP : va_P D clM [(h0, .inr (0, [.ref q8, .null, .null, .null, .null, .null, .null, .null, .int 0, .int 0, .int 0, .int 0, .int 0, .int 0, .int 0, .int 0, .int 0, .int 0, .int 0, .int 0, .int 0, .int 0])), (q8, .inl (k8, 1024, .inl (fun _ => 0))), (q16, .inl (k16, 16, .inl (fun _ => 0)))] H := hP
  have hD : va_D A [(h0, .inr (0, [.ref q8, .null, .null, .null, .null, .null, .null, .null, .int 0, .int 0, .int 0, .int 0, .int 0, .int 0, .int 0, .int 0, .int 0, .int 0, .int 0, .int 0, .int 0, .int 0])), (q8, .inl (k8, 1024, .inl (fun _ => 0))), (q16, .inl (k16, 16, .inl (fun _ => 0)))] := hD
  have hK : va_K D clM [(k8, .int), (k16, .int)] s := hK
  refine W.widen (k := 2) (n := 1040) (by omega) (by omega) ?_
  refine va_putF (v := .ref q16) (ty := .array .int) (C := RM_Mo) (T := TM_Mo) hx hb hts iM_Mo tM_Mo tM_Mo_ok nM_Mo hown hK hP hD hS 0 rfl rfl 1 (by decide) (hts _ kq_81) (fun _ h9 => h9) rfl hin rfl (by decide +kernel) rfl rfl (Nat.le_of_ble_eq_true rfl) d_MMo_init_18 (fun H locs hP hD hS => ?_)
  have hP : va_P D clM [(h0, .inr (0, [.ref q8, .ref q16, .null, .null, .null, .null, .null, .null, .int 0, .int 0, .int 0, .int 0, .int 0, .int 0, .int 0, .int 0, .int 0, .int 0, .int 0, .int 0, .int 0, .int 0])), (q8, .inl (k8, 1024, .inl (fun _ => 0))), (q16, .inl (k16, 16, .inl (fun _ => 0)))] H := hP
  have hD : va_D A [(h0, .inr (0, [.ref q8, .ref q16, .null, .null, .null, .null, .null, .null, .int 0, .int 0, .int 0, .int 0, .int 0, .int 0, .int 0, .int 0, .int 0, .int 0, .int 0, .int 0, .int 0, .int 0])), (q8, .inl (k8, 1024, .inl (fun _ => 0))), (q16, .inl (k16, 16, .inl (fun _ => 0)))] := hD
  refine lv_aload_n hx hb d_MMo_init_21 rfl (lv_at hl 0 rfl) ?_
  refine lv_sipush (v := 256) hx hb d_MMo_init_22 (by decide) ?_
  refine va_newa (atype := .int) (a0 := (256, .inl (fun _ => 0))) (ty := .int) (N' := 256) hx hb (hts _ kq_arr) rfl hK hP hD hS hA (fun _ => rfl) (by decide) (by decide) (by decide) (Nat.le_of_ble_eq_true rfl) (Nat.le_of_ble_eq_true rfl) d_MMo_init_25 (fun q25 k25 H hK hP hD hS => ?_)
  have hP : va_P D clM [(h0, .inr (0, [.ref q8, .ref q16, .null, .null, .null, .null, .null, .null, .int 0, .int 0, .int 0, .int 0, .int 0, .int 0, .int 0, .int 0, .int 0, .int 0, .int 0, .int 0, .int 0, .int 0])), (q8, .inl (k8, 1024, .inl (fun _ => 0))), (q16, .inl (k16, 16, .inl (fun _ => 0))), (q25, .inl (k25, 256, .inl (fun _ => 0)))] H := hP
  have hD : va_D A [(h0, .inr (0, [.ref q8, .ref q16, .null, .null, .null, .null, .null, .null, .int 0, .int 0, .int 0, .int 0, .int 0, .int 0, .int 0, .int 0, .int 0, .int 0, .int 0, .int 0, .int 0, .int 0])), (q8, .inl (k8, 1024, .inl (fun _ => 0))), (q16, .inl (k16, 16, .inl (fun _ => 0))), (q25, .inl (k25, 256, .inl (fun _ => 0)))] := hD
  have hK : va_K D clM [(k8, .int), (k16, .int), (k25, .int)] s := hK
  refine W.widen (k := 3) (n := 1296) (by omega) (by omega) ?_
  refine va_putF (v := .ref q25) (ty := .array .int) (C := RM_Mo) (T := TM_Mo) hx hb hts iM_Mo tM_Mo tM_Mo_ok nM_Mo hown hK hP hD hS 0 rfl rfl 2 (by decide) (hts _ kq_82) (fun _ h9 => h9) rfl hin rfl (by decide +kernel) rfl rfl (Nat.le_of_ble_eq_true rfl) d_MMo_init_27 (fun H locs hP hD hS => ?_)
  have hP : va_P D clM [(h0, .inr (0, [.ref q8, .ref q16, .ref q25, .null, .null, .null, .null, .null, .int 0, .int 0, .int 0, .int 0, .int 0, .int 0, .int 0, .int 0, .int 0, .int 0, .int 0, .int 0, .int 0, .int 0])), (q8, .inl (k8, 1024, .inl (fun _ => 0))), (q16, .inl (k16, 16, .inl (fun _ => 0))), (q25, .inl (k25, 256, .inl (fun _ => 0)))] H := hP
  have hD : va_D A [(h0, .inr (0, [.ref q8, .ref q16, .ref q25, .null, .null, .null, .null, .null, .int 0, .int 0, .int 0, .int 0, .int 0, .int 0, .int 0, .int 0, .int 0, .int 0, .int 0, .int 0, .int 0, .int 0])), (q8, .inl (k8, 1024, .inl (fun _ => 0))), (q16, .inl (k16, 16, .inl (fun _ => 0))), (q25, .inl (k25, 256, .inl (fun _ => 0)))] := hD
  refine lv_aload_n hx hb d_MMo_init_30 rfl (lv_at hl 0 rfl) ?_
  refine lv_bipush (v := 32) hx hb d_MMo_init_31 (by decide) ?_
  refine va_newa (atype := .int) (a0 := (32, .inl (fun _ => 0))) (ty := .int) (N' := 32) hx hb (hts _ kq_arr) rfl hK hP hD hS hA (fun _ => rfl) (by decide) (by decide) (by decide) (Nat.le_of_ble_eq_true rfl) (Nat.le_of_ble_eq_true rfl) d_MMo_init_33 (fun q33 k33 H hK hP hD hS => ?_)
  have hP : va_P D clM [(h0, .inr (0, [.ref q8, .ref q16, .ref q25, .null, .null, .null, .null, .null, .int 0, .int 0, .int 0, .int 0, .int 0, .int 0, .int 0, .int 0, .int 0, .int 0, .int 0, .int 0, .int 0, .int 0])), (q8, .inl (k8, 1024, .inl (fun _ => 0))), (q16, .inl (k16, 16, .inl (fun _ => 0))), (q25, .inl (k25, 256, .inl (fun _ => 0))), (q33, .inl (k33, 32, .inl (fun _ => 0)))] H := hP
  have hD : va_D A [(h0, .inr (0, [.ref q8, .ref q16, .ref q25, .null, .null, .null, .null, .null, .int 0, .int 0, .int 0, .int 0, .int 0, .int 0, .int 0, .int 0, .int 0, .int 0, .int 0, .int 0, .int 0, .int 0])), (q8, .inl (k8, 1024, .inl (fun _ => 0))), (q16, .inl (k16, 16, .inl (fun _ => 0))), (q25, .inl (k25, 256, .inl (fun _ => 0))), (q33, .inl (k33, 32, .inl (fun _ => 0)))] := hD
  have hK : va_K D clM [(k8, .int), (k16, .int), (k25, .int), (k33, .int)] s := hK
  refine W.widen (k := 4) (n := 1328) (by omega) (by omega) ?_
  refine va_putF (v := .ref q33) (ty := .array .int) (C := RM_Mo) (T := TM_Mo) hx hb hts iM_Mo tM_Mo tM_Mo_ok nM_Mo hown hK hP hD hS 0 rfl rfl 3 (by decide) (hts _ kq_83) (fun _ h9 => h9) rfl hin rfl (by decide +kernel) rfl rfl (Nat.le_of_ble_eq_true rfl) d_MMo_init_35 (fun H locs hP hD hS => ?_)
  have hP : va_P D clM [(h0, .inr (0, [.ref q8, .ref q16, .ref q25, .ref q33, .null, .null, .null, .null, .int 0, .int 0, .int 0, .int 0, .int 0, .int 0, .int 0, .int 0, .int 0, .int 0, .int 0, .int 0, .int 0, .int 0])), (q8, .inl (k8, 1024, .inl (fun _ => 0))), (q16, .inl (k16, 16, .inl (fun _ => 0))), (q25, .inl (k25, 256, .inl (fun _ => 0))), (q33, .inl (k33, 32, .inl (fun _ => 0)))] H := hP
  have hD : va_D A [(h0, .inr (0, [.ref q8, .ref q16, .ref q25, .ref q33, .null, .null, .null, .null, .int 0, .int 0, .int 0, .int 0, .int 0, .int 0, .int 0, .int 0, .int 0, .int 0, .int 0, .int 0, .int 0, .int 0])), (q8, .inl (k8, 1024, .inl (fun _ => 0))), (q16, .inl (k16, 16, .inl (fun _ => 0))), (q25, .inl (k25, 256, .inl (fun _ => 0))), (q33, .inl (k33, 32, .inl (fun _ => 0)))] := hD
  refine lv_aload_n hx hb d_MMo_init_38 rfl (lv_at hl 0 rfl) ?_
  refine lv_bipush (v := 32) hx hb d_MMo_init_39 (by decide) ?_
  refine va_newa (atype := .int) (a0 := (32, .inl (fun _ => 0))) (ty := .int) (N' := 32) hx hb (hts _ kq_arr) rfl hK hP hD hS hA (fun _ => rfl) (by decide) (by decide) (by decide) (Nat.le_of_ble_eq_true rfl) (Nat.le_of_ble_eq_true rfl) d_MMo_init_41 (fun q41 k41 H hK hP hD hS => ?_)
  have hP : va_P D clM [(h0, .inr (0, [.ref q8, .ref q16, .ref q25, .ref q33, .null, .null, .null, .null, .int 0, .int 0, .int 0, .int 0, .int 0, .int 0, .int 0, .int 0, .int 0, .int 0, .int 0, .int 0, .int 0, .int 0])), (q8, .inl (k8, 1024, .inl (fun _ => 0))), (q16, .inl (k16, 16, .inl (fun _ => 0))), (q25, .inl (k25, 256, .inl (fun _ => 0))), (q33, .inl (k33, 32, .inl (fun _ => 0))), (q41, .inl (k41, 32, .inl (fun _ => 0)))] H := hP
  have hD : va_D A [(h0, .inr (0, [.ref q8, .ref q16, .ref q25, .ref q33, .null, .null, .null, .null, .int 0, .int 0, .int 0, .int 0, .int 0, .int 0, .int 0, .int 0, .int 0, .int 0, .int 0, .int 0, .int 0, .int 0])), (q8, .inl (k8, 1024, .inl (fun _ => 0))), (q16, .inl (k16, 16, .inl (fun _ => 0))), (q25, .inl (k25, 256, .inl (fun _ => 0))), (q33, .inl (k33, 32, .inl (fun _ => 0))), (q41, .inl (k41, 32, .inl (fun _ => 0)))] := hD
  have hK : va_K D clM [(k8, .int), (k16, .int), (k25, .int), (k33, .int), (k41, .int)] s := hK
  refine W.widen (k := 5) (n := 1360) (by omega) (by omega) ?_
  refine va_putF (v := .ref q41) (ty := .array .int) (C := RM_Mo) (T := TM_Mo) hx hb hts iM_Mo tM_Mo tM_Mo_ok nM_Mo hown hK hP hD hS 0 rfl rfl 4 (by decide) (hts _ kq_84) (fun _ h9 => h9) rfl hin rfl (by decide +kernel) rfl rfl (Nat.le_of_ble_eq_true rfl) d_MMo_init_43 (fun H locs hP hD hS => ?_)
  have hP : va_P D clM [(h0, .inr (0, [.ref q8, .ref q16, .ref q25, .ref q33, .ref q41, .null, .null, .null, .int 0, .int 0, .int 0, .int 0, .int 0, .int 0, .int 0, .int 0, .int 0, .int 0, .int 0, .int 0, .int 0, .int 0])), (q8, .inl (k8, 1024, .inl (fun _ => 0))), (q16, .inl (k16, 16, .inl (fun _ => 0))), (q25, .inl (k25, 256, .inl (fun _ => 0))), (q33, .inl (k33, 32, .inl (fun _ => 0))), (q41, .inl (k41, 32, .inl (fun _ => 0)))] H := hP
  have hD : va_D A [(h0, .inr (0, [.ref q8, .ref q16, .ref q25, .ref q33, .ref q41, .null, .null, .null, .int 0, .int 0, .int 0, .int 0, .int 0, .int 0, .int 0, .int 0, .int 0, .int 0, .int 0, .int 0, .int 0, .int 0])), (q8, .inl (k8, 1024, .inl (fun _ => 0))), (q16, .inl (k16, 16, .inl (fun _ => 0))), (q25, .inl (k25, 256, .inl (fun _ => 0))), (q33, .inl (k33, 32, .inl (fun _ => 0))), (q41, .inl (k41, 32, .inl (fun _ => 0)))] := hD
  refine lv_aload_n hx hb d_MMo_init_46 rfl (lv_at hl 0 rfl) ?_
  refine lv_bipush (v := 32) hx hb d_MMo_init_47 (by decide) ?_
  refine va_newa (atype := .int) (a0 := (32, .inl (fun _ => 0))) (ty := .int) (N' := 32) hx hb (hts _ kq_arr) rfl hK hP hD hS hA (fun _ => rfl) (by decide) (by decide) (by decide) (Nat.le_of_ble_eq_true rfl) (Nat.le_of_ble_eq_true rfl) d_MMo_init_49 (fun q49 k49 H hK hP hD hS => ?_)
  have hP : va_P D clM [(h0, .inr (0, [.ref q8, .ref q16, .ref q25, .ref q33, .ref q41, .null, .null, .null, .int 0, .int 0, .int 0, .int 0, .int 0, .int 0, .int 0, .int 0, .int 0, .int 0, .int 0, .int 0, .int 0, .int 0])), (q8, .inl (k8, 1024, .inl (fun _ => 0))), (q16, .inl (k16, 16, .inl (fun _ => 0))), (q25, .inl (k25, 256, .inl (fun _ => 0))), (q33, .inl (k33, 32, .inl (fun _ => 0))), (q41, .inl (k41, 32, .inl (fun _ => 0))), (q49, .inl (k49, 32, .inl (fun _ => 0)))] H := hP
  have hD : va_D A [(h0, .inr (0, [.ref q8, .ref q16, .ref q25, .ref q33, .ref q41, .null, .null, .null, .int 0, .int 0, .int 0, .int 0, .int 0, .int 0, .int 0, .int 0, .int 0, .int 0, .int 0, .int 0, .int 0, .int 0])), (q8, .inl (k8, 1024, .inl (fun _ => 0))), (q16, .inl (k16, 16, .inl (fun _ => 0))), (q25, .inl (k25, 256, .inl (fun _ => 0))), (q33, .inl (k33, 32, .inl (fun _ => 0))), (q41, .inl (k41, 32, .inl (fun _ => 0))), (q49, .inl (k49, 32, .inl (fun _ => 0)))] := hD
  have hK : va_K D clM [(k8, .int), (k16, .int), (k25, .int), (k33, .int), (k41, .int), (k49, .int)] s := hK
  refine W.widen (k := 6) (n := 1392) (by omega) (by omega) ?_
  refine va_putF (v := .ref q49) (ty := .array .int) (C := RM_Mo) (T := TM_Mo) hx hb hts iM_Mo tM_Mo tM_Mo_ok nM_Mo hown hK hP hD hS 0 rfl rfl 5 (by decide) (hts _ kq_85) (fun _ h9 => h9) rfl hin rfl (by decide +kernel) rfl rfl (Nat.le_of_ble_eq_true rfl) d_MMo_init_51 (fun H locs hP hD hS => ?_)
  have hP : va_P D clM [(h0, .inr (0, [.ref q8, .ref q16, .ref q25, .ref q33, .ref q41, .ref q49, .null, .null, .int 0, .int 0, .int 0, .int 0, .int 0, .int 0, .int 0, .int 0, .int 0, .int 0, .int 0, .int 0, .int 0, .int 0])), (q8, .inl (k8, 1024, .inl (fun _ => 0))), (q16, .inl (k16, 16, .inl (fun _ => 0))), (q25, .inl (k25, 256, .inl (fun _ => 0))), (q33, .inl (k33, 32, .inl (fun _ => 0))), (q41, .inl (k41, 32, .inl (fun _ => 0))), (q49, .inl (k49, 32, .inl (fun _ => 0)))] H := hP
  have hD : va_D A [(h0, .inr (0, [.ref q8, .ref q16, .ref q25, .ref q33, .ref q41, .ref q49, .null, .null, .int 0, .int 0, .int 0, .int 0, .int 0, .int 0, .int 0, .int 0, .int 0, .int 0, .int 0, .int 0, .int 0, .int 0])), (q8, .inl (k8, 1024, .inl (fun _ => 0))), (q16, .inl (k16, 16, .inl (fun _ => 0))), (q25, .inl (k25, 256, .inl (fun _ => 0))), (q33, .inl (k33, 32, .inl (fun _ => 0))), (q41, .inl (k41, 32, .inl (fun _ => 0))), (q49, .inl (k49, 32, .inl (fun _ => 0)))] := hD
  refine lv_aload_n hx hb d_MMo_init_54 rfl (lv_at hl 0 rfl) ?_
  refine lv_bipush (v := 32) hx hb d_MMo_init_55 (by decide) ?_
  refine va_newa (atype := .int) (a0 := (32, .inl (fun _ => 0))) (ty := .int) (N' := 32) hx hb (hts _ kq_arr) rfl hK hP hD hS hA (fun _ => rfl) (by decide) (by decide) (by decide) (Nat.le_of_ble_eq_true rfl) (Nat.le_of_ble_eq_true rfl) d_MMo_init_57 (fun q57 k57 H hK hP hD hS => ?_)
  have hP : va_P D clM [(h0, .inr (0, [.ref q8, .ref q16, .ref q25, .ref q33, .ref q41, .ref q49, .null, .null, .int 0, .int 0, .int 0, .int 0, .int 0, .int 0, .int 0, .int 0, .int 0, .int 0, .int 0, .int 0, .int 0, .int 0])), (q8, .inl (k8, 1024, .inl (fun _ => 0))), (q16, .inl (k16, 16, .inl (fun _ => 0))), (q25, .inl (k25, 256, .inl (fun _ => 0))), (q33, .inl (k33, 32, .inl (fun _ => 0))), (q41, .inl (k41, 32, .inl (fun _ => 0))), (q49, .inl (k49, 32, .inl (fun _ => 0))), (q57, .inl (k57, 32, .inl (fun _ => 0)))] H := hP
  have hD : va_D A [(h0, .inr (0, [.ref q8, .ref q16, .ref q25, .ref q33, .ref q41, .ref q49, .null, .null, .int 0, .int 0, .int 0, .int 0, .int 0, .int 0, .int 0, .int 0, .int 0, .int 0, .int 0, .int 0, .int 0, .int 0])), (q8, .inl (k8, 1024, .inl (fun _ => 0))), (q16, .inl (k16, 16, .inl (fun _ => 0))), (q25, .inl (k25, 256, .inl (fun _ => 0))), (q33, .inl (k33, 32, .inl (fun _ => 0))), (q41, .inl (k41, 32, .inl (fun _ => 0))), (q49, .inl (k49, 32, .inl (fun _ => 0))), (q57, .inl (k57, 32, .inl (fun _ => 0)))] := hD
  have hK : va_K D clM [(k8, .int), (k16, .int), (k25, .int), (k33, .int), (k41, .int), (k49, .int), (k57, .int)] s := hK
  refine W.widen (k := 7) (n := 1424) (by omega) (by omega) ?_
  refine va_putF (v := .ref q57) (ty := .array .int) (C := RM_Mo) (T := TM_Mo) hx hb hts iM_Mo tM_Mo tM_Mo_ok nM_Mo hown hK hP hD hS 0 rfl rfl 6 (by decide) (hts _ kq_86) (fun _ h9 => h9) rfl hin rfl (by decide +kernel) rfl rfl (Nat.le_of_ble_eq_true rfl) d_MMo_init_59 (fun H locs hP hD hS => ?_)
  have hP : va_P D clM [(h0, .inr (0, [.ref q8, .ref q16, .ref q25, .ref q33, .ref q41, .ref q49, .ref q57, .null, .int 0, .int 0, .int 0, .int 0, .int 0, .int 0, .int 0, .int 0, .int 0, .int 0, .int 0, .int 0, .int 0, .int 0])), (q8, .inl (k8, 1024, .inl (fun _ => 0))), (q16, .inl (k16, 16, .inl (fun _ => 0))), (q25, .inl (k25, 256, .inl (fun _ => 0))), (q33, .inl (k33, 32, .inl (fun _ => 0))), (q41, .inl (k41, 32, .inl (fun _ => 0))), (q49, .inl (k49, 32, .inl (fun _ => 0))), (q57, .inl (k57, 32, .inl (fun _ => 0)))] H := hP
  have hD : va_D A [(h0, .inr (0, [.ref q8, .ref q16, .ref q25, .ref q33, .ref q41, .ref q49, .ref q57, .null, .int 0, .int 0, .int 0, .int 0, .int 0, .int 0, .int 0, .int 0, .int 0, .int 0, .int 0, .int 0, .int 0, .int 0])), (q8, .inl (k8, 1024, .inl (fun _ => 0))), (q16, .inl (k16, 16, .inl (fun _ => 0))), (q25, .inl (k25, 256, .inl (fun _ => 0))), (q33, .inl (k33, 32, .inl (fun _ => 0))), (q41, .inl (k41, 32, .inl (fun _ => 0))), (q49, .inl (k49, 32, .inl (fun _ => 0))), (q57, .inl (k57, 32, .inl (fun _ => 0)))] := hD
  refine lv_aload_n hx hb d_MMo_init_62 rfl (lv_at hl 0 rfl) ?_
  refine lv_sipush (v := 256) hx hb d_MMo_init_63 (by decide) ?_
  refine va_newa (atype := .int) (a0 := (256, .inl (fun _ => 0))) (ty := .int) (N' := 256) hx hb (hts _ kq_arr) rfl hK hP hD hS hA (fun _ => rfl) (by decide) (by decide) (by decide) (Nat.le_of_ble_eq_true rfl) (Nat.le_of_ble_eq_true rfl) d_MMo_init_66 (fun q66 k66 H hK hP hD hS => ?_)
  have hP : va_P D clM [(h0, .inr (0, [.ref q8, .ref q16, .ref q25, .ref q33, .ref q41, .ref q49, .ref q57, .null, .int 0, .int 0, .int 0, .int 0, .int 0, .int 0, .int 0, .int 0, .int 0, .int 0, .int 0, .int 0, .int 0, .int 0])), (q8, .inl (k8, 1024, .inl (fun _ => 0))), (q16, .inl (k16, 16, .inl (fun _ => 0))), (q25, .inl (k25, 256, .inl (fun _ => 0))), (q33, .inl (k33, 32, .inl (fun _ => 0))), (q41, .inl (k41, 32, .inl (fun _ => 0))), (q49, .inl (k49, 32, .inl (fun _ => 0))), (q57, .inl (k57, 32, .inl (fun _ => 0))), (q66, .inl (k66, 256, .inl (fun _ => 0)))] H := hP
  have hD : va_D A [(h0, .inr (0, [.ref q8, .ref q16, .ref q25, .ref q33, .ref q41, .ref q49, .ref q57, .null, .int 0, .int 0, .int 0, .int 0, .int 0, .int 0, .int 0, .int 0, .int 0, .int 0, .int 0, .int 0, .int 0, .int 0])), (q8, .inl (k8, 1024, .inl (fun _ => 0))), (q16, .inl (k16, 16, .inl (fun _ => 0))), (q25, .inl (k25, 256, .inl (fun _ => 0))), (q33, .inl (k33, 32, .inl (fun _ => 0))), (q41, .inl (k41, 32, .inl (fun _ => 0))), (q49, .inl (k49, 32, .inl (fun _ => 0))), (q57, .inl (k57, 32, .inl (fun _ => 0))), (q66, .inl (k66, 256, .inl (fun _ => 0)))] := hD
  have hK : va_K D clM [(k8, .int), (k16, .int), (k25, .int), (k33, .int), (k41, .int), (k49, .int), (k57, .int), (k66, .int)] s := hK
  refine W.widen (k := 8) (n := 1680) (by omega) (by omega) ?_
  refine va_putF (v := .ref q66) (ty := .array .int) (C := RM_Mo) (T := TM_Mo) hx hb hts iM_Mo tM_Mo tM_Mo_ok nM_Mo hown hK hP hD hS 0 rfl rfl 7 (by decide) (hts _ kq_87) (fun _ h9 => h9) rfl hin rfl (by decide +kernel) rfl rfl (Nat.le_of_ble_eq_true rfl) d_MMo_init_68 (fun H locs hP hD hS => ?_)
  have hP : va_P D clM [(h0, .inr (0, [.ref q8, .ref q16, .ref q25, .ref q33, .ref q41, .ref q49, .ref q57, .ref q66, .int 0, .int 0, .int 0, .int 0, .int 0, .int 0, .int 0, .int 0, .int 0, .int 0, .int 0, .int 0, .int 0, .int 0])), (q8, .inl (k8, 1024, .inl (fun _ => 0))), (q16, .inl (k16, 16, .inl (fun _ => 0))), (q25, .inl (k25, 256, .inl (fun _ => 0))), (q33, .inl (k33, 32, .inl (fun _ => 0))), (q41, .inl (k41, 32, .inl (fun _ => 0))), (q49, .inl (k49, 32, .inl (fun _ => 0))), (q57, .inl (k57, 32, .inl (fun _ => 0))), (q66, .inl (k66, 256, .inl (fun _ => 0)))] H := hP
  have hD : va_D A [(h0, .inr (0, [.ref q8, .ref q16, .ref q25, .ref q33, .ref q41, .ref q49, .ref q57, .ref q66, .int 0, .int 0, .int 0, .int 0, .int 0, .int 0, .int 0, .int 0, .int 0, .int 0, .int 0, .int 0, .int 0, .int 0])), (q8, .inl (k8, 1024, .inl (fun _ => 0))), (q16, .inl (k16, 16, .inl (fun _ => 0))), (q25, .inl (k25, 256, .inl (fun _ => 0))), (q33, .inl (k33, 32, .inl (fun _ => 0))), (q41, .inl (k41, 32, .inl (fun _ => 0))), (q49, .inl (k49, 32, .inl (fun _ => 0))), (q57, .inl (k57, 32, .inl (fun _ => 0))), (q66, .inl (k66, 256, .inl (fun _ => 0)))] := hD
  refine lv_aload_n hx hb d_MMo_init_71 rfl (lv_at hl 0 rfl) ?_
  refine lv_iconst (v := -1) hx hb d_MMo_init_72 (by decide) ?_
  refine va_put (v := .int (-1)) (ty := .int) (C := RM_Mo) (T := TM_Mo) hx hb hts iM_Mo tM_Mo tM_Mo_ok nM_Mo hown hK hP hD hS 0 rfl rfl 12 (by decide) (hts _ kq_88) (fun _ h9 => h9) rfl (by decide +kernel) rfl rfl (Nat.le_of_ble_eq_true rfl) d_MMo_init_73 (fun H locs hP hD hS => ?_)
  have hP : va_P D clM [(h0, .inr (0, [.ref q8, .ref q16, .ref q25, .ref q33, .ref q41, .ref q49, .ref q57, .ref q66, .int 0, .int 0, .int 0, .int 0, .int (-1), .int 0, .int 0, .int 0, .int 0, .int 0, .int 0, .int 0, .int 0, .int 0])), (q8, .inl (k8, 1024, .inl (fun _ => 0))), (q16, .inl (k16, 16, .inl (fun _ => 0))), (q25, .inl (k25, 256, .inl (fun _ => 0))), (q33, .inl (k33, 32, .inl (fun _ => 0))), (q41, .inl (k41, 32, .inl (fun _ => 0))), (q49, .inl (k49, 32, .inl (fun _ => 0))), (q57, .inl (k57, 32, .inl (fun _ => 0))), (q66, .inl (k66, 256, .inl (fun _ => 0)))] H := hP
  have hD : va_D A [(h0, .inr (0, [.ref q8, .ref q16, .ref q25, .ref q33, .ref q41, .ref q49, .ref q57, .ref q66, .int 0, .int 0, .int 0, .int 0, .int (-1), .int 0, .int 0, .int 0, .int 0, .int 0, .int 0, .int 0, .int 0, .int 0])), (q8, .inl (k8, 1024, .inl (fun _ => 0))), (q16, .inl (k16, 16, .inl (fun _ => 0))), (q25, .inl (k25, 256, .inl (fun _ => 0))), (q33, .inl (k33, 32, .inl (fun _ => 0))), (q41, .inl (k41, 32, .inl (fun _ => 0))), (q49, .inl (k49, 32, .inl (fun _ => 0))), (q57, .inl (k57, 32, .inl (fun _ => 0))), (q66, .inl (k66, 256, .inl (fun _ => 0)))] := hD
  exact W.vret hx hb hr (fun t ht hW => ⟨⟨(fun i => ([q8, q16, q25, q33, q41, q49, q57, q66] : List Nat).getD i 0, fun i => ([k8, k16, k25, k33, k41, k49, k57, k66] : List Nat).getD i 0), rfl, trivial, by rw [ht]; exact hP.sub [0, 1, 2, 3, 4, 5, 6, 7, 8] rfl, va_K.moved hW.alike (hK.sub [0, 1, 2, 3, 4, 5, 6, 7] rfl), hD.sub [0, 1, 2, 3, 4, 5, 6, 7, 8] (by decide) rfl⟩, hS.F ht⟩) hS.2.2 d_MMo_init_76
