/-! the law from its entry to its loop (own rows) -/
theorem zl_nw {w : Cond} {args : Array Value} {s : State} (h : zNest w = true) (hz : w.before args s = true) : va_Nw w s := by
  cases w <;> first | exact va_Nw.of rfl hz | cases h
theorem zl_lt {S : Type} {D : va_G} {cl : List vw_C} {ty : List (ClassId × FieldType)} {nw : List Cond} {x : S → va_W} {A : Nat → Prop} {s : State} {u : S} {H : Heap} (h : zW D cl ty nw x A s u H) {q : Nat} (hq : zA (x u) q) : q < H.size := by
  obtain ⟨k, e, hk⟩ := hq
  exact (h.1 k _ hk).lt
theorem zA_ad {w1 w2 : va_W} {q : Nat} (h : zA w1 q) (e : w1.map Prod.fst = w2.map Prod.fst) : zA w2 q := by
  obtain ⟨k, x, hk⟩ := h
  have h1 : (w1.map Prod.fst)[k]? = some q := by rw [List.getElem?_map, hk]; rfl
  rw [e, List.getElem?_map] at h1
  cases h2 : w2[k]? with
  | none => rw [h2] at h1; cases h1
  | some p => rw [h2] at h1; exact ⟨k, p.2, by rw [h2, ← Option.some.inj h1]⟩
theorem va_S_tr {H0 H1 H2 : Heap} {locs : List Loc} (h0 : va_S (fun q : Nat => H0.size ≤ q) H0 H1 []) (h1 : va_S (fun q : Nat => H1.size ≤ q) H1 H2 locs) : va_S (fun q : Nat => H0.size ≤ q) H0 H2 [] :=
  ⟨Nat.le_trans h0.1 h1.1, fun q a1 a2 => (h1.2.1 q (Nat.lt_of_lt_of_le a1 h0.1) (fun h => a2 (Nat.le_trans h0.1 h))).trans (h0.2.1 q a1 a2), fun _ h => by cases h⟩
set_option maxRecDepth 20000 in
theorem ks_0 : Cond.instantiable RX_DM 2 ∈ G0 := mG 90 rfl rfl
set_option maxRecDepth 20000 in
theorem ks_1 : Cond.instantiable RX_St 6 ∈ G0 := mG 98 rfl rfl
set_option maxRecDepth 20000 in
theorem ks_2 : Cond.instantiable RX_Me 1 ∈ G0 := mG 104 rfl rfl
set_option maxRecDepth 20000 in
theorem ks_3 : Cond.instantiable RX_Pr 10 ∈ G0 := mG 151 rfl rfl
set_option maxRecDepth 20000 in
theorem ks_4 : Cond.instantiable RX_In 7 ∈ G0 := mG 157 rfl rfl
set_option maxRecDepth 20000 in
theorem ks_5 : Cond.instantiable RX_Ar 1 ∈ G0 := mG 210 rfl rfl
set_option maxRecDepth 20000 in
theorem ks_6 : Cond.instantiable RX_Tr 1 ∈ G0 := mG 220 rfl rfl
set_option maxRecDepth 20000 in
theorem ks_7 : Cond.instantiable RX_Br 1 ∈ G0 := mG 230 rfl rfl
set_option maxRecDepth 20000 in
theorem ks_8 : Cond.instantiable RX_Oc 2 ∈ G0 := mG 240 rfl rfl
set_option maxRecDepth 20000 in
theorem ks_9 : Cond.instantiable RX_De 3 ∈ G0 := mG 253 rfl rfl
set_option maxRecDepth 20000 in
theorem ks_10 : Cond.instantiable RM_Mo 22 ∈ G0 := mG 836 rfl rfl
set_option maxRecDepth 20000 in
theorem ks_11 : Cond.classLink RL 8 RX_DM ∈ G0 := mG 89 rfl rfl
set_option maxRecDepth 20000 in
theorem ks_12 : Cond.initialized RX_DM ∈ G0 := mG 70 rfl rfl
set_option maxRecDepth 20000 in
theorem ks_13 : Cond.methodLink RL 58 y_XDM_init ∈ G0 := mG 91 rfl rfl
set_option maxRecDepth 20000 in
theorem ks_14 : Cond.instanceMethod y_XDM_init ∈ G0 := mG 92 rfl rfl
set_option maxRecDepth 20000 in
theorem ks_15 : Cond.classLink RL 59 RM_Mo ∈ G0 := mG 835 rfl rfl
set_option maxRecDepth 20000 in
theorem ks_16 : Cond.initialized RM_Mo ∈ G0 := mG 80 rfl rfl
set_option maxRecDepth 20000 in
theorem ks_17 : Cond.methodLink RL 61 y_MMo_init ∈ G0 := mG 837 rfl rfl
set_option maxRecDepth 20000 in
theorem ks_18 : Cond.instanceMethod y_MMo_init ∈ G0 := mG 838 rfl rfl
set_option maxRecDepth 20000 in
theorem ks_19 : Cond.arrayClass .long ∈ G0 := mG 1165 rfl rfl
theorem z_str {args : Array Value} {s : State} {own C : String} {k : Nat} (h : (Cond.exactly (.string own k) C).before args s = true) : ∃ a, (Term.string own k).eval args s none [] s = some (.ref a) := by
  cases hv : (Term.string own k).eval args s none [] s with
  | none => simp [Cond.before, Cond.holds, Cond.value, hv] at h
  | some w =>
    cases w with
    | ref a => exact ⟨a, rfl⟩
    | _ => simp only [Cond.before, Cond.holds, Cond.value, hv] at h; cases hc : s.vm.findClass C <;> (try rw [hc] at h) <;> first | (simp at h; done) | cases h
def u00 : XS := (fun _ => 0, fun _ => 0, fun _ => 0, fun i => if i = 3 then -1 else 0)
def v00 : MS := (fun _ _ => 0, fun i => if i = 4 then -1 else 0)
theorem Rel_00 : Rel u00 v00 := by
  refine ⟨rfl, rfl, ⟨rfl, rfl, rfl, rfl, rfl, rfl, rfl⟩, fun i => ⟨by show (0 : Int) ≤ (0 : Int32).toInt; decide, by show (0 : Int32).toInt < 256; decide⟩, by decide, by decide, by decide, by decide⟩
set_option maxHeartbeats 8000000 in
set_option maxRecDepth 100000 in
/-- the law, from its entry -/
theorem whole_start {p : Program} {e : Env} {s : State} {m : MethodId} {below : List Frame} {meth : Method} {c : Code} (l : Launch) (hl9 : l.stackTraces = false) {sb L : Nat} {xs : Nat → Int32} (hL : L ≤ 4096) (C0 : lw_At p s m meth c sb L xs) : W p l e room_1 s m #[Value.ref sb] below meth c s.heap [] 0 0 (lw_Z below #[Value.ref sb] s) (entryFrame m ([Value.ref sb] : List Value).toArray 8) := by
  obtain ⟨hx, hb, hr, hml, hown, hts1, hX, hbl, hlocks, hgv⟩ := id C0
  have hts : ∀ w ∈ G0, w.before #[Value.ref sb] s = true := fun w h => hts1 w (List.mem_filter.mp h).1
  have hflat := flat_of_before _ hgv
  obtain ⟨c0, iS0, hKn0⟩ := u_known (C := RX_DM) (T := TX_DM) (N := 2) (n := 2) hts iX_DM (hts _ ks_0)
  obtain ⟨c1, iS1, hKn1⟩ := u_known (C := RX_St) (T := TX_St) (N := 6) (n := 6) hts iX_St (hts _ ks_1)
  obtain ⟨c2, iS2, hKn2⟩ := u_known (C := RX_Me) (T := TX_Me) (N := 1) (n := 1) hts iX_Me (hts _ ks_2)
  obtain ⟨c3, iS3, hKn3⟩ := u_known (C := RX_Pr) (T := TX_Pr) (N := 10) (n := 10) hts iX_Pr (hts _ ks_3)
  obtain ⟨c4, iS4, hKn4⟩ := u_known (C := RX_In) (T := TX_In) (N := 7) (n := 7) hts iX_In (hts _ ks_4)
  obtain ⟨c5, iS5, hKn5⟩ := u_known (C := RX_Ar) (T := TX_Ar) (N := 1) (n := 1) hts iX_Ar (hts _ ks_5)
  obtain ⟨c6, iS6, hKn6⟩ := u_known (C := RX_Tr) (T := TX_Tr) (N := 1) (n := 1) hts iX_Tr (hts _ ks_6)
  obtain ⟨c7, iS7, hKn7⟩ := u_known (C := RX_Br) (T := TX_Br) (N := 1) (n := 1) hts iX_Br (hts _ ks_7)
  obtain ⟨c8, iS8, hKn8⟩ := u_known (C := RX_Oc) (T := TX_Oc) (N := 2) (n := 2) hts iX_Oc (hts _ ks_8)
  obtain ⟨c9, iS9, hKn9⟩ := u_known (C := RX_De) (T := TX_De) (N := 3) (n := 3) hts iX_De (hts _ ks_9)
  obtain ⟨D, hKc⟩ : ∃ D : va_G, ∀ (k : Nat) (q : vw_C), clX[k]? = some q → u_Kn s q.1 q.2.1 q.2.2 (D.1 k) (D.2 k) := by
    refine ⟨(fun k => if k = 0 then c0 else if k = 1 then c1 else if k = 2 then c2 else if k = 3 then c3 else if k = 4 then c4 else if k = 5 then c5 else if k = 6 then c6 else if k = 7 then c7 else if k = 8 then c8 else c9, fun k => if k = 0 then iS0 else if k = 1 then iS1 else if k = 2 then iS2 else if k = 3 then iS3 else if k = 4 then iS4 else if k = 5 then iS5 else if k = 6 then iS6 else if k = 7 then iS7 else if k = 8 then iS8 else iS9), ?_⟩
    intro k q hq
    match k, hq with
    | 0, hq => cases hq; exact hKn0
    | 1, hq => cases hq; exact hKn1
    | 2, hq => cases hq; exact hKn2
    | 3, hq => cases hq; exact hKn3
    | 4, hq => cases hq; exact hKn4
    | 5, hq => cases hq; exact hKn5
    | 6, hq => cases hq; exact hKn6
    | 7, hq => cases hq; exact hKn7
    | 8, hq => cases hq; exact hKn8
    | 9, hq => cases hq; exact hKn9
    | k + 10, hq => simp [clX] at hq
  obtain ⟨cm, iSm, hKnm⟩ := u_known (C := RM_Mo) (T := TM_Mo) (N := 22) (n := 22) hts iM_Mo (hts _ ks_10)
  obtain ⟨D2, hKc2⟩ : ∃ D : va_G, ∀ (k : Nat) (q : vw_C), clM[k]? = some q → u_Kn s q.1 q.2.1 q.2.2 (D.1 k) (D.2 k) := by
    refine ⟨(fun _ => cm, fun _ => iSm), ?_⟩
    intro k q hq
    match k, hq with
    | 0, hq => cases hq; exact hKnm
    | k + 1, hq => simp [clM] at hq
  obtain ⟨sa0, hsa0⟩ := z_str (hflat (.exactly (.string "DecimalMachine" 112) "java/lang/String") (by decide +kernel))
  obtain ⟨sa1, hsa1⟩ := z_str (hflat (.exactly (.string "DecimalMachine" 120) "java/lang/String") (by decide +kernel))
  obtain ⟨sa2, hsa2⟩ := z_str (hflat (.exactly (.string "DecimalMachine" 125) "java/lang/String") (by decide +kernel))
  obtain ⟨sa3, hsa3⟩ := z_str (hflat (.exactly (.string "DecimalMachine" 129) "java/lang/String") (by decide +kernel))
  obtain ⟨sa4, hsa4⟩ := z_str (hflat (.exactly (.string "DecimalMachine" 123) "java/lang/String") (by decide +kernel))
  obtain ⟨sa5, hsa5⟩ := z_str (hflat (.exactly (.string "DecimalMachine" 81) "java/lang/String") (by decide +kernel))
  obtain ⟨sa, hsa⟩ : ∃ sa : Nat → Nat, sa 0 = sa0 ∧ sa 1 = sa1 ∧ sa 2 = sa2 ∧ sa 3 = sa3 ∧ sa 4 = sa4 ∧ sa 5 = sa5 := ⟨fun i => ([sa0, sa1, sa2, sa3, sa4, sa5] : List Nat).getD i 0, rfl, rfl, rfl, rfl, rfl, rfl⟩
  obtain ⟨g0, g1, g2, g3, g4, g5⟩ := hsa
  have hEx : zEx (skX sa) (fun q : Nat => s.heap.size ≤ q) s s.heap := by
    refine ⟨zSt.of (hts1 _ (List.mem_of_getElem? (i := 351) (by decide +kernel))) (hflat _ (by decide +kernel)) (fun a h => Nat.not_le.mpr h), zSt.of (hts1 _ (List.mem_of_getElem? (i := 353) (by decide +kernel))) (hflat _ (by decide +kernel)) (fun a h => Nat.not_le.mpr h), ?_, ?_⟩
    · intro q hq
      simp only [skX, List.mem_cons, List.not_mem_nil, or_false] at hq
      rcases hq with rfl | rfl | rfl | rfl | rfl | rfl
      · exact vk_R.of (hts1 (.stringRef RX_DM 112 "an argument or a packed field is not as it must be") (List.mem_of_getElem? (i := 366) (by decide +kernel))) (by rw [g0]; exact hsa0)
      · exact vk_R.of (hts1 (.stringRef RX_DM 120 "an octet is not in memory") (List.mem_of_getElem? (i := 410) (by decide +kernel))) (by rw [g1]; exact hsa1)
      · exact vk_R.of (hts1 (.stringRef RX_DM 125 "fault 1, 6 or 7") (List.mem_of_getElem? (i := 802) (by decide +kernel))) (by rw [g2]; exact hsa2)
      · exact vk_R.of (hts1 (.stringRef RX_DM 129 "fault 8, 9, 10 or 11") (List.mem_of_getElem? (i := 812) (by decide +kernel))) (by rw [g3]; exact hsa3)
      · exact vk_R.of (hts1 (.stringRef RX_DM 123 "fault 5") (List.mem_of_getElem? (i := 801) (by decide +kernel))) (by rw [g4]; exact hsa4)
      · exact vk_R.of (hts1 (.stringRef RX_DM 81 "the machine halts already") (List.mem_of_getElem? (i := 512) (by decide +kernel))) (by rw [g5]; exact hsa5)
    · have hin : ∀ w ∈ exW, w ∈ lw_tbl := zInL _ [505, 326, 403, 805, 328, 330, 332] (by decide +kernel)
      intro w hw
      have h1 := hts1 w (hin w hw)
      have h2 := exW_ok w hw
      cases w <;> first | exact va_Nw.of rfl h1 | cases h2
  have hNc : ∀ q ∈ ncL, va_Nc q.1 q.2 s := by
    intro q hq
    simp only [ncL, List.mem_cons, List.not_mem_nil, or_false] at hq
    rcases hq with rfl | rfl | rfl | rfl | rfl | rfl <;> exact va_Nc.of (hflat _ (by decide +kernel))
  have hNw : ∀ w ∈ nwX, zNest w = true ∧ va_Nw w s := fun w hw => ⟨nwX_ok w hw, zl_nw (nwX_ok w hw) (hts1 w (nwX_in w hw))⟩
  have hNm : ∀ w ∈ nwM, zNest w = true ∧ va_Nw w s := fun w hw => ⟨nwM_ok w hw, zl_nw (nwM_ok w hw) (hts1 w (nwM_in w hw))⟩
  have hN : ∀ w ∈ nwC, va_Nw w s := fun w hw => zl_nw (nwC_ok w hw) (hts1 w (nwC_in w hw))
  have hl := lv_entry ([.ref sb]) (n := 8) (Nat.le_of_ble_eq_true rfl)
  rw [lg_entry_eq]
  generalize (lg_sl ([.ref sb]) ++ List.replicate (8 - (lg_sl ([.ref sb])).length) Slot.unset).toArray = ls at hl ⊢
  have hl : lv_has ls 8 [(0, .ref sb)] := hl
  have hK : va_K D clX [] s := ⟨hKc, fun k q h => by simp at h⟩
  have hK2 : va_K D2 clM [] s := ⟨hKc2, fun k q h => by simp at h⟩
  have hP : va_P D clX [] s.heap := fun k q h => by simp at h
  have hD : va_D (fun q : Nat => s.heap.size ≤ q) [] := ⟨fun i j p q h => by simp at h, fun k q h => by simp at h⟩
  have hS : va_S (fun q : Nat => s.heap.size ≤ q) s.heap s.heap [] := va_S.rf
  have hA : ∀ q : Nat, s.heap.size ≤ q → (fun q : Nat => s.heap.size ≤ q) q := fun _ h => h
  refine va_new (ci := 0) (fs := [.null, .null]) (C := RX_DM) (T := TX_DM) (N := 2) hx hb hts iX_DM tX_DM tX_DM_ok hown (hts _ ks_11) (hts _ ks_0) (hts _ ks_12) hK hP hD hS hA rfl (fun j hj => by rcases (show j = 0 ∨ j = 1 by omega) with rfl | rfl <;> rfl) (Nat.le_of_ble_eq_true rfl) (Nat.le_of_ble_eq_true rfl) d_law_0 (fun q0 H hP hD hS => ?_)
  have hP : va_P D clX [(q0, .inr (0, [.null, .null]))] H := hP
  have hD : va_D (fun q : Nat => s.heap.size ≤ q) [(q0, .inr (0, [.null, .null]))] := hD
  refine W.widen (k := 1) (n := 2) (by omega) (by omega) ?_
  refine lv_dup hx hb d_law_3 rfl ?_
  have hFc := va_free (wc := [(q0, .inr (0, [.null, .null]))]) hD hS hA [0] rfl
  refine va_callv (va_runI (As := []) (rest := [.ref q0]) ⟨hx, hb, hml, hown, hts⟩ (c_XDM_init l D q0 H.size) (cwI 0 hts kg_XDM_init rfl rfl rfl (hts _ ks_12) (hts _ ks_13) (hts _ ks_14) rfl (by decide +kernel) ⟨Nat.le_of_ble_eq_true rfl, Nat.le_of_ble_eq_true rfl⟩) ⟨nC_blind, fun U hU hW => ⟨rfl, by rw [hU], by rw [hU]; exact hP, va_K.moved hW.alike hK, hD.weaken (fun _ _ _ _ => trivial), fun w hw => zNest_warm (nwC_ok w hw) hW (hN w hw)⟩⟩ rfl rfl hl.1 rfl (lv_room (Nat.le_of_ble_eq_true rfl)) d_law_4 ⟨Nat.le_of_ble_eq_true rfl, Nat.le_of_ble_eq_true rfl⟩) hS (fun q _ h => hFc q h) hFc (fun w1 t H1 locs ht hvm hw hB hz1 hk1 hS => ?_)
  obtain ⟨hP1, hK1, hD1⟩ := hB
  rw [ht] at hP1
  have hK1 := va_K.moved hvm.symm hK1
  obtain ⟨a, ha⟩ : ∃ a : Nat → Nat, a = fun i => match i with | 0 => q0 | i + 1 => w1.1 i := ⟨_, rfl⟩
  obtain ⟨k, hk⟩ : ∃ k : Nat → Nat, k = w1.2 := ⟨_, rfl⟩
  have hwX : zW D clX (tyX k) nwX (xW a k) (fun q : Nat => s.heap.size ≤ q) s u00 H1 := ⟨by rw [ha, hk]; exact hP1, by rw [hk]; exact hK1, by rw [ha, hk]; exact hD1.weaken (fun _ _ _ h => hFc _ h), hNw⟩
  have hq0 : q0 = a 0 := by rw [ha]
  subst hq0
  clear hP1 hK1 hD1 ha hk hk1 hz1 hFc hP hD hw
  refine W.widen (k := 13) (n := 1090) (by omega) (by omega) ?_
  refine lv_astore_n (lv' := [(1, .ref (a 0)), (0, .ref sb)]) hx hb d_law_7 rfl hl (by decide) rfl (fun ls hl => ?_)
  refine va_forget (fun q hq => hS.2.2 q hq) ?_
  have hS : va_S (fun q : Nat => s.heap.size ≤ q) s.heap H1 [] := ⟨hS.1, hS.2.1, fun _ h => by cases h⟩
  have hS0 := hS
  clear hS
  refine va_new (ci := 0) (fs := [.null, .null, .null, .null, .null, .null, .null, .null, .int 0, .int 0, .int 0, .int 0, .int 0, .int 0, .int 0, .int 0, .int 0, .int 0, .int 0, .int 0, .int 0, .int 0]) (C := RM_Mo) (T := TM_Mo) (N := 22) hx hb hts iM_Mo tM_Mo tM_Mo_ok hown (hts _ ks_15) (hts _ ks_10) (hts _ ks_16) hK2 (fun k q h => by simp at h) (⟨fun i j p q h => by simp at h, fun k q h => by simp at h⟩ : va_D (fun q : Nat => H1.size ≤ q) []) (va_S.rf (H0 := H1)) (fun _ h => h) rfl (fun j hj => by rcases (show j = 0 ∨ j = 1 ∨ j = 2 ∨ j = 3 ∨ j = 4 ∨ j = 5 ∨ j = 6 ∨ j = 7 ∨ j = 8 ∨ j = 9 ∨ j = 10 ∨ j = 11 ∨ j = 12 ∨ j = 13 ∨ j = 14 ∨ j = 15 ∨ j = 16 ∨ j = 17 ∨ j = 18 ∨ j = 19 ∨ j = 20 ∨ j = 21 by omega) with rfl | rfl | rfl | rfl | rfl | rfl | rfl | rfl | rfl | rfl | rfl | rfl | rfl | rfl | rfl | rfl | rfl | rfl | rfl | rfl | rfl | rfl <;> rfl) (Nat.le_of_ble_eq_true rfl) (Nat.le_of_ble_eq_true rfl) d_law_8 (fun q1 H2 hP hD hS => ?_)
  have hP : va_P D2 clM [(q1, .inr (0, [.null, .null, .null, .null, .null, .null, .null, .null, .int 0, .int 0, .int 0, .int 0, .int 0, .int 0, .int 0, .int 0, .int 0, .int 0, .int 0, .int 0, .int 0, .int 0]))] H2 := hP
  have hD : va_D (fun q : Nat => H1.size ≤ q) [(q1, .inr (0, [.null, .null, .null, .null, .null, .null, .null, .null, .int 0, .int 0, .int 0, .int 0, .int 0, .int 0, .int 0, .int 0, .int 0, .int 0, .int 0, .int 0, .int 0, .int 0]))] := hD
  refine W.widen (k := 14) (n := 1112) (by omega) (by omega) ?_
  refine lv_dup hx hb d_law_11 rfl ?_
  have hAm : ∀ q : Nat, H1.size ≤ q → (fun q : Nat => H1.size ≤ q) q := fun _ h => h
  generalize hHH : H1 = HB at hwX hS hD hS0 hAm
  have hFc := va_free (wc := [(q1, .inr (0, [.null, .null, .null, .null, .null, .null, .null, .null, .int 0, .int 0, .int 0, .int 0, .int 0, .int 0, .int 0, .int 0, .int 0, .int 0, .int 0, .int 0, .int 0, .int 0]))]) hD hS hAm [0] rfl
  refine va_callv (va_runI (As := []) (rest := [.ref q1]) ⟨hx, hb, hml, hown, hts⟩ (c_MMo_init l D2 q1 H2.size) (cwI 0 hts kg_MMo_init rfl rfl rfl (hts _ ks_16) (hts _ ks_17) (hts _ ks_18) rfl (by decide +kernel) ⟨Nat.le_of_ble_eq_true rfl, Nat.le_of_ble_eq_true rfl⟩) ⟨nC_blind, fun U hU hW => ⟨rfl, by rw [hU], by rw [hU]; exact hP, va_K.moved hW.alike hK2, hD.weaken (fun _ _ _ _ => trivial), fun w hw => zNest_warm (nwC_ok w hw) hW (hN w hw)⟩⟩ rfl rfl hl.1 rfl (lv_room (Nat.le_of_ble_eq_true rfl)) d_law_12 ⟨Nat.le_of_ble_eq_true rfl, Nat.le_of_ble_eq_true rfl⟩) hS (fun q _ h => hFc q h) hFc (fun w2 t H3 locs ht hvm hw hB hz1 hk1 hS => ?_)
  obtain ⟨hP1, hK1, hD1⟩ := hB
  rw [ht] at hP1
  have hK1 := va_K.moved hvm.symm hK1
  obtain ⟨b, hbe⟩ : ∃ b : Nat → Nat, b = fun i => match i with | 0 => q1 | i + 1 => w2.1 i := ⟨_, rfl⟩
  obtain ⟨j, hje⟩ : ∃ j : Nat → Nat, j = w2.2 := ⟨_, rfl⟩
  have hDM : va_D (fun q : Nat => HB.size ≤ q) (mW b j v00) := by rw [hbe, hje]; exact hD1.weaken (fun _ _ _ h => hFc _ h)
  have hwM : zW D2 clM (tyM j) nwM (mW b j) (fun q : Nat => s.heap.size ≤ q) s v00 H3 := ⟨by rw [hbe, hje]; exact hP1, by rw [hje]; exact hK1, hDM.weaken (fun _ _ _ h => Nat.le_trans hS0.1 h), hNm⟩
  have hq1 : q1 = b 0 := by rw [hbe]
  subst hq1
  clear hP1 hK1 hD1 hbe hje hk1 hz1 hFc hP hD hw
  have hXlt : ∀ q, zA (xW a k u00) q → q < HB.size := fun q hq => zl_lt hwX hq
  have hwX := zW_keep hwX (B := fun q : Nat => HB.size ≤ q) (fun q h1 h2 => hS.2.1 q h1 h2) (fun q hq h2 => absurd (hXlt q hq) (Nat.not_lt.mpr h2))
  refine W.widen (k := 22) (n := 2792) (by omega) (by omega) ?_
  refine lv_astore_n (lv' := [(2, .ref (b 0)), (1, .ref (a 0)), (0, .ref sb)]) hx hb d_law_15 rfl hl (by decide) rfl (fun ls hl => ?_)
  refine va_forget (fun q hq => Nat.le_trans hS0.1 (hS.2.2 q hq)) ?_
  have hS3 := va_S_tr hS0 hS
  clear hS
  refine lv_iconst (v := 1) hx hb d_law_16 (by decide) ?_
  refine va_newa (D := D) (cl := clX) (tys := []) (ws := []) (H0 := H3) (A := fun q : Nat => H3.size ≤ q) (atype := .long) (a0 := (1, .inr (.inl (fun _ => 0)))) (ty := .long) (N' := 1) hx hb (hts _ ks_19) rfl hK (fun k q h => by simp at h) ⟨fun i j p q h => by simp at h, fun k q h => by simp at h⟩ va_S.rf (fun _ h => h) (fun _ => rfl) (by decide) (by decide) (by decide) (Nat.le_of_ble_eq_true rfl) (Nat.le_of_ble_eq_true rfl) d_law_17 (fun ao ko H4 hKo hPo hDo hS => ?_)
  have hPo : va_P D clX [(ao, .inl (ko, 1, .inr (.inl (fun _ => 0))))] H4 := hPo
  have hDo : va_D (fun q : Nat => H3.size ≤ q) [(ao, .inl (ko, 1, .inr (.inl (fun _ => 0))))] := hDo
  have hKo : va_K D clX [(ko, .long)] s := hKo
  have hao : H3.size ≤ ao := hDo.2 0 _ rfl
  have hMlt : ∀ q, zA (mW b j v00) q → q < H3.size := fun q hq => zl_lt hwM hq
  have hHB : HB.size ≤ H3.size := by have h9 := hS3.1; have h8 := hMlt (b 0) ⟨0, _, rfl⟩; have h7 := hDM.2 0 _ rfl; exact Nat.le_trans h7 (Nat.le_of_lt h8)
  have hwX := zW_keep hwX (B := fun q : Nat => H3.size ≤ q) (fun q h1 h2 => hS.2.1 q h1 h2) (fun q hq h2 => absurd (hXlt q hq) (Nat.not_lt.mpr (Nat.le_trans hHB h2)))
  have hwM := zW_keep hwM (B := fun q : Nat => H3.size ≤ q) (fun q h1 h2 => hS.2.1 q h1 h2) (fun q hq h2 => absurd (hMlt q hq) (Nat.not_lt.mpr h2))
  have hS4 := va_S_tr hS3 hS
  have hS4 : va_S (fun q : Nat => s.heap.size ≤ q) s.heap H4 [] := hS4
  have hwL : zW D clX (tyL k ko) nwX (xL a k ao ko) (fun q : Nat => s.heap.size ≤ q) s (u00, fun _ => 0) H4 := by
    refine ⟨hwX.1.app hPo, hwX.2.1.app hKo, hwX.2.2.1.app (hDo.weaken (fun _ _ _ h => Nat.le_trans hS3.1 h)) (fun i j p q hp hq e9 => ?_), hNw⟩
    have h1 := hXlt p.1 ⟨i, p.2, hp⟩
    have h2 : H3.size ≤ q.1 := hDo.2 j q hq
    rw [e9] at h1
    exact absurd h1 (Nat.not_lt.mpr (Nat.le_trans hHB h2))
  have hdis : ∀ (w : XS × (Nat → Int64)) (v : MS) (q : Nat), zA (xL a k ao ko w) q → ¬ zA (mW b j v) q := by
    intro w v q h1 h2
    have h2 : zA (mW b j v00) q := zA_ad h2 rfl
    have h3 : zA (xL a k ao ko (u00, fun _ => 0)) q := zA_ad h1 rfl
    obtain ⟨i, e9, hi⟩ := h3
    rcases List.mem_append.mp (List.mem_of_getElem? hi) with h | h
    · obtain ⟨i2, hi2⟩ := List.getElem?_of_mem h
      have h4 := hXlt q ⟨i2, _, hi2⟩
      obtain ⟨i3, e3, hi3⟩ := h2
      exact absurd h4 (Nat.not_lt.mpr (hDM.2 i3 _ hi3))
    · simp only [List.mem_cons, List.not_mem_nil, or_false, Prod.mk.injEq] at h
      have h4 := hMlt q h2
      rw [h.1] at h4
      exact absurd h4 (Nat.not_lt.mpr hao)
  refine W.widen (k := 23) (n := 2793) (by omega) (by omega) ?_
  refine lv_astore_n (lv' := [(3, .ref ao), (2, .ref (b 0)), (1, .ref (a 0)), (0, .ref sb)]) hx hb d_law_19 rfl hl (by decide) rfl (fun ls hl => ?_)
  refine lv_iconst (v := 0) hx hb d_law_20 (by decide) ?_
  refine lv_istore (lv' := [(4, .int 0), (3, .ref ao), (2, .ref (b 0)), (1, .ref (a 0)), (0, .ref sb)]) hx hb d_law_21 hl (by decide) rfl (fun ls hl => ?_)
  exact law_loop l hl9 hL C0 D D2 a k b j sa ao ko hdis hEx hNc (L + 1) 0 u00 v00 (fun _ => 0) 0 H4 [] ls (by omega) (by omega) rfl Rel_00 hwL hwM hS4 (lv_sub hl [4, 3, 2, 1, 0] rfl)
