/-! own words for pure functions that follow the code: a name, a pair, a meeting point, a loop -/
def bI (b : Bool) : Int32 := match b with
  | true => 1
  | false => 0
theorem nar_bI (b : Bool) : narrow .boolean (.int (bI b)) = .int (bI b) := by cases b <;> rfl
def nm {α β : Type} (e : α) (k : α → β) : β := k e
def pr {α β γ : Type} (e : α × β) (k : α → β → γ) : γ := k e.1 e.2
def jn {α β : Type} (t : α → β) (k : α) : β := t k
def lpN {α : Type} : Nat → (α → α) → α → α
  | 0, _, d => d
  | n + 1, B, d => B (lpN n B d)
theorem nm_eq {α β : Type} {x e : α} {k : α → β} (h : x = e) : nm e k = k x := by rw [h]; rfl
theorem pr_eq {α β γ : Type} {r : α} {u : β} {e : α × β} {k : α → β → γ} (h : (r, u) = e) : pr e k = k r u := by rw [← h]; rfl
theorem jn_cut {α β : Type} {t : α → β} {k : α} {F : β} {G : Prop} (hf : F = jn t k) (J : α → Prop) (h1 : J k) (h2 : ∀ K, J K → F = t K → G) : G := h2 k h1 hf
theorem lp_cut {α : Type} {B : α → α} {d : α} (J : Nat → α → Prop) (h0 : J 0 d) (hs : ∀ n L, J n L → J (n + 1) (B L)) : ∀ n, J n (lpN n B d)
  | 0 => h0
  | n + 1 => hs n _ (lp_cut J h0 hs n)
theorem z_inc {i b : Int32} (c : i.toInt < b.toInt) : (i + 1).toInt = i.toInt + 1 := by
  have h1 := i.le_toInt
  have h2 := b.toInt_lt
  have h3 : (1 : Int32).toInt = 1 := by decide
  rw [Int32.toInt_add, h3]
  exact Int.bmod_eq_of_le (by omega) (by omega)
theorem z_dec {i : Int32} (c : 0 ≤ i.toInt) : (i + (-1)).toInt = i.toInt - 1 := by
  have h2 := i.toInt_lt
  have h3 : (-1 : Int32).toInt = -1 := by decide
  rw [Int32.toInt_add, h3]
  rw [Int.bmod_eq_of_le (by omega) (by omega)]
  omega
theorem mu_up {i b x : Int32} {n : Nat} (c : ¬ b ≤ i) (e : x = i + 1) (h : (b.toInt - i.toInt).toNat < n + 1) : (b.toInt - x.toInt).toNat < n := by
  rw [Int32.le_iff_toInt_le] at c
  have h1 := z_inc (i := i) (b := b) (by omega)
  subst e
  omega
theorem inv_up {i b x : Int32} (c : ¬ b ≤ i) (e : x = i + 1) (h : ¬ i < 0) : ¬ x < 0 := by
  rw [Int32.le_iff_toInt_le] at c
  rw [Int32.lt_iff_toInt_lt] at h ⊢
  have h0 : (0 : Int32).toInt = 0 := by decide
  have h1 := z_inc (i := i) (b := b) (by omega)
  subst e
  omega
theorem mu_dn {i x : Int32} {n : Nat} (c : ¬ i < 0) (e : x = i + (-1)) (h : (i.toInt + 1).toNat < n + 1) : (x.toInt + 1).toNat < n := by
  rw [Int32.lt_iff_toInt_lt] at c
  have h0 : (0 : Int32).toInt = 0 := by decide
  have h1 := z_dec (i := i) (by omega)
  subst e
  omega
theorem z_in1024 {i : Int32} (h0 : ¬ i < 0) (h1 : ¬ 1024 ≤ i) : vp_in i 1024 := by
  rw [vp_in_iff]
  rw [Int32.lt_iff_toInt_lt] at h0
  rw [Int32.le_iff_toInt_le] at h1
  have e0 : (0 : Int32).toInt = 0 := by decide
  have e1 : (1024 : Int32).toInt = 1024 := by decide
  omega
theorem z_in16 {i : Int32} (h0 : ¬ i < 0) (h1 : ¬ 16 ≤ i) : vp_in i 16 := by
  rw [vp_in_iff]
  rw [Int32.lt_iff_toInt_lt] at h0
  rw [Int32.le_iff_toInt_le] at h1
  have e0 : (0 : Int32).toInt = 0 := by decide
  have e1 : (16 : Int32).toInt = 16 := by decide
  omega
theorem z_in15 (x : Int32) : vp_in (x &&& 15) 16 := pk_andIn x 4 (by decide) (by decide)
/-! the world of a side: what its cells are at the pure state u -/
def zNest (w : Cond) : Bool := match w with
  | .fieldLinkNest .. => true
  | .methodLinkNest .. => true
  | _ => false
theorem zNest_warm {w : Cond} {s U : State} (h : zNest w = true) (hW : s.WarmedH U.vm) (hz : va_Nw w s) : va_Nw w U := by
  cases w <;> first | exact va_Nw.warmF hW hz | exact va_Nw.warmM hW hz | cases h
theorem zNest_same {w : Cond} {s U : State} (h : zNest w = true) (hv : s.vm = U.vm) (hz : va_Nw w s) : va_Nw w U := by
  cases w <;> first | exact va_Nw.same rfl hv hz | cases h
def zA (ws : va_W) : Nat → Prop := fun q => ∃ (k : Nat) (x : va_E), ws[k]? = some (q, x)
def zW {S : Type} (D : va_G) (cl : List vw_C) (ty : List (ClassId × FieldType)) (nw : List Cond) (x : S → va_W) (A : Nat → Prop) (U : State) (u : S) (H : Heap) : Prop :=
  va_P D cl (x u) H ∧ va_K D cl ty U ∧ va_D A (x u) ∧ ∀ w ∈ nw, zNest w = true ∧ va_Nw w U
def zP {S : Type} (D : va_G) (cl : List vw_C) (ty : List (ClassId × FieldType)) (nw : List Cond) (x : S → va_W) (av : List Value) (u : S) : Array Value → State → Prop := fun v U => v = av.toArray ∧ zW D cl ty nw x (fun _ => True) U u U.heap
def zQR (V : Value) : Array Value → State → Outcome → State → Prop := fun _ st oc t => oc = .returned (some V) ∧ t.heap = st.heap
def zQ {S : Type} (D : va_G) (cl : List vw_C) (x : S → va_W) (u : S) (V : Option Value) (U' : S) : Array Value → State → Outcome → State → Prop := fun _ st oc t => oc = .returned V ∧ (va_P D cl (x U') t.heap ∧ va_D (zA (x u)) (x U')) ∧ va_F (zA (x u)) st t
def zR {S : Type} (l : Launch) (y : MethodName) (ws : List Cond) (rm : Room) (D : va_G) (cl : List vw_C) (ty : List (ClassId × FieldType)) (nw : List Cond) (x : S → va_W) (av : List Value) (u : S) (V : Value) : Prop := Met l y ws rm (zP D cl ty nw x av u) (zQR V) 0 0 (fun _ => False)
def zRi {S : Type} (l : Launch) (y : MethodName) (ws : List Cond) (rm : Room) (D : va_G) (cl : List vw_C) (ty : List (ClassId × FieldType)) (nw : List Cond) (x : S → va_W) (av : List Value) (u : S) (F : Int32) : Prop := zR l y ws rm D cl ty nw x av u (.int F)
def zRz {S : Type} (l : Launch) (y : MethodName) (ws : List Cond) (rm : Room) (D : va_G) (cl : List vw_C) (ty : List (ClassId × FieldType)) (nw : List Cond) (x : S → va_W) (av : List Value) (u : S) (F : Bool) : Prop := zR l y ws rm D cl ty nw x av u (.int (bI F))
def zRl {S : Type} (l : Launch) (y : MethodName) (ws : List Cond) (rm : Room) (D : va_G) (cl : List vw_C) (ty : List (ClassId × FieldType)) (nw : List Cond) (x : S → va_W) (av : List Value) (u : S) (F : Int64) : Prop := zR l y ws rm D cl ty nw x av u (.long F)
def zM {S : Type} (l : Launch) (y : MethodName) (ws : List Cond) (rm : Room) (D : va_G) (cl : List vw_C) (ty : List (ClassId × FieldType)) (nw : List Cond) (x : S → va_W) (av : List Value) (u : S) (V : Option Value) (U' : S) : Prop := Met l y ws rm (zP D cl ty nw x av u) (zQ D cl x u V U') 0 0 (zA (x u))
def zMi {S : Type} (l : Launch) (y : MethodName) (ws : List Cond) (rm : Room) (D : va_G) (cl : List vw_C) (ty : List (ClassId × FieldType)) (nw : List Cond) (x : S → va_W) (av : List Value) (u : S) (F : Int32 × S) : Prop := zM l y ws rm D cl ty nw x av u (some (.int F.1)) F.2
def zMz {S : Type} (l : Launch) (y : MethodName) (ws : List Cond) (rm : Room) (D : va_G) (cl : List vw_C) (ty : List (ClassId × FieldType)) (nw : List Cond) (x : S → va_W) (av : List Value) (u : S) (F : Bool × S) : Prop := zM l y ws rm D cl ty nw x av u (some (.int (bI F.1))) F.2
def zMl {S : Type} (l : Launch) (y : MethodName) (ws : List Cond) (rm : Room) (D : va_G) (cl : List vw_C) (ty : List (ClassId × FieldType)) (nw : List Cond) (x : S → va_W) (av : List Value) (u : S) (F : Int64 × S) : Prop := zM l y ws rm D cl ty nw x av u (some (.long F.1)) F.2
def zMv {S : Type} (l : Launch) (y : MethodName) (ws : List Cond) (rm : Room) (D : va_G) (cl : List vw_C) (ty : List (ClassId × FieldType)) (nw : List Cond) (x : S → va_W) (av : List Value) (u : S) (F : S) : Prop := zM l y ws rm D cl ty nw x av u none F
theorem zW_at {S : Type} {D : va_G} {cl : List vw_C} {ty : List (ClassId × FieldType)} {nw : List Cond} {x : S → va_W} {A : Nat → Prop} {s U : State} {u : S} {H : Heap} (h : zW D cl ty nw x A s u H) (hU : U.heap = H) (hW : s.WarmedH U.vm) : zW D cl ty nw x (fun _ => True) U u U.heap :=
  ⟨by rw [hU]; exact h.1, va_K.moved hW.alike h.2.1, h.2.2.1.weaken (fun _ _ _ _ => trivial), fun w hw => ⟨(h.2.2.2 w hw).1, zNest_warm (h.2.2.2 w hw).1 hW (h.2.2.2 w hw).2⟩⟩
theorem zP_blind {S : Type} {D : va_G} {cl : List vw_C} {ty : List (ClassId × FieldType)} {nw : List Cond} {x : S → va_W} {av : List Value} {u : S} : FrameBlind (zP D cl ty nw x av u) := by
  intro a U g mk q
  obtain ⟨q0, qP, qK, qD, qN⟩ := q
  exact ⟨q0, qP, va_K.moved (u := U) (U := U.calling g mk a) (Vm.Alike.refl U.vm) qK, qD, fun w hw => ⟨(qN w hw).1, zNest_same (s := U) (U := U.calling g mk a) (qN w hw).1 rfl (qN w hw).2⟩⟩
section ZC
variable {p : Program} {l : Launch} {e : Env} {R : Room} {s : State} {m : MethodId} {args : Array Value} {below : List Frame} {meth : Method} {c : Code} {H : Heap} {locs : List Loc} {cells slots : Nat} {Q : State → Prop}
variable {cc : ByteArray} {pc : Nat} {ls : Array Slot} {rest st0 : List Value} {S : Type} {D : va_G} {cl : List vw_C} {ty : List (ClassId × FieldType)} {nw : List Cond} {x : S → va_W} {A : Nat → Prop} {u : S} {H0 : Heap} {a : Array Value}
variable {y : MethodName} {bytes : ByteArray} {maxL nL n index : Nat} {ret : Option FieldType} {ws : List Cond} {rm : Room} {Qc : Array Value → State → Outcome → State → Prop} {free : Addr → Prop} {Ts : List Cond} {own C : String} {b : Addr} {As : List Value}
theorem z_topz {z : Bool} (k : ∀ y : Bool, y = z → W p l e R s m args below meth c H locs cells slots Q (F0 m pc ls (.int (bI y) :: rest))) : W p l e R s m args below meth c H locs cells slots Q (F0 m pc ls (.int (bI z) :: rest)) := k z rfl
theorem z_runV (Sx : CallFix p m c cc nL s args Ts own) (hM : Met l y ws rm (zP D cl ty nw x (.ref b :: As) u) Qc 0 0 free) (cw : CallW R s args own C index y bytes maxL ret ws rm 0 0 n) (hw : zW D cl ty nw x A s u H) (q0 : Nat) {ci N : Nat} {fs : List Value} {T : u_T} (he : (x u)[q0]? = some (b, .inr (ci, fs))) (hc : cl[ci]? = some (C, T, N))
    (hsize : ls.size = nL) (hstack : st0 = As.reverse ++ .ref b :: rest) (hW : 2 * (F0 m pc ls st0).monitorRoom + (rest.map fun v => v.category).sum ≤ 8) (hdg : decode cc pc = .ok (.invokevirtual index, 3)) (hcs : cells ≤ R.cells ∧ slots ≤ R.slots) (hn : As.length = n := by rfl) :
    va_Run p l e R s m args below meth c H locs cells slots 0 0 (F0 m pc ls st0) rest (Qc (Value.ref b :: As).toArray) free :=
  va_runV Sx hM cw ⟨zP_blind, va_recv hw.2.1 hw.1 hc he, fun _ hU hW => ⟨rfl, zW_at hw hU hW⟩⟩ rfl hn hsize hstack hW hdg hcs
theorem z_runS (Sx : CallFix p m c cc nL s args Ts own) (hM : Met l y ws rm (zP D cl ty nw x As u) Qc 0 0 free) (cw : CallB R s args own index y bytes maxL ret ws rm 0 0 n ∧ (Cond.static y).before args s = true) (hw : zW D cl ty nw x A s u H)
    (hsize : ls.size = nL) (hstack : st0 = As.reverse ++ rest) (hW : 2 * (F0 m pc ls st0).monitorRoom + (rest.map fun v => v.category).sum ≤ 8) (hdg : decode cc pc = .ok (.invokestatic index, 3)) (hcs : cells ≤ R.cells ∧ slots ≤ R.slots) (hn : As.length = n := by rfl) :
    va_Run p l e R s m args below meth c H locs cells slots 0 0 (F0 m pc ls st0) rest (Qc As.toArray) free :=
  va_runS Sx hM cw ⟨zP_blind, fun _ hU hW => ⟨rfl, zW_at hw hU hW⟩⟩ rfl hn hsize hstack hW hdg hcs
theorem z_rV {V : Value} (hr : va_Run p l e R s m args below meth c H locs cells slots 0 0 (F0 m pc ls st0) rest (zQR V a) (fun _ => False)) (kk : W p l e R s m args below meth c H locs cells slots Q (F0 m (pc + 3) ls (V :: rest))) : W p l e R s m args below meth c H locs cells slots Q (F0 m pc ls st0) := by
  intro T hT X
  obtain ⟨v, st₀, t, T', L, h0, X', hL, e1, e2, ⟨hv, hh⟩, st⟩ := hr T hT X
  cases hv
  obtain ⟨t2, a1, b1⟩ := kk T' (by rw [e1, hh, h0]) (Stand.forget X' (fun q h => (hL q h).elim))
  exact ⟨t2, st t2 a1, b1⟩
theorem z_ri {F : Int32} (hr : va_Run p l e R s m args below meth c H locs cells slots 0 0 (F0 m pc ls st0) rest (zQR (.int F) a) (fun _ => False)) (kk : ∀ r : Int32, r = F → W p l e R s m args below meth c H locs cells slots Q (F0 m (pc + 3) ls (.int r :: rest))) : W p l e R s m args below meth c H locs cells slots Q (F0 m pc ls st0) := z_rV hr (kk F rfl)
theorem z_rz {F : Bool} (hr : va_Run p l e R s m args below meth c H locs cells slots 0 0 (F0 m pc ls st0) rest (zQR (.int (bI F)) a) (fun _ => False)) (kk : ∀ r : Bool, r = F → W p l e R s m args below meth c H locs cells slots Q (F0 m (pc + 3) ls (.int (bI r) :: rest))) : W p l e R s m args below meth c H locs cells slots Q (F0 m pc ls st0) := z_rV hr (kk F rfl)
theorem z_rl {F : Int64} (hr : va_Run p l e R s m args below meth c H locs cells slots 0 0 (F0 m pc ls st0) rest (zQR (.long F) a) (fun _ => False)) (kk : ∀ r : Int64, r = F → W p l e R s m args below meth c H locs cells slots Q (F0 m (pc + 3) ls (.long r :: rest))) : W p l e R s m args below meth c H locs cells slots Q (F0 m pc ls st0) := z_rV hr (kk F rfl)
theorem z_wV {V : Option Value} {F : S} (hr : va_Run p l e R s m args below meth c H locs cells slots 0 0 (F0 m pc ls st0) rest (zQ D cl x u V F a) (zA (x u))) (hw : zW D cl ty nw x A s u H) (hS : va_S A H0 H locs)
    (kk : ∀ (H1 : Heap) (locs1 : List Loc), zW D cl ty nw x A s F H1 → va_S A H0 H1 locs1 → W p l e R s m args below meth c H1 locs1 cells slots Q (F0 m (pc + 3) ls (V.toList ++ rest))) : W p l e R s m args below meth c H locs cells slots Q (F0 m pc ls st0) := by
  intro T hT X
  obtain ⟨v, st₀, t, T', L, h0, X', hL, e1, e2, ⟨hv, ⟨hP, hD⟩, hz, hk⟩, st⟩ := hr T hT X
  cases hv
  rw [h0] at hz hk
  have hAA : ∀ q, zA (x u) q → A q := fun q h => by
    obtain ⟨k, e9, h9⟩ := h
    exact hw.2.2.1.2 k (q, e9) h9
  obtain ⟨t2, a1, b1⟩ := kk T'.heap (locs ++ L) ⟨by rw [e1]; exact hP, hw.2.1, hD.weaken (fun _ _ _ h => hAA _ h), hw.2.2.2⟩
    ⟨Nat.le_trans hS.1 (by rw [e1]; exact hz), fun q h1 h2 => by rw [e1, hk q (Nat.lt_of_lt_of_le h1 hS.1) (fun z => h2 (hAA q z))]; exact hS.2.1 q h1 h2, fun q hq => by
      rcases List.mem_append.mp hq with h | h
      · exact hS.2.2 q h
      · exact hAA _ (hL q h)⟩ T' rfl X'
  exact ⟨t2, st t2 a1, b1⟩
theorem z_wv {F : S} (hr : va_Run p l e R s m args below meth c H locs cells slots 0 0 (F0 m pc ls st0) rest (zQ D cl x u none F a) (zA (x u))) (hw : zW D cl ty nw x A s u H) (hS : va_S A H0 H locs)
    (kk : ∀ (u' : S) (H1 : Heap) (locs1 : List Loc), u' = F → zW D cl ty nw x A s u' H1 → va_S A H0 H1 locs1 → W p l e R s m args below meth c H1 locs1 cells slots Q (F0 m (pc + 3) ls rest)) : W p l e R s m args below meth c H locs cells slots Q (F0 m pc ls st0) := z_wV hr hw hS (fun H1 locs1 => kk F H1 locs1 rfl)
theorem z_wi {F : Int32 × S} (hr : va_Run p l e R s m args below meth c H locs cells slots 0 0 (F0 m pc ls st0) rest (zQ D cl x u (some (.int F.1)) F.2 a) (zA (x u))) (hw : zW D cl ty nw x A s u H) (hS : va_S A H0 H locs)
    (kk : ∀ (r : Int32) (u' : S) (H1 : Heap) (locs1 : List Loc), (r, u') = F → zW D cl ty nw x A s u' H1 → va_S A H0 H1 locs1 → W p l e R s m args below meth c H1 locs1 cells slots Q (F0 m (pc + 3) ls (.int r :: rest))) : W p l e R s m args below meth c H locs cells slots Q (F0 m pc ls st0) := z_wV hr hw hS (fun H1 locs1 => kk F.1 F.2 H1 locs1 rfl)
theorem z_wz {F : Bool × S} (hr : va_Run p l e R s m args below meth c H locs cells slots 0 0 (F0 m pc ls st0) rest (zQ D cl x u (some (.int (bI F.1))) F.2 a) (zA (x u))) (hw : zW D cl ty nw x A s u H) (hS : va_S A H0 H locs)
    (kk : ∀ (r : Bool) (u' : S) (H1 : Heap) (locs1 : List Loc), (r, u') = F → zW D cl ty nw x A s u' H1 → va_S A H0 H1 locs1 → W p l e R s m args below meth c H1 locs1 cells slots Q (F0 m (pc + 3) ls (.int (bI r) :: rest))) : W p l e R s m args below meth c H locs cells slots Q (F0 m pc ls st0) := z_wV hr hw hS (fun H1 locs1 => kk F.1 F.2 H1 locs1 rfl)
theorem z_wl {F : Int64 × S} (hr : va_Run p l e R s m args below meth c H locs cells slots 0 0 (F0 m pc ls st0) rest (zQ D cl x u (some (.long F.1)) F.2 a) (zA (x u))) (hw : zW D cl ty nw x A s u H) (hS : va_S A H0 H locs)
    (kk : ∀ (r : Int64) (u' : S) (H1 : Heap) (locs1 : List Loc), (r, u') = F → zW D cl ty nw x A s u' H1 → va_S A H0 H1 locs1 → W p l e R s m args below meth c H1 locs1 cells slots Q (F0 m (pc + 3) ls (.long r :: rest))) : W p l e R s m args below meth c H locs cells slots Q (F0 m pc ls st0) := z_wV hr hw hS (fun H1 locs1 => kk F.1 F.2 H1 locs1 rfl)
theorem z_put (hexec : p.tables.exec = Jvm.exec) (hb : c.code = cc) {ref : String} {T : u_T} {N ci : Nat} (hts : ∀ w ∈ Ts, w.before args s = true) (hin : ∀ w ∈ u_ws C T N, w ∈ Ts) (ty0 : Nat → FieldType) (hty : ∀ k, k < N → parseFieldDescriptor (T k).2.2.1 = some (ty0 k)) (hnm : ∀ a, a < N → ∀ b, b < N → a ≠ b → (T a).2.1 ≠ (T b).2.1) (hown : s.vm.findClass own = some m.cls) (hw : zW D cl ty nw x A s u H) (hS0 : va_S A H0 H locs) (q0 : Nat) {fs : List Value} (he : (x u)[q0]? = some (b, .inr (ci, fs))) (hc : cl[ci]? = some (C, T, N)) (k : Nat) (hk : k < N) (hlink : (Cond.fieldLink own index ref (T k).2.1 (T k).2.2.1).before args s = true) (hsame : ∀ x, s.fieldFound? (T k).1 (T k).2.1 (T k).2.2.1 = some x → s.fieldFound? ref (T k).2.1 (T k).2.2.1 = some x) (hfin : (T k).2.2.2 = false) (ht : ty0 k = .int) {v : Int32} (hl : k < fs.length) {u' : S} (hset : (x u).set q0 (b, .inr (ci, fs.set k (.int v))) = x u')
    (hdg : decode cc pc = .ok (.putfield index, 3)) (kk : ∀ (u1 : S) (H1 : Heap) (locs1 : List Loc), u1 = u' → zW D cl ty nw x A s u1 H1 → va_S A H0 H1 locs1 → W p l e R s m args below meth c H1 locs1 cells slots Q (F0 m (pc + 3) ls rest)) : W p l e R s m args below meth c H locs cells slots Q (F0 m pc ls (.int v :: .ref b :: rest)) :=
  va_put hexec hb hts hin ty0 hty hnm hown hw.2.1 hw.1 hw.2.2.1 hS0 q0 he hc k hk hlink hsame hfin (ty := .int) (by rw [hty k hk, ht]) rfl rfl hl hdg (fun H1 locs1 h1 h2 h3 => kk u' H1 locs1 rfl ⟨by rw [← hset]; exact h1, hw.2.1, by rw [← hset]; exact h2, hw.2.2.2⟩ h3)
theorem z_putN (hexec : p.tables.exec = Jvm.exec) (hb : c.code = cc) {ref host : String} {T : u_T} {N ci : Nat} (hts : ∀ w ∈ Ts, w.before args s = true) (hin : ∀ w ∈ u_ws C T N, w ∈ Ts) (ty0 : Nat → FieldType) (hty : ∀ k, k < N → parseFieldDescriptor (T k).2.2.1 = some (ty0 k)) (hnm : ∀ a, a < N → ∀ b, b < N → a ≠ b → (T a).2.1 ≠ (T b).2.1) (hown : s.vm.findClass own = some m.cls) (hw : zW D cl ty nw x A s u H) (hS0 : va_S A H0 H locs) (q0 : Nat) {fs : List Value} (he : (x u)[q0]? = some (b, .inr (ci, fs))) (hc : cl[ci]? = some (C, T, N)) (k : Nat) (hk : k < N) (hlink : (Cond.fieldLinkNest own index ref (T k).2.1 (T k).2.2.1 host).before args s = true) (hsame : ∀ x, s.fieldFound? (T k).1 (T k).2.1 (T k).2.2.1 = some x → s.fieldFound? ref (T k).2.1 (T k).2.2.1 = some x) (hfin : (T k).2.2.2 = false) (ht : ty0 k = .int) {v : Int32} (hl : k < fs.length) {u' : S} (hset : (x u).set q0 (b, .inr (ci, fs.set k (.int v))) = x u')
    (hdg : decode cc pc = .ok (.putfield index, 3)) (kk : ∀ (u1 : S) (H1 : Heap) (locs1 : List Loc), u1 = u' → zW D cl ty nw x A s u1 H1 → va_S A H0 H1 locs1 → W p l e R s m args below meth c H1 locs1 cells slots Q (F0 m (pc + 3) ls rest)) : W p l e R s m args below meth c H locs cells slots Q (F0 m pc ls (.int v :: .ref b :: rest)) :=
  va_putN hexec hb hts hin ty0 hty hnm hown hw.2.1 hw.1 hw.2.2.1 hS0 q0 he hc k hk hlink hsame hfin (ty := .int) (by rw [hty k hk, ht]) rfl rfl hl hdg (fun H1 locs1 h1 h2 h3 => kk u' H1 locs1 rfl ⟨by rw [← hset]; exact h1, hw.2.1, by rw [← hset]; exact h2, hw.2.2.2⟩ h3)
theorem z_iast (hexec : p.tables.exec = Jvm.exec) (hb : c.code = cc) (hw : zW D cl ty nw x A s u H) (hS : va_S A H0 H locs) (q0 t0 : Nat) {cA : ClassId} {N : Nat} {f : Nat → Int32} (ha : (x u)[q0]? = some (b, .inl (cA, N, .inl f))) (ht : ty[t0]? = some (cA, .int)) {i v : Int32} (hin : vp_in i N) {u' : S} (hset : (x u).set q0 (b, .inl (cA, N, .inl (upd f i.toNatClampNeg v))) = x u') (hdg : decode cc pc = .ok (.iastore, 1))
    (kk : ∀ (u1 : S) (H1 : Heap) (locs1 : List Loc), u1 = u' → zW D cl ty nw x A s u1 H1 → va_S A H0 H1 locs1 → W p l e R s m args below meth c H1 locs1 cells slots Q (F0 m (pc + 1) ls rest)) : W p l e R s m args below meth c H locs cells slots Q (F0 m pc ls (.int v :: .int i :: .ref b :: rest)) :=
  va_iast hexec hb hw.2.1 hw.1 hw.2.2.1 hS q0 t0 ha ht hin hdg (fun H1 locs1 h1 h2 h3 => kk u' H1 locs1 rfl ⟨by rw [← hset]; exact h1, hw.2.1, by rw [← hset]; exact h2, hw.2.2.2⟩ h3)
end ZC
/-! lcmp and the test behind it -/
section ZL
variable {p : Program} {l : Launch} {e : Env} {R : Room} {s : State} {m : MethodId} {args : Array Value} {below : List Frame} {meth : Method} {c : Code} {H : Heap} {locs : List Loc} {cells slots : Nat} {Q : State → Prop}
variable {cc : ByteArray} {pc : Nat} {ls : Array Slot} {rest : List Value}
theorem z_lcmp_eq (hexec : p.tables.exec = Jvm.exec) (hb : c.code = cc) {x y : Int64} {off : Int} {tgt : Nat} (h1 : decode cc pc = .ok (.lcmp, 1)) (h2 : decode cc (pc + 1) = .ok (.ifCond .eq off, 3)) (ht : ((pc + 1 : Nat) : Int) + off = (tgt : Int)) (kt : x = y → W p l e R s m args below meth c H locs cells slots Q (F0 m tgt ls rest)) (kf : ¬ x = y → W p l e R s m args below meth c H locs cells slots Q (F0 m (pc + 1 + 3) ls rest)) : W p l e R s m args below meth c H locs cells slots Q (F0 m pc ls (.long y :: .long x :: rest)) := W.lcmp hexec hb h1 (lv_if_eq hexec hb h2 ht (fun h => kt ((lg_cmp_eq x y).mp h)) (fun h => kf (fun q => h ((lg_cmp_eq x y).mpr q))))
theorem z_lcmp_ne (hexec : p.tables.exec = Jvm.exec) (hb : c.code = cc) {x y : Int64} {off : Int} {tgt : Nat} (h1 : decode cc pc = .ok (.lcmp, 1)) (h2 : decode cc (pc + 1) = .ok (.ifCond .ne off, 3)) (ht : ((pc + 1 : Nat) : Int) + off = (tgt : Int)) (kt : ¬ x = y → W p l e R s m args below meth c H locs cells slots Q (F0 m tgt ls rest)) (kf : x = y → W p l e R s m args below meth c H locs cells slots Q (F0 m (pc + 1 + 3) ls rest)) : W p l e R s m args below meth c H locs cells slots Q (F0 m pc ls (.long y :: .long x :: rest)) := W.lcmp hexec hb h1 (lv_if_ne hexec hb h2 ht (fun h => kt (fun q => h ((lg_cmp_eq x y).mpr q))) (fun h => kf ((lg_cmp_eq x y).mp h)))
theorem z_lcmp_lt (hexec : p.tables.exec = Jvm.exec) (hb : c.code = cc) {x y : Int64} {off : Int} {tgt : Nat} (h1 : decode cc pc = .ok (.lcmp, 1)) (h2 : decode cc (pc + 1) = .ok (.ifCond .lt off, 3)) (ht : ((pc + 1 : Nat) : Int) + off = (tgt : Int)) (kt : x < y → W p l e R s m args below meth c H locs cells slots Q (F0 m tgt ls rest)) (kf : ¬ x < y → W p l e R s m args below meth c H locs cells slots Q (F0 m (pc + 1 + 3) ls rest)) : W p l e R s m args below meth c H locs cells slots Q (F0 m pc ls (.long y :: .long x :: rest)) := W.lcmp hexec hb h1 (lv_if_lt hexec hb h2 ht (fun h => kt ((lg_cmp_lt x y).mp h)) (fun h => kf (fun q => h ((lg_cmp_lt x y).mpr q))))
theorem z_lcmp_ge (hexec : p.tables.exec = Jvm.exec) (hb : c.code = cc) {x y : Int64} {off : Int} {tgt : Nat} (h1 : decode cc pc = .ok (.lcmp, 1)) (h2 : decode cc (pc + 1) = .ok (.ifCond .ge off, 3)) (ht : ((pc + 1 : Nat) : Int) + off = (tgt : Int)) (kt : y ≤ x → W p l e R s m args below meth c H locs cells slots Q (F0 m tgt ls rest)) (kf : ¬ y ≤ x → W p l e R s m args below meth c H locs cells slots Q (F0 m (pc + 1 + 3) ls rest)) : W p l e R s m args below meth c H locs cells slots Q (F0 m pc ls (.long y :: .long x :: rest)) := W.lcmp hexec hb h1 (lv_if_ge hexec hb h2 ht (fun h => kt ((lg_cmp_ge x y).mp h)) (fun h => kf (fun q => h ((lg_cmp_ge x y).mpr q))))
theorem z_lcmp_gt (hexec : p.tables.exec = Jvm.exec) (hb : c.code = cc) {x y : Int64} {off : Int} {tgt : Nat} (h1 : decode cc pc = .ok (.lcmp, 1)) (h2 : decode cc (pc + 1) = .ok (.ifCond .gt off, 3)) (ht : ((pc + 1 : Nat) : Int) + off = (tgt : Int)) (kt : y < x → W p l e R s m args below meth c H locs cells slots Q (F0 m tgt ls rest)) (kf : ¬ y < x → W p l e R s m args below meth c H locs cells slots Q (F0 m (pc + 1 + 3) ls rest)) : W p l e R s m args below meth c H locs cells slots Q (F0 m pc ls (.long y :: .long x :: rest)) := W.lcmp hexec hb h1 (lv_if_gt hexec hb h2 ht (fun h => kt ((lg_cmp_gt x y).mp h)) (fun h => kf (fun q => h ((lg_cmp_gt x y).mpr q))))
theorem z_lcmp_le (hexec : p.tables.exec = Jvm.exec) (hb : c.code = cc) {x y : Int64} {off : Int} {tgt : Nat} (h1 : decode cc pc = .ok (.lcmp, 1)) (h2 : decode cc (pc + 1) = .ok (.ifCond .le off, 3)) (ht : ((pc + 1 : Nat) : Int) + off = (tgt : Int)) (kt : x ≤ y → W p l e R s m args below meth c H locs cells slots Q (F0 m tgt ls rest)) (kf : ¬ x ≤ y → W p l e R s m args below meth c H locs cells slots Q (F0 m (pc + 1 + 3) ls rest)) : W p l e R s m args below meth c H locs cells slots Q (F0 m pc ls (.long y :: .long x :: rest)) := W.lcmp hexec hb h1 (lv_if_le hexec hb h2 ht (fun h => kt ((lg_cmp_le x y).mp h)) (fun h => kf (fun q => h ((lg_cmp_le x y).mpr q))))
end ZL
theorem zRi_of {S : Type} {l : Launch} {y : MethodName} {G0 ws : List Cond} {rm : Room} {D : va_G} {cl : List vw_C} {ty : List (ClassId × FieldType)} {nw : List Cond} {x : S → va_W} {av : List Value} {u : S} {cc : ByteArray} {maxL : Nat} {own : String} {F : Int32} (hy : plainName y.cls = true) (hw0 : ws = Cond.code y cc maxL (some .int) :: G0) (ho : y.cls = own) (hav : (lg_sl av).length ≤ maxL)
    (body : ∀ (p : Program) (e : Env) (R : Room) (st : State) (m : MethodId) (args : Array Value) (below : List Frame) (meth : Method) (c : Code) (H : Heap) (locs : List Loc) (Q : State → Prop) (ls : Array Slot), R = rm → p.tables.exec = Jvm.exec → c.code = cc → c.maxLocals = maxL → st.vm.findClass own = some m.cls → (∀ w ∈ G0, w.before args st = true) → zW D cl ty nw x (fun _ => True) st u H → (∀ (r : Int32) (pc : Nat) (ls : Array Slot), decode cc pc = .ok (.ireturn, 1) → F = r → W p l e R st m args below meth c H locs 0 0 Q (F0 m pc ls [.int r])) → lv_has ls maxL (lv_args 0 av) → W p l e R st m args below meth c H locs 0 0 Q (F0 m 0 ls [])) : zRi l y ws rm D cl ty nw x av u F := by
  unfold zRi zR
  refine Met.ofW (cc := cc) (maxL := maxL) (ret := some .int) hy hw0 ?_
  intro p e s m args below meth c s₁ B hml hv
  obtain ⟨rfl, hw⟩ := hv
  have hts0 := atoms_spec (ws := ws) B.pre
  have hts : ∀ w ∈ G0, w.before _ s = true := fun w h => hts0 w (by rw [hw0]; exact List.mem_cons_of_mem _ h)
  have hown : s.vm.findClass own = some m.cls := by rw [← ho]; exact findClass_of_methodNamed B.named
  have hl := lv_entry av (n := maxL) hav
  rw [lg_entry_eq]
  refine body p e _ s m _ below meth c s.heap [] _ _ rfl B.exec B.bytes hml hown hts hw ?_ hl
  intro r pc ls hd hF
  subst hF
  exact W.iret B.exec B.bytes B.returns (fun t ht hW => ⟨rfl, ht⟩) (fun q h => by cases h) hd
theorem zRz_of {S : Type} {l : Launch} {y : MethodName} {G0 ws : List Cond} {rm : Room} {D : va_G} {cl : List vw_C} {ty : List (ClassId × FieldType)} {nw : List Cond} {x : S → va_W} {av : List Value} {u : S} {cc : ByteArray} {maxL : Nat} {own : String} {F : Bool} (hy : plainName y.cls = true) (hw0 : ws = Cond.code y cc maxL (some .boolean) :: G0) (ho : y.cls = own) (hav : (lg_sl av).length ≤ maxL)
    (body : ∀ (p : Program) (e : Env) (R : Room) (st : State) (m : MethodId) (args : Array Value) (below : List Frame) (meth : Method) (c : Code) (H : Heap) (locs : List Loc) (Q : State → Prop) (ls : Array Slot), R = rm → p.tables.exec = Jvm.exec → c.code = cc → c.maxLocals = maxL → st.vm.findClass own = some m.cls → (∀ w ∈ G0, w.before args st = true) → zW D cl ty nw x (fun _ => True) st u H → (∀ (r : Bool) (pc : Nat) (ls : Array Slot), decode cc pc = .ok (.ireturn, 1) → F = r → W p l e R st m args below meth c H locs 0 0 Q (F0 m pc ls [.int (bI r)])) → lv_has ls maxL (lv_args 0 av) → W p l e R st m args below meth c H locs 0 0 Q (F0 m 0 ls [])) : zRz l y ws rm D cl ty nw x av u F := by
  unfold zRz zR
  refine Met.ofW (cc := cc) (maxL := maxL) (ret := some .boolean) hy hw0 ?_
  intro p e s m args below meth c s₁ B hml hv
  obtain ⟨rfl, hw⟩ := hv
  have hts0 := atoms_spec (ws := ws) B.pre
  have hts : ∀ w ∈ G0, w.before _ s = true := fun w h => hts0 w (by rw [hw0]; exact List.mem_cons_of_mem _ h)
  have hown : s.vm.findClass own = some m.cls := by rw [← ho]; exact findClass_of_methodNamed B.named
  have hl := lv_entry av (n := maxL) hav
  rw [lg_entry_eq]
  refine body p e _ s m _ below meth c s.heap [] _ _ rfl B.exec B.bytes hml hown hts hw ?_ hl
  intro r pc ls hd hF
  subst hF
  exact W.zret B.exec B.bytes B.returns (nar_bI _) (fun t ht hW => ⟨rfl, ht⟩) (fun q h => by cases h) hd
theorem zRl_of {S : Type} {l : Launch} {y : MethodName} {G0 ws : List Cond} {rm : Room} {D : va_G} {cl : List vw_C} {ty : List (ClassId × FieldType)} {nw : List Cond} {x : S → va_W} {av : List Value} {u : S} {cc : ByteArray} {maxL : Nat} {own : String} {F : Int64} (hy : plainName y.cls = true) (hw0 : ws = Cond.code y cc maxL (some .long) :: G0) (ho : y.cls = own) (hav : (lg_sl av).length ≤ maxL)
    (body : ∀ (p : Program) (e : Env) (R : Room) (st : State) (m : MethodId) (args : Array Value) (below : List Frame) (meth : Method) (c : Code) (H : Heap) (locs : List Loc) (Q : State → Prop) (ls : Array Slot), R = rm → p.tables.exec = Jvm.exec → c.code = cc → c.maxLocals = maxL → st.vm.findClass own = some m.cls → (∀ w ∈ G0, w.before args st = true) → zW D cl ty nw x (fun _ => True) st u H → (∀ (r : Int64) (pc : Nat) (ls : Array Slot), decode cc pc = .ok (.lreturn, 1) → F = r → W p l e R st m args below meth c H locs 0 0 Q (F0 m pc ls [.long r])) → lv_has ls maxL (lv_args 0 av) → W p l e R st m args below meth c H locs 0 0 Q (F0 m 0 ls [])) : zRl l y ws rm D cl ty nw x av u F := by
  unfold zRl zR
  refine Met.ofW (cc := cc) (maxL := maxL) (ret := some .long) hy hw0 ?_
  intro p e s m args below meth c s₁ B hml hv
  obtain ⟨rfl, hw⟩ := hv
  have hts0 := atoms_spec (ws := ws) B.pre
  have hts : ∀ w ∈ G0, w.before _ s = true := fun w h => hts0 w (by rw [hw0]; exact List.mem_cons_of_mem _ h)
  have hown : s.vm.findClass own = some m.cls := by rw [← ho]; exact findClass_of_methodNamed B.named
  have hl := lv_entry av (n := maxL) hav
  rw [lg_entry_eq]
  refine body p e _ s m _ below meth c s.heap [] _ _ rfl B.exec B.bytes hml hown hts hw ?_ hl
  intro r pc ls hd hF
  subst hF
  exact W.lret B.exec B.bytes B.returns (fun t ht hW => ⟨rfl, ht⟩) (fun q h => by cases h) hd
theorem zMi_of {S : Type} {l : Launch} {y : MethodName} {G0 ws : List Cond} {rm : Room} {D : va_G} {cl : List vw_C} {ty : List (ClassId × FieldType)} {nw : List Cond} {x : S → va_W} {av : List Value} {u : S} {cc : ByteArray} {maxL : Nat} {own : String} {F : Int32 × S} (hy : plainName y.cls = true) (hw0 : ws = Cond.code y cc maxL (some .int) :: G0) (ho : y.cls = own) (hav : (lg_sl av).length ≤ maxL)
    (body : ∀ (p : Program) (e : Env) (R : Room) (st : State) (m : MethodId) (args : Array Value) (below : List Frame) (meth : Method) (c : Code) (A : Nat → Prop) (H : Heap) (locs : List Loc) (Q : State → Prop) (ls : Array Slot), R = rm → p.tables.exec = Jvm.exec → c.code = cc → c.maxLocals = maxL → st.vm.findClass own = some m.cls → (∀ w ∈ G0, w.before args st = true) → zW D cl ty nw x A st u H → va_S A st.heap H locs → (∀ (r : Int32) (u1 : S) (H : Heap) (locs : List Loc) (pc : Nat) (ls : Array Slot), decode cc pc = .ok (.ireturn, 1) → zW D cl ty nw x A st u1 H → va_S A st.heap H locs → F = (r, u1) → W p l e R st m args below meth c H locs 0 0 Q (F0 m pc ls [.int r])) → lv_has ls maxL (lv_args 0 av) → W p l e R st m args below meth c H locs 0 0 Q (F0 m 0 ls [])) : zMi l y ws rm D cl ty nw x av u F := by
  unfold zMi zM
  refine Met.ofW (cc := cc) (maxL := maxL) (ret := some .int) hy hw0 ?_
  intro p e s m args below meth c s₁ B hml hv
  obtain ⟨rfl, hw⟩ := hv
  have hts0 := atoms_spec (ws := ws) B.pre
  have hts : ∀ w ∈ G0, w.before _ s = true := fun w h => hts0 w (by rw [hw0]; exact List.mem_cons_of_mem _ h)
  have hown : s.vm.findClass own = some m.cls := by rw [← ho]; exact findClass_of_methodNamed B.named
  have hl := lv_entry av (n := maxL) hav
  rw [lg_entry_eq]
  refine body p e _ s m _ below meth c (zA (x u)) s.heap [] _ _ rfl B.exec B.bytes hml hown hts ⟨hw.1, hw.2.1, ⟨hw.2.2.1.1, fun k q hk => ⟨k, q.2, hk⟩⟩, hw.2.2.2⟩ va_S.rf ?_ hl
  intro r u1 H locs pc ls hd hw hS hF
  subst hF
  exact W.iret B.exec B.bytes B.returns (fun t ht hW => ⟨rfl, ⟨by rw [ht]; exact hw.1, hw.2.2.1⟩, hS.F ht⟩) hS.2.2 hd
theorem zMz_of {S : Type} {l : Launch} {y : MethodName} {G0 ws : List Cond} {rm : Room} {D : va_G} {cl : List vw_C} {ty : List (ClassId × FieldType)} {nw : List Cond} {x : S → va_W} {av : List Value} {u : S} {cc : ByteArray} {maxL : Nat} {own : String} {F : Bool × S} (hy : plainName y.cls = true) (hw0 : ws = Cond.code y cc maxL (some .boolean) :: G0) (ho : y.cls = own) (hav : (lg_sl av).length ≤ maxL)
    (body : ∀ (p : Program) (e : Env) (R : Room) (st : State) (m : MethodId) (args : Array Value) (below : List Frame) (meth : Method) (c : Code) (A : Nat → Prop) (H : Heap) (locs : List Loc) (Q : State → Prop) (ls : Array Slot), R = rm → p.tables.exec = Jvm.exec → c.code = cc → c.maxLocals = maxL → st.vm.findClass own = some m.cls → (∀ w ∈ G0, w.before args st = true) → zW D cl ty nw x A st u H → va_S A st.heap H locs → (∀ (r : Bool) (u1 : S) (H : Heap) (locs : List Loc) (pc : Nat) (ls : Array Slot), decode cc pc = .ok (.ireturn, 1) → zW D cl ty nw x A st u1 H → va_S A st.heap H locs → F = (r, u1) → W p l e R st m args below meth c H locs 0 0 Q (F0 m pc ls [.int (bI r)])) → lv_has ls maxL (lv_args 0 av) → W p l e R st m args below meth c H locs 0 0 Q (F0 m 0 ls [])) : zMz l y ws rm D cl ty nw x av u F := by
  unfold zMz zM
  refine Met.ofW (cc := cc) (maxL := maxL) (ret := some .boolean) hy hw0 ?_
  intro p e s m args below meth c s₁ B hml hv
  obtain ⟨rfl, hw⟩ := hv
  have hts0 := atoms_spec (ws := ws) B.pre
  have hts : ∀ w ∈ G0, w.before _ s = true := fun w h => hts0 w (by rw [hw0]; exact List.mem_cons_of_mem _ h)
  have hown : s.vm.findClass own = some m.cls := by rw [← ho]; exact findClass_of_methodNamed B.named
  have hl := lv_entry av (n := maxL) hav
  rw [lg_entry_eq]
  refine body p e _ s m _ below meth c (zA (x u)) s.heap [] _ _ rfl B.exec B.bytes hml hown hts ⟨hw.1, hw.2.1, ⟨hw.2.2.1.1, fun k q hk => ⟨k, q.2, hk⟩⟩, hw.2.2.2⟩ va_S.rf ?_ hl
  intro r u1 H locs pc ls hd hw hS hF
  subst hF
  exact W.zret B.exec B.bytes B.returns (nar_bI _) (fun t ht hW => ⟨rfl, ⟨by rw [ht]; exact hw.1, hw.2.2.1⟩, hS.F ht⟩) hS.2.2 hd
theorem zMl_of {S : Type} {l : Launch} {y : MethodName} {G0 ws : List Cond} {rm : Room} {D : va_G} {cl : List vw_C} {ty : List (ClassId × FieldType)} {nw : List Cond} {x : S → va_W} {av : List Value} {u : S} {cc : ByteArray} {maxL : Nat} {own : String} {F : Int64 × S} (hy : plainName y.cls = true) (hw0 : ws = Cond.code y cc maxL (some .long) :: G0) (ho : y.cls = own) (hav : (lg_sl av).length ≤ maxL)
    (body : ∀ (p : Program) (e : Env) (R : Room) (st : State) (m : MethodId) (args : Array Value) (below : List Frame) (meth : Method) (c : Code) (A : Nat → Prop) (H : Heap) (locs : List Loc) (Q : State → Prop) (ls : Array Slot), R = rm → p.tables.exec = Jvm.exec → c.code = cc → c.maxLocals = maxL → st.vm.findClass own = some m.cls → (∀ w ∈ G0, w.before args st = true) → zW D cl ty nw x A st u H → va_S A st.heap H locs → (∀ (r : Int64) (u1 : S) (H : Heap) (locs : List Loc) (pc : Nat) (ls : Array Slot), decode cc pc = .ok (.lreturn, 1) → zW D cl ty nw x A st u1 H → va_S A st.heap H locs → F = (r, u1) → W p l e R st m args below meth c H locs 0 0 Q (F0 m pc ls [.long r])) → lv_has ls maxL (lv_args 0 av) → W p l e R st m args below meth c H locs 0 0 Q (F0 m 0 ls [])) : zMl l y ws rm D cl ty nw x av u F := by
  unfold zMl zM
  refine Met.ofW (cc := cc) (maxL := maxL) (ret := some .long) hy hw0 ?_
  intro p e s m args below meth c s₁ B hml hv
  obtain ⟨rfl, hw⟩ := hv
  have hts0 := atoms_spec (ws := ws) B.pre
  have hts : ∀ w ∈ G0, w.before _ s = true := fun w h => hts0 w (by rw [hw0]; exact List.mem_cons_of_mem _ h)
  have hown : s.vm.findClass own = some m.cls := by rw [← ho]; exact findClass_of_methodNamed B.named
  have hl := lv_entry av (n := maxL) hav
  rw [lg_entry_eq]
  refine body p e _ s m _ below meth c (zA (x u)) s.heap [] _ _ rfl B.exec B.bytes hml hown hts ⟨hw.1, hw.2.1, ⟨hw.2.2.1.1, fun k q hk => ⟨k, q.2, hk⟩⟩, hw.2.2.2⟩ va_S.rf ?_ hl
  intro r u1 H locs pc ls hd hw hS hF
  subst hF
  exact W.lret B.exec B.bytes B.returns (fun t ht hW => ⟨rfl, ⟨by rw [ht]; exact hw.1, hw.2.2.1⟩, hS.F ht⟩) hS.2.2 hd
theorem zMv_of {S : Type} {l : Launch} {y : MethodName} {G0 ws : List Cond} {rm : Room} {D : va_G} {cl : List vw_C} {ty : List (ClassId × FieldType)} {nw : List Cond} {x : S → va_W} {av : List Value} {u : S} {cc : ByteArray} {maxL : Nat} {own : String} {F : S} (hy : plainName y.cls = true) (hw0 : ws = Cond.code y cc maxL (none) :: G0) (ho : y.cls = own) (hav : (lg_sl av).length ≤ maxL)
    (body : ∀ (p : Program) (e : Env) (R : Room) (st : State) (m : MethodId) (args : Array Value) (below : List Frame) (meth : Method) (c : Code) (A : Nat → Prop) (H : Heap) (locs : List Loc) (Q : State → Prop) (ls : Array Slot), R = rm → p.tables.exec = Jvm.exec → c.code = cc → c.maxLocals = maxL → st.vm.findClass own = some m.cls → (∀ w ∈ G0, w.before args st = true) → zW D cl ty nw x A st u H → va_S A st.heap H locs → (∀ (u1 : S) (H : Heap) (locs : List Loc) (pc : Nat) (ls : Array Slot), decode cc pc = .ok (.return_, 1) → zW D cl ty nw x A st u1 H → va_S A st.heap H locs → F = u1 → W p l e R st m args below meth c H locs 0 0 Q (F0 m pc ls [])) → lv_has ls maxL (lv_args 0 av) → W p l e R st m args below meth c H locs 0 0 Q (F0 m 0 ls [])) : zMv l y ws rm D cl ty nw x av u F := by
  unfold zMv zM
  refine Met.ofW (cc := cc) (maxL := maxL) (ret := none) hy hw0 ?_
  intro p e s m args below meth c s₁ B hml hv
  obtain ⟨rfl, hw⟩ := hv
  have hts0 := atoms_spec (ws := ws) B.pre
  have hts : ∀ w ∈ G0, w.before _ s = true := fun w h => hts0 w (by rw [hw0]; exact List.mem_cons_of_mem _ h)
  have hown : s.vm.findClass own = some m.cls := by rw [← ho]; exact findClass_of_methodNamed B.named
  have hl := lv_entry av (n := maxL) hav
  rw [lg_entry_eq]
  refine body p e _ s m _ below meth c (zA (x u)) s.heap [] _ _ rfl B.exec B.bytes hml hown hts ⟨hw.1, hw.2.1, ⟨hw.2.2.1.1, fun k q hk => ⟨k, q.2, hk⟩⟩, hw.2.2.2⟩ va_S.rf ?_ hl
  intro u1 H locs pc ls hd hw hS hF
  subst hF
  exact W.vret B.exec B.bytes B.returns (fun t ht hW => ⟨rfl, ⟨by rw [ht]; exact hw.1, hw.2.2.1⟩, hS.F ht⟩) hS.2.2 hd
