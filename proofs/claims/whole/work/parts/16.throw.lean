/-! methods that throw, always: what they leave, how their caller goes on (own rows; the library's Stand.leaveThrown, Stand.ctorThrowS, Stand.newCold and Stand.ldcString are called) -/
/-- where a static field of references lies, and that it holds one (or null) -/
def zSt (C n d : String) (A : Nat → Prop) (U : State) (H : Heap) : Prop :=
  ∃ (c : ClassId) (k : Class) (i : Nat) (f : Field) (a : Nat) (cell : Cell) (v : Value), U.vm.findClass C = some c ∧ U.fieldFound? C n d = some (c, k, i, f) ∧ f.isStatic = true ∧ k.statics = some a ∧ H[a]? = some cell ∧ cell.vm.isStatics = true ∧ cell.cls = c ∧ f.slot < cell.slots.size ∧ k.staticTypes[f.slot]? = some f.type ∧ cell.slots[f.slot]? = some v ∧ v.isRef = true ∧ ¬ A a
theorem zSt.moved {C n d : String} {A : Nat → Prop} {u U : State} {H : Heap} (hvm : u.vm.Alike U.vm) (h : zSt C n d A u H) : zSt C n d A U H := by
  obtain ⟨c, k, i, f, a, cell, v, h1, h2, h3, h4, h5, h6, h7, h8, h9, h10⟩ := h
  obtain ⟨k', hi', he⟩ := State.fieldFound?_setVm hvm h2
  exact ⟨c, k', i, f, a, cell, v, by rw [hvm.findClass]; exact h1, hi', h3, by rw [he]; exact h4, h5, h6, h7, h8, by rw [he]; exact h9, h10⟩
theorem zSt.kept {C n d : String} {A B : Nat → Prop} {U : State} {H H1 : Heap} (h : zSt C n d A U H) (hB : ∀ q, B q → A q) (hq : ∀ a : Nat, a < H.size → ¬ A a → H1[a]? = H[a]?) : zSt C n d B U H1 := by
  obtain ⟨c, k, i, f, a, cell, v, h1, h2, h3, h4, h5, h6, h7, h8, h9, h10, h11, h12⟩ := h
  exact ⟨c, k, i, f, a, cell, v, h1, h2, h3, h4, by rw [hq a (Array.getElem?_eq_some_iff.mp h5).1 h12]; exact h5, h6, h7, h8, h9, h10, h11, fun z => h12 (hB _ z)⟩
theorem zSt.lays {C n d : String} {A : Nat → Prop} {s : State} {args : Array Value} (h : zSt C n d A s s.heap) : (Cond.laysStatic C n d).before args s = true := by
  obtain ⟨c, k, i, f, a, cell, v, h1, h2, h3, h4, h5, h6, h7, h8, h9, -⟩ := h
  show (Cond.laysStatic C n d).holds args s none s [] = true
  exact Cond.laysStatic_of h1 h2 h3 h4 h5 h6 h7 h8 h9
theorem zSt.isRef {C n d : String} {A : Nat → Prop} {s : State} {args : Array Value} (h : zSt C n d A s s.heap) : (Cond.isRef (.static C n d)).before args s = true := by
  obtain ⟨c, k, i, f, a, cell, v, h1, h2, h3, h4, h5, h6, h7, h8, h9, h10, h11, -⟩ := h
  have he : (Term.static C n d).eval args s none [] s = some v := by
    simp [Term.eval, State.fieldNamed?, h2, h3, h4, h5, h6, h10]
  simp only [Cond.before, Cond.holds, Cond.value, he]
  cases v <;> simp_all [Value.isRef]
theorem zSt.of {args : Array Value} {s : State} {C n d : String} {A : Nat → Prop} (hl : (Cond.laysStatic C n d).before args s = true) (h : (Cond.isRef (.static C n d)).before args s = true) (hA : ∀ a : Nat, a < s.heap.size → ¬ A a) : zSt C n d A s s.heap := by
  obtain ⟨c, k, i, f, a, cell, h1, h2, h3, h4, h5, h6, h7, h8, h9⟩ := Cond.laysStatic_spec hl
  cases hv : (Term.static C n d).eval args s none [] s with
  | none => simp [Cond.before, Cond.holds, Cond.value, hv] at h
  | some w =>
    obtain ⟨hst', a', cell', ha', hcell', -, hslot⟩ := Term.static_spec h2 hv
    cases h4.symm.trans ha'
    cases h5.symm.trans hcell'
    refine ⟨c, k, i, f, a, cell, w, h1, h2, h3, h4, h5, h6, h7, h8, h9, hslot, ?_, hA a (Array.getElem?_eq_some_iff.mp h5).1⟩
    simp only [Cond.before, Cond.holds, Cond.value, hv] at h
    cases w <;> simp_all [Value.isRef]
/-- words that speak of the tables alone and stay, though they aren't among those that keep -/
def zExk (w : Cond) : Bool := match w with
  | .castable .. => true
  | .declares _ => true
  | _ => false
theorem zExk_warm {w : Cond} {s U : State} (h : zExk w = true) (hW : s.WarmedH U.vm) (hz : va_Nw w s) : va_Nw w U := by
  cases w <;> first | exact va_Nw.warmC hW hz | exact va_Nw.warmD hW hz | cases h
theorem zExk_same {w : Cond} {s U : State} (h : zExk w = true) (hv : s.vm = U.vm) (hz : va_Nw w s) : va_Nw w U := by
  cases w <;> first | exact va_Nw.same rfl hv hz | cases h
def exW : List Cond := [.castable "java/lang/IllegalStateException" "java/lang/IllegalStateException", .castable "java/lang/IllegalArgumentException" "java/lang/IllegalArgumentException", .castable "java/lang/IndexOutOfBoundsException" "java/lang/IndexOutOfBoundsException", .castable "java/lang/ArithmeticException" "java/lang/ArithmeticException", .declares (Bundle.initS "java/lang/RuntimeException"), .declares (Bundle.initS "java/lang/Exception"), .declares (Bundle.initS "java/lang/Throwable")]
theorem exW_ok : ∀ w ∈ exW, zExk w = true := by decide +kernel
def exT : List Cond := [.laysStatic Bundle.tN "UNASSIGNED_STACK" Bundle.steD, .laysStatic Bundle.tN "SUPPRESSED_SENTINEL" Bundle.listD, .isRef (.static Bundle.tN "UNASSIGNED_STACK" Bundle.steD), .isRef (.static Bundle.tN "SUPPRESSED_SENTINEL" Bundle.listD)]
/-- what a throw needs beside the words that keep: the two statics of Throwable, String constants by their places, what the exceptions can be cast to -/
def zEx (sk : List (String × Nat × String × Nat)) (A : Nat → Prop) (U : State) (H : Heap) : Prop :=
  zSt Bundle.tN "UNASSIGNED_STACK" Bundle.steD A U H ∧ zSt Bundle.tN "SUPPRESSED_SENTINEL" Bundle.listD A U H ∧ (∀ q ∈ sk, vk_R q.1 q.2.1 q.2.2.1 q.2.2.2 U) ∧ ∀ w ∈ exW, va_Nw w U
theorem zEx.warm {sk : List (String × Nat × String × Nat)} {A B : Nat → Prop} {s U : State} {H0 H : Heap} (h : zEx sk A s H0) (hW : s.WarmedH U.vm) (hB : ∀ q, B q → A q) (hq : ∀ a : Nat, a < H0.size → ¬ A a → H[a]? = H0[a]?) : zEx sk B U H :=
  ⟨(h.1.kept hB hq).moved hW.alike, (h.2.1.kept hB hq).moved hW.alike, fun q hk => (h.2.2.1 q hk).warm hW, fun w hw => zExk_warm (exW_ok w hw) hW (h.2.2.2 w hw)⟩
theorem zEx.same {sk : List (String × Nat × String × Nat)} {A : Nat → Prop} {s U : State} {H : Heap} (h : zEx sk A s H) (hv : s.vm = U.vm) : zEx sk A U H :=
  ⟨h.1.moved (by rw [hv]; exact Vm.Alike.refl _), h.2.1.moved (by rw [hv]; exact Vm.Alike.refl _), fun q hk => (h.2.2.1 q hk).same hv.symm, fun w hw => zExk_same (exW_ok w hw) hv (h.2.2.2 w hw)⟩
theorem zAt {s : State} {args : Array Value} {sk : List (String × Nat × String × Nat)} {A : Nat → Prop} (hts : ∀ w ∈ G0, w.before args s = true) (hEx : zEx sk A s s.heap) (L : List Cond) (ps : List Nat) (h1 : L.filter goodWord = ps.filterMap (fun i => lw_tbl[i]?)) (h2 : ∀ w ∈ L.filter (fun w => !goodWord w), w ∈ exW ++ exT) : ∀ w ∈ L, w.before args s = true := by
  intro w hw
  by_cases hg : goodWord w = true
  · have h3 : w ∈ L.filter goodWord := List.mem_filter.mpr ⟨hw, hg⟩
    rw [h1] at h3
    obtain ⟨i, -, hi⟩ := List.mem_filterMap.mp h3
    exact hts w (mG i hi hg)
  · have h3 := h2 w (List.mem_filter.mpr ⟨hw, by simpa using hg⟩)
    rcases List.mem_append.mp h3 with h4 | h4
    · have h5 := exW_ok w h4
      have h6 := hEx.2.2.2 w h4
      cases w <;> first | exact va_Nw.use rfl h6 | cases h5
    · simp only [exT, List.mem_cons, List.not_mem_nil, or_false] at h4
      rcases h4 with rfl | rfl | rfl | rfl
      · exact hEx.1.lays
      · exact hEx.2.1.lays
      · exact hEx.1.isRef
      · exact hEx.2.1.isRef
def zTQ (E : String) (Wd : State → State → Prop) (free : Addr → Prop) : Array Value → State → Outcome → State → Prop := fun _ st o t =>
  ∃ (q : Addr) (ce : Cell) (L : List Loc), o = .threw q ∧ Wd st t ∧ t.heap[q]? = some ce ∧ ce.vm = .none ∧ st.vm.findClass E = some ce.cls ∧ st.WarmedH t.vm ∧ st.sameButNew ({ t with vm := st.vm } : State) L 1 6 ∧ ∀ z ∈ L, free z.base
def zTMet (l : Launch) (y : MethodName) (ws : List Cond) (rm : Room) (Pc : Array Value → State → Prop) (E : String) (Wd : State → State → Prop) (free : Addr → Prop) : Prop :=
  MetFree l y (headSpec ws rm) Pc (fun _ _ _ _ _ => True) (zTQ E Wd free)
def zTRun (p : Program) (l : Launch) (e : Env) (R : Room) (s : State) (m : MethodId) (args : Array Value) (below : List Frame) (meth : Method) (c : Code) (H : Heap) (locs : List Loc) (cells slots : Nat) (g : JFrame) (rest : List Value) (E : String) (Wd : State → State → Prop) (free : Addr → Prop) : Prop :=
  ∀ T : State, T.heap = H → Stand p l e R s m args below meth c T locs cells slots → ∃ (q : Addr) (ce : Cell) (st₀ t T' : State) (L : List Loc), st₀.heap = H ∧ Wd st₀ t ∧ T'.heap = t.heap ∧ t.heap[q]? = some ce ∧ ce.vm = .none ∧ s.vm.findClass E = some ce.cls ∧
    Stand p l e R s m args below meth c T' (locs ++ L) (cells + 1) (slots + 6) ∧ (∀ z ∈ L, free z.base) ∧ Steps p.tables e below (T.setTop g) ((T'.setTop { g with stack := rest }).pushFrame (.throwing q))
def zTM (below : List Frame) (E : String) (Wd : State → State → Prop) (free : Addr → Prop) (a : Array Value) (s : State) : State → Prop := fun t => ∃ o, t.status = .running ∧ Ended t below o ∧ zTQ E Wd free a s o t
section ZT
variable {p : Program} {l : Launch} {e : Env} {R : Room} {s : State} {m : MethodId} {args : Array Value} {below : List Frame} {meth : Method} {c : Code} {H : Heap} {locs : List Loc} {cells slots : Nat} {Q : State → Prop}
variable {cc bytes : ByteArray} {pc maxL nL n index : Nat} {ret : Option FieldType} {ls : Array Slot} {rest st0 As : List Value} {y : MethodName} {ws Ts : List Cond} {rm : Room} {Pc : Array Value → State → Prop} {E own C : String} {Wd : State → State → Prop} {free : Addr → Prop} {b : Addr}
/-- a callee that throws, at its invocation -/
theorem zt_inv {U : State} {Ls : List Loc} {c0 s0 : Nat} (hM : zTMet l y ws rm Pc E Wd free) (hblind : FrameBlind Pc) (cb : CallB R s args own index y bytes maxL ret ws rm 1 6 n)
    (X : Stand p l e R s m args below meth c U Ls c0 s0) {g : JFrame} (hg : g.method = m) (hsize : g.locals.size = c.maxLocals) {ig : Instr} (hdg : decode c.code g.pc = .ok (ig, 3)) (hW : 2 * g.monitorRoom + (g.stack.map fun v => v.category).sum ≤ 8)
    {mk : MethodId} {a : Array Value} (hn : U.methodNamed? y = some mk) (hc : c0 + 1 ≤ R.cells) (hs : s0 + 6 ≤ R.slots) (hp : Pc a U) :
    ∃ (q : Addr) (ce : Cell) (t T' : State) (L : List Loc), Wd (U.calling g mk a) t ∧ T'.heap = t.heap ∧ t.heap[q]? = some ce ∧ ce.vm = .none ∧ U.vm.findClass E = some ce.cls ∧
      Stand p l e R s m args below meth c T' (Ls ++ L) (c0 + 1) (s0 + 6) ∧ (∀ z ∈ L, free z.base) ∧ Steps p.tables e below (doInvoke e (U.setTop g) [] mk a).1 ((T'.setTop g).pushFrame (.throwing q)) := by
  obtain ⟨hrc, hrs, hfr, hlo, hws, hcw, -, hini, -⟩ := cb
  have h1 : (headSpec ws rm).pre.before a U = true := atoms_intro fun w hw => hws w hw _ _ X.warmed
  have h2 : (Cond.code y bytes maxL ret).before a U = true := hws _ hcw _ _ X.warmed
  have h3 : (Cond.initialized y.cls).before a U = true := word_at X.warmed (Or.inl (by first | rfl | simp [Cond.onTables, Cond.keeps, Cond.steady])) hini
  obtain ⟨methY, cY, hmY, hcY, -, hlY, -, -, -, -⟩ := Cond.code_spec hn h2
  obtain ⟨kY, hkY, -⟩ := className_of_methodNamed hn
  have hinitY : kY.init = .initialized := Cond.initialized_spec (findClass_of_methodNamed hn) hkY h3
  have h : At U g.method c below := by rw [hg]; exact X.here
  have hlo9 : 8 + (maxL + 11) + (headSpec ws rm).room.locals ≤ R.locals := hlo
  have happ : (headSpec ws rm).appliesLoose y e.platform (U.calling g mk a) = true :=
    Spec.appliesLoose_calling (g := g) h hdg hn hkY hinitY
      (X.room_calling (g := g) (R' := (headSpec ws rm).room) hsize hmY hcY hfr (by rw [hlY]; omega) (by rw [show (headSpec ws rm).room.cells = 1 from hrc]; exact hc) (by rw [show (headSpec ws rm).room.slots = 6 from hrs]; exact hs)) h1
  obtain ⟨mid, hmid⟩ := h.above
  have hfrs : (U.setTop g).frames = (.java g :: mid) ++ below := by rw [State.frames_setTop' g h.top, hmid]; rfl
  obtain ⟨o, s₂, hsteps, -, hend, hq⟩ := Steps.callFree hM p X.admits X.cas X.clock (acts := []) hfrs happ (hblind _ _ _ _ hp) trivial
  have hq' : zTQ E Wd free a (U.calling g mk a) o s₂ := hq
  obtain ⟨q, ce, L, rfl, hwd, hce, hcv, hcl, hW₂, hsm, hL⟩ := hq'
  rw [State.frames_setTop' g h.top] at hend
  obtain ⟨g₀, hg0⟩ := Option.isSome_iff_exists.mp h.top
  obtain ⟨r, hr⟩ := State.topJava?_eq_some.mp hg0
  obtain ⟨T', hT'⟩ : ∃ z, z = (({ U with heap := s₂.heap, slotsUsed := s₂.slotsUsed } : State).setVm s₂.vm) := ⟨_, rfl⟩
  have hr' : T'.frames = .java g₀ :: r := by rw [hT']; exact hr
  obtain ⟨e2, q2, q3, q4, q5, q6⟩ := id hsm
  have e3 : s₂ = ({ (U.calling g mk a).setFrames s₂.frames with heap := s₂.heap, slotsUsed := s₂.slotsUsed } : State).setVm s₂.vm := by
    have : s₂ = ({ s₂ with vm := (U.calling g mk a).vm } : State).setVm s₂.vm := rfl
    rw [e2] at this
    exact this
  have hf₂ : s₂.frames = .throwing q :: .java g :: U.frames.tail := hend
  have hW' : U.WarmedH s₂.vm := hW₂
  have hs₂ : s₂ = (T'.setTop g).pushFrame (.throwing q) := by
    refine e3.trans ?_
    rw [hf₂, State.calling_eq h.top, State.setFrames_setFrames, State.pushFrame, State.frames_setTop _ hr', State.setTop_of_frames _ hr', State.setFrames_setFrames, hr, hT']
    rfl
  have hsame : U.sameButNew ({ U with heap := s₂.heap, slotsUsed := s₂.slotsUsed } : State) L 1 6 := by
    refine ⟨?_, q2, q3, q4, q5, q6⟩
    obtain ⟨t, ht, -⟩ := State.frames_cons hr
    show ({ U with heap := s₂.heap, slotsUsed := s₂.slotsUsed } : State) = { U.setFrames U.frames with heap := s₂.heap, slotsUsed := s₂.slotsUsed }
    rw [State.setFrames_self ht]
  subst hg
  refine ⟨q, ce, s₂, T', L, hwd, by rw [hT']; rfl, hce, hcv, hcl, ?_, hL, ?_⟩
  · rw [hT']
    exact ⟨X.admits, X.cas, X.clock, X.frames, X.room, X.hears, X.method, X.code, (X.here.setHeapUsed s₂.heap s₂.slotsUsed).setVm hW'.alike, X.tail, State.WarmedH.trans X.warmed hW', X.limits, X.bytes, X.same.trans (hsame.setVm s.vm)⟩
  · rw [← hs₂]
    exact hsteps
theorem zt_cls {T : State} {vm₁ : Vm} {k : ClassId} (hW : s.WarmedH vm₁) (h : (T.setVm vm₁).vm.findClass E = some k) : s.vm.findClass E = some k := by
  have h1 : vm₁.findClass E = some k := h
  rw [hW.alike.findClass] at h1
  exact h1
theorem zt_runS (Sx : CallFix p m c cc nL s args Ts own) (hM : zTMet l y ws rm Pc E Wd free) (cw : CallB R s args own index y bytes maxL ret ws rm 1 6 n ∧ (Cond.static y).before args s = true) (hp : PreS s H Pc As)
    (hsize : ls.size = nL) (hstack : st0 = As.reverse ++ rest) (hW : 2 * (F0 m pc ls st0).monitorRoom + (rest.map fun v => v.category).sum ≤ 8) (hdg : decode cc pc = .ok (.invokestatic index, 3)) (hf : cells + 1 ≤ R.cells ∧ slots + 6 ≤ R.slots) (hn : As.length = n := by rfl) :
    zTRun p l e R s m args below meth c H locs cells slots (F0 m pc ls st0) rest E Wd free := by
  obtain ⟨hx, hb, hml, ho, -⟩ := Sx
  intro T hT X
  obtain ⟨-, -, -, -, -, -, hcode, hini, hy, hlen, hl⟩ := id cw.1
  obtain ⟨mk, hnamed⟩ := Cond.code_named hcode
  obtain ⟨methM, cM, hmethM, -, -, -, -, -, -, hsigM⟩ := Cond.code_spec hnamed hcode
  have hstatic : methM.isStatic = true := Cond.static_spec hnamed hmethM cw.2
  obtain ⟨kP, hkP, -⟩ := className_of_methodNamed hnamed
  have hinitP : kP.init = .initialized := Cond.initialized_spec (findClass_of_methodNamed hnamed) hkP hini
  obtain ⟨vm₁, X₁, hstep₁⟩ := X.invokestatic hx ho hl hnamed hmethM hstatic hkP hinitP hy (g := F0 m pc ls st0) rfl (argsL := As) (rest := rest) (hn.trans (hlen _ hsigM)) hstack (by rw [hb]; exact hdg)
  obtain ⟨q, ce, t, T', L, hwd, e1, hce, hcv, hcl, X', hL, st⟩ := zt_inv hM hp.1 cw.1 X₁ (g := F0 m pc ls rest) rfl (hsize.trans hml.symm) (ig := .invokestatic index) (by rw [hb]; exact hdg) hW (X₁.named hnamed) hf.1 hf.2 (hp.2 (T.setVm vm₁) hT X₁.warmed)
  exact ⟨q, ce, (T.setVm vm₁).calling (F0 m pc ls rest) mk As.toArray, t, T', L, hT, hwd, e1, hce, hcv, zt_cls X₁.warmed hcl, X', hL, hstep₁ _ fun acts => by rw [doInvoke_state]; exact st⟩
theorem zt_runV (Sx : CallFix p m c cc nL s args Ts own) (hM : zTMet l y ws rm Pc E Wd free) (cw : CallW R s args own C index y bytes maxL ret ws rm 1 6 n) (hp : PreV s H C b Pc As)
    (hsize : ls.size = nL) (hstack : st0 = As.reverse ++ .ref b :: rest) (hW : 2 * (F0 m pc ls st0).monitorRoom + (rest.map fun v => v.category).sum ≤ 8) (hdg : decode cc pc = .ok (.invokevirtual index, 3)) (hf : cells + 1 ≤ R.cells ∧ slots + 6 ≤ R.slots) (hn : As.length = n := by rfl) :
    zTRun p l e R s m args below meth c H locs cells slots (F0 m pc ls st0) rest E Wd free := by
  obtain ⟨hx, hb, hml, ho, -⟩ := Sx
  obtain ⟨hbl, ⟨cellB, hcB, hoB, hclB⟩, hPc⟩ := hp
  intro T hT X
  obtain ⟨-, -, -, -, -, -, hcode, -, hy, hlen, hl⟩ := id cw.1
  obtain ⟨mk, methM, hnamed, hmethM, hstM, habM⟩ := Cond.instanceMethod_spec cw.2.1
  obtain ⟨methM', cM, hmethM', -, -, -, -, -, -, hsigM⟩ := Cond.code_spec hnamed hcode
  cases hmethM.symm.trans hmethM'
  obtain ⟨c2, r2, m2, q1, q2, q3, q4, kP, hkP, hkPi⟩ := Cond.selects_spec cw.2.2
  cases hclB.symm.trans q1
  cases (State.methodFound?_of_named hnamed hy).symm.trans q2
  cases hnamed.symm.trans q3
  have hselP : selectMethod e.platform s.vm cellB.cls mk = .method mk := by rw [Launch.admits_selectMethod X.admits]; exact q4
  obtain ⟨vm₁, X₁, hstep₁⟩ := X.invokevirtual hx ho hl hnamed hmethM hstM hkP hkPi hy (a := b) (cell := cellB) (by rw [hT]; exact hcB)
    (fun z h => by rw [h] at hoB; cases hoB) hselP hmethM habM hkP hkPi (g := F0 m pc ls st0) rfl (argsL := As) (rest := rest) (hn.trans (hlen _ hsigM)) hstack (by rw [hb]; exact hdg)
  obtain ⟨q, ce, t, T', L, hwd, e1, hce, hcv, hcl, X', hL, st⟩ := zt_inv hM hbl cw.1 X₁ (g := F0 m pc ls rest) rfl (hsize.trans hml.symm) (ig := .invokevirtual index) (by rw [hb]; exact hdg) hW (X₁.named hnamed) hf.1 hf.2 (hPc (T.setVm vm₁) hT X₁.warmed)
  exact ⟨q, ce, (T.setVm vm₁).calling (F0 m pc ls rest) mk (Value.ref b :: As).toArray, t, T', L, hT, hwd, e1, hce, hcv, zt_cls X₁.warmed hcl, X', hL, hstep₁ _ fun acts => by rw [doInvoke_state]; exact st⟩
/-- not caught here -/
theorem zt_out {Wd0 : State → State → Prop} {free0 : Addr → Prop} (hr : zTRun p l e R s m args below meth c H locs 0 0 (F0 m pc ls st0) rest E Wd0 free0) (hout : ∀ x ∈ c.exceptionTable.toList, False) (hlocks : meth.locks = false)
    (hwd : ∀ st₀ t : State, st₀.heap = H → Wd0 st₀ t → ∀ T' : State, T'.heap = t.heap → Wd s T') (hlocs : ∀ z ∈ locs, free z.base) (hfree : ∀ z, free0 z → free z) : W p l e R s m args below meth c H locs 0 0 (zTM below E Wd free args s) (F0 m pc ls st0) := by
  intro T hT X
  obtain ⟨q, ce, st₀, t, T', L, h0, hw0, e1, hce, hcv, hcl, X', hL, st⟩ := hr T hT X
  obtain ⟨st1, hrun, hend, hW, hsm⟩ := X'.leaveThrown q (g := F0 m pc ls rest) rfl rfl rfl (fun x hx => (hout x hx).elim) hlocks
  refine ⟨_, st.trans st1, .threw q, hrun, hend, q, ce, locs ++ L, rfl, hwd st₀ t h0 hw0 _ e1, ?_, hcv, hcl, hW, hsm, fun z hz => ?_⟩
  · show T'.heap[q]? = some ce
    rw [e1]; exact hce
  · rcases List.mem_append.mp hz with h | h
    · exact hlocs z h
    · exact hfree _ (hL z h)
/-- throw new E("text"): new; dup; ldc; invokespecial; athrow, in a heap that is as at the method's entry -/
theorem zt_throw (hexec : p.tables.exec = Jvm.exec) (hb : c.code = cc) (hl : l.stackTraces = false) {text : String} {names : List String} {ik is ic sa : Nat}
    (hown : s.vm.findClass own = some m.cls) (hcls : Bundle.fit E = true) (hnames : ∀ n ∈ names, Bundle.fit n = true)
    (hk : (Cond.classLink own ik E).before args s = true) (hini : (Cond.initialized E).before args s = true) (hstr : vk_R own is text sa s) (hat : ∀ w ∈ Bundle.ownAtoms own ic E names, w.before args s = true) (hsize : ls.size = c.maxLocals)
    (d0 : decode cc pc = .ok (.new ik, 3)) (d3 : decode cc (pc + 3) = .ok (.dup, 1)) (d4 : decode cc (pc + 4) = .ok (.ldc is, 2)) (d6 : decode cc (pc + 6) = .ok (.invokespecial ic, 3)) (d9 : decode cc (pc + 9) = .ok (.athrow, 1))
    (hout : ∀ x ∈ c.exceptionTable.toList, False) (hRf : names.length + 3 < R.frames) (hRl : (rest.map fun v => v.category).sum + (13 * (names.length + 1) + 43) ≤ R.locals) (hRc : 1 ≤ R.cells) (hRs : 6 ≤ R.slots) (hlocks : meth.locks = false)
    (hH : H = s.heap) (hlo : locs = [])
    (hwd : ∀ t : State, s.heap.size ≤ t.heap.size → (∀ q : Nat, q < s.heap.size → t.heap[q]? = s.heap[q]?) → Wd s t) : W p l e R s m args below meth c H locs 0 0 (zTM below E Wd free args s) (F0 m pc ls rest) := by
  subst hH
  subst hlo
  intro T hT X
  have htr : e.platform.stackTraces = false := (show e.platform.stackTraces = l.stackTraces by rw [X.admits.platform]).trans hl
  have hins : (Cond.instantiable E 6).before args s = true := hat _ (by simp [Bundle.ownAtoms])
  obtain ⟨vm₁, cX, kX, hfX, hkX, -, -, X₁, st1⟩ := X.newCold hexec (own := own) (C := E) (index := ik) (n := 6) hown hk hins hini
    (g := F0 m pc ls rest) rfl (by rw [hb]; exact d0) (by omega) (by omega)
  generalize hT1 : (T.setVm vm₁).pushCell { cls := cX, slots := kX.instanceTypes.map defaultValue, vm := .none } = T1 at X₁ st1
  have hcat : (Value.ref T.heap.size).category = 1 := rfl
  have hcellA : T1.heap[T.heap.size]? = some (freshCell cX kX) := by rw [← hT1]; exact State.heap_pushCell_size _ _
  have d3' : decode c.code (pc + 3) = .ok (.dup, 1) := by rw [hb]; exact d3
  obtain ⟨U, hsteps, hrun, hend, hW, hsame, ce, hce, hO⟩ := X₁.ctorThrowS hexec htr (own := own) (cls := E) (names := names) (ic := ic) hown hcls hnames hat (fun x hx => nomatch hx) hfX hkX hcellA (by rw [hT]; exact Nat.le_refl _) (msg := .ref sa) rfl
    (g := { method := m, pc := pc + 6, locals := ls, stack := .ref sa :: .ref T.heap.size :: .ref T.heap.size :: rest, locked := none }) rfl hsize rfl rfl (rest := rest) rfl
    (by rw [hb]; exact d6) (by rw [hb]; exact d9) (fun x hx => (hout x hx).elim) hRf (by simp only [List.map_cons, List.sum_cons, hcat]; omega) hlocks
  have hfr : s.heap.size ≤ U.heap.size ∧ ∀ q : Nat, q < s.heap.size → U.heap[q]? = s.heap[q]? := by
    obtain ⟨-, h2, -, -, -, h6⟩ := id hsame
    refine ⟨h2, fun q hq => ?_⟩
    obtain ⟨c9, e1, e2, -, e4⟩ := h6 q _ (Array.getElem?_eq_getElem hq)
    have h8 : c9.slots = (s.heap[q]).slots := Array.ext_getElem? fun i => e4 i fun hm => nomatch hm
    rw [h8] at e2
    have e5 : U.heap[q]? = some c9 := e1
    rw [e5, e2, Array.getElem?_eq_getElem hq]
  refine ⟨U, ?_, .threw T.heap.size, hrun, hend, T.heap.size, ce, [], rfl, hwd U hfr.1 hfr.2, hce, hO.vm, hO.cls, hW, hsame, fun z hz => nomatch hz⟩
  refine st1 _ ?_
  show Steps p.tables e below (T1.setTop { method := m, pc := pc + 3, locals := ls, stack := .ref T.heap.size :: rest, locked := none }) _
  jvm_step X₁.here [X₁.here.top, hexec, d3', Value.category]
  exact X₁.ldcString hexec (own := own) (text := text) (index := is) (a := sa) hown hstr.1 hstr.2
    (g := { method := m, pc := pc + 4, locals := ls, stack := .ref T.heap.size :: .ref T.heap.size :: rest, locked := none }) rfl (by rw [hb]; exact d4) _ hsteps
/-- a method without handlers that throws: from its walk -/
theorem zTMet.ofW {ws' : List Cond} (hy : plainName y.cls = true) (hw : ws = Cond.code y cc maxL ret :: ws')
    (body : ∀ p e s m args below meth c s₁, BodyLoose p l y (headSpec ws rm) cc maxL ret e s m args below meth c s₁ → c.maxLocals = maxL → (∀ x ∈ c.exceptionTable.toList, False) → Pc args s →
      W p l e (headSpec ws rm).room s m args below meth c s.heap [] 0 0 (zTM below E Wd free args s) (entryFrame m args maxL)) : zTMet l y ws rm Pc E Wd free := by
  refine MetFree.of_bodyS (code := cc) (maxLocals := maxL) (ret := ret) hy ?_ ?_
  · intro args s m h hn
    obtain ⟨meth, c, h1, h2, h3, h4, h5, h6, -, -⟩ := Cond.code_spec hn (atoms_spec (ws := ws) h _ (by rw [hw]; exact List.mem_cons_self))
    exact ⟨meth, c, h1, h2, h3, h4, h5, h6⟩
  · intro p e s m args below meth c s₁ B hml hP _
    have hh0 : s₁.heap = s.heap := by rw [B.state]; rfl
    have ht : ∀ x ∈ c.exceptionTable.toList, False := by
      obtain ⟨meth9, c9, h1, h2, -, -, -, -, h7, -⟩ := Cond.code_spec B.named (atoms_spec (ws := ws) B.pre _ (by rw [hw]; exact List.mem_cons_self))
      cases Option.some.inj (h1.symm.trans B.method)
      cases Option.some.inj (h2.symm.trans (Stand.of_body B).code)
      intro x hx
      rw [Array.isEmpty_iff.mp h7] at hx
      cases hx
    obtain ⟨t, a1, o, b1, b2, b3⟩ := body p e s m args below meth c s₁ B hml ht hP s₁ hh0 (Stand.of_body B)
    exact ⟨t, o, a1, b1, b2, b3⟩
end ZT
/-! contracts over a world for methods that may throw: x E U: they throw E and leave the state U -/
def zWd {S : Type} (D : va_G) (cl : List vw_C) (x : S → va_W) (u U' : S) : State → State → Prop := fun st t => (va_P D cl (x U') t.heap ∧ va_D (zA (x u)) (x U')) ∧ va_F (zA (x u)) st t
def zPX {S : Type} (D : va_G) (cl : List vw_C) (ty : List (ClassId × FieldType)) (nw : List Cond) (sk : List (String × Nat × String × Nat)) (x : S → va_W) (av : List Value) (u : S) : Array Value → State → Prop := fun v U => v = av.toArray ∧ zW D cl ty nw x (fun _ => True) U u U.heap ∧ zEx sk (zA (x u)) U U.heap
def zT {S : Type} (l : Launch) (y : MethodName) (ws : List Cond) (rm : Room) (D : va_G) (cl : List vw_C) (ty : List (ClassId × FieldType)) (nw : List Cond) (sk : List (String × Nat × String × Nat)) (x : S → va_W) (av : List Value) (u : S) (E : String) (U' : S) : Prop := zTMet l y ws rm (zPX D cl ty nw sk x av u) E (zWd D cl x u U') (zA (x u))
theorem zPX_blind {S : Type} {D : va_G} {cl : List vw_C} {ty : List (ClassId × FieldType)} {nw : List Cond} {sk : List (String × Nat × String × Nat)} {x : S → va_W} {av : List Value} {u : S} : FrameBlind (zPX D cl ty nw sk x av u) := by
  intro a U g mk q
  obtain ⟨q0, qW, qE⟩ := q
  obtain ⟨r0, rW⟩ := zP_blind a U g mk (show zP D cl ty nw x av u a U from ⟨q0, qW⟩)
  exact ⟨r0, rW, zEx.same (s := U) (U := U.calling g mk a) qE rfl⟩
section ZTW
variable {p : Program} {l : Launch} {e : Env} {R : Room} {s : State} {m : MethodId} {args : Array Value} {below : List Frame} {meth : Method} {c : Code} {H : Heap} {locs : List Loc} {cells slots : Nat}
variable {cc bytes : ByteArray} {pc maxL nL n index : Nat} {ret : Option FieldType} {ls : Array Slot} {rest st0 As : List Value} {y : MethodName} {ws Ts : List Cond} {rm : Room} {E own C : String} {b : Addr}
variable {S : Type} {D : va_G} {cl : List vw_C} {ty : List (ClassId × FieldType)} {nw : List Cond} {sk : List (String × Nat × String × Nat)} {x : S → va_W} {A : Nat → Prop} {u u1 U' : S}
theorem zt_preA (hw : zW D cl ty nw x A s u H) : ∀ q, zA (x u) q → A q := fun q h => by
  obtain ⟨k, e9, h9⟩ := h
  exact hw.2.2.1.2 k (q, e9) h9
theorem ztS (Sx : CallFix p m c cc nL s args Ts own) (hM : zT l y ws rm D cl ty nw sk x As u E U') (cw : CallB R s args own index y bytes maxL ret ws rm 1 6 n ∧ (Cond.static y).before args s = true) (hw : zW D cl ty nw x A s u H) (hE : zEx sk A s s.heap) (hS : va_S A s.heap H locs)
    (hsize : ls.size = nL) (hstack : st0 = As.reverse ++ rest) (hW : 2 * (F0 m pc ls st0).monitorRoom + (rest.map fun v => v.category).sum ≤ 8) (hdg : decode cc pc = .ok (.invokestatic index, 3)) (hf : cells + 1 ≤ R.cells ∧ slots + 6 ≤ R.slots) (hn : As.length = n := by rfl) :
    zTRun p l e R s m args below meth c H locs cells slots (F0 m pc ls st0) rest E (zWd D cl x u U') (zA (x u)) :=
  zt_runS Sx hM cw ⟨zPX_blind, fun U hU hWm => ⟨rfl, zW_at hw hU hWm, by rw [hU]; exact hE.warm hWm (zt_preA hw) hS.2.1⟩⟩ hsize hstack hW hdg hf hn
theorem ztV (Sx : CallFix p m c cc nL s args Ts own) (hM : zT l y ws rm D cl ty nw sk x (.ref b :: As) u E U') (cw : CallW R s args own C index y bytes maxL ret ws rm 1 6 n) (hw : zW D cl ty nw x A s u H) (hE : zEx sk A s s.heap) (hS : va_S A s.heap H locs) (q0 : Nat) {ci N : Nat} {fs : List Value} {T : u_T} (he : (x u)[q0]? = some (b, .inr (ci, fs))) (hc : cl[ci]? = some (C, T, N))
    (hsize : ls.size = nL) (hstack : st0 = As.reverse ++ .ref b :: rest) (hW : 2 * (F0 m pc ls st0).monitorRoom + (rest.map fun v => v.category).sum ≤ 8) (hdg : decode cc pc = .ok (.invokevirtual index, 3)) (hf : cells + 1 ≤ R.cells ∧ slots + 6 ≤ R.slots) (hn : As.length = n := by rfl) :
    zTRun p l e R s m args below meth c H locs cells slots (F0 m pc ls st0) rest E (zWd D cl x u U') (zA (x u)) :=
  zt_runV Sx hM cw ⟨zPX_blind, va_recv hw.2.1 hw.1 hc he, fun U hU hWm => ⟨rfl, zW_at hw hU hWm, by rw [hU]; exact hE.warm hWm (zt_preA hw) hS.2.1⟩⟩ hsize hstack hW hdg hf hn
/-- not caught here, over a world -/
theorem zt_prop (hr : zTRun p l e R s m args below meth c H locs 0 0 (F0 m pc ls st0) rest E (zWd D cl x u1 U') (zA (x u1))) (hout : ∀ x ∈ c.exceptionTable.toList, False) (hlocks : meth.locks = false) (hw : zW D cl ty nw x (zA (x u)) s u1 H) (hS : va_S (zA (x u)) s.heap H locs) : W p l e R s m args below meth c H locs 0 0 (zTM below E (zWd D cl x u U') (zA (x u)) args s) (F0 m pc ls st0) :=
  zt_out hr hout hlocks (fun st₀ t h0 hwd T' hT' => by
    obtain ⟨⟨hP, hD⟩, hz, hk⟩ := hwd
    rw [h0] at hz hk
    exact ⟨⟨by rw [hT']; exact hP, hD.weaken (fun _ _ _ h => zt_preA hw _ h)⟩, Nat.le_trans hS.1 (by rw [hT']; exact hz), fun q h1 h2 => by rw [hT', hk q (Nat.lt_of_lt_of_le h1 hS.1) (fun z => h2 (zt_preA hw q z))]; exact hS.2.1 q h1 h2⟩) hS.2.2 (zt_preA hw)
end ZTW
theorem zT_of {S : Type} {l : Launch} {y : MethodName} {ws : List Cond} {rm : Room} {D : va_G} {cl : List vw_C} {ty : List (ClassId × FieldType)} {nw : List Cond} {sk : List (String × Nat × String × Nat)} {x : S → va_W} {av : List Value} {u : S} {cc : ByteArray} {maxL : Nat} {ret : Option FieldType} {own E : String} {U' : S} (hy : plainName y.cls = true) (hw0 : ws = Cond.code y cc maxL ret :: G0) (ho : y.cls = own) (hav : (lg_sl av).length ≤ maxL)
    (body : ∀ (p : Program) (e : Env) (R : Room) (st : State) (m : MethodId) (args : Array Value) (below : List Frame) (meth : Method) (c : Code) (A : Nat → Prop) (H : Heap) (locs : List Loc) (Q : State → Prop) (ls : Array Slot), R = rm → p.tables.exec = Jvm.exec → c.code = cc → c.maxLocals = maxL → st.vm.findClass own = some m.cls → (∀ w ∈ G0, w.before args st = true) → zW D cl ty nw x A st u H → va_S A st.heap H locs → zEx sk A st st.heap →
      (∀ (u1 : S) (H : Heap) (locs : List Loc) (pc : Nat) (ls : Array Slot) (st0 rest : List Value), zTRun p l e R st m args below meth c H locs 0 0 (F0 m pc ls st0) rest E (zWd D cl x u1 U') (zA (x u1)) → zW D cl ty nw x A st u1 H → va_S A st.heap H locs → W p l e R st m args below meth c H locs 0 0 Q (F0 m pc ls st0)) →
      (∀ {text : String} {ik is ic sa pc : Nat} {ls : Array Slot} {rest : List Value} (ps : List Nat), u = U' → ls.size = maxL → Bundle.fit E = true → Cond.classLink own ik E ∈ G0 → Cond.initialized E ∈ G0 → (own, is, text, sa) ∈ sk → (Bundle.ownAtoms own ic E ["java/lang/RuntimeException", "java/lang/Exception"]).filter goodWord = ps.filterMap (fun i => lw_tbl[i]?) → (∀ w ∈ (Bundle.ownAtoms own ic E ["java/lang/RuntimeException", "java/lang/Exception"]).filter (fun w => !goodWord w), w ∈ exW ++ exT) →
        decode cc pc = .ok (.new ik, 3) → decode cc (pc + 3) = .ok (.dup, 1) → decode cc (pc + 4) = .ok (.ldc is, 2) → decode cc (pc + 6) = .ok (.invokespecial ic, 3) → decode cc (pc + 9) = .ok (.athrow, 1) → 5 < R.frames → (rest.map fun v => v.category).sum + 82 ≤ R.locals → 1 ≤ R.cells → 6 ≤ R.slots → W p l e R st m args below meth c H locs 0 0 Q (F0 m pc ls rest)) →
      lv_has ls maxL (lv_args 0 av) → W p l e R st m args below meth c H locs 0 0 Q (F0 m 0 ls [])) (hl9 : l.stackTraces = false) : zT l y ws rm D cl ty nw sk x av u E U' := by
  refine zTMet.ofW (cc := cc) (maxL := maxL) (ret := ret) hy hw0 ?_
  intro p e s m args below meth c s₁ B hml hout hv
  obtain ⟨rfl, hw, hE⟩ := hv
  have hts0 := atoms_spec (ws := ws) B.pre
  have hts : ∀ w ∈ G0, w.before _ s = true := fun w h => hts0 w (by rw [hw0]; exact List.mem_cons_of_mem _ h)
  have hown : s.vm.findClass own = some m.cls := by rw [← ho]; exact findClass_of_methodNamed B.named
  have hl := lv_entry av (n := maxL) hav
  rw [lg_entry_eq]
  have hwA : zW D cl ty nw x (zA (x u)) s u s.heap := ⟨hw.1, hw.2.1, ⟨hw.2.2.1.1, fun k q hk => ⟨k, q.2, hk⟩⟩, hw.2.2.2⟩
  refine body p e _ s m _ below meth c (zA (x u)) s.heap [] _ _ rfl B.exec B.bytes hml hown hts hwA va_S.rf hE ?_ ?_ hl
  · intro u1 H locs pc ls st0 rest hr hw1 hS1
    exact zt_prop hr hout B.notSynchronized hw1 hS1
  · intro text ik is ic sa pc ls rest ps hu hsz hfit hk hini hstr h1 h2 d0 d3 d4 d6 d9 r1 r2 r3 r4
    subst hu
    refine zt_throw (names := ["java/lang/RuntimeException", "java/lang/Exception"]) B.exec B.bytes hl9 hown hfit (by decide) (hts _ hk) (hts _ hini) (hE.2.2.1 _ hstr) (zAt hts hE _ ps h1 h2) (hsz.trans hml.symm) d0 d3 d4 d6 d9 hout r1 (by simpa using r2) r3 r4 B.notSynchronized rfl rfl ?_
    intro t ht1 ht2
    exact ⟨⟨hw.1.kept (fun k q hk => ht2 q.1 (hw.1 k q hk).lt), hwA.2.2.1⟩, ht1, fun q h1 _ => ht2 q h1⟩
