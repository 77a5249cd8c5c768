/-! the law's own helpers: a world of the class's cells and the array of answers; catching (own rows zk_) -/
/-- one row of a table of handlers that covers the place, its name's link good, used before or not: it catches, or the search goes on with the link noted -/
theorem zk_row {Q : Handler → Pre} {E : CtlPost} {e : Env} {d : Bool} {acts : List Action} {S : State} {f : JFrame} {a : Addr} {x : ExceptionTableEntry} {t : List ExceptionTableEntry} {c : ClassId} {ce : Cell}
    (hx : covers x f.pc = true) (h0 : x.catchType ≠ 0) (hl : S.vm.ClassLinks e.platform f.method.cls x.catchType c) (hce : S.heap[a]? = some ce) (ho : ∀ k, ce.vm ≠ .statics k)
    (hk : ∃ k, S.vm.classes[ce.cls]? = some k) (hc : ∃ k, S.vm.classes[c]? = some k) :
    wp (findHandler.go f a (x :: t)) Q E e d acts S ↔
      (if S.vm.assignable ce.cls c = true then Q (.found x.handlerPc) d acts (S.setVm (S.vm.noted f.method.cls x.catchType (.cls c)))
       else wp (findHandler.go f a t) Q E e d acts (S.setVm (S.vm.noted f.method.cls x.catchType (.cls c)))) := by
  have hx' : (decide (x.startPc ≤ f.pc) && decide (f.pc < x.endPc)) = true := hx
  have hA : S.vm.Alike (S.vm.noted f.method.cls x.catchType (.cls c)) := (Vm.Alike.refl S.vm).noted f.method.cls x.catchType (.cls c)
  have hop := (resolveClass_links e.toSetting hl).op (op := VmOp.resolveClass f.method.cls x.catchType) rfl
  obtain ⟨k1, g1, -⟩ := hA.2.2 _ _ hk.choose_spec
  obtain ⟨k2, g2, -⟩ := hA.2.2 _ _ hc.choose_spec
  cases hb : S.vm.assignable ce.cls c with
  | true =>
    have hb' := (hA.assignable ce.cls c).trans hb
    simp [findHandler.go, hx', h0, hop.1, hop.2, hce, ho, g1, g2, hb', VmOp.dirties, VmOp.acts]
  | false =>
    have hb' := (hA.assignable ce.cls c).trans hb
    simp [findHandler.go, hx', h0, hop.1, hop.2, hce, ho, g1, g2, hb', VmOp.dirties, VmOp.acts]
/-- the search: rows whose names the thrown one doesn't fit, then the row that catches it -/
theorem zk_search {e : Env} {s : State} {f : JFrame} {a : Addr} {ce : Cell} {r : ExceptionTableEntry} {suf : List ExceptionTableEntry} {c : ClassId} (ho : ∀ k, ce.vm ≠ .statics k) (hk : ∃ k, s.vm.classes[ce.cls]? = some k)
    (hr : covers r f.pc = true) (h0 : r.catchType ≠ 0) (hl : s.vm.ClassLinks e.platform f.method.cls r.catchType c) (hb : s.vm.assignable ce.cls c = true) (pre : List ExceptionTableEntry) :
    ∀ S : State, s.WarmedH S.vm → S.heap[a]? = some ce → (∀ z ∈ pre, z.catchType ≠ 0 ∧ ∃ c', s.vm.ClassLinks e.platform f.method.cls z.catchType c' ∧ s.vm.assignable ce.cls c' = false) →
      ∃ vm', s.WarmedH vm' ∧ ∀ (Q : Handler → Pre) (E : CtlPost) (d : Bool) (acts : List Action), wp (findHandler.go f a (pre ++ r :: suf)) Q E e d acts S ↔ Q (.found r.handlerPc) d acts (S.setVm vm') := by
  have both : ∀ (S : State) (x : ExceptionTableEntry) (c' : ClassId), s.WarmedH S.vm → s.vm.ClassLinks e.platform f.method.cls x.catchType c' →
      s.WarmedH (S.vm.noted f.method.cls x.catchType (.cls c')) ∧ S.vm.ClassLinks e.platform f.method.cls x.catchType c' ∧ (∃ k, S.vm.classes[ce.cls]? = some k) ∧ (∃ k, S.vm.classes[c']? = some k) ∧ S.vm.assignable ce.cls c' = s.vm.assignable ce.cls c' := by
    intro S x c' hW h
    obtain ⟨_, _, _, kt, hd, _, _, _, _, hkt, _, hcl⟩ := h.here
    obtain ⟨k1, g1, -⟩ := hW.alike.2.2 _ _ hk.choose_spec
    obtain ⟨k2, g2, -⟩ := hW.alike.2.2 _ _ hkt
    exact ⟨hW.noted hd hcl (State.rightAt_cls h), hW.classLinks h, ⟨k1, g1⟩, ⟨k2, g2⟩, hW.alike.assignable _ _⟩
  induction pre with
  | nil =>
    intro S hW hce _
    obtain ⟨b1, b2, b3, b4, b5⟩ := both S r c hW hl
    refine ⟨_, b1, fun Q E d acts => ?_⟩
    rw [List.nil_append, zk_row hr h0 b2 hce ho b3 b4, if_pos (b5.trans hb)]
  | cons z zs ih =>
    intro S hW hce hp
    have hp' := fun y hy => hp y (List.mem_cons_of_mem z hy)
    cases hz : covers z f.pc with
    | false =>
      obtain ⟨vm', g1, g2⟩ := ih S hW hce hp'
      refine ⟨vm', g1, fun Q E d acts => ?_⟩
      rw [List.cons_append, Jvm.W.findHandler_go_skip hz]
      exact g2 Q E d acts
    | true =>
      obtain ⟨z0, c', zl, zb⟩ := hp z (List.mem_cons_self ..)
      obtain ⟨b1, b2, b3, b4, b5⟩ := both S z c' hW zl
      obtain ⟨vm', g1, g2⟩ := ih (S.setVm (S.vm.noted f.method.cls z.catchType (.cls c'))) b1 hce hp'
      refine ⟨vm', g1, fun Q E d acts => ?_⟩
      rw [List.cons_append, zk_row hz z0 b2 hce ho b3 b4, if_neg (by rw [b5, zb]; decide)]
      exact g2 Q E d acts
/-- one step of the throwing thread: the handler's frame, the tables as the search leaves them -/
theorem zk_step {p : Program} {l : Launch} {e : Env} {R : Room} {s : State} {m : MethodId} {args : Array Value} {below : List Frame} {meth : Method} {c : Code} {T : State} {locs : List Loc} {cells slots : Nat}
    (X : Stand p l e R s m args below meth c T locs cells slots) (a : Addr) {g : JFrame} (hg : g.method = m) {ce : Cell} (hce : T.heap[a]? = some ce) (ho : ce.vm.isStatics = false) (hk : ∃ k, s.vm.classes[ce.cls]? = some k)
    {pre : List ExceptionTableEntry} {r : ExceptionTableEntry} {suf : List ExceptionTableEntry} (hsplit : c.exceptionTable.toList = pre ++ r :: suf)
    (hp : ∀ z ∈ pre, z.catchType ≠ 0 ∧ ∃ c', s.vm.ClassLinks e.platform m.cls z.catchType c' ∧ s.vm.assignable ce.cls c' = false)
    (hr : covers r g.pc = true) (h0 : r.catchType ≠ 0) {cr : ClassId} (hl : s.vm.ClassLinks e.platform m.cls r.catchType cr) (hb : s.vm.assignable ce.cls cr = true) :
    ∃ vm', Stand p l e R s m args below meth c (T.setVm vm') locs cells slots ∧ Steps p.tables e below ((T.setTop g).pushFrame (.throwing a)) ((T.setVm vm').setTop { g with pc := r.handlerPc, stack := [.ref a] }) := by
  subst hg
  obtain ⟨g0, hfr⟩ := X.frames_eq
  obtain ⟨vm', hW, hs⟩ := zk_search (e := e) (f := g) (a := a) (suf := suf) (VmData.ne_statics_of ho) hk hr h0 hl hb pre ((T.setTop g).pushFrame (.throwing a)) X.warmed hce hp
  refine ⟨vm', X.noted hW, ?_⟩
  obtain ⟨hgo, hw⟩ := X.here.throwing a
  refine Steps.head hgo hw ?_
  have hpush : (T.setTop g).pushFrame (.throwing a) = T.setFrames (.throwing a :: .java g :: below) := by
    rw [State.pushFrame, State.frames_setTop _ hfr, State.setTop_of_frames _ hfr, State.setFrames_setFrames]
  have hst : stepThread p.tables e ((T.setTop g).pushFrame (.throwing a)) = stepThrowing e ((T.setTop g).pushFrame (.throwing a)) a (.java g :: below) :=
    stepThread_throwing (by rw [hpush]; exact State.frames_setFrames _ (State.cur_lt_of_frames hfr))
  have hfind : ∀ (Q : Handler → Pre) (E : CtlPost) (d : Bool) (acts : List Action), wp (findHandler g a) Q E e d acts ((T.setTop g).pushFrame (.throwing a)) ↔ Q (.found r.handlerPc) d acts (((T.setTop g).pushFrame (.throwing a)).setVm vm') :=
    fun Q E d acts => by rw [Jvm.W.findHandler_eq (s := (T.setTop g).pushFrame (.throwing a)) (meth := meth) (code := c) X.method' X.code, hsplit]; exact hs Q E d acts
  rw [hst]
  have hone : (stepThrowing e ((T.setTop g).pushFrame (.throwing a)) a (.java g :: below)).Is ((((T.setTop g).pushFrame (.throwing a)).setVm vm').setFrames (.java { g with pc := r.handlerPc, stack := [.ref a] } :: below)) [] := by
    simp only [stepThrowing, searchFrame, vmDo]
    generalize hq : Sem.go _ e false [] ((T.setTop g).pushFrame (.throwing a)) = res
    obtain ⟨as, rfl, ha⟩ := Sem.eq_ok_of hq (a := Handler.found r.handlerPc) (s' := ((T.setTop g).pushFrame (.throwing a)).setVm vm') (acts' := []) (by simp [hfind])
    exact ⟨rfl, ha⟩
  rw [hone.1]
  have hfr' : (T.setVm vm').frames = .java g0 :: below := hfr
  have hend : (((T.setTop g).pushFrame (.throwing a)).setVm vm').setFrames (.java { g with pc := r.handlerPc, stack := [.ref a] } :: below) = (T.setVm vm').setTop { g with pc := r.handlerPc, stack := [.ref a] } := by
    rw [State.setTop_of_frames _ hfr', hpush]
    show ((T.setVm vm').setFrames _).setFrames _ = _
    rw [State.setFrames_setFrames]
  rw [hend]
  exact Steps.refl _
section ZLB
variable {p : Program} {l : Launch} {e : Env} {R : Room} {s : State} {m : MethodId} {args : Array Value} {below : List Frame} {meth : Method} {c : Code} {H : Heap} {locs : List Loc} {cells slots : Nat} {Q : State → Prop}
variable {cc bytes : ByteArray} {pc maxL nL n index mc ms : Nat} {ret : Option FieldType} {ls : Array Slot} {rest st0 As : List Value} {y : MethodName} {ws Ts : List Cond} {rm : Room} {Pc : Array Value → State → Prop} {Qc : Array Value → State → Outcome → State → Prop} {free : Addr → Prop} {E own C : String} {b : Addr} {a : Array Value}
variable {S : Type} {D : va_G} {cl : List vw_C} {ty : List (ClassId × FieldType)} {nw : List Cond} {sk : List (String × Nat × String × Nat)} {x : S → va_W} {A : Nat → Prop} {u : S} {H0 : Heap}
/-- a call over a world, with what it leaves alone -/
theorem z_wVG {V : Option Value} {F : S} (hr : va_Run p l e R s m args below meth c H locs cells slots mc ms (F0 m pc ls st0) rest (zQ D cl x u V F a) (zA (x u))) (hw : zW D cl ty nw x A s u H) (hS : va_S A H0 H locs)
    (kk : ∀ (H1 : Heap) (locs1 : List Loc), zW D cl ty nw x A s F H1 → va_S A H0 H1 locs1 → H.size ≤ H1.size → (∀ q : Nat, q < H.size → ¬ zA (x u) q → H1[q]? = H[q]?) → W p l e R s m args below meth c H1 locs1 (cells + mc) (slots + ms) Q (F0 m (pc + 3) ls (V.toList ++ rest))) : W p l e R s m args below meth c H locs cells slots Q (F0 m pc ls st0) := by
  intro T hT X
  obtain ⟨v, st₀, t, T', L, h0, X', hL, e1, e2, ⟨hv, ⟨hP, hD⟩, hz, hk⟩, st⟩ := hr T hT X
  cases hv
  rw [h0] at hz hk
  have hAA : ∀ q, zA (x u) q → A q := zt_preA hw
  obtain ⟨t2, a1, b1⟩ := kk T'.heap (locs ++ L) ⟨by rw [e1]; exact hP, hw.2.1, hD.weaken (fun _ _ _ h => hAA _ h), hw.2.2.2⟩
    ⟨Nat.le_trans hS.1 (by rw [e1]; exact hz), fun q h1 h2 => by rw [e1, hk q (Nat.lt_of_lt_of_le h1 hS.1) (fun z => h2 (hAA q z))]; exact hS.2.1 q h1 h2, fun q hq => by
      rcases List.mem_append.mp hq with h | h
      · exact hS.2.2 q h
      · exact hAA _ (hL q h)⟩ (by rw [e1]; exact hz) (fun q h1 h2 => by rw [e1]; exact hk q h1 h2) T' rfl X'
  exact ⟨t2, st t2 a1, b1⟩
/-- a static call of a method that has handlers -/
theorem zl_runSW (Sx : CallFix p m c cc nL s args Ts own) (hM : Met l y ws rm Pc Qc mc ms free) {hh : List (Nat × Nat × Nat × Nat)} (hG : GoodIn Ts ws) (hcw : Cond.codeWith y bytes maxL ret hh ∈ ws) (hini : Cond.initialized y.cls ∈ Ts) (hl : Cond.methodLink own index y ∈ Ts) (hst : Cond.static y ∈ Ts) (hrc : rm.cells = mc) (hrs : rm.slots = ms) (hR : rm.frames + 1 ≤ R.frames ∧ 8 + (maxL + 11) + rm.locals ≤ R.locals)
    (hd : y.cls ≠ "java/lang/invoke/MethodHandle" ∧ y.cls ≠ "java/lang/invoke/VarHandle" ∧ (parseMethodDescriptor y.desc).map (fun d => d.parameters.length) = some n) (hp : PreS s H Pc As)
    (hsize : ls.size = nL) (hstack : st0 = As.reverse ++ rest) (hW : 2 * (F0 m pc ls st0).monitorRoom + (rest.map fun v => v.category).sum ≤ 8) (hdg : decode cc pc = .ok (.invokestatic index, 3)) (hf : cells + mc ≤ R.cells ∧ slots + ms ≤ R.slots) (hn : As.length = n := by rfl) :
    va_Run p l e R s m args below meth c H locs cells slots mc ms (F0 m pc ls st0) rest (Qc As.toArray) free := by
  obtain ⟨hx, hb, hml, ho, hts⟩ := Sx
  have hini' : (Cond.initialized y.cls).before args s = true := hts _ hini
  have hK : Back l R p e below s args y 3 8 (PreOf R mc ms Pc) (PostOf Qc mc ms free) := va_backW (hh := hh) (bytes := bytes) (maxL := maxL) (ret := ret) hM hp.1 hrc hrs hR.1 hR.2 (pay_in hts hG) hcw (fun a' U hW => word_at hW (Or.inl (by first | rfl | simp [Cond.onTables, Cond.keeps, Cond.steady])) hini')
  intro T hT X
  have hcode : (Cond.codeWith y bytes maxL ret hh).before args s = true := hts _ (hG _ hcw).1
  obtain ⟨mk, methM, cM, hnamed, hmethM, -, -, -, -, -, -, hsigM⟩ := Cond.codeWith_spec hcode
  have hstatic : methM.isStatic = true := Cond.static_spec hnamed hmethM (hts _ hst)
  obtain ⟨kP, hkP, -⟩ := className_of_methodNamed hnamed
  have hinitP : kP.init = .initialized := Cond.initialized_spec (findClass_of_methodNamed hnamed) hkP hini'
  have hlen : As.length = methM.sig.parameters.length := by
    have h2 := hd.2.2
    rw [hsigM] at h2
    exact hn.trans (Option.some.inj h2).symm
  obtain ⟨vm₁, X₁, hstep₁⟩ := X.invokestatic hx ho (hts _ hl) hnamed hmethM hstatic hkP hinitP ⟨hd.1, hd.2.1⟩ (g := F0 m pc ls st0) rfl (argsL := As) (rest := rest) hlen hstack (by rw [hb]; exact hdg)
  obtain ⟨v, ⟨U', l2, c2, s2⟩, X', ⟨g', mk', t, L, e1, e2, hq, h1, hL, h2, h3⟩, hsteps⟩ := hK m meth c ⟨T.setVm vm₁, locs, cells, slots⟩ { (F0 m pc ls st0) with stack := rest } (.invokestatic index) mk As.toArray X₁ rfl (hsize.trans hml.symm) (by rw [hb]; exact hdg) hW (X₁.named hnamed) ⟨hf.1, hf.2, hp.2 (T.setVm vm₁) hT X₁.warmed⟩
  dsimp only [Pt.U, Pt.locs, Pt.cells, Pt.slots] at X' e1 e2 h1 h2 h3 hsteps
  subst h1; subst h2; subst h3
  exact ⟨v, (T.setVm vm₁).calling g' mk' As.toArray, t, U', L, hT, X', hL, e1, e2, hq, fun target h => hstep₁ _ fun acts => by rw [doInvoke_state]; exact hsteps.trans h⟩
/-- caught by the row r of this method's table; the rows ahead name other classes -/
theorem zt_catch {U' : S} (hr : zTRun p l e R s m args below meth c H locs cells slots (F0 m pc ls st0) rest E (zWd D cl x u U') (zA (x u))) (hown : s.vm.findClass own = some m.cls) (pre : List ExceptionTableEntry) (r : ExceptionTableEntry) (suf : List ExceptionTableEntry) (hsplit : c.exceptionTable.toList = pre ++ r :: suf)
    (hpass : ∀ z ∈ pre, z.catchType ≠ 0 ∧ ∃ nm : String, (Cond.classLink own z.catchType nm).before args s = true ∧ va_Nc E nm s) (hc : covers r pc = true) (h0 : r.catchType ≠ 0)
    (hlink : (Cond.classLink own r.catchType E).before args s = true) (hcast : (Cond.castable E E).before args s = true) (hw : zW D cl ty nw x A s u H) (hS : va_S A H0 H locs)
    (kk : ∀ (q : Addr) (H1 : Heap) (locs1 : List Loc), zW D cl ty nw x A s U' H1 → va_S A H0 H1 locs1 → H.size ≤ H1.size → (∀ q : Nat, q < H.size → ¬ zA (x u) q → H1[q]? = H[q]?) → W p l e R s m args below meth c H1 locs1 (cells + 1) (slots + 6) Q (F0 m r.handlerPc ls [.ref q])) : W p l e R s m args below meth c H locs cells slots Q (F0 m pc ls st0) := by
  intro T hT X
  obtain ⟨q, ce, st₀, t, T', L, h0', ⟨⟨hP, hD⟩, hz, hk⟩, e1, hce, hcv, hcl, X', hL, st⟩ := hr T hT X
  rw [h0'] at hz hk
  have hpl : e.platform.magicAccessors = ({} : Platform).magicAccessors := by rw [X'.admits.platform]
  obtain ⟨c3, c4, hc3, hc4, hasg⟩ := Cond.castable_spec hcast
  cases Option.some.inj (hc3.symm.trans hcl)
  obtain ⟨c5, hc5, hcl5⟩ := Cond.classLink_spec hown hlink e.platform hpl
  cases Option.some.inj (hc4.symm.trans hc5)
  obtain ⟨vm', X'', st'⟩ := zk_step X' q (g := F0 m pc ls rest) rfl (by rw [e1]; exact hce) (by rw [hcv]; rfl) (by obtain ⟨k9, h9, -⟩ := Vm.findClass_spec hcl; exact ⟨k9, h9⟩) hsplit
    (fun z hz => by
      obtain ⟨hz0, nm, hl1, hn1⟩ := hpass z hz
      obtain ⟨c6, hc6, hcl6⟩ := Cond.classLink_spec hown hl1 e.platform hpl
      obtain ⟨a8, b8, h1, h2, h3⟩ := hn1
      cases Option.some.inj (h1.symm.trans hcl)
      cases Option.some.inj (h2.symm.trans hc6)
      exact ⟨hz0, _, hcl6, h3⟩) hc h0 hcl5 hasg
  have hAA : ∀ q, zA (x u) q → A q := zt_preA hw
  obtain ⟨t2, a1, b1⟩ := kk q T'.heap (locs ++ L) ⟨by rw [e1]; exact hP, hw.2.1, hD.weaken (fun _ _ _ h => hAA _ h), hw.2.2.2⟩
    ⟨Nat.le_trans hS.1 (by rw [e1]; exact hz), fun q h1 h2 => by rw [e1, hk q (Nat.lt_of_lt_of_le h1 hS.1) (fun z => h2 (hAA q z))]; exact hS.2.1 q h1 h2, fun q hq => by
      rcases List.mem_append.mp hq with h | h
      · exact hS.2.2 q h
      · exact hAA _ (hL q h)⟩ (by rw [e1]; exact hz) (fun q h1 h2 => by rw [e1]; exact hk q h1 h2) (T'.setVm vm') rfl X''
  exact ⟨t2, st.trans (st'.trans a1), b1⟩
end ZLB
/-! the class's cells and the answers' array -/
def xL (a : Nat → Nat) (k : Nat → ClassId) (ao : Nat) (ko : ClassId) (w : XS × (Nat → Int64)) : va_W := xW a k w.1 ++ [(ao, .inl (ko, 1, .inr (.inl w.2)))]
def tyL (k : Nat → ClassId) (ko : ClassId) : List (ClassId × FieldType) := tyX k ++ [(ko, .long)]
theorem va_D_ad {A : Nat → Prop} {w1 w2 : va_W} (h : va_D A w1) (e : w1.map Prod.fst = w2.map Prod.fst) : va_D A w2 := by
  have hg : ∀ (i : Nat) (q : Nat × va_E), w2[i]? = some q → ∃ q1, w1[i]? = some q1 ∧ q1.1 = q.1 := by
    intro i q hq
    have h1 : (w2.map Prod.fst)[i]? = some q.1 := by rw [List.getElem?_map, hq]; rfl
    rw [← e, List.getElem?_map] at h1
    cases h2 : w1[i]? with
    | none => rw [h2] at h1; cases h1
    | some q1 => rw [h2] at h1; exact ⟨q1, rfl, Option.some.inj h1⟩
  refine ⟨fun i j p q hp hq hpq => ?_, fun i q hq => ?_⟩
  · obtain ⟨p1, h1, e1⟩ := hg i p hp
    obtain ⟨q1, h2, e2⟩ := hg j q hq
    exact h.1 i j p1 q1 h1 h2 (by rw [e1, e2]; exact hpq)
  · obtain ⟨q1, h1, e1⟩ := hg i q hq
    rw [← e1]
    exact h.2 i q1 h1
theorem xL_sub {D : va_G} {a : Nat → Nat} {k : Nat → ClassId} {ao : Nat} {ko : ClassId} {A : Nat → Prop} {U : State} {w : XS × (Nat → Int64)} {H : Heap} (h : zW D clX (tyL k ko) nwX (xL a k ao ko) A U w H) : zW D clX (tyX k) nwX (xW a k) A U w.1 H :=
  ⟨h.1.sub [0, 1, 2, 3, 4, 5, 6, 7, 8, 9, 10, 11, 12] rfl, h.2.1.sub [0, 1, 2] rfl, h.2.2.1.sub [0, 1, 2, 3, 4, 5, 6, 7, 8, 9, 10, 11, 12] (by decide) rfl, h.2.2.2⟩
theorem xL_ext {D : va_G} {a : Nat → Nat} {k : Nat → ClassId} {ao : Nat} {ko : ClassId} {A : Nat → Prop} {U : State} {w : XS × (Nat → Int64)} {u' : XS} {H H1 : Heap} (h : zW D clX (tyL k ko) nwX (xL a k ao ko) A U w H) (h1 : zW D clX (tyX k) nwX (xW a k) A U u' H1) (hk : ∀ q : Nat, q < H.size → ¬ zA (xW a k w.1) q → H1[q]? = H[q]?) : zW D clX (tyL k ko) nwX (xL a k ao ko) A U (u', w.2) H1 := by
  have ho : (xL a k ao ko w)[13]? = some (ao, .inl (ko, 1, .inr (.inl w.2))) := rfl
  have hat := h.1 13 _ ho
  have hn : ¬ zA (xW a k w.1) ao := by
    rintro ⟨i, e9, hi⟩
    have hlt : i < 13 := by
      have := (List.getElem?_eq_some_iff.mp hi).1
      simpa [xW] using this
    have h2 : (xL a k ao ko w)[i]? = some (ao, e9) := by
      show (xW a k w.1 ++ [(ao, .inl (ko, 1, .inr (.inl w.2)))])[i]? = some (ao, e9)
      rw [List.getElem?_append_left (by simpa [xW] using hlt)]
      exact hi
    have h3 := h.2.2.1.1 i 13 _ _ h2 ho rfl
    omega
  have hkeep : H1[ao]? = H[ao]? := hk ao hat.lt hn
  refine ⟨h1.1.app (fun j q hj => ?_), h.2.1, va_D_ad h.2.2.1 rfl, h.2.2.2⟩
  cases j with
  | zero => cases hj; exact hat.kept hkeep
  | succ j => simp at hj
