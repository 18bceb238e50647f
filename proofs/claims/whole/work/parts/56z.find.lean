-- a call that throws, and the search of this method's own table: rows of the verifier over the library's main part alone
def dc_sees (pl : Platform) (s0 : State) (d thrown : ClassId) (x : ExceptionTableEntry) (b : Bool) : Prop := x.catchType ≠ 0 ∧ ∃ c : ClassId, s0.vm.ClassLinks pl d x.catchType c ∧ s0.vm.assignable thrown c = b
theorem dc_onx {Q : Handler → Pre} {E : CtlPost} {e : Env} {d : Bool} {acts : List Action} {s : State} {f : JFrame} {a : Addr} {x : ExceptionTableEntry} {t : List ExceptionTableEntry} {c : ClassId} {cell : Cell} {b : Bool}
    (hx : covers x f.pc = true) (h0 : x.catchType ≠ 0) (hl : s.vm.ClassLinks e.platform f.method.cls x.catchType c) (hcell : s.heap[a]? = some cell) (hobj : ∀ k, cell.vm ≠ .statics k)
    (hk : ∃ k, s.vm.classes[cell.cls]? = some k) (hc : ∃ k, s.vm.classes[c]? = some k) (hb : s.vm.assignable cell.cls c = b) :
    wp (findHandler.go f a (x :: t)) Q E e d acts s ↔ (if b = true then Q (.found x.handlerPc) d acts (s.setVm (s.vm.noted f.method.cls x.catchType (.cls c))) else wp (findHandler.go f a t) Q E e d acts (s.setVm (s.vm.noted f.method.cls x.catchType (.cls c)))) := by
  simp only [covers] at hx
  have hop := (resolveClass_links e.toSetting hl).op (op := VmOp.resolveClass f.method.cls x.catchType) rfl
  have hal : s.vm.Alike (s.vm.noted f.method.cls x.catchType (.cls c)) := (Vm.Alike.refl s.vm).noted _ _ _
  obtain ⟨ka, hka⟩ := hk
  obtain ⟨kb, hkb⟩ := hc
  obtain ⟨ka1, hka1, -⟩ := hal.2.2 _ _ hka
  obtain ⟨kb1, hkb1, -⟩ := hal.2.2 _ _ hkb
  have hb1 : (s.vm.noted f.method.cls x.catchType (.cls c)).assignable cell.cls c = b := by rw [hal.assignable]; exact hb
  obtain ⟨ho1, ho2⟩ := hop
  cases b with
  | true => simp [findHandler.go, hx, h0, ho1, ho2, hcell, hobj, hka1, hkb1, hb1, VmOp.dirties, VmOp.acts]
  | false => simp [findHandler.go, hx, h0, ho1, ho2, hcell, hobj, hka1, hkb1, hb1, VmOp.dirties, VmOp.acts]
theorem dc_step1 {e : Env} {s0 S : State} {f : JFrame} {a : Addr} {cell : Cell} {x : ExceptionTableEntry} {b : Bool} (hobj : ∀ k, cell.vm ≠ .statics k) (hk : ∃ k, s0.vm.classes[cell.cls]? = some k) (hx : covers x f.pc = true) (hc : dc_sees e.platform s0 f.method.cls cell.cls x b) (hW : s0.WarmedH S.vm) (hS : S.heap[a]? = some cell) :
    ∃ vm1 : Vm, s0.WarmedH vm1 ∧ ∀ (t : List ExceptionTableEntry) (Q : Handler → Pre) (E : CtlPost) (d : Bool) (acts : List Action), wp (findHandler.go f a (x :: t)) Q E e d acts S ↔ (if b = true then Q (.found x.handlerPc) d acts (S.setVm vm1) else wp (findHandler.go f a t) Q E e d acts (S.setVm vm1)) := by
  obtain ⟨h0, c, hl, hb⟩ := hc
  obtain ⟨k, hk⟩ := hk
  obtain ⟨k1, hk1, -⟩ := hW.alike.2.2 _ _ hk
  obtain ⟨dk, _, _, kt, hd, _, _, _, _, hkt, _, hopen⟩ := hl.here
  obtain ⟨kt1, hkt1, -⟩ := hW.alike.2.2 _ _ hkt
  exact ⟨_, hW.noted hd hopen (State.rightAt_cls hl), fun t Q E d acts => dc_onx hx h0 (hW.classLinks hl) hS hobj ⟨k1, hk1⟩ ⟨kt1, hkt1⟩ (by rw [hW.alike.assignable]; exact hb)⟩
theorem dc_search {e : Env} {s0 : State} {f : JFrame} {a : Addr} {cell : Cell} (hobj : ∀ k, cell.vm ≠ .statics k) (hk : ∃ k, s0.vm.classes[cell.cls]? = some k) {x : ExceptionTableEntry} {xs : List ExceptionTableEntry} (hx : covers x f.pc = true) (hc : dc_sees e.platform s0 f.method.cls cell.cls x true) :
    ∀ (pre : List ExceptionTableEntry) (S : State), s0.WarmedH S.vm → S.heap[a]? = some cell → (∀ y ∈ pre, covers y f.pc = true ∧ dc_sees e.platform s0 f.method.cls cell.cls y false) →
      ∃ vm1 : Vm, s0.WarmedH vm1 ∧ ∀ (Q : Handler → Pre) (E : CtlPost) (d : Bool) (acts : List Action), wp (findHandler.go f a (pre ++ x :: xs)) Q E e d acts S ↔ Q (.found x.handlerPc) d acts (S.setVm vm1)
  | [], S, hW, hS, _ => by
    obtain ⟨vm1, hW1, h1⟩ := dc_step1 hobj hk hx hc hW hS
    exact ⟨vm1, hW1, fun Q E d acts => by rw [List.nil_append, h1, if_pos rfl]⟩
  | y :: ys, S, hW, hS, hp => by
    obtain ⟨hy, hyc⟩ := hp y List.mem_cons_self
    obtain ⟨vm1, hW1, h1⟩ := dc_step1 hobj hk hy hyc hW hS
    obtain ⟨vm2, hW2, h2⟩ := dc_search hobj hk (xs := xs) hx hc ys (S.setVm vm1) hW1 hS (fun z hz => hp z (List.mem_cons_of_mem _ hz))
    exact ⟨vm2, hW2, fun Q E d acts => by
      rw [List.cons_append, h1, if_neg (by decide)]
      exact h2 Q E d acts⟩
section DCF
variable {p : Program} {l : Launch} {e : Env} {R : Room} {s : State} {m : MethodId} {args : Array Value} {below : List Frame} {meth : Method} {c : Code} {T : State} {locs : List Loc} {cells slots : Nat}
theorem dc_caught (X : Stand p l e R s m args below meth c T locs cells slots) (a : Addr) {g : JFrame} (hg : g.method = m) {cell : Cell} (hcell : T.heap[a]? = some cell) (hobj : cell.vm.isStatics = false) (hk : ∃ k, s.vm.classes[cell.cls]? = some k)
    {pre : List ExceptionTableEntry} {x : ExceptionTableEntry} {xs : List ExceptionTableEntry} (hsplit : c.exceptionTable.toList = pre ++ x :: xs) (hx : covers x g.pc = true) (hc : dc_sees e.platform s m.cls cell.cls x true) (hpass : ∀ y ∈ pre, covers y g.pc = true ∧ dc_sees e.platform s m.cls cell.cls y false) :
    ∃ vm1 : Vm, Stand p l e R s m args below meth c (T.setVm vm1) locs cells slots ∧
      ∀ target, Steps p.tables e below ((T.setVm vm1).setTop { g with pc := x.handlerPc, stack := [.ref a] }) target → Steps p.tables e below ((T.setTop g).pushFrame (.throwing a)) target := by
  subst hg
  obtain ⟨vm1, hW, hq⟩ := dc_search (e := e) (s0 := s) (f := g) (a := a) (cell := cell) (VmData.ne_statics_of hobj) hk (x := x) (xs := xs) hx hc pre ((T.setTop g).pushFrame (.throwing a)) (by rw [Stand.throwing_vm]; exact X.warmed) (by rw [Stand.throwing_heap]; exact hcell) hpass
  have hm1 : ((T.setTop g).pushFrame (.throwing a)).vm.method? g.method = some meth := by rw [Stand.throwing_vm]; exact X.method'
  have hfind : ∀ (Q : Handler → Pre) (E : CtlPost) (d : Bool) (acts : List Action), wp (findHandler g a) Q E e d acts ((T.setTop g).pushFrame (.throwing a)) ↔ Q (.found x.handlerPc) d acts (((T.setTop g).pushFrame (.throwing a)).setVm vm1) := fun Q E d acts => by
    rw [W.findHandler_eq hm1 X.code, hsplit]
    exact hq Q E d acts
  refine ⟨vm1, X.noted hW, fun target hrest => ?_⟩
  obtain ⟨g0, hfr⟩ := X.frames_eq
  obtain ⟨hgo, hw⟩ := X.here.throwing a
  refine Steps.head hgo hw ?_
  have hstep : (stepThrowing e ((T.setTop g).pushFrame (.throwing a)) a (.java g :: T.frames.tail)).Is ((((T.setTop g).pushFrame (.throwing a)).setVm vm1).setFrames (.java { g with pc := x.handlerPc, stack := [.ref a] } :: T.frames.tail)) [] := by
    simp only [stepThrowing, searchFrame, vmDo]
    generalize hr : Sem.go _ e false [] _ = res
    obtain ⟨as, rfl, ha⟩ := Sem.eq_ok_of hr (a := Handler.found x.handlerPc) (s' := ((T.setTop g).pushFrame (.throwing a)).setVm vm1) (acts' := []) (by simp [hfind _ _ _ _])
    exact ⟨rfl, ha⟩
  rw [stepThread_throwing (frames_entered X.here.top _), hstep.1]
  have hfr1 : (T.setVm vm1).frames = .java g0 :: below := hfr
  rw [State.setTop_of_frames _ hfr1] at hrest
  have e1 : (((T.setTop g).pushFrame (.throwing a)).setVm vm1).setFrames (.java { g with pc := x.handlerPc, stack := [.ref a] } :: T.frames.tail) = (T.setVm vm1).setFrames (.java { g with pc := x.handlerPc, stack := [.ref a] } :: below) := by
    rw [State.pushFrame, State.setTop_of_frames _ hfr, State.setFrames_setFrames, hfr, List.tail_cons]
    show ((T.setVm vm1).setFrames _).setFrames _ = _
    rw [State.setFrames_setFrames]
  rw [e1]
  exact hrest
theorem dc_backT {y : MethodName} {wds : List Cond} {rm : Room} {Pc : Array Value → State → Prop} {Qc : Array Value → State → Outcome → State → Prop} {mc ms : Nat} {free : Addr → Prop} {bytes : ByteArray} {maxL : Nat} {ret : Option FieldType}
    (X : Stand p l e R s m args below meth c T locs cells slots) (hM : dc_MetT l y wds rm Pc Qc mc ms free) (hthr : ∀ a st o t, Qc a st o t → ∃ v, o = .threw v) (hrc : rm.cells = mc) (hrs : rm.slots = ms) (hfr : rm.frames + 1 ≤ R.frames) (hlo : 8 + (maxL + 11) + rm.locals ≤ R.locals)
    (hws2 : ∀ w ∈ wds, ∀ a, w.before a T = true) (hcode : ∀ a, (Cond.code y bytes maxL ret).before a T = true) (hini : ∀ a, (Cond.initialized y.cls).before a T = true)
    {g : JFrame} (hg : g.method = m) (hsize : g.locals.size = c.maxLocals) {ig : Instr} {len : Nat} (hdg : decode c.code g.pc = .ok (ig, len)) (hW : 2 * g.monitorRoom + (g.stack.map fun v => v.category).sum ≤ 8) {mk : MethodId} (hn : T.methodNamed? y = some mk) {a : Array Value} (hcl : cells + mc ≤ R.cells) (hsl : slots + ms ≤ R.slots) (hPa : Pc a (T.calling g mk a)) :
    ∃ (v : Addr) (t T1 : State) (L : List Loc), T1.heap = t.heap ∧ Stand p l e R s m args below meth c T1 (locs ++ L) (cells + mc) (slots + ms) ∧ (∀ q ∈ L, free q.base) ∧ Qc a (T.calling g mk a) (.threw v) t ∧ Steps p.tables e below (doInvoke e (T.setTop g) [] mk a).1 ((T1.setTop g).pushFrame (.throwing v)) := by
  subst hg
  obtain ⟨methY, cY, hmY, hcY, -, hlY, -, -, -, -⟩ := Cond.code_spec hn (hcode a)
  obtain ⟨kY, hkY, -⟩ := className_of_methodNamed hn
  have hiY : kY.init = .initialized := Cond.initialized_spec (findClass_of_methodNamed hn) hkY (hini a)
  have happ : (headSpec wds rm).appliesLoose y e.platform (T.calling g mk a) = true :=
    Spec.appliesLoose_calling (g := g) X.here hdg hn hkY hiY (X.room_calling (g := g) (R' := (headSpec wds rm).room) hsize hmY hcY hfr (by show _ + (cY.maxLocals + 11) + rm.locals ≤ _; rw [hlY]; omega) (by show cells + rm.cells ≤ _; rw [hrc]; exact hcl) (by show slots + rm.slots ≤ _; rw [hrs]; exact hsl)) (atoms_intro fun w hw => hws2 w hw a)
  obtain ⟨mid, hmid⟩ := X.here.above
  obtain ⟨g0, hfr0⟩ := X.frames_eq
  have hfr1 : (T.setTop g).frames = (.java g :: mid) ++ below := by rw [State.frames_setTop' g X.here.top, hmid]; rfl
  obtain ⟨o, s2, hsteps, -, hend, hq⟩ := Steps.callFree hM p X.admits X.cas X.clock (acts := []) hfr1 happ hPa trivial
  have hq1 : Qc a (T.calling g mk a) o s2 := hq.1
  obtain ⟨v, rfl⟩ := hthr _ _ _ _ hq1
  obtain ⟨hW2, L, hsame, hL⟩ := hq.2
  have hsame0 : (T.calling g mk a).sameButNew ({ s2 with vm := (T.calling g mk a).vm } : State) L mc ms := hsame
  obtain ⟨e2, q2, q3, q4, q5, q6⟩ := hsame0
  have e3 : s2 = ({ (T.calling g mk a).setFrames s2.frames with heap := s2.heap, slotsUsed := s2.slotsUsed } : State).setVm s2.vm := by
    have h9 : s2 = ({ s2 with vm := (T.calling g mk a).vm } : State).setVm s2.vm := rfl
    rw [e2] at h9
    exact h9
  have hWT : T.WarmedH s2.vm := hW2
  have hf2 : s2.frames = .throwing v :: .java g :: T.frames.tail := by
    rw [State.frames_setTop' g X.here.top] at hend
    exact hend
  have hr1 : (({ T with heap := s2.heap, slotsUsed := s2.slotsUsed } : State).setVm s2.vm).frames = .java g0 :: below := hfr0
  have hs2 : s2 = ((({ T with heap := s2.heap, slotsUsed := s2.slotsUsed } : State).setVm s2.vm).setTop g).pushFrame (.throwing v) := by
    refine e3.trans ?_
    rw [hf2, State.calling_eq X.here.top, State.setFrames_setFrames, State.pushFrame, State.frames_setTop _ hr1, State.setTop_of_frames _ hr1, State.setFrames_setFrames, hfr0]
    rfl
  have hsame1 : T.sameButNew ({ T with heap := s2.heap, slotsUsed := s2.slotsUsed } : State) L mc ms := by
    refine ⟨?_, q2, q3, q4, q5, q6⟩
    obtain ⟨t9, ht9, -⟩ := State.frames_cons hfr0
    show ({ T with heap := s2.heap, slotsUsed := s2.slotsUsed } : State) = { T.setFrames T.frames with heap := s2.heap, slotsUsed := s2.slotsUsed }
    rw [State.setFrames_self ht9]
  refine ⟨v, s2, ({ T with heap := s2.heap, slotsUsed := s2.slotsUsed } : State).setVm s2.vm, L, rfl,
    ⟨X.admits, X.cas, X.clock, X.frames, X.room, X.hears, X.method, X.code, (X.here.setHeapUsed s2.heap s2.slotsUsed).setVm hWT.alike, X.tail, State.WarmedH.trans X.warmed hWT, X.limits, X.bytes, X.same.trans (hsame1.setVm s.vm)⟩, hL, hq1, ?_⟩
  rw [← hs2]
  exact hsteps
end DCF
