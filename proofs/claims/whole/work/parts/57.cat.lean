-- callers of throwers: the two ends, a row for each; methods with handlers
theorem dc_metI {l : Launch} {y : MethodName} {ws : List Cond} {rm : Room} {Pc : Array Value → State → Prop} {G : va_G} {cls : Int32 → String} {K v : Int32} {S : Type} {post : S → Prop} {w1 : S → va_W} {sz mc ms : Nat} {wc : va_W}
    (hM : dc_MetT l y ws rm Pc (dc_qT G cls K (fun _ => .int v) post w1 sz wc) mc ms (va_A wc sz)) (hK : K = 0) : Met l y ws rm Pc (dc_qi G (fun r (u : S) => r = v) w1 sz wc) mc ms (va_A wc sz) := by
  intro p e h1 h2 h3 s m args below h4 h5 h6 h7
  obtain ⟨n, o, g1, g2, g3, g4, hW, L, hs, hf⟩ := hM p e h1 h2 h3 s m args below h4 h5 h6 h7
  obtain ⟨⟨u, hp, hP, hD, hc⟩, hF⟩ := g4
  rcases hc with ⟨-, rfl⟩ | ⟨hn, -⟩
  · exact ⟨n, _, g1, g2, g3, ⟨⟨v, u, rfl, rfl, hP, hD⟩, hF⟩, L, ⟨⟨_, rfl⟩, hW, hs⟩, hf⟩
  · exact absurd hK hn
theorem dc_metL {l : Launch} {y : MethodName} {ws : List Cond} {rm : Room} {Pc : Array Value → State → Prop} {G : va_G} {cls : Int32 → String} {K : Int32} {v : Int64} {S : Type} {post : S → Prop} {w1 : S → va_W} {sz mc ms : Nat} {wc : va_W}
    (hM : dc_MetT l y ws rm Pc (dc_qT G cls K (fun _ => .long v) post w1 sz wc) mc ms (va_A wc sz)) (hK : K = 0) : Met l y ws rm Pc (dc_ql G (fun r (u : S) => r = v) w1 sz wc) mc ms (va_A wc sz) := by
  intro p e h1 h2 h3 s m args below h4 h5 h6 h7
  obtain ⟨n, o, g1, g2, g3, g4, hW, L, hs, hf⟩ := hM p e h1 h2 h3 s m args below h4 h5 h6 h7
  obtain ⟨⟨u, hp, hP, hD, hc⟩, hF⟩ := g4
  rcases hc with ⟨-, rfl⟩ | ⟨hn, -⟩
  · exact ⟨n, _, g1, g2, g3, ⟨⟨v, u, rfl, rfl, hP, hD⟩, hF⟩, L, ⟨⟨_, rfl⟩, hW, hs⟩, hf⟩
  · exact absurd hK hn
theorem dc_preT {G : va_G} {cA : Nat → ClassId} {z : Nat → Nat} {A : Nat → Prop} {locs : List Loc} {ws : va_W} {As : List Value} {s : State} {H : Heap} {b q0 ci : Nat} {q : vw_C} {fs : List Value} (hP : va_P G vwCl ws H) (hK : dc_K G cA s) (hD : va_D A ws) (hc : vwCl[ci]? = some q) (he : ws[q0]? = some (b, .inr (ci, fs))) (hZ : dc_Z z A s s.heap) (hV : dc_V A s s.heap) (hS : va_S A s.heap H locs) (hA : ∀ q, s.heap.size ≤ q → A q) : PreV s H q.1 b (dc_pT G cA z ws H.size (.ref b :: As)) As :=
  ⟨dc_blT, va_recv hK.1 hP hc he, fun U hU hW => by
    have hn : ∀ q, va_A ws H.size q → A q := fun q h => by
      rcases h with ⟨k, e9, h⟩ | h
      · exact hD.2 k (q, e9) h
      · exact hA q (Nat.le_trans hS.1 h)
    refine ⟨rfl, by rw [hU], by rw [hU]; exact hP, dc_K.warm hW hK, hD.weaken (fun _ _ _ _ => trivial), ?_, ?_⟩
    · rw [hU]
      exact dc_Z.moved hW.alike ((hZ.kept hS.2.1).narrow hn)
    · rw [hU]
      exact dc_V.warm hW ((hV.kept hS.2.1).narrow hn)⟩
/-- the same for a static method with handlers -/
theorem dc_preTS {G : va_G} {cA : Nat → ClassId} {z : Nat → Nat} {A : Nat → Prop} {locs : List Loc} {ws : va_W} {av : List Value} {s : State} {H : Heap} (hP : va_P G vwCl ws H) (hK : dc_K G cA s) (hD : va_D A ws) (hZ : dc_Z z A s s.heap) (hV : dc_V A s s.heap) (hS : va_S A s.heap H locs) (hA : ∀ q, s.heap.size ≤ q → A q) : PreS s H (dc_pT G cA z ws H.size av) av :=
  ⟨dc_blT, fun U hU hW => by
    have hn : ∀ q, va_A ws H.size q → A q := fun q h => by
      rcases h with ⟨k, e9, h⟩ | h
      · exact hD.2 k (q, e9) h
      · exact hA q (Nat.le_trans hS.1 h)
    refine ⟨rfl, by rw [hU], by rw [hU]; exact hP, dc_K.warm hW hK, hD.weaken (fun _ _ _ _ => trivial), ?_, ?_⟩
    · rw [hU]
      exact dc_Z.moved hW.alike ((hZ.kept hS.2.1).narrow hn)
    · rw [hU]
      exact dc_V.warm hW ((hV.kept hS.2.1).narrow hn)⟩
theorem dc_goodW {y : MethodName} {c : ByteArray} {n : Nat} {r : Option FieldType} {hh : List (Nat × Nat × Nat × Nat)} (h : Cond.codeWith y c n r hh ∈ dc_W) : GoodIn dc_W (Cond.codeWith y c n r hh :: dc_W) := fun w hw => by
  rcases List.mem_cons.mp hw with rfl | hw
  · exact ⟨h, good_of_word (List.mem_filter.mp h).2⟩
  · exact ⟨hw, good_of_word (List.mem_filter.mp hw).2⟩
theorem dc_tab {L : List ExceptionTableEntry} {hh : List (Nat × Nat × Nat × Nat)} (h : L.map (fun h => (h.startPc, h.endPc, h.handlerPc, h.catchType)) = hh) : L = hh.map (fun q => ({ startPc := q.1, endPc := q.2.1, handlerPc := q.2.2.1, catchType := q.2.2.2 } : ExceptionTableEntry)) := by
  subst h
  rw [List.map_map]
  exact (List.map_id L).symm
section DCC
variable {p : Program} {l : Launch} {e : Env} {R : Room} {s : State} {m : MethodId} {args : Array Value} {below : List Frame} {meth : Method} {c : Code} {H : Heap} {locs : List Loc} {cells slots : Nat} {Q : State → Prop} {pc : Nat} {ls : Array Slot} {st0 : List Value} {A : Nat → Prop} {G : va_G} {ws wc wr : va_W} {cc : ByteArray}
theorem dc_ofWH {y : MethodName} {wds wds' : List Cond} {rm : Room} {Pc : Array Value → State → Prop} {Qc : Array Value → State → Outcome → State → Prop} {mc ms : Nat} {free : Addr → Prop} {maxL : Nat} {ret : Option FieldType} {hh : List (Nat × Nat × Nat × Nat)}
    (hy : plainName y.cls = true) (hw : wds = Cond.codeWith y cc maxL ret hh :: wds')
    (body : ∀ p e s m args below meth c s₁, BodyLoose p l y (headSpec wds rm) cc maxL ret e s m args below meth c s₁ → c.maxLocals = maxL → c.exceptionTable.toList = hh.map (fun q => ({ startPc := q.1, endPc := q.2.1, handlerPc := q.2.2.1, catchType := q.2.2.2 } : ExceptionTableEntry)) → Pc args s →
      W p l e (headSpec wds rm).room s m args below meth c s.heap [] 0 0 (MQ below Qc args s mc ms free) (entryFrame m args maxL)) : Met l y wds rm Pc Qc mc ms free := by
  refine MetFree.of_bodyS (code := cc) (maxLocals := maxL) (ret := ret) hy ?_ ?_
  · intro args s m h hn
    obtain ⟨m', meth, c, h0, h1, h2, h3, h4, -, h5, h6, -⟩ := Cond.codeWith_spec (atoms_spec (ws := wds) h _ (by rw [hw]; exact List.mem_cons_self))
    cases hn.symm.trans h0
    exact ⟨meth, c, h1, h2, h3, h4, h5, h6⟩
  · intro p e s m args below meth c s₁ B hml hP _
    have hh0 : s₁.heap = s.heap := by rw [B.state]; rfl
    have htab : c.exceptionTable.toList = hh.map (fun q => ({ startPc := q.1, endPc := q.2.1, handlerPc := q.2.2.1, catchType := q.2.2.2 } : ExceptionTableEntry)) := by
      obtain ⟨m', meth', c', h0, h1, h2, -, -, h3, -⟩ := Cond.codeWith_spec (atoms_spec (ws := wds) B.pre _ (by rw [hw]; exact List.mem_cons_self))
      cases B.named.symm.trans h0
      cases B.method.symm.trans h1
      cases (Stand.of_body B).code.symm.trans h2
      exact dc_tab h3
    obtain ⟨t, a1, o, b1, b2, b3⟩ := body p e s m args below meth c s₁ B hml htab hP s₁ hh0 (Stand.of_body B)
    exact ⟨t, o, a1, b1, b2, ⟨b3.1, b3.2⟩⟩
theorem dc_runSW {y : MethodName} {bytes : ByteArray} {maxL nL mc ms n index : Nat} {ret : Option FieldType} {hh : List (Nat × Nat × Nat × Nat)} {rm : Room} {Pc : Array Value → State → Prop} {Qc : Array Value → State → Outcome → State → Prop} {free : Addr → Prop} {own : String} {As rest : List Value} {g : JFrame}
    (S : CallFix p m c cc nL s args dc_W own) (hM : Met l y (Cond.codeWith y bytes maxL ret hh :: dc_W) rm Pc Qc mc ms free) (hin : Cond.codeWith y bytes maxL ret hh ∈ dc_W) (hrc : rm.cells = mc) (hrs : rm.slots = ms)
    (hlink : (Cond.methodLink own index y).before args s = true) (hstat : (Cond.static y).before args s = true) (hini : (Cond.initialized y.cls).before args s = true)
    (hd : y.cls ≠ "java/lang/invoke/MethodHandle" ∧ y.cls ≠ "java/lang/invoke/VarHandle" ∧ (parseMethodDescriptor y.desc).map (fun d => d.parameters.length) = some n) (hR : rm.frames + 1 ≤ R.frames ∧ 8 + (maxL + 11) + rm.locals ≤ R.locals) (hp : PreS s H Pc As)
    (hg : g.method = m) (hn : As.length = n) (hsize : g.locals.size = nL) (hstack : g.stack = As.reverse ++ rest) (hW : 2 * g.monitorRoom + (rest.map fun v => v.category).sum ≤ 8) (hdg : decode cc g.pc = .ok (.invokestatic index, 3)) (hf : cells + mc ≤ R.cells ∧ slots + ms ≤ R.slots) :
    va_Run p l e R s m args below meth c H locs cells slots mc ms g rest (Qc As.toArray) (free) := by
  obtain ⟨hx, hb, hml, ho, ht⟩ := S
  have hK : Back l R p e below s args y 3 8 (PreOf R mc ms Pc) (PostOf Qc mc ms free) := va_backW (hh := hh) (bytes := bytes) (maxL := maxL) (ret := ret) hM hp.1 hrc hrs hR.1 hR.2 (pay_in ht (dc_goodW hin)) List.mem_cons_self (fun a' U hW => word_at hW (Or.inl (by first | rfl | simp [Cond.onTables, Cond.keeps, Cond.steady])) hini)
  obtain ⟨mk, methM, cM, hnamed, hmethM, -, -, -, -, -, -, hsigM⟩ := Cond.codeWith_spec (ht _ hin)
  have hstatic : methM.isStatic = true := Cond.static_spec hnamed hmethM hstat
  obtain ⟨kP, hkP, -⟩ := className_of_methodNamed hnamed
  have hinitP : kP.init = .initialized := Cond.initialized_spec (findClass_of_methodNamed hnamed) hkP hini
  have hlen : As.length = methM.sig.parameters.length := by
    have h2 := hd.2.2
    rw [hsigM] at h2
    exact hn.trans (Option.some.inj h2).symm
  intro T hT X
  obtain ⟨vm₁, X₁, hstep₁⟩ := X.invokestatic hx ho hlink hnamed hmethM hstatic hkP hinitP ⟨hd.1, hd.2.1⟩ (g := g) hg (argsL := As) (rest := rest) hlen hstack (by rw [hb]; exact hdg)
  obtain ⟨v, ⟨U', l2, c2, s2⟩, X', hpost, hsteps⟩ := hK m meth c ⟨T.setVm vm₁, locs, cells, slots⟩ { g with stack := rest } (.invokestatic index) mk As.toArray X₁ hg (hsize.trans hml.symm) (by rw [hb]; exact hdg) hW (X₁.named hnamed) ⟨hf.1, hf.2, hp.2 (T.setVm vm₁) hT X₁.warmed⟩
  obtain ⟨g', mk', t, L, e1, e2, hq, h1, hL, h2, h3⟩ := hpost
  dsimp only [Pt.U, Pt.locs, Pt.cells, Pt.slots] at X' e1 e2 h1 h2 h3 hsteps hq
  subst h1; subst h2; subst h3
  exact ⟨v, (T.setVm vm₁).calling g' mk' As.toArray, t, U', L, hT, X', hL, e1, e2, hq, fun target h => hstep₁ _ fun acts => by rw [doInvoke_state]; exact hsteps.trans h⟩
/-- a call that throws, caught in this method's own table -/
theorem dc_wX {S : Type} {cls : Int32 → String} {K : Int32} {V : S → Value} {post : S → Prop} {w1 : S → va_W} {y : MethodName} {bytes : ByteArray} {maxL nL mc ms n index : Nat} {ret : Option FieldType} {wds : List Cond} {rm : Room} {Pc : Array Value → State → Prop} {Ts : List Cond} {own C : String} {b : Addr} {As rest : List Value}
    (S0 : CallFix p m c cc nL s args Ts own) (hM : dc_MetT l y wds rm Pc (dc_qT G cls K V post w1 H.size wc) mc ms (va_A wc H.size)) (hK : ¬ K = 0) (cw : CallW R s args own C index y bytes maxL ret wds rm mc ms n) (hp : PreV s H C b Pc As)
    (hn : As.length = n) (hsize : ls.size = nL) (hstack : st0 = As.reverse ++ .ref b :: rest) (hW : 2 * (F0 m pc ls st0).monitorRoom + (rest.map fun v => v.category).sum ≤ 8) (hdg : decode cc pc = .ok (.invokevirtual index, 3)) (hf : cells + mc ≤ R.cells ∧ slots + ms ≤ R.slots)
    (hP : va_P G vwCl ws H) (hD : va_D A ws) (hS : va_S A s.heap H locs) (hA : ∀ q, s.heap.size ≤ q → A q)
    (isC isR : List Nat) (hC : isC.map (fun i => ws[i]?) = wc.map some) (hR : isR.map (fun i => ws[i]?) = wr.map some) (hnd : va_nd isR = true) (hdis : ∀ i ∈ isR, i ∉ isC)
    (pre : List ExceptionTableEntry) (x : ExceptionTableEntry) (xs : List ExceptionTableEntry) (hsplit : c.exceptionTable.toList = pre ++ x :: xs) (hx0 : covers x pc = true) (h0 : x.catchType ≠ 0) (hlink : (Cond.classLink own x.catchType (cls K)).before args s = true)
    (hpass : ∀ y ∈ pre, covers y pc = true ∧ y.catchType ≠ 0 ∧ ∃ nm : String, (Cond.classLink own y.catchType nm).before args s = true ∧ va_Nc (cls K) nm s)
    (kk : ∀ (u : S) (H1 : Heap) (locs1 : List Loc) (a : Nat), post u → va_P G vwCl (wr ++ w1 u) H1 → va_D A (wr ++ w1 u) → va_S A s.heap H1 locs1 → W p l e R s m args below meth c H1 locs1 (cells + mc) (slots + ms) Q (F0 m x.handlerPc ls [.ref a])) : W p l e R s m args below meth c H locs cells slots Q (F0 m pc ls st0) := by
  intro T hT X
  obtain ⟨⟨hrc, hrs, hfr, hlo, hws, hcw, hcode, hini, hy, hlen, hl⟩, hin, hse⟩ := cw
  obtain ⟨hx, hb, hml, ho, -⟩ := S0
  obtain ⟨hbl, ⟨cellB, hcB, hoB, hclB⟩, hPc⟩ := hp
  have hpl : e.platform.magicAccessors = ({} : Platform).magicAccessors := by rw [X.admits.platform]
  obtain ⟨mk, methM, hnamed, hmethM, hstM, habM⟩ := Cond.instanceMethod_spec hin
  obtain ⟨methM', cM, hmethM', -, -, -, -, -, -, hsigM⟩ := Cond.code_spec hnamed hcode
  cases hmethM.symm.trans hmethM'
  obtain ⟨c2, r2, m2, q1, q2, q3, q4, kP, hkP, hkPi⟩ := Cond.selects_spec hse
  cases hclB.symm.trans q1
  cases (State.methodFound?_of_named hnamed hy).symm.trans q2
  cases hnamed.symm.trans q3
  have hselP : selectMethod e.platform s.vm cellB.cls mk = .method mk := by rw [Launch.admits_selectMethod X.admits]; exact q4
  obtain ⟨vm₁, X₁, hstep₁⟩ := X.invokevirtual hx ho hl hnamed hmethM hstM hkP hkPi hy (a := b) (cell := cellB) (by rw [hT]; exact hcB)
    (fun z h => by rw [h] at hoB; cases hoB) hselP hmethM habM hkP hkPi (g := F0 m pc ls st0) rfl (argsL := As) (rest := rest) (hn.trans (hlen _ hsigM)) hstack (by rw [hb]; exact hdg)
  obtain ⟨a9, t, U', L, e1, X', hL, hq, hsteps⟩ := dc_backT X₁ hM (fun a st o t hq => by
      obtain ⟨⟨u, -, -, -, hc⟩, -⟩ := hq
      rcases hc with ⟨hz, -⟩ | ⟨-, a9, h9, -⟩
      · exact absurd hz hK
      · exact ⟨a9, h9⟩) hrc hrs hfr hlo (fun w hw a => hws w hw a _ X₁.warmed) (bytes := bytes) (ret := ret) (fun a => hws _ hcw a _ X₁.warmed) (fun a => word_at X₁.warmed (Or.inl (by first | rfl | simp [Cond.onTables, Cond.keeps, Cond.steady])) hini)
    (g := F0 m pc ls rest) rfl (hsize.trans hml.symm) (ig := .invokevirtual index) (len := 3) (by rw [hb]; exact hdg) hW (X₁.named hnamed) (a := (Value.ref b :: As).toArray) hf.1 hf.2 (hbl _ _ _ _ (hPc (T.setVm vm₁) hT X₁.warmed))
  obtain ⟨⟨u, hpu, hP1, hD1, hc⟩, hFz, hFk⟩ := hq
  rcases hc with ⟨hz, -⟩ | ⟨-, a8, ha8, cX, ce, hfX, hce, hcc, hcv, -⟩
  · exact absurd hz hK
  cases ha8
  have hfX' : s.vm.findClass (cls K) = some cX := by rw [← X₁.warmed.alike.findClass]; exact hfX
  have hFz' : H.size ≤ t.heap.size := by rw [← hT]; exact hFz
  have hFk' : ∀ q : Nat, q < H.size → ¬ va_A wc H.size q → t.heap[q]? = H[q]? := fun q hlt hnA => by
    have := hFk q (by show q < T.heap.size; rw [hT]; exact hlt) hnA
    rw [← hT]
    exact this
  have hFr := va_free (wc := wc) hD hS hA isC hC
  obtain ⟨hP2, hD2⟩ := va_join (wr := wr) (w1 := w1 u) hP hD isC isR hC hR hnd hdis hFk' hFr hP1 hD1
  have hS1 : va_S A s.heap t.heap (locs ++ L) := ⟨Nat.le_trans hS.1 hFz', fun q hlt hnA => by
      rw [hFk' q (Nat.lt_of_lt_of_le hlt hS.1) (fun z9 => hnA (hFr q z9))]
      exact hS.2.1 q hlt hnA, fun q hq => by
      rcases List.mem_append.mp hq with h9 | h9
      · exact hS.2.2 q h9
      · exact hFr _ (hL q h9)⟩
  have hceU : U'.heap[a9]? = some ce := by rw [e1]; exact hce
  subst hcc
  have hsee : dc_sees e.platform s m.cls ce.cls x true := by
    obtain ⟨c7, hc7, hcl7⟩ := Cond.classLink_spec ho hlink e.platform hpl
    cases hc7.symm.trans hfX'
    exact ⟨h0, _, hcl7, va_asg _ _⟩
  have hk0 : ∃ k, s.vm.classes[ce.cls]? = some k := by
    obtain ⟨k7, hk7, -⟩ := Vm.findClass_spec hfX'
    exact ⟨k7, hk7⟩
  obtain ⟨vm', XV, stV⟩ := dc_caught X' a9 (g := F0 m pc ls rest) rfl hceU (by rw [hcv]; rfl) hk0 hsplit hx0 hsee (fun y9 hy9 => by
    obtain ⟨hcov, hz0, nm, hl9, hn9⟩ := hpass y9 hy9
    obtain ⟨c7, hc7, hcl7⟩ := Cond.classLink_spec ho hl9 e.platform hpl
    obtain ⟨c6, t6, hc6, ht6, hno⟩ := hn9
    cases hfX'.symm.trans hc6
    cases hc7.symm.trans ht6
    exact ⟨hcov, hz0, _, hcl7, hno⟩)
  obtain ⟨t2, a1, b1⟩ := kk u t.heap (locs ++ L) a9 hpu hP2 hD2 hS1 (U'.setVm vm') e1 XV
  refine ⟨t2, hstep₁ _ fun acts => ?_, b1⟩
  rw [doInvoke_state]
  exact hsteps.trans (stV t2 a1)
end DCC
