-- throwers: what they want at their start, their end, the row that throws
def dc_X1 (n d : String) (A : Nat → Prop) (U : State) (H : Heap) : Prop := ∃ (c : ClassId) (k : Class) (i : Nat) (f : Field) (a : Nat) (cell : Cell) (v : Value), U.vm.findClass Bundle.tN = some c ∧ U.fieldFound? Bundle.tN n d = some (c, k, i, f) ∧ f.isStatic = true ∧ k.statics = some a ∧ k.staticTypes[f.slot]? = some f.type ∧ H[a]? = some cell ∧ cell.vm.isStatics = true ∧ cell.cls = c ∧ f.slot < cell.slots.size ∧ cell.slots[f.slot]? = some v ∧ v.isRef = true ∧ ¬ A a
theorem dc_X1.moved {n d : String} {A : Nat → Prop} {u U : State} {H : Heap} (hvm : u.vm.Alike U.vm) (h : dc_X1 n d A u H) : dc_X1 n d A U H := by
  obtain ⟨c, k, i, f, a, cell, v, h0, h1, h2, h3, h4, h5⟩ := h
  obtain ⟨k', hi', he⟩ := State.fieldFound?_setVm hvm h1
  exact ⟨c, k', i, f, a, cell, v, by rw [hvm.findClass]; exact h0, hi', h2, by rw [he]; exact h3, by rw [he]; exact h4, h5⟩
theorem dc_X1.kept {n d : String} {A : Nat → Prop} {U : State} {H H1 : Heap} (h : dc_X1 n d A U H) (hq : ∀ a : Nat, a < H.size → ¬ A a → H1[a]? = H[a]?) : dc_X1 n d A U H1 := by
  obtain ⟨c, k, i, f, a, cell, v, h0, h1, h2, h3, h4, h5, h6, h7, h8, h9, h10, h11⟩ := h
  exact ⟨c, k, i, f, a, cell, v, h0, h1, h2, h3, h4, by rw [hq a (Array.getElem?_eq_some_iff.mp h5).1 h11]; exact h5, h6, h7, h8, h9, h10, h11⟩
theorem dc_X1.narrow {n d : String} {A B : Nat → Prop} {U : State} {H : Heap} (h : dc_X1 n d A U H) (hAB : ∀ q, B q → A q) : dc_X1 n d B U H := by
  obtain ⟨c, k, i, f, a, cell, v, h0, h1, h2, h3, h4, h5, h6, h7, h8, h9, h10, h11⟩ := h
  exact ⟨c, k, i, f, a, cell, v, h0, h1, h2, h3, h4, h5, h6, h7, h8, h9, h10, fun z => h11 (hAB a z)⟩
theorem dc_X1.lays {n d : String} {A : Nat → Prop} {s : State} {args : Array Value} (h : dc_X1 n d A s s.heap) : (Cond.laysStatic Bundle.tN n d).before args s = true := by
  obtain ⟨c, k, i, f, a, cell, v, h0, h1, h2, h3, h4, h5, h6, h7, h8, h9, h10, h11⟩ := h
  simp [Cond.before, Cond.holds, Cond.value, h0, h1, h2, h3, h4, h5, h6, h7, h8]
theorem dc_X1.isRef {n d : String} {A : Nat → Prop} {s : State} {args : Array Value} (h : dc_X1 n d A s s.heap) : (Cond.isRef (.static Bundle.tN n d)).before args s = true := by
  obtain ⟨c, k, i, f, a, cell, v, h0, h1, h2, h3, h4, h5, h6, h7, h8, h9, h10, h11⟩ := h
  have he : (Term.static Bundle.tN n d).eval args s none [] s = some v := by
    simp [Term.eval, State.fieldNamed?, h1, h2, h3, h5, h6, h9]
  simp only [Cond.before, Cond.holds, Cond.value]
  rw [he]
  cases v with
  | null => rfl
  | ref t => rfl
  | _ => simp [Value.isRef] at h10
theorem dc_X1of {args : Array Value} {s : State} {n d : String} {A : Nat → Prop} (hl : (Cond.laysStatic Bundle.tN n d).before args s = true) (hr : (Cond.isRef (.static Bundle.tN n d)).before args s = true) (hA : ∀ a : Nat, a < s.heap.size → ¬ A a) : dc_X1 n d A s s.heap := by
  obtain ⟨c, k, i, f, a, cell, hc, hi, hst, ha, hcell, hs, hcls, hlt, hty⟩ := Cond.laysStatic_spec hl
  obtain ⟨u, hu⟩ := Cond.staticRefV hi hst ha hcell hs hr
  exact ⟨c, k, i, f, a, cell, u.v, hc, hi, hst, ha, hty, hcell, hs, hcls, hlt, hu, u.ok, hA a (Array.getElem?_eq_some_iff.mp hcell).1⟩
def dc_dT : List MethodName := [Bundle.initS "java/lang/RuntimeException", Bundle.initS "java/lang/Exception", Bundle.initS Bundle.tN]
def dc_V (A : Nat → Prop) (U : State) (H : Heap) : Prop := dc_X1 "UNASSIGNED_STACK" Bundle.steD A U H ∧ dc_X1 "SUPPRESSED_SENTINEL" Bundle.listD A U H ∧ (∀ y ∈ dc_dT, (Cond.declares y).before #[] U = true) ∧ (∀ q ∈ dc_sT, ∃ a : Nat, vk_R "DocumentChip" q.1 q.2 a U) ∧ ∀ q ∈ dc_nT, va_Nc q.1 q.2 U
theorem dc_decl {y : MethodName} {u U : State} (hvm : u.vm.Alike U.vm) (h : (Cond.declares y).before #[] u = true) : (Cond.declares y).before #[] U = true := by
  have h1 : (Cond.declares y).before #[] (u.setVm U.vm) = true := by
    rw [Cond.declares_setVm hvm]
    exact h
  exact va_tabs (A := #[]) (u := u.setVm U.vm) rfl rfl h1
theorem dc_V.warm {A : Nat → Prop} {s U : State} {H : Heap} (hW : s.WarmedH U.vm) (h : dc_V A s H) : dc_V A U H :=
  ⟨dc_X1.moved hW.alike h.1, dc_X1.moved hW.alike h.2.1, fun y hy => dc_decl hW.alike (h.2.2.1 y hy), fun q hq => by
    obtain ⟨a, ha⟩ := h.2.2.2.1 q hq
    exact ⟨a, vk_R.warm hW ha⟩, fun q hq => va_Nc.moved hW.alike (h.2.2.2.2 q hq)⟩
theorem dc_V.same {A : Nat → Prop} {s U : State} {H : Heap} (hv : s.vm = U.vm) (h : dc_V A s H) : dc_V A U H :=
  ⟨dc_X1.moved (by rw [hv]; exact Vm.Alike.refl _) h.1, dc_X1.moved (by rw [hv]; exact Vm.Alike.refl _) h.2.1, fun y hy => dc_decl (by rw [hv]; exact Vm.Alike.refl _) (h.2.2.1 y hy), fun q hq => by
    obtain ⟨a, ha⟩ := h.2.2.2.1 q hq
    exact ⟨a, vk_R.same hv.symm ha⟩, fun q hq => va_Nc.moved (by rw [hv]; exact Vm.Alike.refl _) (h.2.2.2.2 q hq)⟩
theorem dc_V.kept {A : Nat → Prop} {U : State} {H H1 : Heap} (h : dc_V A U H) (hq : ∀ a : Nat, a < H.size → ¬ A a → H1[a]? = H[a]?) : dc_V A U H1 := ⟨h.1.kept hq, h.2.1.kept hq, h.2.2⟩
theorem dc_V.narrow {A B : Nat → Prop} {U : State} {H : Heap} (h : dc_V A U H) (hAB : ∀ q, B q → A q) : dc_V B U H := ⟨h.1.narrow hAB, h.2.1.narrow hAB, h.2.2⟩
def dc_hw : List Cond := [.laysStatic Bundle.tN "UNASSIGNED_STACK" Bundle.steD, .laysStatic Bundle.tN "SUPPRESSED_SENTINEL" Bundle.listD, .isRef (.static Bundle.tN "UNASSIGNED_STACK" Bundle.steD), .isRef (.static Bundle.tN "SUPPRESSED_SENTINEL" Bundle.listD), .declares (Bundle.initS "java/lang/RuntimeException"), .declares (Bundle.initS "java/lang/Exception"), .declares (Bundle.initS Bundle.tN)]
theorem dc_hwW {A : Nat → Prop} {s : State} {args : Array Value} (h : dc_V A s s.heap) : ∀ w ∈ dc_hw, w.before args s = true := by
  intro w hw
  simp only [dc_hw, List.mem_cons, List.not_mem_nil, or_false] at hw
  rcases hw with rfl | rfl | rfl | rfl | rfl | rfl | rfl
  · exact h.1.lays
  · exact h.2.1.lays
  · exact h.1.isRef
  · exact h.2.1.isRef
  · exact va_tabs rfl rfl (h.2.2.1 _ (by simp [dc_dT]))
  · exact va_tabs rfl rfl (h.2.2.1 _ (by simp [dc_dT]))
  · exact va_tabs rfl rfl (h.2.2.1 _ (by simp [dc_dT]))
def dc_pT (G : va_G) (cA : Nat → ClassId) (z : Nat → Nat) (ws : va_W) (sz : Nat) (av : List Value) : Array Value → State → Prop := va_Pc av (fun U => U.heap.size = sz ∧ va_P G vwCl ws U.heap ∧ dc_K G cA U ∧ va_D (fun _ => True) ws ∧ dc_Z z (va_A ws sz) U U.heap ∧ dc_V (va_A ws sz) U U.heap)
theorem dc_blT {G : va_G} {cA : Nat → ClassId} {z : Nat → Nat} {ws : va_W} {sz : Nat} {av : List Value} : FrameBlind (dc_pT G cA z ws sz av) := fun a U g mk q => by
  obtain ⟨q0, q1, qP, qK, qD, qZ, qV⟩ := q
  exact ⟨q0, q1, qP, dc_K.same (s := U) (U := U.calling g mk a) rfl qK, qD, dc_Z.moved (u := U) (U := U.calling g mk a) (Vm.Alike.refl U.vm) qZ, dc_V.same (s := U) (U := U.calling g mk a) rfl qV⟩
theorem dc_noSt {G : va_G} {ws : va_W} {H : Heap} (hP : va_P G vwCl ws H) : ∀ (q : Nat) (cell : Cell), va_A ws H.size q → H[q]? = some cell → cell.vm.isStatics = false := by
  intro q cell hA hc
  rcases hA with ⟨k, e9, hk⟩ | h
  · have h1 := hP k _ hk
    cases e9 with
    | inl a =>
      have h2 : H[q]? = some (vp_cell a.1 a.2) := h1
      cases Option.some.inj (hc.symm.trans h2)
      obtain ⟨c9, n9, a9⟩ := a
      rcases a9 with f | f | f | f | f <;> rfl
    | inr o =>
      obtain ⟨r9, -, cell9, h3, -, h4, -⟩ := h1
      cases Option.some.inj (hc.symm.trans h3)
      rw [h4]
      rfl
  · have := (Array.getElem?_eq_some_iff.mp hc).1
    omega
def dc_exc (C : String) (a : Nat) (st t : State) : Prop := ∃ (cX : ClassId) (ce : Cell), st.vm.findClass C = some cX ∧ t.heap[a]? = some ce ∧ ce.cls = cX ∧ ce.vm = .none ∧ st.heap.size ≤ a
def dc_qT {S : Type} (G : va_G) (cls : Int32 → String) (K : Int32) (V : S → Value) (post : S → Prop) (w1 : S → va_W) (sz : Nat) (ws : va_W) : Array Value → State → Outcome → State → Prop := fun _ st oc t =>
  (∃ u : S, post u ∧ va_P G vwCl (w1 u) t.heap ∧ va_D (va_A ws sz) (w1 u) ∧ ((K = 0 ∧ oc = .returned (some (V u))) ∨ (¬ K = 0 ∧ ∃ a : Nat, oc = .threw a ∧ dc_exc (cls K) a st t))) ∧ va_F (va_A ws sz) st t
section DCX
variable {p : Program} {l : Launch} {e : Env} {R : Room} {s : State} {m : MethodId} {args : Array Value} {below : List Frame} {meth : Method} {c : Code} {H : Heap} {locs : List Loc} {cells slots : Nat} {pc : Nat} {ls : Array Slot} {A : Nat → Prop} {G : va_G} {ws : va_W} {cc : ByteArray} {free : Addr → Prop} {Qc : Array Value → State → Outcome → State → Prop}
theorem dc_throw (hx : p.tables.exec = Jvm.exec) (hb : c.code = cc) (hls : ls.size = c.maxLocals) (hout : ∀ x ∈ c.exceptionTable.toList, covers x (pc + 9) = false) (hlocks : meth.locks = false) (htr : l.stackTraces = false)
    {own C tx : String} {ix ik ic : Nat} {bytes : ByteArray} (hown : s.vm.findClass own = some m.cls) (hcls : Bundle.fit C = true)
    (hclink : (Cond.classLink own ix C).before args s = true) (hinit : (Cond.initialized C).before args s = true) (hstr : ∃ a : Nat, vk_R own ik tx a s)
    (hT : ∀ a ∈ Bundle.throwableAtoms ++ Bundle.throwableSAtoms, a.before args s = true)
    (hch : e.platform.magicAccessors = ({} : Platform).magicAccessors → ∀ top, s.methodNamed? (Bundle.initS Bundle.tN) = some top → ∃ (P1 : PassC) (Ps : List PassC), Ps.length = 2 ∧ P1.LinksS e.platform s ∧ (∀ P, P ∈ Ps → P.LinksS e.platform s) ∧ s.methodNamed? (Bundle.initS C) = some P1.m ∧ P1.sup = firstOf top (Ps.map (·.toPassT)) ∧ PassesOn top (Ps.map (·.toPassT)))
    (h : ∀ a ∈ ([.methodLink own ic (Bundle.initS C), .instanceMethod (Bundle.initS C), .code (Bundle.initS C) bytes 2 none, .instantiable C 6, .selects C Bundle.tFill0 Bundle.tFill0, .selects C Bundle.tFill Bundle.tFill, .lays C Bundle.tN "cause" "Ljava/lang/Throwable;", .lays C Bundle.tN "stackTrace" Bundle.steD, .lays C Bundle.tN "suppressedExceptions" Bundle.listD, .lays C Bundle.tN "detailMessage" "Ljava/lang/String;", .isRef (.static Bundle.tN "UNASSIGNED_STACK" Bundle.steD), .isRef (.static Bundle.tN "SUPPRESSED_SENTINEL" Bundle.listD), .fieldLink Bundle.tN 198 Bundle.tN "backtrace" "Ljava/lang/Object;", .lays Bundle.tN Bundle.tN "backtrace" "Ljava/lang/Object;", .lays C Bundle.tN "backtrace" "Ljava/lang/Object;"] : List Cond), a.before args s = true)
    (hS : va_S A s.heap H locs) (hAs : ∀ (q : Nat) (cell : Cell), A q → s.heap[q]? = some cell → cell.vm.isStatics = false) (hP : va_P G vwCl ws H)
    (hd0 : decode cc pc = .ok (.new ix, 3)) (hd3 : decode cc (pc + 3) = .ok (.dup, 1)) (hd4 : decode cc (pc + 4) = .ok (.ldc ik, 2)) (hd6 : decode cc (pc + 6) = .ok (.invokespecial ic, 3)) (hd9 : decode cc (pc + 9) = .ok (.athrow, 1))
    (hcells : cells + 1 ≤ R.cells) (hslots : slots + 6 ≤ R.slots) (hRf : 5 < R.frames) (hRl : 90 ≤ R.locals)
    (hq : ∀ (a : Nat) (t : State), va_P G vwCl ws t.heap → va_F A s t → dc_exc C a s t → Qc args s (.threw a) t) (hf : ∀ q ∈ locs, free q.base) :
    W p l e R s m args below meth c H locs cells slots (dc_MQT below Qc args s (cells + 1) (slots + 6) free) (F0 m pc ls []) := by
  obtain ⟨sa, hsa⟩ := hstr
  refine W.newc hx hb hown hclink (h (.instantiable C 6) (by simp)) hinit rfl hd0 hcells hslots fun cC kC h1 h2 h3 h4 => ?_
  refine lv_dup hx hb hd3 rfl ?_
  refine va_ldcS hx hb hown hsa hd4 ?_
  intro T hTH X
  have htr' : e.platform.stackTraces = false := by rw [X.admits.platform]; exact htr
  have hpl : e.platform.magicAccessors = ({} : Platform).magicAccessors := by rw [X.admits.platform]
  have hcell : T.heap[H.size]? = some (freshCell cC kC) := by
    rw [hTH]
    simp [freshCell]
  obtain ⟨U, hsteps, hrun, hend, hW, hsame, hqq, hsz, ce, hce, hcc, hcv⟩ := dc_ctorThrow X hx htr' (own := own) (cls := C) (ic := ic) (k0 := 2) (bytes := bytes) hown hcls hT (hch hpl) h (fun x hx9 cell hc9 => hAs _ cell (hS.2.2 x hx9) hc9) h1 h2 hcell hS.1
    (msg := .ref sa) rfl (g := F0 m (pc + 3 + 1 + 2) ls [.ref sa, .ref H.size, .ref H.size]) rfl hls rfl rfl (rest := []) rfl (by rw [hb]; exact hd6) (by rw [hb]; exact hd9) hout (by omega) (by show 2 * 0 + 1 + (13 * 3 + 42) ≤ _; omega) hlocks
  have hsz2 : U.heap.size = H.size + 1 := by rw [hsz, hTH]; simp
  have hold : ∀ q : Nat, q < H.size → U.heap[q]? = H[q]? := fun q hlt => by
    rw [hqq q (Nat.ne_of_lt hlt), hTH, Array.getElem?_push, if_neg (Nat.ne_of_lt hlt)]
  refine ⟨U, hsteps, .threw H.size, hrun, hend, hq H.size U ?_ ⟨?_, ?_⟩ ⟨cC, ce, h1, hce, hcc, hcv, hS.1⟩, hW, locs, hsame, hf⟩
  · refine hP.kept (fun k q hk => hold q.1 ?_)
    have h9 := hP k q hk
    obtain ⟨a9, e9⟩ := q
    cases e9 with
    | inl a => exact (Array.getElem?_eq_some_iff.mp (show H[a9]? = some (vp_cell a.1 a.2) from h9)).1
    | inr o =>
      obtain ⟨r9, -, cell9, h3, -⟩ := h9
      exact (Array.getElem?_eq_some_iff.mp h3).1
  · rw [hsz2]
    have := hS.1
    omega
  · intro q hlt hA9
    rw [hold q (Nat.lt_of_lt_of_le hlt hS.1)]
    exact hS.2.1 q hlt hA9
end DCX
def dc_xw (own : String) (ic : Nat) (C : String) (bytes : ByteArray) : List Cond := [.methodLink own ic (Bundle.initS C), .instanceMethod (Bundle.initS C), .code (Bundle.initS C) bytes 2 none, .instantiable C 6, .selects C Bundle.tFill0 Bundle.tFill0, .selects C Bundle.tFill Bundle.tFill, .lays C Bundle.tN "cause" "Ljava/lang/Throwable;", .lays C Bundle.tN "stackTrace" Bundle.steD, .lays C Bundle.tN "suppressedExceptions" Bundle.listD, .lays C Bundle.tN "detailMessage" "Ljava/lang/String;", .isRef (.static Bundle.tN "UNASSIGNED_STACK" Bundle.steD), .isRef (.static Bundle.tN "SUPPRESSED_SENTINEL" Bundle.listD), .fieldLink Bundle.tN 198 Bundle.tN "backtrace" "Ljava/lang/Object;", .lays Bundle.tN Bundle.tN "backtrace" "Ljava/lang/Object;", .lays C Bundle.tN "backtrace" "Ljava/lang/Object;"]
theorem dc_list {L : List Cond} {is : List Nat} (h1 : L.filter goodWord = is.filterMap (fun i => tables_1[i]?)) (h2 : (L.filter (fun w => !goodWord w)).all (fun w => decide (w ∈ dc_hw)) = true) {args : Array Value} {s : State} {A : Nat → Prop} (hts : ∀ w ∈ dc_W, w.before args s = true) (hV : dc_V A s s.heap) : ∀ w ∈ L, w.before args s = true := by
  intro w hw
  by_cases hg : goodWord w = true
  · have h3 : w ∈ L.filter goodWord := List.mem_filter.mpr ⟨hw, hg⟩
    rw [h1] at h3
    obtain ⟨i, -, hi⟩ := List.mem_filterMap.mp h3
    exact hts w (dc_in (List.mem_of_getElem? hi) hg)
  · have h3 : w ∈ L.filter (fun w => !goodWord w) := List.mem_filter.mpr ⟨hw, by simpa using hg⟩
    exact dc_hwW hV w (of_decide_eq_true (List.all_eq_true.mp h2 w h3))
theorem dc_chain {args : Array Value} {s : State} {pl : Platform} {C : String} (hC : Bundle.fit C = true) (h : ∀ w ∈ Bundle.chainSAtoms C ["java/lang/RuntimeException", "java/lang/Exception"], w.before args s = true) (hpl : pl.magicAccessors = ({} : Platform).magicAccessors) : ∀ top, s.methodNamed? (Bundle.initS Bundle.tN) = some top → ∃ (P1 : PassC) (Ps : List PassC), Ps.length = 2 ∧ P1.LinksS pl s ∧ (∀ P, P ∈ Ps → P.LinksS pl s) ∧ s.methodNamed? (Bundle.initS C) = some P1.m ∧ P1.sup = firstOf top (Ps.map (·.toPassT)) ∧ PassesOn top (Ps.map (·.toPassT)) := fun top htop =>
  Bundle.chainS hpl htop ["java/lang/RuntimeException", "java/lang/Exception"] C hC (by decide +kernel) h
theorem dc_chainX {args : Array Value} {s : State} {pl : Platform} {C : String} (hC : Bundle.fit C = true) {ix : Nat} {rx : ByteArray} (x0 : decode rx 0 = .ok (.aload_n 0, 1)) (x1 : decode rx 1 = .ok (.aload_n 1, 1)) (x2 : decode rx 2 = .ok (.invokespecial ix, 3)) (x5 : decode rx 5 = .ok (.return_, 1))
    (h : ∀ w ∈ Bundle.passSAtoms C "java/lang/RuntimeException" ix rx ++ Bundle.chainSAtoms "java/lang/RuntimeException" ["java/lang/Exception"], w.before args s = true) (hpl : pl.magicAccessors = ({} : Platform).magicAccessors) : ∀ top, s.methodNamed? (Bundle.initS Bundle.tN) = some top → ∃ (P1 : PassC) (Ps : List PassC), Ps.length = 2 ∧ P1.LinksS pl s ∧ (∀ P, P ∈ Ps → P.LinksS pl s) ∧ s.methodNamed? (Bundle.initS C) = some P1.m ∧ P1.sup = firstOf top (Ps.map (·.toPassT)) ∧ PassesOn top (Ps.map (·.toPassT)) := fun top htop => by
  obtain ⟨P, L, hm, hs⟩ := PassC.ofS_atoms (args := args) (s := s) hpl (X := C) (Y := "java/lang/RuntimeException") (Bundle.fit_spec hC).1 (by decide) x0 x1 x2 x5 (fun c hc => h c (List.mem_append_left _ hc))
  obtain ⟨P', Ps, hlen, L', hL, hm', hsup, hpass⟩ := Bundle.chainS (args := args) hpl htop ["java/lang/Exception"] "java/lang/RuntimeException" (by decide +kernel) (by decide +kernel) (fun c hc => h c (List.mem_append_right _ hc))
  refine ⟨P, P' :: Ps, by simp [hlen], L, ?_, hm, Option.some.inj (hs.symm.trans hm'), hsup, hpass⟩
  intro Q hQ
  rcases List.mem_cons.mp hQ with rfl | hQ
  · exact L'
  · exact hL Q hQ
def dc_cl2 (a b : String) (k : Int32) : String := if k = 1 then a else b
theorem dc_cl2_1 {a b : String} : dc_cl2 a b 1 = a := if_pos rfl
theorem dc_cl2_2 {a b : String} : dc_cl2 a b 2 = b := if_neg (by decide)
def dc_cl5 (a b c d e : String) (k : Int32) : String := if k = 1 then a else if k = 2 then b else if k = 3 then c else if k = 4 then d else e
theorem dc_cl5_1 {a b c d e : String} : dc_cl5 a b c d e 1 = a := if_pos rfl
theorem dc_cl5_2 {a b c d e : String} : dc_cl5 a b c d e 2 = b := (if_neg (by decide)).trans (if_pos rfl)
theorem dc_cl5_3 {a b c d e : String} : dc_cl5 a b c d e 3 = c := (if_neg (by decide)).trans ((if_neg (by decide)).trans (if_pos rfl))
theorem dc_cl5_4 {a b c d e : String} : dc_cl5 a b c d e 4 = d := (if_neg (by decide)).trans ((if_neg (by decide)).trans ((if_neg (by decide)).trans (if_pos rfl)))
theorem dc_cl5_5 {a b c d e : String} : dc_cl5 a b c d e 5 = e := (if_neg (by decide)).trans ((if_neg (by decide)).trans ((if_neg (by decide)).trans (if_neg (by decide))))
def dc_cl1 (a : String) (_ : Int32) : String := a
theorem dc_cl1_1 {a : String} : dc_cl1 a 1 = a := rfl
theorem dc_w4F {f : Int32} (h : dc_has 4 f = false) : dc_isFile f.toInt64 = false := by
  have h1 := of_decide_eq_false h
  refine decide_eq_false (fun z => h1 ?_)
  obtain ⟨z1, z2⟩ := z
  rw [Int64.lt_iff_toInt_lt, Int32.toInt_toInt64] at z1 z2
  have e0 : (0 : Int64).toInt = 0 := rfl
  have e4 : (4 : Int64).toInt = 4 := rfl
  rw [e0] at z1
  rw [e4] at z2
  omega
theorem dc_hdV2 {gn : Bool} {p : Int32} {w0 w1 w2 w3 : Nat → Int64} {j m0 m1 m2 m3 : Nat} (hj : j < 4) (h : dc_hdT gn (nI j) p m0 m1 m2 m3 = 0) : dc_get (dc_f4 w0 w1 w2 w3 j) (dc_f4 m0 m1 m2 m3 j) p = dc_hdV gn (nI j) p w0 m0 w1 m1 w2 m2 w3 m3 := by
  unfold dc_hdV; rw [if_pos h, nI_clamp (by omega)]
theorem dc_obE6 {so : Bool} {se sm sc : Int64} {sv n0 n1 n2 n3 : Nat} {x y u : Int64} {v : Int32} (h : v = dc_obE so se sm sc sv n0 n1 n2 n3 x y u) : v = 0 ∨ v = 1 ∨ v = 2 ∨ v = 3 ∨ v = 4 ∨ v = 5 := by
  unfold dc_obE dc_obR dc_readR dc_sel at h
  split at h
  · exact Or.inr (Or.inl h)
  · split at h
    · split at h
      · split at h
        · exact Or.inl h
        · exact Or.inr (Or.inr (Or.inr (Or.inr (Or.inl h))))
      · split at h
        · split at h
          · exact Or.inr (Or.inr (Or.inr (Or.inr (Or.inl h))))
          · split at h
            · exact Or.inl h
            · exact Or.inr (Or.inr (Or.inr (Or.inr (Or.inr h))))
        · exact Or.inr (Or.inr (Or.inr (Or.inl h)))
    · exact Or.inr (Or.inr (Or.inl h))
theorem dc_ldT3 {f : Int32} {n0 n1 n2 n3 : Nat} : dc_ldT f n0 n1 n2 n3 = 0 ∨ dc_ldT f n0 n1 n2 n3 = 1 ∨ dc_ldT f n0 n1 n2 n3 = 2 := by
  unfold dc_ldT
  split
  · split
    · exact Or.inr (Or.inr rfl)
    · exact Or.inl rfl
  · exact Or.inr (Or.inl rfl)
theorem dc_prT3 {f v d : Int32} : dc_prT f v d = 0 ∨ dc_prT f v d = 1 ∨ dc_prT f v d = 2 := by
  unfold dc_prT
  split
  · split
    · exact Or.inl rfl
    · exact Or.inr (Or.inr rfl)
  · exact Or.inr (Or.inl rfl)
theorem dc_trT3 {a b : Int32} {k : Nat} : dc_trT a b k = 0 ∨ dc_trT a b k = 1 ∨ dc_trT a b k = 2 := by
  unfold dc_trT
  split
  · split
    · exact Or.inr (Or.inr rfl)
    · exact Or.inl rfl
  · exact Or.inr (Or.inl rfl)
theorem dc_chT3 {a b : Int32} {x : Int64} {k : Nat} : dc_chT a b x k = 0 ∨ dc_chT a b x k = 1 ∨ dc_chT a b x k = 2 := by
  unfold dc_chT
  split
  · split
    · exact Or.inr (Or.inr rfl)
    · exact Or.inl rfl
  · exact Or.inr (Or.inl rfl)
theorem dc_hdT3 {gn : Bool} {f p : Int32} {m0 m1 m2 m3 : Nat} : dc_hdT gn f p m0 m1 m2 m3 = 0 ∨ dc_hdT gn f p m0 m1 m2 m3 = 1 ∨ dc_hdT gn f p m0 m1 m2 m3 = 2 := by
  unfold dc_hdT
  split
  · split
    · exact Or.inl rfl
    · exact Or.inr (Or.inr rfl)
  · exact Or.inr (Or.inl rfl)
theorem dc_pvT3 {a b : Bool} : dc_sel a (dc_sel b (0 : Int32) 2) 1 = 0 ∨ dc_sel a (dc_sel b (0 : Int32) 2) 1 = 1 ∨ dc_sel a (dc_sel b (0 : Int32) 2) 1 = 2 := by
  cases a with
  | false => exact Or.inr (Or.inl rfl)
  | true =>
    cases b with
    | false => exact Or.inr (Or.inr rfl)
    | true => exact Or.inl rfl
theorem dc_soT2 {a : Bool} : dc_sel a (0 : Int32) 1 = 0 ∨ dc_sel a (0 : Int32) 1 = 1 := by
  cases a with
  | false => exact Or.inr rfl
  | true => exact Or.inl rfl
theorem dc_obT6 {so : Bool} {se sm sc : Int64} {sv n0 n1 n2 n3 : Nat} {x y u : Int64} : dc_obE so se sm sc sv n0 n1 n2 n3 x y u = 0 ∨ dc_obE so se sm sc sv n0 n1 n2 n3 x y u = 1 ∨ dc_obE so se sm sc sv n0 n1 n2 n3 x y u = 2 ∨ dc_obE so se sm sc sv n0 n1 n2 n3 x y u = 3 ∨ dc_obE so se sm sc sv n0 n1 n2 n3 x y u = 4 ∨ dc_obE so se sm sc sv n0 n1 n2 n3 x y u = 5 := dc_obE6 rfl
