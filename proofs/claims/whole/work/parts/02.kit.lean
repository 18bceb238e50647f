-- the verifier's own rows over the kit: names for what the bytecode computes, contracts' starts and ends, calls, loops
def dc_bI (b : Bool) : Int32 := if b then 1 else 0
theorem dc_bI0 {b : Bool} : dc_bI b = 0 ↔ b = false := by cases b <;> simp [dc_bI]
theorem dc_bI1 {b : Bool} : ¬ dc_bI b = 0 ↔ b = true := by cases b <;> simp [dc_bI]
theorem dc_nz (b : Bool) : narrow .boolean (.int (dc_bI b)) = .int (dc_bI b) := by cases b <;> rfl
theorem dc_fz (b : Bool) : fits .boolean (.int (dc_bI b)) = true := by cases b <;> rfl
def dc_ju (x : Int64) (y : Int32) : Int64 := (x.toUInt64 >>> (y.toInt64.toUInt64 &&& Int64.toUInt64 63)).toInt64
def dc_jl (x : Int64) (y : Int32) : Int64 := x <<< (y.toInt64 &&& 63)
def dc_jr (x : Int64) (y : Int32) : Int64 := x >>> (y.toInt64 &&& 63)
def dc_iu (x y : Int32) : Int32 := (x.toUInt32 >>> (y.toUInt32 &&& Int32.toUInt32 31)).toInt32
def dc_irem (x y : Int32) : Int32 := x - x / y * y
def dc_lrem (x y : Int64) : Int64 := x - x / y * y
theorem dc_inc1 (a : Nat) : nI a + Int32.ofInt 1 = nI (a + 1) := nI_1 a
theorem dc_inc4 (a : Nat) : nI a + Int32.ofInt 4 = nI (a + 4) := nI_add a 4
theorem dc_inc9 (a : Nat) : nI a + Int32.ofInt 9 = nI (a + 9) := nI_add a 9
def dc_dn (j : Nat) : Int32 := match j with
  | 0 => -1
  | j + 1 => nI j
theorem dc_dnp (j : Nat) : nI j + Int32.ofInt (-1) = dc_dn j := by
  cases j with
  | zero => rfl
  | succ j => exact pk_m1 j
theorem dc_decN (a : Nat) : nI (a + 1) + Int32.ofInt (-1) = nI a := pk_m1 a
abbrev dc_TY (cA : Nat → ClassId) : List (ClassId × FieldType) := [(cA 0, .int), (cA 1, .long), (cA 2, .object "DocumentChip$Row")]
def dc_N (U : State) : Prop := (∀ q ∈ dc_nF, va_Nw (.fieldLinkNest q.1 q.2.1 q.2.2.1 q.2.2.2.1 q.2.2.2.2 "DocumentChip") U) ∧ (∀ q ∈ dc_nM, va_Nw (.methodLinkNest q.1 q.2.1 q.2.2 "DocumentChip") U) ∧ va_AO "DocumentChip$Row" U
theorem dc_N.warm {s U : State} (hW : s.WarmedH U.vm) (h : dc_N s) : dc_N U := ⟨fun q hq => va_Nw.warmF hW (h.1 q hq), fun q hq => va_Nw.warmM hW (h.2.1 q hq), va_AO.moved hW.alike h.2.2⟩
theorem dc_N.same {s U : State} (hv : s.vm = U.vm) (h : dc_N s) : dc_N U := ⟨fun q hq => va_Nw.same rfl hv (h.1 q hq), fun q hq => va_Nw.same rfl hv (h.2.1 q hq), va_AO.moved (by rw [hv]; exact Vm.Alike.refl _) h.2.2⟩
def dc_K (G : va_G) (cA : Nat → ClassId) (U : State) : Prop := va_K G vwCl (dc_TY cA) U ∧ dc_N U
theorem dc_K.warm {G : va_G} {cA : Nat → ClassId} {s U : State} (hW : s.WarmedH U.vm) (h : dc_K G cA s) : dc_K G cA U := ⟨va_K.moved hW.alike h.1, h.2.warm hW⟩
theorem dc_K.same {G : va_G} {cA : Nat → ClassId} {s U : State} (hv : s.vm = U.vm) (h : dc_K G cA s) : dc_K G cA U := ⟨va_K.moved (by rw [hv]; exact Vm.Alike.refl _) h.1, h.2.same hv⟩
def dc_pR (G : va_G) (cA : Nat → ClassId) (ws : va_W) (av : List Value) : Array Value → State → Prop := va_Pc av (fun U => va_P G vwCl ws U.heap ∧ dc_K G cA U)
def dc_pW (G : va_G) (cA : Nat → ClassId) (ws : va_W) (sz : Nat) (av : List Value) : Array Value → State → Prop := va_Pc av (fun U => U.heap.size = sz ∧ va_P G vwCl ws U.heap ∧ dc_K G cA U ∧ va_D (fun _ => True) ws)
def dc_qv {S : Type} (G : va_G) (post : S → Prop) (w1 : S → va_W) (sz : Nat) (ws : va_W) : Array Value → State → Outcome → State → Prop := va_Qv post (fun u t => va_P G vwCl (w1 u) t.heap ∧ va_D (va_A ws sz) (w1 u)) (va_A ws sz)
def dc_qi {S : Type} (G : va_G) (post : Int32 → S → Prop) (w1 : S → va_W) (sz : Nat) (ws : va_W) : Array Value → State → Outcome → State → Prop := va_Qi post (fun u t => va_P G vwCl (w1 u) t.heap ∧ va_D (va_A ws sz) (w1 u)) (va_A ws sz)
def dc_ql {S : Type} (G : va_G) (post : Int64 → S → Prop) (w1 : S → va_W) (sz : Nat) (ws : va_W) : Array Value → State → Outcome → State → Prop := va_Ql post (fun u t => va_P G vwCl (w1 u) t.heap ∧ va_D (va_A ws sz) (w1 u)) (va_A ws sz)
theorem dc_blR {G : va_G} {cA : Nat → ClassId} {ws : va_W} {av : List Value} : FrameBlind (dc_pR G cA ws av) := fun a U g mk q => by
  obtain ⟨q0, qP, qK⟩ := q
  exact ⟨q0, qP, dc_K.same (s := U) (U := U.calling g mk a) rfl qK⟩
theorem dc_blW {G : va_G} {cA : Nat → ClassId} {ws : va_W} {sz : Nat} {av : List Value} : FrameBlind (dc_pW G cA ws sz av) := fun a U g mk q => by
  obtain ⟨q0, q1, qP, qK, qD⟩ := q
  exact ⟨q0, q1, qP, dc_K.same (s := U) (U := U.calling g mk a) rfl qK, qD⟩
theorem dc_preSR {G : va_G} {cA : Nat → ClassId} {ws : va_W} {av : List Value} {s : State} {H : Heap} (hP : va_P G vwCl ws H) (hK : dc_K G cA s) : PreS s H (dc_pR G cA ws av) av :=
  ⟨dc_blR, fun U hU hW => ⟨rfl, by rw [hU]; exact hP, dc_K.warm hW hK⟩⟩
theorem dc_preVR {G : va_G} {cA : Nat → ClassId} {ws : va_W} {As : List Value} {s : State} {H : Heap} {b q0 ci : Nat} {q : vw_C} {fs : List Value} (hP : va_P G vwCl ws H) (hK : dc_K G cA s) (hc : vwCl[ci]? = some q) (he : ws[q0]? = some (b, .inr (ci, fs))) : PreV s H q.1 b (dc_pR G cA ws (.ref b :: As)) As :=
  ⟨dc_blR, va_recv hK.1 hP hc he, fun U hU hW => ⟨rfl, by rw [hU]; exact hP, dc_K.warm hW hK⟩⟩
theorem dc_preSW {G : va_G} {cA : Nat → ClassId} {A : Nat → Prop} {ws : va_W} {av : List Value} {s : State} {H : Heap} (hP : va_P G vwCl ws H) (hK : dc_K G cA s) (hD : va_D A ws) : PreS s H (dc_pW G cA ws H.size av) av :=
  ⟨dc_blW, fun U hU hW => ⟨rfl, by rw [hU], by rw [hU]; exact hP, dc_K.warm hW hK, hD.weaken (fun _ _ _ _ => trivial)⟩⟩
theorem dc_preVW {G : va_G} {cA : Nat → ClassId} {A : Nat → Prop} {ws : va_W} {As : List Value} {s : State} {H : Heap} {b q0 ci : Nat} {q : vw_C} {fs : List Value} (hP : va_P G vwCl ws H) (hK : dc_K G cA s) (hD : va_D A ws) (hc : vwCl[ci]? = some q) (he : ws[q0]? = some (b, .inr (ci, fs))) : PreV s H q.1 b (dc_pW G cA ws H.size (.ref b :: As)) As :=
  ⟨dc_blW, va_recv hK.1 hP hc he, fun U hU hW => ⟨rfl, by rw [hU], by rw [hU]; exact hP, dc_K.warm hW hK, hD.weaken (fun _ _ _ _ => trivial)⟩⟩
-- the tables that a JVM keeps in statics: addresses z 0 .. z 3
def dc_lim (j : Nat) : Int32 := match j with
  | 0 => 1000000000
  | _ => 1000000
def dc_wd (j : Nat) : Nat := match j with
  | 0 => 9
  | _ => 6
def dc_wei (j : Nat) : Int32 := match j with
  | 0 => 7
  | 1 => 3
  | _ => 1
def dc_ord (j : Nat) : Nat := match j with
  | 0 => 3
  | 1 => 0
  | 2 => 1
  | _ => 2
def dc_Z (z : Nat → Nat) (A : Nat → Prop) (U : State) (H : Heap) : Prop :=
  va_Z "DocumentChip$Line" "LIMITS" "[I" (.ref (z 0)) A U H ∧ va_T .int (z 0) 3 (fun j => .int (dc_lim j)) A U H ∧
  va_Z "DocumentChip$Line" "WIDTHS" "[I" (.ref (z 1)) A U H ∧ va_T .int (z 1) 3 (fun j => .int (nI (dc_wd j))) A U H ∧
  va_Z "DocumentChip$Line" "WEIGHTS" "[I" (.ref (z 2)) A U H ∧ va_T .int (z 2) 3 (fun j => .int (dc_wei j)) A U H ∧
  va_Z "DocumentChip$Desk" "READING_ORDER" "[I" (.ref (z 3)) A U H ∧ va_T .int (z 3) 4 (fun j => .int (nI (dc_ord j))) A U H
theorem dc_Z.moved {z : Nat → Nat} {A : Nat → Prop} {u U : State} {H : Heap} (hvm : u.vm.Alike U.vm) (h : dc_Z z A u H) : dc_Z z A U H := by
  obtain ⟨h1, h2, h3, h4, h5, h6, h7, h8⟩ := h
  exact ⟨h1.moved hvm, h2.moved hvm, h3.moved hvm, h4.moved hvm, h5.moved hvm, h6.moved hvm, h7.moved hvm, h8.moved hvm⟩
theorem dc_Z.kept {z : Nat → Nat} {A : Nat → Prop} {U : State} {H H1 : Heap} (h : dc_Z z A U H) (hq : ∀ a : Nat, a < H.size → ¬ A a → H1[a]? = H[a]?) : dc_Z z A U H1 := by
  obtain ⟨h1, h2, h3, h4, h5, h6, h7, h8⟩ := h
  exact ⟨h1.kept hq, h2.kept hq, h3.kept hq, h4.kept hq, h5.kept hq, h6.kept hq, h7.kept hq, h8.kept hq⟩
theorem dc_Z.narrow {z : Nat → Nat} {A B : Nat → Prop} {U : State} {H : Heap} (h : dc_Z z A U H) (hAB : ∀ q, B q → A q) : dc_Z z B U H := by
  obtain ⟨h1, h2, h3, h4, h5, h6, h7, h8⟩ := h
  exact ⟨h1.narrow hAB, h2.narrow hAB, h3.narrow hAB, h4.narrow hAB, h5.narrow hAB, h6.narrow hAB, h7.narrow hAB, h8.narrow hAB⟩
def dc_pRZ (G : va_G) (cA : Nat → ClassId) (z : Nat → Nat) (ws : va_W) (av : List Value) : Array Value → State → Prop := va_Pc av (fun U => va_P G vwCl ws U.heap ∧ dc_K G cA U ∧ dc_Z z (fun _ => False) U U.heap)
def dc_pWZ (G : va_G) (cA : Nat → ClassId) (z : Nat → Nat) (ws : va_W) (sz : Nat) (av : List Value) : Array Value → State → Prop := va_Pc av (fun U => U.heap.size = sz ∧ va_P G vwCl ws U.heap ∧ dc_K G cA U ∧ va_D (fun _ => True) ws ∧ dc_Z z (va_A ws sz) U U.heap)
theorem dc_blRZ {G : va_G} {cA : Nat → ClassId} {z : Nat → Nat} {ws : va_W} {av : List Value} : FrameBlind (dc_pRZ G cA z ws av) := fun a U g mk q => by
  obtain ⟨q0, qP, qK, qZ⟩ := q
  exact ⟨q0, qP, dc_K.same (s := U) (U := U.calling g mk a) rfl qK, dc_Z.moved (u := U) (U := U.calling g mk a) (Vm.Alike.refl U.vm) qZ⟩
theorem dc_blWZ {G : va_G} {cA : Nat → ClassId} {z : Nat → Nat} {ws : va_W} {sz : Nat} {av : List Value} : FrameBlind (dc_pWZ G cA z ws sz av) := fun a U g mk q => by
  obtain ⟨q0, q1, qP, qK, qD, qZ⟩ := q
  exact ⟨q0, q1, qP, dc_K.same (s := U) (U := U.calling g mk a) rfl qK, qD, dc_Z.moved (u := U) (U := U.calling g mk a) (Vm.Alike.refl U.vm) qZ⟩
theorem dc_preSRZ {G : va_G} {cA : Nat → ClassId} {z : Nat → Nat} {A : Nat → Prop} {locs : List Loc} {ws : va_W} {av : List Value} {s : State} {H : Heap} (hP : va_P G vwCl ws H) (hK : dc_K G cA s) (hZ : dc_Z z A s s.heap) (hS : va_S A s.heap H locs) : PreS s H (dc_pRZ G cA z ws av) av :=
  ⟨dc_blRZ, fun U hU hW => ⟨rfl, by rw [hU]; exact hP, dc_K.warm hW hK, by rw [hU]; exact dc_Z.moved hW.alike ((hZ.kept hS.2.1).narrow (fun _ h => h.elim))⟩⟩
theorem dc_preVRZ {G : va_G} {cA : Nat → ClassId} {z : Nat → Nat} {A : Nat → Prop} {locs : List Loc} {ws : va_W} {As : List Value} {s : State} {H : Heap} {b q0 ci : Nat} {q : vw_C} {fs : List Value} (hP : va_P G vwCl ws H) (hK : dc_K G cA s) (hc : vwCl[ci]? = some q) (he : ws[q0]? = some (b, .inr (ci, fs))) (hZ : dc_Z z A s s.heap) (hS : va_S A s.heap H locs) : PreV s H q.1 b (dc_pRZ G cA z ws (.ref b :: As)) As :=
  ⟨dc_blRZ, va_recv hK.1 hP hc he, fun U hU hW => ⟨rfl, by rw [hU]; exact hP, dc_K.warm hW hK, by rw [hU]; exact dc_Z.moved hW.alike ((hZ.kept hS.2.1).narrow (fun _ h => h.elim))⟩⟩
theorem dc_preSWZ {G : va_G} {cA : Nat → ClassId} {z : Nat → Nat} {A : Nat → Prop} {locs : List Loc} {ws : va_W} {av : List Value} {s : State} {H : Heap} (hP : va_P G vwCl ws H) (hK : dc_K G cA s) (hD : va_D A ws) (hZ : dc_Z z A s s.heap) (hS : va_S A s.heap H locs) (hA : ∀ q, s.heap.size ≤ q → A q) : PreS s H (dc_pWZ G cA z ws H.size av) av :=
  ⟨dc_blWZ, fun U hU hW => ⟨rfl, by rw [hU], by rw [hU]; exact hP, dc_K.warm hW hK, hD.weaken (fun _ _ _ _ => trivial), by
    rw [hU]
    refine dc_Z.moved hW.alike ((hZ.kept hS.2.1).narrow (fun q h => ?_))
    rcases h with ⟨k, e9, h⟩ | h
    · exact hD.2 k (q, e9) h
    · exact hA q (Nat.le_trans hS.1 h)⟩⟩
theorem dc_preVWZ {G : va_G} {cA : Nat → ClassId} {z : Nat → Nat} {A : Nat → Prop} {locs : List Loc} {ws : va_W} {As : List Value} {s : State} {H : Heap} {b q0 ci : Nat} {q : vw_C} {fs : List Value} (hP : va_P G vwCl ws H) (hK : dc_K G cA s) (hD : va_D A ws) (hc : vwCl[ci]? = some q) (he : ws[q0]? = some (b, .inr (ci, fs))) (hZ : dc_Z z A s s.heap) (hS : va_S A s.heap H locs) (hA : ∀ q, s.heap.size ≤ q → A q) : PreV s H q.1 b (dc_pWZ G cA z ws H.size (.ref b :: As)) As :=
  ⟨dc_blWZ, va_recv hK.1 hP hc he, fun U hU hW => (dc_preSWZ (av := .ref b :: As) hP hK hD hZ hS hA).2 U hU hW⟩
theorem dc_sameI {G : va_G} {cl : List vw_C} {tys : List (ClassId × FieldType)} {s : State} (hK : va_K G cl tys s) {i j : Nat} {a b : ClassId} (hi : tys[i]? = some (a, .int)) (hj : tys[j]? = some (b, .int)) : a = b := Option.some.inj (Eq.trans (Eq.symm (hK.2 i _ hi).2) (hK.2 j _ hj).2)
theorem dc_sameJ {G : va_G} {cl : List vw_C} {tys : List (ClassId × FieldType)} {s : State} (hK : va_K G cl tys s) {i j : Nat} {a b : ClassId} (hi : tys[i]? = some (a, .long)) (hj : tys[j]? = some (b, .long)) : a = b := Option.some.inj (Eq.trans (Eq.symm (hK.2 i _ hi).2) (hK.2 j _ hj).2)
theorem dc_sameQ {G : va_G} {cl : List vw_C} {tys : List (ClassId × FieldType)} {s : State} {C : String} (hK : va_K G cl tys s) {i j : Nat} {a b : ClassId} (hi : tys[i]? = some (a, .object C)) (hj : tys[j]? = some (b, .object C)) : a = b := by
  obtain ⟨k1, c1, -, -, -, h1⟩ := (hK.2 i _ hi).2
  obtain ⟨k2, c2, -, -, -, h2⟩ := (hK.2 j _ hj).2
  exact Option.some.inj (h1.symm.trans h2)
def dc_abs (x : Int32) : Int32 := if 0 ≤ x then x else 0 - x
def dc_min (x y : Int32) : Int32 := if y < x then y else x
section DCW
variable {p : Program} {l : Launch} {e : Env} {R : Room} {s : State} {m : MethodId} {args : Array Value} {below : List Frame} {meth : Method} {c : Code} {H : Heap} {locs : List Loc} {cells slots : Nat} {Q : State → Prop} {pc : Nat} {ls : Array Slot} {rest st0 : List Value} {av : Array Value} {A : Nat → Prop} {mc ms : Nat} {G : va_G} {ws wc wr : va_W}
theorem dc_wv {S : Type} {post : S → Prop} {w1 : S → va_W} (hr : va_Run p l e R s m args below meth c H locs cells slots mc ms (F0 m pc ls st0) rest (dc_qv G post w1 H.size wc av) (va_A wc H.size)) (hP : va_P G vwCl ws H) (hD : va_D A ws) (hS : va_S A s.heap H locs) (hA : ∀ q, s.heap.size ≤ q → A q)
    (isC isR : List Nat) (hC : isC.map (fun i => ws[i]?) = wc.map some) (hR : isR.map (fun i => ws[i]?) = wr.map some) (hn : va_nd isR = true) (hdis : ∀ i ∈ isR, i ∉ isC)
    (kk : ∀ (u : S) (H1 : Heap) (locs1 : List Loc), post u → va_P G vwCl (wr ++ w1 u) H1 → va_D A (wr ++ w1 u) → va_S A s.heap H1 locs1 → W p l e R s m args below meth c H1 locs1 (cells + mc) (slots + ms) Q (F0 m (pc + 3) ls rest)) : W p l e R s m args below meth c H locs cells slots Q (F0 m pc ls st0) := by
  have hF := va_free (wc := wc) hD hS hA isC hC
  refine va_callv hr hS (fun q _ h => hF q h) hF (fun u t H1 locs1 ht hvm hp hB hz hk hS1 => ?_)
  obtain ⟨hP1, hD1⟩ := hB
  rw [ht] at hP1
  obtain ⟨hP2, hD2⟩ := va_join (wr := wr) (w1 := w1 u) hP hD isC isR hC hR hn hdis hk hF hP1 hD1
  exact kk u H1 locs1 hp hP2 hD2 hS1
theorem dc_wi {S : Type} {post : Int32 → S → Prop} {w1 : S → va_W} (hr : va_Run p l e R s m args below meth c H locs cells slots mc ms (F0 m pc ls st0) rest (dc_qi G post w1 H.size wc av) (va_A wc H.size)) (hP : va_P G vwCl ws H) (hD : va_D A ws) (hS : va_S A s.heap H locs) (hA : ∀ q, s.heap.size ≤ q → A q)
    (isC isR : List Nat) (hC : isC.map (fun i => ws[i]?) = wc.map some) (hR : isR.map (fun i => ws[i]?) = wr.map some) (hn : va_nd isR = true) (hdis : ∀ i ∈ isR, i ∉ isC)
    (kk : ∀ (r : Int32) (u : S) (H1 : Heap) (locs1 : List Loc), post r u → va_P G vwCl (wr ++ w1 u) H1 → va_D A (wr ++ w1 u) → va_S A s.heap H1 locs1 → W p l e R s m args below meth c H1 locs1 (cells + mc) (slots + ms) Q (F0 m (pc + 3) ls (.int r :: rest))) : W p l e R s m args below meth c H locs cells slots Q (F0 m pc ls st0) := by
  have hF := va_free (wc := wc) hD hS hA isC hC
  refine va_calli hr hS (fun q _ h => hF q h) hF (fun r u t H1 locs1 ht hvm hp hB hz hk hS1 => ?_)
  obtain ⟨hP1, hD1⟩ := hB
  rw [ht] at hP1
  obtain ⟨hP2, hD2⟩ := va_join (wr := wr) (w1 := w1 u) hP hD isC isR hC hR hn hdis hk hF hP1 hD1
  exact kk r u H1 locs1 hp hP2 hD2 hS1
theorem dc_wl {S : Type} {post : Int64 → S → Prop} {w1 : S → va_W} (hr : va_Run p l e R s m args below meth c H locs cells slots mc ms (F0 m pc ls st0) rest (dc_ql G post w1 H.size wc av) (va_A wc H.size)) (hP : va_P G vwCl ws H) (hD : va_D A ws) (hS : va_S A s.heap H locs) (hA : ∀ q, s.heap.size ≤ q → A q)
    (isC isR : List Nat) (hC : isC.map (fun i => ws[i]?) = wc.map some) (hR : isR.map (fun i => ws[i]?) = wr.map some) (hn : va_nd isR = true) (hdis : ∀ i ∈ isR, i ∉ isC)
    (kk : ∀ (r : Int64) (u : S) (H1 : Heap) (locs1 : List Loc), post r u → va_P G vwCl (wr ++ w1 u) H1 → va_D A (wr ++ w1 u) → va_S A s.heap H1 locs1 → W p l e R s m args below meth c H1 locs1 (cells + mc) (slots + ms) Q (F0 m (pc + 3) ls (.long r :: rest))) : W p l e R s m args below meth c H locs cells slots Q (F0 m pc ls st0) := by
  have hF := va_free (wc := wc) hD hS hA isC hC
  refine va_calll hr hS (fun q _ h => hF q h) hF (fun r u t H1 locs1 ht hvm hp hB hz hk hS1 => ?_)
  obtain ⟨hP1, hD1⟩ := hB
  rw [ht] at hP1
  obtain ⟨hP2, hD2⟩ := va_join (wr := wr) (w1 := w1 u) hP hD isC isR hC hR hn hdis hk hF hP1 hD1
  exact kk r u H1 locs1 hp hP2 hD2 hS1
theorem dc_loop {σ : Type} (pc : Nat) (st : List Value) (μ : σ → Nat) (I : σ → Heap → List Loc → Array Slot → Prop)
    (step : ∀ (x : σ) (H : Heap) (locs : List Loc) (ls : Array Slot), I x H locs ls → (∀ (y : σ) (H1 : Heap) (locs1 : List Loc) (ls1 : Array Slot), μ y < μ x → I y H1 locs1 ls1 → W p l e R s m args below meth c H1 locs1 cells slots Q (F0 m pc ls1 st)) → W p l e R s m args below meth c H locs cells slots Q (F0 m pc ls st))
    (x : σ) (h : I x H locs ls) : W p l e R s m args below meth c H locs cells slots Q (F0 m pc ls st) := by
  have key : ∀ (n : Nat) (x : σ) (H : Heap) (locs : List Loc) (ls : Array Slot), μ x < n → I x H locs ls → W p l e R s m args below meth c H locs cells slots Q (F0 m pc ls st) := by
    intro n
    induction n with
    | zero => intro x H locs ls h; omega
    | succ n ih => intro x H locs ls hx hI; exact step x H locs ls hI (fun y H1 locs1 ls1 hy hI1 => ih y H1 locs1 ls1 (by omega) hI1)
  exact key (μ x + 1) x H locs ls (by omega) h
variable {cc : ByteArray} {cA : Nat → ClassId} {a : Nat}
theorem dc_iald (hexec : p.tables.exec = Jvm.exec) (hb : c.code = cc) (hK : va_K G vwCl (dc_TY cA) s) (hP : va_P G vwCl ws H) (q0 : Nat) {n k : Nat} {f : Nat → Int32} (ha : ws[q0]? = some (a, .inl (cA 0, n, .inl f))) (hk : k < n) (hn : n < 2 ^ 31) (hdg : decode cc pc = .ok (.iaload, 1))
    (kk : W p l e R s m args below meth c H locs cells slots Q (F0 m (pc + 1) ls (.int (f k) :: rest))) : W p l e R s m args below meth c H locs cells slots Q (F0 m pc ls (.int (nI k) :: .ref a :: rest)) := by
  refine va_iald hexec hb hK hP q0 0 ha rfl (vp_in_nI hk hn) hdg ?_
  rw [nI_clamp (by omega)]; exact kk
theorem dc_lald (hexec : p.tables.exec = Jvm.exec) (hb : c.code = cc) (hK : va_K G vwCl (dc_TY cA) s) (hP : va_P G vwCl ws H) (q0 : Nat) {n k : Nat} {f : Nat → Int64} (ha : ws[q0]? = some (a, .inl (cA 1, n, .inr (.inl f)))) (hk : k < n) (hn : n < 2 ^ 31) (hdg : decode cc pc = .ok (.laload, 1))
    (kk : W p l e R s m args below meth c H locs cells slots Q (F0 m (pc + 1) ls (.long (f k) :: rest))) : W p l e R s m args below meth c H locs cells slots Q (F0 m pc ls (.int (nI k) :: .ref a :: rest)) := by
  refine va_lald hexec hb hK hP q0 1 ha rfl (vp_in_nI hk hn) hdg ?_
  rw [nI_clamp (by omega)]; exact kk
theorem dc_aldq (hexec : p.tables.exec = Jvm.exec) (hb : c.code = cc) (hK : va_K G vwCl (dc_TY cA) s) (hP : va_P G vwCl ws H) (q0 : Nat) {n k : Nat} {f : Nat → Option Nat} (ha : ws[q0]? = some (a, .inl (cA 2, n, .inr (.inr (.inr (.inr f)))))) (hk : k < n) (hn : n < 2 ^ 31) (hdg : decode cc pc = .ok (.aaload, 1))
    (kk : W p l e R s m args below meth c H locs cells slots Q (F0 m (pc + 1) ls (va_rf (f k) :: rest))) : W p l e R s m args below meth c H locs cells slots Q (F0 m pc ls (.int (nI k) :: .ref a :: rest)) := by
  refine va_aldq hexec hb hK hP q0 2 ha rfl (vp_in_nI hk hn) hdg ?_
  rw [nI_clamp (by omega)]; exact kk
theorem dc_iast (hexec : p.tables.exec = Jvm.exec) (hb : c.code = cc) (hK : va_K G vwCl (dc_TY cA) s) (hP : va_P G vwCl ws H) (hD : va_D A ws) (hS : va_S A s.heap H locs) (q0 : Nat) {n k : Nat} {x : Int32} {f : Nat → Int32} (ha : ws[q0]? = some (a, .inl (cA 0, n, .inl f))) (hk : k < n) (hn : n < 2 ^ 31) (hdg : decode cc pc = .ok (.iastore, 1))
    (kk : ∀ (H1 : Heap) (locs1 : List Loc), va_P G vwCl (ws.set q0 (a, .inl (cA 0, n, .inl (upd f k x)))) H1 → va_D A (ws.set q0 (a, .inl (cA 0, n, .inl (upd f k x)))) → va_S A s.heap H1 locs1 → W p l e R s m args below meth c H1 locs1 cells slots Q (F0 m (pc + 1) ls rest)) : W p l e R s m args below meth c H locs cells slots Q (F0 m pc ls (.int x :: .int (nI k) :: .ref a :: rest)) := by
  refine va_iast hexec hb hK hP hD hS q0 0 ha rfl (vp_in_nI hk hn) hdg (fun H1 locs1 h1 h2 h3 => ?_)
  rw [nI_clamp (by omega)] at h1 h2; exact kk H1 locs1 h1 h2 h3
theorem dc_last (hexec : p.tables.exec = Jvm.exec) (hb : c.code = cc) (hK : va_K G vwCl (dc_TY cA) s) (hP : va_P G vwCl ws H) (hD : va_D A ws) (hS : va_S A s.heap H locs) (q0 : Nat) {n k : Nat} {x : Int64} {f : Nat → Int64} (ha : ws[q0]? = some (a, .inl (cA 1, n, .inr (.inl f)))) (hk : k < n) (hn : n < 2 ^ 31) (hdg : decode cc pc = .ok (.lastore, 1))
    (kk : ∀ (H1 : Heap) (locs1 : List Loc), va_P G vwCl (ws.set q0 (a, .inl (cA 1, n, .inr (.inl (vp_updL f k x))))) H1 → va_D A (ws.set q0 (a, .inl (cA 1, n, .inr (.inl (vp_updL f k x))))) → va_S A s.heap H1 locs1 → W p l e R s m args below meth c H1 locs1 cells slots Q (F0 m (pc + 1) ls rest)) : W p l e R s m args below meth c H locs cells slots Q (F0 m pc ls (.long x :: .int (nI k) :: .ref a :: rest)) := by
  refine va_last hexec hb hK hP hD hS q0 1 ha rfl (vp_in_nI hk hn) hdg (fun H1 locs1 h1 h2 h3 => ?_)
  rw [nI_clamp (by omega)] at h1 h2; exact kk H1 locs1 h1 h2 h3
theorem dc_ti (hexec : p.tables.exec = Jvm.exec) (hb : c.code = cc) {t N k : Nat} {f : Nat → Int32} (hT : va_T .int t N (fun j => .int (f j)) A s s.heap) (hS : va_S A s.heap H locs) (hk : k < N) (hn : N < 2 ^ 31) (hdg : decode cc pc = .ok (.iaload, 1))
    (kk : W p l e R s m args below meth c H locs cells slots Q (F0 m (pc + 1) ls (.int (f k) :: rest))) : W p l e R s m args below meth c H locs cells slots Q (F0 m pc ls (.int (nI k) :: .ref t :: rest)) :=
  va_ti hexec hb hT hS (vp_in_nI hk hn) (by rw [nI_clamp (by omega)]) hdg kk
theorem dc_astq (hexec : p.tables.exec = Jvm.exec) (hb : c.code = cc) (hK : va_K G vwCl (dc_TY cA) s) (hP : va_P G vwCl ws H) (hD : va_D A ws) (hS : va_S A s.heap H locs) (q0 qk : Nat) {n k v : Nat} {vs : List Value} {f : Nat → Option Nat} (ha : ws[q0]? = some (a, .inl (cA 2, n, .inr (.inr (.inr (.inr f)))))) (hv : ws[qk]? = some (v, .inr (dc_row, vs))) (hk : k < n) (hn : n < 2 ^ 31) (hdg : decode cc pc = .ok (.aastore, 1))
    (kk : ∀ (H1 : Heap) (locs1 : List Loc), va_P G vwCl (ws.set q0 (a, .inl (cA 2, n, .inr (.inr (.inr (.inr (va_up f k (some v)))))))) H1 → va_D A (ws.set q0 (a, .inl (cA 2, n, .inr (.inr (.inr (.inr (va_up f k (some v)))))))) → va_S A s.heap H1 locs1 → W p l e R s m args below meth c H1 locs1 cells slots Q (F0 m (pc + 1) ls rest)) : W p l e R s m args below meth c H locs cells slots Q (F0 m pc ls (.ref v :: .int (nI k) :: .ref a :: rest)) := by
  refine va_astq hexec hb hK hP hD hS q0 2 qk dc_row ha (r := dc_rowC) rfl hv rfl (vp_in_nI hk hn) hdg (fun H1 locs1 h1 h2 h3 => ?_)
  rw [nI_clamp (by omega)] at h1 h2; exact kk H1 locs1 h1 h2 h3
end DCW
