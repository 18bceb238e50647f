set_option maxHeartbeats 4000000 in
set_option maxRecDepth 100000 in
theorem cc_size (l : Launch) (G : va_G) (cA : Nat → ClassId) (w : Nat → Int64) (n : Nat) (cap : Nat) (h0 : Nat) (q : Nat)  : Met l dn_y_Row_size (.code dn_y_Row_size dn_c_Row_size 1 (some .int) :: dc_W) ({ frames := 0, cells := 0, slots := 0, locals := 0 }) (dc_pR G cA [(h0, .inr (5, [.ref q, .int (nI n)])), (q, .inl (cA 1, cap, .inr (.inl w)))] [.ref h0]) (vp_Si (fun r => r = nI n)) 0 0 (fun _ => False) := by
  refine Met.ofW (cc := dn_c_Row_size) (maxL := 1) (ret := (some .int)) (by decide) rfl ?_
  intro p9 en9 s m args9 below9 meth9 cd9 s9 B hml hv
  obtain ⟨rfl, hP, hK0⟩ := hv
  have hx := B.exec
  have hb := B.bytes
  have hr := B.returns
  have hts : ∀ w ∈ dc_W, w.before _ s = true := fun w h => atoms_spec (ws := (.code dn_y_Row_size dn_c_Row_size 1 (some .int) :: dc_W)) B.pre w (List.mem_cons_of_mem _ h)
  have hK := hK0.1
  have hN := hK0.2
  have hown : s.vm.findClass dn_R_Row = some m.cls := findClass_of_methodNamed B.named
  have hlocks := B.notSynchronized
  have hl := lv_entry ([.ref h0]) (n := 1) (Nat.le_of_ble_eq_true rfl)
  rw [lg_entry_eq]
  generalize (lg_sl ([.ref h0]) ++ List.replicate (1 - (lg_sl ([.ref h0])).length) Slot.unset).toArray = ls at hl ⊢
  have hl : lv_has ls 1 [(0, .ref h0)] := hl
  refine lv_aload_n hx hb dn_d_Row_size_0 rfl (lv_at hl 0 rfl) ?_
  refine va_get (D := G) (ci := 5) (v := .int (nI n)) (C := dn_R_Row) (T := dn_T_Row) (N := 2) hx hb hts (dn_u_Row) hown hK hP 0 rfl rfl 1 (by decide) (hts _ dn_w_36) (fun _ h9 => h9) rfl dn_d_Row_size_1 ?_
  exact W.iret (v := (nI n)) hx hb hr (fun t ht hW => ⟨_, rfl, (rfl), ht⟩) (fun q h => by cases h) dn_d_Row_size_4

set_option maxHeartbeats 4000000 in
set_option maxRecDepth 100000 in
theorem cc_isFull (l : Launch) (G : va_G) (cA : Nat → ClassId) (w : Nat → Int64) (n : Nat) (cap : Nat) (h0 : Nat) (q : Nat) (hn : n ≤ cap) (hc : cap < 2147483648) : Met l dn_y_Row_isFull (.code dn_y_Row_isFull dn_c_Row_isFull 1 (some .boolean) :: dc_W) ({ frames := 0, cells := 0, slots := 0, locals := 0 }) (dc_pR G cA [(h0, .inr (5, [.ref q, .int (nI n)])), (q, .inl (cA 1, cap, .inr (.inl w)))] [.ref h0]) (vp_Si (fun r => r = dc_bI (decide (cap ≤ n)))) 0 0 (fun _ => False) := by
  refine Met.ofW (cc := dn_c_Row_isFull) (maxL := 1) (ret := (some .boolean)) (by decide) rfl ?_
  intro p9 en9 s m args9 below9 meth9 cd9 s9 B hml hv
  obtain ⟨rfl, hP, hK0⟩ := hv
  have hx := B.exec
  have hb := B.bytes
  have hr := B.returns
  have hts : ∀ w ∈ dc_W, w.before _ s = true := fun w h => atoms_spec (ws := (.code dn_y_Row_isFull dn_c_Row_isFull 1 (some .boolean) :: dc_W)) B.pre w (List.mem_cons_of_mem _ h)
  have hK := hK0.1
  have hN := hK0.2
  have hown : s.vm.findClass dn_R_Row = some m.cls := findClass_of_methodNamed B.named
  have hlocks := B.notSynchronized
  have hl := lv_entry ([.ref h0]) (n := 1) (Nat.le_of_ble_eq_true rfl)
  rw [lg_entry_eq]
  generalize (lg_sl ([.ref h0]) ++ List.replicate (1 - (lg_sl ([.ref h0])).length) Slot.unset).toArray = ls at hl ⊢
  have hl : lv_has ls 1 [(0, .ref h0)] := hl
  refine lv_aload_n hx hb dn_d_Row_isFull_0 rfl (lv_at hl 0 rfl) ?_
  refine va_get (D := G) (ci := 5) (v := .int (nI n)) (C := dn_R_Row) (T := dn_T_Row) (N := 2) hx hb hts (dn_u_Row) hown hK hP 0 rfl rfl 1 (by decide) (hts _ dn_w_36) (fun _ h9 => h9) rfl dn_d_Row_isFull_1 ?_
  refine lv_aload_n hx hb dn_d_Row_isFull_4 rfl (lv_at hl 0 rfl) ?_
  refine va_get (D := G) (ci := 5) (v := .ref q) (C := dn_R_Row) (T := dn_T_Row) (N := 2) hx hb hts (dn_u_Row) hown hK hP 0 rfl rfl 0 (by decide) (hts _ dn_w_35) (fun _ h9 => h9) rfl dn_d_Row_isFull_5 ?_
  refine va_alen (v := nI cap) hx hb hK hP 1 1 rfl rfl rfl dn_d_Row_isFull_8 ?_
  refine lv_icmp_lt (tgt := 16) hx hb dn_d_Row_isFull_9 (by decide) (fun h9 => ?_) (fun h9 => ?_)
  · -- 9: n < cap
    have h9 : n < cap := (nI_ltI (a := n) (b := cap) (by omega) (by omega)).1 h9
    refine lv_iconst (v := 0) hx hb dn_d_Row_isFull_16 (by decide) ?_
    exact W.zret (ty := .boolean) (v := 0) hx hb hr (rfl) (fun t ht hW => ⟨_, rfl, (by first | rfl | (simp [dc_bI]; omega)), ht⟩) (fun q h => by cases h) dn_d_Row_isFull_17
  · -- 9: ¬ n < cap
    have h9 : ¬ n < cap := fun z => h9 ((nI_ltI (a := n) (b := cap) (by omega) (by omega)).2 z)
    refine lv_iconst (v := 1) hx hb dn_d_Row_isFull_12 (by decide) ?_
    refine lv_goto (tgt := 17) hx hb dn_d_Row_isFull_13 (by decide) ?_
    exact W.zret (ty := .boolean) (v := 1) hx hb hr (rfl) (fun t ht hW => ⟨_, rfl, (by first | rfl | (simp [dc_bI]; omega)), ht⟩) (fun q h => by cases h) dn_d_Row_isFull_17

set_option maxHeartbeats 4000000 in
set_option maxRecDepth 100000 in
theorem cc_has (l : Launch) (G : va_G) (cA : Nat → ClassId) (w : Nat → Int64) (n : Nat) (cap : Nat) (h0 : Nat) (q : Nat) (i : Int32) (hn : n ≤ cap) (hc : cap < 2147483648) : Met l dn_y_Row_has (.code dn_y_Row_has dn_c_Row_has 2 (some .boolean) :: dc_W) ({ frames := 0, cells := 0, slots := 0, locals := 0 }) (dc_pR G cA [(h0, .inr (5, [.ref q, .int (nI n)])), (q, .inl (cA 1, cap, .inr (.inl w)))] [.ref h0, .int i]) (vp_Si (fun r => r = dc_bI (dc_has n i))) 0 0 (fun _ => False) := by
  refine Met.ofW (cc := dn_c_Row_has) (maxL := 2) (ret := (some .boolean)) (by decide) rfl ?_
  intro p9 en9 s m args9 below9 meth9 cd9 s9 B hml hv
  obtain ⟨rfl, hP, hK0⟩ := hv
  have hx := B.exec
  have hb := B.bytes
  have hr := B.returns
  have hts : ∀ w ∈ dc_W, w.before _ s = true := fun w h => atoms_spec (ws := (.code dn_y_Row_has dn_c_Row_has 2 (some .boolean) :: dc_W)) B.pre w (List.mem_cons_of_mem _ h)
  have hK := hK0.1
  have hN := hK0.2
  have hown : s.vm.findClass dn_R_Row = some m.cls := findClass_of_methodNamed B.named
  have hlocks := B.notSynchronized
  have hl := lv_entry ([.ref h0, .int i]) (n := 2) (Nat.le_of_ble_eq_true rfl)
  rw [lg_entry_eq]
  generalize (lg_sl ([.ref h0, .int i]) ++ List.replicate (2 - (lg_sl ([.ref h0, .int i])).length) Slot.unset).toArray = ls at hl ⊢
  have hl : lv_has ls 2 [(0, .ref h0), (1, .int i)] := hl
  refine lv_iload_n hx hb dn_d_Row_has_0 rfl (lv_at hl 1 rfl) ?_
  refine lv_if_lt (tgt := 16) hx hb dn_d_Row_has_1 (by decide) (fun h1 => ?_) (fun h1 => ?_)
  · -- 1: i < 0
    refine lv_iconst (v := 0) hx hb dn_d_Row_has_16 (by decide) ?_
    exact W.zret (ty := .boolean) (v := 0) hx hb hr (rfl) (fun t ht hW => ⟨_, rfl, (by rw [dc_has0 h1]; rfl), ht⟩) (fun q h => by cases h) dn_d_Row_has_17
  · -- 1: ¬ i < 0
    refine lv_iload_n hx hb dn_d_Row_has_4 rfl (lv_at hl 1 rfl) ?_
    refine lv_aload_n hx hb dn_d_Row_has_5 rfl (lv_at hl 0 rfl) ?_
    refine va_get (D := G) (ci := 5) (v := .int (nI n)) (C := dn_R_Row) (T := dn_T_Row) (N := 2) hx hb hts (dn_u_Row) hown hK hP 0 rfl rfl 1 (by decide) (hts _ dn_w_36) (fun _ h9 => h9) rfl dn_d_Row_has_6 ?_
    refine lv_icmp_ge (tgt := 16) hx hb dn_d_Row_has_9 (by decide) (fun h9 => ?_) (fun h9 => ?_)
    · -- 9: (nI n) ≤ i
      refine lv_iconst (v := 0) hx hb dn_d_Row_has_16 (by decide) ?_
      exact W.zret (ty := .boolean) (v := 0) hx hb hr (rfl) (fun t ht hW => ⟨_, rfl, (by rw [dc_has1 (by omega) h9]; rfl), ht⟩) (fun q h => by cases h) dn_d_Row_has_17
    · -- 9: ¬ (nI n) ≤ i
      refine lv_iconst (v := 1) hx hb dn_d_Row_has_12 (by decide) ?_
      refine lv_goto (tgt := 17) hx hb dn_d_Row_has_13 (by decide) ?_
      exact W.zret (ty := .boolean) (v := 1) hx hb hr (rfl) (fun t ht hW => ⟨_, rfl, (by rw [dc_has2 (by omega) h1 h9]; rfl), ht⟩) (fun q h => by cases h) dn_d_Row_has_17

set_option maxHeartbeats 4000000 in
set_option maxRecDepth 100000 in
theorem cc_get (l : Launch) (G : va_G) (cA : Nat → ClassId) (w : Nat → Int64) (n : Nat) (cap : Nat) (h0 : Nat) (q : Nat) (i : Int32) (hn : n ≤ cap) (hc : cap < 2147483648) : Met l dn_y_Row_get (.code dn_y_Row_get dn_c_Row_get 2 (some .long) :: dc_W) ({ frames := 1, cells := 0, slots := 0, locals := 21 }) (dc_pR G cA [(h0, .inr (5, [.ref q, .int (nI n)])), (q, .inl (cA 1, cap, .inr (.inl w)))] [.ref h0, .int i]) (vp_Sl (fun r => r = dc_get w n i)) 0 0 (fun _ => False) := by
  refine Met.ofW (cc := dn_c_Row_get) (maxL := 2) (ret := (some .long)) (by decide) rfl ?_
  intro p9 en9 s m args9 below9 meth9 cd9 s9 B hml hv
  obtain ⟨rfl, hP, hK0⟩ := hv
  have hx := B.exec
  have hb := B.bytes
  have hr := B.returns
  have hts : ∀ w ∈ dc_W, w.before _ s = true := fun w h => atoms_spec (ws := (.code dn_y_Row_get dn_c_Row_get 2 (some .long) :: dc_W)) B.pre w (List.mem_cons_of_mem _ h)
  have hK := hK0.1
  have hN := hK0.2
  have hown : s.vm.findClass dn_R_Row = some m.cls := findClass_of_methodNamed B.named
  have hlocks := B.notSynchronized
  have hl := lv_entry ([.ref h0, .int i]) (n := 2) (Nat.le_of_ble_eq_true rfl)
  rw [lg_entry_eq]
  generalize (lg_sl ([.ref h0, .int i]) ++ List.replicate (2 - (lg_sl ([.ref h0, .int i])).length) Slot.unset).toArray = ls at hl ⊢
  have hl : lv_has ls 2 [(0, .ref h0), (1, .int i)] := hl
  refine lv_aload_n hx hb dn_d_Row_get_0 rfl (lv_at hl 0 rfl) ?_
  refine lv_iload_n hx hb dn_d_Row_get_1 rfl (lv_at hl 1 rfl) ?_
  refine vp_callSi (va_Run.run (va_runV (b := h0) (As := [.int i]) (rest := []) ⟨hx, hb, hml, hown, hts⟩ (cc_has l G cA w n cap h0 q i (by first | assumption | omega) (by first | assumption | omega)) ⟨(callB_of 1 hts (dc_good dn_w_342) rfl rfl rfl (hts _ dn_w_2) (hts _ dn_w_339) (by decide +kernel) ⟨Nat.le_of_ble_eq_true rfl, Nat.le_of_ble_eq_true rfl⟩), (hts _ dn_w_340), (hts _ dn_w_341)⟩ (dc_preVR (hP.sub [0, 1] rfl) hK0 (q0 := 0) rfl rfl) rfl rfl hl.1 rfl (lv_room (Nat.le_of_ble_eq_true rfl)) dn_d_Row_get_2 ⟨Nat.le_of_ble_eq_true rfl, Nat.le_of_ble_eq_true rfl⟩)) (fun r9 hr9 => ?_)
  subst hr9
  refine lv_if_eq (tgt := 17) hx hb dn_d_Row_get_5 (by decide) (fun h5 => ?_) (fun h5 => ?_)
  · -- 5: (dc_has n i) = false
    have h5 : (dc_has n i) = false := dc_bI0.1 h5
    refine lv_lconst (v := 0) hx hb dn_d_Row_get_17 (by decide) ?_
    exact W.lret (v := 0) hx hb hr (fun t ht hW => ⟨_, rfl, (dc_getF h5), ht⟩) (fun q h => by cases h) dn_d_Row_get_18
  · -- 5: (dc_has n i) = true
    have h5 : (dc_has n i) = true := dc_bI1.1 h5
    obtain ⟨j, hj, rfl⟩ := dc_hasE (by omega) h5
    have hl : lv_has ls 2 [(0, .ref h0), (1, .int (nI j))] := hl
    refine lv_aload_n hx hb dn_d_Row_get_8 rfl (lv_at hl 0 rfl) ?_
    refine va_get (D := G) (ci := 5) (v := .ref q) (C := dn_R_Row) (T := dn_T_Row) (N := 2) hx hb hts (dn_u_Row) hown hK hP 0 rfl rfl 0 (by decide) (hts _ dn_w_35) (fun _ h9 => h9) rfl dn_d_Row_get_9 ?_
    refine lv_iload_n hx hb dn_d_Row_get_12 rfl (lv_at hl 1 rfl) ?_
    refine dc_lald (k := j) hx hb hK hP 1 rfl (by omega) (by omega) dn_d_Row_get_13 ?_
    refine lv_goto (tgt := 18) hx hb dn_d_Row_get_14 (by decide) ?_
    exact W.lret (v := (w j)) hx hb hr (fun t ht hW => ⟨_, rfl, ((dc_getN hj (by omega)).symm), ht⟩) (fun q h => by cases h) dn_d_Row_get_18

set_option maxHeartbeats 4000000 in
set_option maxRecDepth 100000 in
theorem cc_last (l : Launch) (G : va_G) (cA : Nat → ClassId) (w : Nat → Int64) (n : Nat) (cap : Nat) (h0 : Nat) (q : Nat) (hn : n ≤ cap) (hc : cap < 2147483648) : Met l dn_y_Row_last (.code dn_y_Row_last dn_c_Row_last 1 (some .long) :: dc_W) ({ frames := 2, cells := 0, slots := 0, locals := 42 }) (dc_pR G cA [(h0, .inr (5, [.ref q, .int (nI n)])), (q, .inl (cA 1, cap, .inr (.inl w)))] [.ref h0]) (vp_Sl (fun r => r = dc_get w n (nI n - 1))) 0 0 (fun _ => False) := by
  refine Met.ofW (cc := dn_c_Row_last) (maxL := 1) (ret := (some .long)) (by decide) rfl ?_
  intro p9 en9 s m args9 below9 meth9 cd9 s9 B hml hv
  obtain ⟨rfl, hP, hK0⟩ := hv
  have hx := B.exec
  have hb := B.bytes
  have hr := B.returns
  have hts : ∀ w ∈ dc_W, w.before _ s = true := fun w h => atoms_spec (ws := (.code dn_y_Row_last dn_c_Row_last 1 (some .long) :: dc_W)) B.pre w (List.mem_cons_of_mem _ h)
  have hK := hK0.1
  have hN := hK0.2
  have hown : s.vm.findClass dn_R_Row = some m.cls := findClass_of_methodNamed B.named
  have hlocks := B.notSynchronized
  have hl := lv_entry ([.ref h0]) (n := 1) (Nat.le_of_ble_eq_true rfl)
  rw [lg_entry_eq]
  generalize (lg_sl ([.ref h0]) ++ List.replicate (1 - (lg_sl ([.ref h0])).length) Slot.unset).toArray = ls at hl ⊢
  have hl : lv_has ls 1 [(0, .ref h0)] := hl
  refine lv_aload_n hx hb dn_d_Row_last_0 rfl (lv_at hl 0 rfl) ?_
  refine lv_aload_n hx hb dn_d_Row_last_1 rfl (lv_at hl 0 rfl) ?_
  refine va_get (D := G) (ci := 5) (v := .int (nI n)) (C := dn_R_Row) (T := dn_T_Row) (N := 2) hx hb hts (dn_u_Row) hown hK hP 0 rfl rfl 1 (by decide) (hts _ dn_w_36) (fun _ h9 => h9) rfl dn_d_Row_last_2 ?_
  refine lv_iconst (v := 1) hx hb dn_d_Row_last_5 (by decide) ?_
  refine lv_isub hx hb dn_d_Row_last_6 ?_
  refine vp_callSl (va_Run.run (va_runV (b := h0) (As := [.int ((nI n) - (1 : Int32))]) (rest := []) ⟨hx, hb, hml, hown, hts⟩ (cc_get l G cA w n cap h0 q ((nI n) - (1 : Int32)) (by first | assumption | omega) (by first | assumption | omega)) ⟨(callB_of 1 hts (dc_good dn_w_338) rfl rfl rfl (hts _ dn_w_2) (hts _ dn_w_788) (by decide +kernel) ⟨Nat.le_of_ble_eq_true rfl, Nat.le_of_ble_eq_true rfl⟩), (hts _ dn_w_336), (hts _ dn_w_337)⟩ (dc_preVR (hP.sub [0, 1] rfl) hK0 (q0 := 0) rfl rfl) rfl rfl hl.1 rfl (lv_room (Nat.le_of_ble_eq_true rfl)) dn_d_Row_last_7 ⟨Nat.le_of_ble_eq_true rfl, Nat.le_of_ble_eq_true rfl⟩)) (fun r9 hr9 => ?_)
  subst hr9
  exact W.lret (v := (dc_get w n ((nI n) - (1 : Int32)))) hx hb hr (fun t ht hW => ⟨_, rfl, (rfl), ht⟩) (fun q h => by cases h) dn_d_Row_last_10

set_option maxHeartbeats 4000000 in
set_option maxRecDepth 100000 in
theorem cc_clear (l : Launch) (G : va_G) (cA : Nat → ClassId) (w : Nat → Int64) (n : Nat) (cap : Nat) (h0 : Nat) (q : Nat)  (sz : Nat) : Met l dn_y_Row_clear (.code dn_y_Row_clear dn_c_Row_clear 1 none :: dc_W) ({ frames := 0, cells := 0, slots := 0, locals := 0 }) (dc_pW G cA [(h0, .inr (5, [.ref q, .int (nI n)])), (q, .inl (cA 1, cap, .inr (.inl w)))] sz [.ref h0]) (dc_qv G (fun (_ : Unit) => True) (fun (_ : Unit) => [(h0, .inr (5, [.ref q, .int (nI 0)])), (q, .inl (cA 1, cap, .inr (.inl w)))]) sz [(h0, .inr (5, [.ref q, .int (nI n)])), (q, .inl (cA 1, cap, .inr (.inl w)))]) 0 0 (va_A [(h0, .inr (5, [.ref q, .int (nI n)])), (q, .inl (cA 1, cap, .inr (.inl w)))] sz) := by
  refine Met.ofW (cc := dn_c_Row_clear) (maxL := 1) (ret := none) (by decide) rfl ?_
  intro p9 en9 s m args9 below9 meth9 cd9 s9 B hml hv
  obtain ⟨rfl, hsz, hP, hK0, hD0⟩ := hv
  have hx := B.exec
  have hb := B.bytes
  have hr := B.returns
  have hts : ∀ w ∈ dc_W, w.before _ s = true := fun w h => atoms_spec (ws := (.code dn_y_Row_clear dn_c_Row_clear 1 none :: dc_W)) B.pre w (List.mem_cons_of_mem _ h)
  have hK := hK0.1
  have hN := hK0.2
  have hown : s.vm.findClass dn_R_Row = some m.cls := findClass_of_methodNamed B.named
  have hlocks := B.notSynchronized
  subst hsz
  have hD := hD0.self (sz := s.heap.size)
  unfold dc_qv
  generalize hAe : va_A [(h0, .inr (5, [.ref q, .int (nI n)])), (q, .inl (cA 1, cap, .inr (.inl w)))] s.heap.size = A at hD ⊢
  have hA : ∀ q : Nat, s.heap.size ≤ q → A q := fun q h => by rw [← hAe]; exact Or.inr h
  have hS : va_S A s.heap s.heap [] := va_S.rf
  have hl := lv_entry ([.ref h0]) (n := 1) (Nat.le_of_ble_eq_true rfl)
  rw [lg_entry_eq]
  generalize (lg_sl ([.ref h0]) ++ List.replicate (1 - (lg_sl ([.ref h0])).length) Slot.unset).toArray = ls at hl ⊢
  have hl : lv_has ls 1 [(0, .ref h0)] := hl
  refine lv_aload_n hx hb dn_d_Row_clear_0 rfl (lv_at hl 0 rfl) ?_
  refine lv_iconst (v := 0) hx hb dn_d_Row_clear_1 (by decide) ?_
  refine va_put (D := G) (ci := 5) (v := .int 0) (ty := (.int)) (C := dn_R_Row) (T := dn_T_Row) (N := 2) hx hb hts (dn_u_Row) dn_t_Row dn_o_Row dn_n_Row hown hK hP hD hS 0 rfl rfl 1 (by decide) (hts _ dn_w_36) (fun _ h9 => h9) rfl (by decide +kernel) rfl rfl (Nat.le_of_ble_eq_true rfl) dn_d_Row_clear_2 (fun H locs hP hD hS => ?_)
  have hP : va_P G vwCl [(h0, .inr (5, [.ref q, .int 0])), (q, .inl (cA 1, cap, .inr (.inl w)))] H := hP
  have hD : va_D A [(h0, .inr (5, [.ref q, .int 0])), (q, .inl (cA 1, cap, .inr (.inl w)))] := hD
  have hP9 := hP.sub (ws' := [(h0, .inr (5, [.ref q, .int 0])), (q, .inl (cA 1, cap, .inr (.inl w)))]) [0, 1] rfl
  have hD9 := hD.sub (ws' := [(h0, .inr (5, [.ref q, .int 0])), (q, .inl (cA 1, cap, .inr (.inl w)))]) [0, 1] (by decide) rfl
  have hE9 : ([(h0, .inr (5, [.ref q, .int 0])), (q, .inl (cA 1, cap, .inr (.inl w)))] : va_W) = [(h0, .inr (5, [.ref q, .int (nI 0)])), (q, .inl (cA 1, cap, .inr (.inl w)))] := rfl
  rw [hE9] at hP9 hD9
  exact W.vret hx hb hr (fun t ht hW => ⟨⟨(), rfl, (trivial), by rw [ht]; exact hP9, hD9⟩, hS.F ht⟩) hS.2.2 dn_d_Row_clear_5

set_option maxHeartbeats 4000000 in
set_option maxRecDepth 100000 in
theorem cc_add (l : Launch) (G : va_G) (cA : Nat → ClassId) (w : Nat → Int64) (n : Nat) (cap : Nat) (h0 : Nat) (q : Nat) (x : Int64) (hn : n < cap) (hc : cap < 2147483648) (sz : Nat) : Met l dn_y_Row_add (.code dn_y_Row_add dn_c_Row_add 3 none :: dc_W) ({ frames := 1, cells := 0, slots := 0, locals := 20 }) (dc_pW G cA [(h0, .inr (5, [.ref q, .int (nI n)])), (q, .inl (cA 1, cap, .inr (.inl w)))] sz [.ref h0, .long x]) (dc_qv G (fun (_ : Unit) => True) (fun (_ : Unit) => [(h0, .inr (5, [.ref q, .int (nI (n + 1))])), (q, .inl (cA 1, cap, .inr (.inl (vp_updL w n x))))]) sz [(h0, .inr (5, [.ref q, .int (nI n)])), (q, .inl (cA 1, cap, .inr (.inl w)))]) 0 0 (va_A [(h0, .inr (5, [.ref q, .int (nI n)])), (q, .inl (cA 1, cap, .inr (.inl w)))] sz) := by
  refine Met.ofW (cc := dn_c_Row_add) (maxL := 3) (ret := none) (by decide) rfl ?_
  intro p9 en9 s m args9 below9 meth9 cd9 s9 B hml hv
  obtain ⟨rfl, hsz, hP, hK0, hD0⟩ := hv
  have hx := B.exec
  have hb := B.bytes
  have hr := B.returns
  have hts : ∀ w ∈ dc_W, w.before _ s = true := fun w h => atoms_spec (ws := (.code dn_y_Row_add dn_c_Row_add 3 none :: dc_W)) B.pre w (List.mem_cons_of_mem _ h)
  have hK := hK0.1
  have hN := hK0.2
  have hown : s.vm.findClass dn_R_Row = some m.cls := findClass_of_methodNamed B.named
  have hlocks := B.notSynchronized
  subst hsz
  have hD := hD0.self (sz := s.heap.size)
  unfold dc_qv
  generalize hAe : va_A [(h0, .inr (5, [.ref q, .int (nI n)])), (q, .inl (cA 1, cap, .inr (.inl w)))] s.heap.size = A at hD ⊢
  have hA : ∀ q : Nat, s.heap.size ≤ q → A q := fun q h => by rw [← hAe]; exact Or.inr h
  have hS : va_S A s.heap s.heap [] := va_S.rf
  have hl := lv_entry ([.ref h0, .long x]) (n := 3) (Nat.le_of_ble_eq_true rfl)
  rw [lg_entry_eq]
  generalize (lg_sl ([.ref h0, .long x]) ++ List.replicate (3 - (lg_sl ([.ref h0, .long x])).length) Slot.unset).toArray = ls at hl ⊢
  have hl : lv_has ls 3 [(0, .ref h0), (1, .long x)] := hl
  refine lv_aload_n hx hb dn_d_Row_add_0 rfl (lv_at hl 0 rfl) ?_
  refine vp_callSi (va_Run.run (va_runV (b := h0) (As := []) (rest := []) ⟨hx, hb, hml, hown, hts⟩ (cc_isFull l G cA w n cap h0 q (by first | assumption | omega) (by first | assumption | omega)) ⟨(callB_of 0 hts (dc_good dn_w_350) rfl rfl rfl (hts _ dn_w_2) (hts _ dn_w_347) (by decide +kernel) ⟨Nat.le_of_ble_eq_true rfl, Nat.le_of_ble_eq_true rfl⟩), (hts _ dn_w_348), (hts _ dn_w_349)⟩ (dc_preVR (hP.sub [0, 1] rfl) hK0 (q0 := 0) rfl rfl) rfl rfl hl.1 rfl (lv_room (Nat.le_of_ble_eq_true rfl)) dn_d_Row_add_1 ⟨Nat.le_of_ble_eq_true rfl, Nat.le_of_ble_eq_true rfl⟩)) (fun r9 hr9 => ?_)
  subst hr9
  refine lv_if_ne (tgt := 27) hx hb dn_d_Row_add_4 (by decide) (fun h4 => ?_) (fun h4 => ?_)
  · exact absurd (show (decide (cap ≤ n)) = true from dc_bI1.1 h4) (by simp; omega)
  · -- 4: (decide (cap ≤ n)) = false
    have h4 : (decide (cap ≤ n)) = false := dc_bI0.1 h4
    refine lv_aload_n hx hb dn_d_Row_add_7 rfl (lv_at hl 0 rfl) ?_
    refine va_get (D := G) (ci := 5) (v := .ref q) (C := dn_R_Row) (T := dn_T_Row) (N := 2) hx hb hts (dn_u_Row) hown hK hP 0 rfl rfl 0 (by decide) (hts _ dn_w_35) (fun _ h9 => h9) rfl dn_d_Row_add_8 ?_
    refine lv_aload_n hx hb dn_d_Row_add_11 rfl (lv_at hl 0 rfl) ?_
    refine va_get (D := G) (ci := 5) (v := .int (nI n)) (C := dn_R_Row) (T := dn_T_Row) (N := 2) hx hb hts (dn_u_Row) hown hK hP 0 rfl rfl 1 (by decide) (hts _ dn_w_36) (fun _ h9 => h9) rfl dn_d_Row_add_12 ?_
    refine lv_lload_n hx hb dn_d_Row_add_15 rfl (lv_at hl 1 rfl) ?_
    refine dc_last (k := n) hx hb hK hP hD hS 1 rfl (by omega) (by omega) dn_d_Row_add_16 (fun H locs hP hD hS => ?_)
    have hP : va_P G vwCl [(h0, .inr (5, [.ref q, .int (nI n)])), (q, .inl (cA 1, cap, .inr (.inl (vp_updL w n x))))] H := hP
    have hD : va_D A [(h0, .inr (5, [.ref q, .int (nI n)])), (q, .inl (cA 1, cap, .inr (.inl (vp_updL w n x))))] := hD
    refine lv_aload_n hx hb dn_d_Row_add_17 rfl (lv_at hl 0 rfl) ?_
    refine lv_dup hx hb dn_d_Row_add_18 rfl ?_
    refine va_get (D := G) (ci := 5) (v := .int (nI n)) (C := dn_R_Row) (T := dn_T_Row) (N := 2) hx hb hts (dn_u_Row) hown hK hP 0 rfl rfl 1 (by decide) (hts _ dn_w_36) (fun _ h9 => h9) rfl dn_d_Row_add_19 ?_
    refine lv_iconst (v := 1) hx hb dn_d_Row_add_22 (by decide) ?_
    refine lv_iadd hx hb dn_d_Row_add_23 ?_
    rw [show (nI n) + (1 : Int32) = nI (n + 1) from nI_add n 1]
    refine va_put (D := G) (ci := 5) (v := .int (nI (n + 1))) (ty := (.int)) (C := dn_R_Row) (T := dn_T_Row) (N := 2) hx hb hts (dn_u_Row) dn_t_Row dn_o_Row dn_n_Row hown hK hP hD hS 0 rfl rfl 1 (by decide) (hts _ dn_w_36) (fun _ h9 => h9) rfl (by decide +kernel) rfl rfl (Nat.le_of_ble_eq_true rfl) dn_d_Row_add_24 (fun H locs hP hD hS => ?_)
    have hP : va_P G vwCl [(h0, .inr (5, [.ref q, .int (nI (n + 1))])), (q, .inl (cA 1, cap, .inr (.inl (vp_updL w n x))))] H := hP
    have hD : va_D A [(h0, .inr (5, [.ref q, .int (nI (n + 1))])), (q, .inl (cA 1, cap, .inr (.inl (vp_updL w n x))))] := hD
    have hP9 := hP.sub (ws' := [(h0, .inr (5, [.ref q, .int (nI (n + 1))])), (q, .inl (cA 1, cap, .inr (.inl (vp_updL w n x))))]) [0, 1] rfl
    have hD9 := hD.sub (ws' := [(h0, .inr (5, [.ref q, .int (nI (n + 1))])), (q, .inl (cA 1, cap, .inr (.inl (vp_updL w n x))))]) [0, 1] (by decide) rfl
    exact W.vret hx hb hr (fun t ht hW => ⟨⟨(), rfl, (trivial), by rw [ht]; exact hP9, hD9⟩, hS.F ht⟩) hS.2.2 dn_d_Row_add_27

set_option maxHeartbeats 4000000 in
set_option maxRecDepth 100000 in
theorem cc_put (l : Launch) (G : va_G) (cA : Nat → ClassId) (w : Nat → Int64) (n : Nat) (cap : Nat) (h0 : Nat) (q : Nat) (i : Int32) (x : Int64) (hn : n ≤ cap) (hc : cap < 2147483648) (sz : Nat) : Met l dn_y_Row_put (.code dn_y_Row_put dn_c_Row_put 4 none :: dc_W) ({ frames := 1, cells := 0, slots := 0, locals := 21 }) (dc_pW G cA [(h0, .inr (5, [.ref q, .int (nI n)])), (q, .inl (cA 1, cap, .inr (.inl w)))] sz [.ref h0, .int i, .long x]) (dc_qv G (fun (_ : Unit) => True) (fun (_ : Unit) => [(h0, .inr (5, [.ref q, .int (nI n)])), (q, .inl (cA 1, cap, .inr (.inl (dc_put w n i x))))]) sz [(h0, .inr (5, [.ref q, .int (nI n)])), (q, .inl (cA 1, cap, .inr (.inl w)))]) 0 0 (va_A [(h0, .inr (5, [.ref q, .int (nI n)])), (q, .inl (cA 1, cap, .inr (.inl w)))] sz) := by
  refine Met.ofW (cc := dn_c_Row_put) (maxL := 4) (ret := none) (by decide) rfl ?_
  intro p9 en9 s m args9 below9 meth9 cd9 s9 B hml hv
  obtain ⟨rfl, hsz, hP, hK0, hD0⟩ := hv
  have hx := B.exec
  have hb := B.bytes
  have hr := B.returns
  have hts : ∀ w ∈ dc_W, w.before _ s = true := fun w h => atoms_spec (ws := (.code dn_y_Row_put dn_c_Row_put 4 none :: dc_W)) B.pre w (List.mem_cons_of_mem _ h)
  have hK := hK0.1
  have hN := hK0.2
  have hown : s.vm.findClass dn_R_Row = some m.cls := findClass_of_methodNamed B.named
  have hlocks := B.notSynchronized
  subst hsz
  have hD := hD0.self (sz := s.heap.size)
  unfold dc_qv
  generalize hAe : va_A [(h0, .inr (5, [.ref q, .int (nI n)])), (q, .inl (cA 1, cap, .inr (.inl w)))] s.heap.size = A at hD ⊢
  have hA : ∀ q : Nat, s.heap.size ≤ q → A q := fun q h => by rw [← hAe]; exact Or.inr h
  have hS : va_S A s.heap s.heap [] := va_S.rf
  have hl := lv_entry ([.ref h0, .int i, .long x]) (n := 4) (Nat.le_of_ble_eq_true rfl)
  rw [lg_entry_eq]
  generalize (lg_sl ([.ref h0, .int i, .long x]) ++ List.replicate (4 - (lg_sl ([.ref h0, .int i, .long x])).length) Slot.unset).toArray = ls at hl ⊢
  have hl : lv_has ls 4 [(0, .ref h0), (1, .int i), (2, .long x)] := hl
  refine lv_aload_n hx hb dn_d_Row_put_0 rfl (lv_at hl 0 rfl) ?_
  refine lv_iload_n hx hb dn_d_Row_put_1 rfl (lv_at hl 1 rfl) ?_
  refine vp_callSi (va_Run.run (va_runV (b := h0) (As := [.int i]) (rest := []) ⟨hx, hb, hml, hown, hts⟩ (cc_has l G cA w n cap h0 q i (by first | assumption | omega) (by first | assumption | omega)) ⟨(callB_of 1 hts (dc_good dn_w_342) rfl rfl rfl (hts _ dn_w_2) (hts _ dn_w_339) (by decide +kernel) ⟨Nat.le_of_ble_eq_true rfl, Nat.le_of_ble_eq_true rfl⟩), (hts _ dn_w_340), (hts _ dn_w_341)⟩ (dc_preVR (hP.sub [0, 1] rfl) hK0 (q0 := 0) rfl rfl) rfl rfl hl.1 rfl (lv_room (Nat.le_of_ble_eq_true rfl)) dn_d_Row_put_2 ⟨Nat.le_of_ble_eq_true rfl, Nat.le_of_ble_eq_true rfl⟩)) (fun r9 hr9 => ?_)
  subst hr9
  refine lv_if_eq (tgt := 15) hx hb dn_d_Row_put_5 (by decide) (fun h5 => ?_) (fun h5 => ?_)
  · -- 5: (dc_has n i) = false
    have h5 : (dc_has n i) = false := dc_bI0.1 h5
    have hP9 := hP.sub (ws' := [(h0, .inr (5, [.ref q, .int (nI n)])), (q, .inl (cA 1, cap, .inr (.inl w)))]) [0, 1] rfl
    have hD9 := hD.sub (ws' := [(h0, .inr (5, [.ref q, .int (nI n)])), (q, .inl (cA 1, cap, .inr (.inl w)))]) [0, 1] (by decide) rfl
    have hE9 : ([(h0, .inr (5, [.ref q, .int (nI n)])), (q, .inl (cA 1, cap, .inr (.inl w)))] : va_W) = [(h0, .inr (5, [.ref q, .int (nI n)])), (q, .inl (cA 1, cap, .inr (.inl (dc_put w n i x))))] := by rw [dc_putF h5]
    rw [hE9] at hP9 hD9
    exact W.vret hx hb hr (fun t ht hW => ⟨⟨(), rfl, (trivial), by rw [ht]; exact hP9, hD9⟩, hS.F ht⟩) hS.2.2 dn_d_Row_put_15
  · -- 5: (dc_has n i) = true
    have h5 : (dc_has n i) = true := dc_bI1.1 h5
    obtain ⟨j, hj, rfl⟩ := dc_hasE (by omega) h5
    have hl : lv_has ls 4 [(0, .ref h0), (1, .int (nI j)), (2, .long x)] := hl
    refine lv_aload_n hx hb dn_d_Row_put_8 rfl (lv_at hl 0 rfl) ?_
    refine va_get (D := G) (ci := 5) (v := .ref q) (C := dn_R_Row) (T := dn_T_Row) (N := 2) hx hb hts (dn_u_Row) hown hK hP 0 rfl rfl 0 (by decide) (hts _ dn_w_35) (fun _ h9 => h9) rfl dn_d_Row_put_9 ?_
    refine lv_iload_n hx hb dn_d_Row_put_12 rfl (lv_at hl 1 rfl) ?_
    refine lv_lload_n hx hb dn_d_Row_put_13 rfl (lv_at hl 2 rfl) ?_
    refine dc_last (k := j) hx hb hK hP hD hS 1 rfl (by omega) (by omega) dn_d_Row_put_14 (fun H locs hP hD hS => ?_)
    have hP : va_P G vwCl [(h0, .inr (5, [.ref q, .int (nI n)])), (q, .inl (cA 1, cap, .inr (.inl (vp_updL w j x))))] H := hP
    have hD : va_D A [(h0, .inr (5, [.ref q, .int (nI n)])), (q, .inl (cA 1, cap, .inr (.inl (vp_updL w j x))))] := hD
    have hP9 := hP.sub (ws' := [(h0, .inr (5, [.ref q, .int (nI n)])), (q, .inl (cA 1, cap, .inr (.inl (vp_updL w j x))))]) [0, 1] rfl
    have hD9 := hD.sub (ws' := [(h0, .inr (5, [.ref q, .int (nI n)])), (q, .inl (cA 1, cap, .inr (.inl (vp_updL w j x))))]) [0, 1] (by decide) rfl
    have hE9 : ([(h0, .inr (5, [.ref q, .int (nI n)])), (q, .inl (cA 1, cap, .inr (.inl (vp_updL w j x))))] : va_W) = [(h0, .inr (5, [.ref q, .int (nI n)])), (q, .inl (cA 1, cap, .inr (.inl (dc_put w n (nI j) x))))] := by rw [dc_putN hj (by omega)]
    rw [hE9] at hP9 hD9
    exact W.vret hx hb hr (fun t ht hW => ⟨⟨(), rfl, (trivial), by rw [ht]; exact hP9, hD9⟩, hS.F ht⟩) hS.2.2 dn_d_Row_put_15

set_option maxHeartbeats 4000000 in
set_option maxRecDepth 100000 in
theorem cc_digRow (l : Launch) (G : va_G) (cA : Nat → ClassId) (w : Nat → Int64) (n : Nat) (cap : Nat) (h0 : Nat) (q : Nat) (hn : n ≤ cap) (hc : cap < 2147483648) : Met l dn_y_Codes_digestOfRow (.code dn_y_Codes_digestOfRow dn_c_Codes_digestOfRow 4 (some .long) :: dc_W) ({ frames := 2, cells := 0, slots := 0, locals := 42 }) (dc_pR G cA [(h0, .inr (5, [.ref q, .int (nI n)])), (q, .inl (cA 1, cap, .inr (.inl w)))] [.ref h0]) (vp_Sl (fun r => r = dc_digN w n)) 0 0 (fun _ => False) := by
  refine Met.ofW (cc := dn_c_Codes_digestOfRow) (maxL := 4) (ret := (some .long)) (by decide) rfl ?_
  intro p9 en9 s m args9 below9 meth9 cd9 s9 B hml hv
  obtain ⟨rfl, hP, hK0⟩ := hv
  have hx := B.exec
  have hb := B.bytes
  have hr := B.returns
  have hts : ∀ w ∈ dc_W, w.before _ s = true := fun w h => atoms_spec (ws := (.code dn_y_Codes_digestOfRow dn_c_Codes_digestOfRow 4 (some .long) :: dc_W)) B.pre w (List.mem_cons_of_mem _ h)
  have hK := hK0.1
  have hN := hK0.2
  have hown : s.vm.findClass dn_R_Codes = some m.cls := findClass_of_methodNamed B.named
  have hlocks := B.notSynchronized
  have hl := lv_entry ([.ref h0]) (n := 4) (Nat.le_of_ble_eq_true rfl)
  rw [lg_entry_eq]
  generalize (lg_sl ([.ref h0]) ++ List.replicate (4 - (lg_sl ([.ref h0])).length) Slot.unset).toArray = ls at hl ⊢
  have hl : lv_has ls 4 [(0, .ref h0)] := hl
  refine lv_ldc2 (v := 2611923443488327891) hx hb hown (hts _ dn_w_137) dn_d_Codes_digestOfRow_0 ?_
  refine lv_lstore_n hx hb dn_d_Codes_digestOfRow_3 rfl hl (by decide) rfl (fun ls hl => ?_)
  have hl : lv_has ls 4 [(1, .long 2611923443488327891), (0, .ref h0)] := hl
  refine lv_iconst (v := 0) hx hb dn_d_Codes_digestOfRow_4 (by decide) ?_
  refine lv_istore_n hx hb dn_d_Codes_digestOfRow_5 rfl hl (by decide) rfl (fun ls hl => ?_)
  have hl : lv_has ls 4 [(3, .int 0), (1, .long 2611923443488327891), (0, .ref h0)] := hl
  refine dc_loop (σ := Nat) 6 [] (fun (i : Nat) => n - i) (fun (i : Nat) (H : Heap) (locs : List Loc) (ls : Array Slot) => lv_has ls 4 [(3, .int (nI i)), (1, .long (dc_digN w i)), (0, .ref h0)] ∧ H = s.heap ∧ locs = [] ∧ (i ≤ n)) ?_ 0 ⟨lv_sub hl [0, 1, 2] rfl, rfl, rfl, (by omega)⟩
  rintro i H locs ls ⟨hl, rfl, rfl, hi⟩ ih6
  have hl : lv_has ls 4 [(3, .int (nI i)), (1, .long (dc_digN w i)), (0, .ref h0)] := hl
  refine lv_iload_n hx hb dn_d_Codes_digestOfRow_6 rfl (lv_at hl 0 rfl) ?_
  refine lv_aload_n hx hb dn_d_Codes_digestOfRow_7 rfl (lv_at hl 2 rfl) ?_
  refine vp_callSi (va_Run.run (va_runV (b := h0) (As := []) (rest := [.int (nI i)]) ⟨hx, hb, hml, hown, hts⟩ (cc_size l G cA w n cap h0 q ) ⟨(callB_of 0 hts (dc_good dn_w_334) rfl rfl rfl (hts _ dn_w_2) (hts _ dn_w_331) (by decide +kernel) ⟨Nat.le_of_ble_eq_true rfl, Nat.le_of_ble_eq_true rfl⟩), (hts _ dn_w_332), (hts _ dn_w_333)⟩ (dc_preVR (hP.sub [0, 1] rfl) hK0 (q0 := 0) rfl rfl) rfl rfl hl.1 rfl (lv_room (Nat.le_of_ble_eq_true rfl)) dn_d_Codes_digestOfRow_8 ⟨Nat.le_of_ble_eq_true rfl, Nat.le_of_ble_eq_true rfl⟩)) (fun r9 hr9 => ?_)
  subst hr9
  refine lv_icmp_ge (tgt := 30) hx hb dn_d_Codes_digestOfRow_11 (by decide) (fun h11 => ?_) (fun h11 => ?_)
  · -- 11: n ≤ i
    have h11 : n ≤ i := (nI_leI (a := n) (b := i) (by omega) (by omega)).1 h11
    refine lv_lload_n hx hb dn_d_Codes_digestOfRow_30 rfl (lv_at hl 1 rfl) ?_
    exact W.lret (v := (dc_digN w i)) hx hb hr (fun t ht hW => ⟨_, rfl, (by rw [show i = n by omega]), ht⟩) (fun q h => by cases h) dn_d_Codes_digestOfRow_31
  · -- 11: ¬ n ≤ i
    have h11 : ¬ n ≤ i := fun z => h11 ((nI_leI (a := n) (b := i) (by omega) (by omega)).2 z)
    refine lv_lload_n hx hb dn_d_Codes_digestOfRow_14 rfl (lv_at hl 1 rfl) ?_
    refine lv_aload_n hx hb dn_d_Codes_digestOfRow_15 rfl (lv_at hl 2 rfl) ?_
    refine lv_iload_n hx hb dn_d_Codes_digestOfRow_16 rfl (lv_at hl 0 rfl) ?_
    refine vp_callSl (va_Run.run (va_runV (b := h0) (As := [.int (nI i)]) (rest := [.long (dc_digN w i)]) ⟨hx, hb, hml, hown, hts⟩ (cc_get l G cA w n cap h0 q (nI i) (by first | assumption | omega) (by first | assumption | omega)) ⟨(callB_of 1 hts (dc_good dn_w_338) rfl rfl rfl (hts _ dn_w_2) (hts _ dn_w_335) (by decide +kernel) ⟨Nat.le_of_ble_eq_true rfl, Nat.le_of_ble_eq_true rfl⟩), (hts _ dn_w_336), (hts _ dn_w_337)⟩ (dc_preVR (hP.sub [0, 1] rfl) hK0 (q0 := 0) rfl rfl) rfl rfl hl.1 rfl (lv_room (Nat.le_of_ble_eq_true rfl)) dn_d_Codes_digestOfRow_17 ⟨Nat.le_of_ble_eq_true rfl, Nat.le_of_ble_eq_true rfl⟩)) (fun r9 hr9 => ?_)
    subst hr9
    refine vp_callSl (va_Run.run (va_runS (As := [.long (dc_digN w i), .long (dc_get w n (nI i))]) (rest := []) ⟨hx, hb, hml, hown, hts⟩ (cc_mix l (dc_digN w i) (dc_get w n (nI i)) ) ⟨(callB_of 2 hts (dc_good dn_w_140) rfl rfl rfl (hts _ dn_w_8) (hts _ dn_w_138) (by decide +kernel) ⟨Nat.le_of_ble_eq_true rfl, Nat.le_of_ble_eq_true rfl⟩), (hts _ dn_w_139)⟩ preEq rfl rfl hl.1 rfl (lv_room (Nat.le_of_ble_eq_true rfl)) dn_d_Codes_digestOfRow_20 ⟨Nat.le_of_ble_eq_true rfl, Nat.le_of_ble_eq_true rfl⟩)) (fun r9 hr9 => ?_)
    subst hr9
    rw [dc_getN (by omega) (by omega)]
    refine lv_lstore_n hx hb dn_d_Codes_digestOfRow_23 rfl hl (by decide) rfl (fun ls hl => ?_)
    have hl : lv_has ls 4 [(1, .long (dc_mix (dc_digN w i) ((w i)))), (3, .int (nI i)), (0, .ref h0)] := hl
    refine lv_iinc (k := 1) (v := nI (i + 1)) hx hb dn_d_Codes_digestOfRow_24 hl rfl (dc_inc1 _) (by decide) rfl (fun ls hl => ?_)
    have hl : lv_has ls 4 [(3, .int (nI (i + 1))), (1, .long (dc_mix (dc_digN w i) ((w i)))), (0, .ref h0)] := hl
    refine lv_goto (tgt := 6) hx hb dn_d_Codes_digestOfRow_27 (by decide) ?_
    exact ih6 (i + 1) _ _ _ (by first | omega | (dsimp only; omega)) ⟨lv_sub hl [0, 1, 2] rfl, rfl, rfl, (by omega)⟩

set_option maxHeartbeats 4000000 in
set_option maxRecDepth 100000 in
theorem cc_sigNum (l : Launch) (G : va_G) (cA : Nat → ClassId) (w : Nat → Int64) (n : Nat) (cap : Nat) (h0 : Nat) (q : Nat) (hn : n ≤ cap) (hc : cap < 2147483648) : Met l dn_y_Codes_signedNumber (.code dn_y_Codes_signedNumber dn_c_Codes_signedNumber 1 (some .long) :: dc_W) ({ frames := 3, cells := 0, slots := 0, locals := 73 }) (dc_pR G cA [(h0, .inr (5, [.ref q, .int (nI n)])), (q, .inl (cA 1, cap, .inr (.inl w)))] [.ref h0]) (vp_Sl (fun r => r = dc_ju (dc_dig3 (dc_get w n 0) (dc_get w n 1) (dc_get w n 2)) 1)) 0 0 (fun _ => False) := by
  refine Met.ofW (cc := dn_c_Codes_signedNumber) (maxL := 1) (ret := (some .long)) (by decide) rfl ?_
  intro p9 en9 s m args9 below9 meth9 cd9 s9 B hml hv
  obtain ⟨rfl, hP, hK0⟩ := hv
  have hx := B.exec
  have hb := B.bytes
  have hr := B.returns
  have hts : ∀ w ∈ dc_W, w.before _ s = true := fun w h => atoms_spec (ws := (.code dn_y_Codes_signedNumber dn_c_Codes_signedNumber 1 (some .long) :: dc_W)) B.pre w (List.mem_cons_of_mem _ h)
  have hK := hK0.1
  have hN := hK0.2
  have hown : s.vm.findClass dn_R_Codes = some m.cls := findClass_of_methodNamed B.named
  have hlocks := B.notSynchronized
  have hl := lv_entry ([.ref h0]) (n := 1) (Nat.le_of_ble_eq_true rfl)
  rw [lg_entry_eq]
  generalize (lg_sl ([.ref h0]) ++ List.replicate (1 - (lg_sl ([.ref h0])).length) Slot.unset).toArray = ls at hl ⊢
  have hl : lv_has ls 1 [(0, .ref h0)] := hl
  refine lv_aload_n hx hb dn_d_Codes_signedNumber_0 rfl (lv_at hl 0 rfl) ?_
  refine lv_iconst (v := 0) hx hb dn_d_Codes_signedNumber_1 (by decide) ?_
  refine vp_callSl (va_Run.run (va_runV (b := h0) (As := [.int 0]) (rest := []) ⟨hx, hb, hml, hown, hts⟩ (cc_get l G cA w n cap h0 q 0 (by first | assumption | omega) (by first | assumption | omega)) ⟨(callB_of 1 hts (dc_good dn_w_338) rfl rfl rfl (hts _ dn_w_2) (hts _ dn_w_335) (by decide +kernel) ⟨Nat.le_of_ble_eq_true rfl, Nat.le_of_ble_eq_true rfl⟩), (hts _ dn_w_336), (hts _ dn_w_337)⟩ (dc_preVR (hP.sub [0, 1] rfl) hK0 (q0 := 0) rfl rfl) rfl rfl hl.1 rfl (lv_room (Nat.le_of_ble_eq_true rfl)) dn_d_Codes_signedNumber_2 ⟨Nat.le_of_ble_eq_true rfl, Nat.le_of_ble_eq_true rfl⟩)) (fun r9 hr9 => ?_)
  subst hr9
  refine lv_aload_n hx hb dn_d_Codes_signedNumber_5 rfl (lv_at hl 0 rfl) ?_
  refine lv_iconst (v := 1) hx hb dn_d_Codes_signedNumber_6 (by decide) ?_
  refine vp_callSl (va_Run.run (va_runV (b := h0) (As := [.int 1]) (rest := [.long (dc_get w n 0)]) ⟨hx, hb, hml, hown, hts⟩ (cc_get l G cA w n cap h0 q 1 (by first | assumption | omega) (by first | assumption | omega)) ⟨(callB_of 1 hts (dc_good dn_w_338) rfl rfl rfl (hts _ dn_w_2) (hts _ dn_w_335) (by decide +kernel) ⟨Nat.le_of_ble_eq_true rfl, Nat.le_of_ble_eq_true rfl⟩), (hts _ dn_w_336), (hts _ dn_w_337)⟩ (dc_preVR (hP.sub [0, 1] rfl) hK0 (q0 := 0) rfl rfl) rfl rfl hl.1 rfl (lv_room (Nat.le_of_ble_eq_true rfl)) dn_d_Codes_signedNumber_7 ⟨Nat.le_of_ble_eq_true rfl, Nat.le_of_ble_eq_true rfl⟩)) (fun r9 hr9 => ?_)
  subst hr9
  refine lv_aload_n hx hb dn_d_Codes_signedNumber_10 rfl (lv_at hl 0 rfl) ?_
  refine lv_iconst (v := 2) hx hb dn_d_Codes_signedNumber_11 (by decide) ?_
  refine vp_callSl (va_Run.run (va_runV (b := h0) (As := [.int 2]) (rest := [.long (dc_get w n 1), .long (dc_get w n 0)]) ⟨hx, hb, hml, hown, hts⟩ (cc_get l G cA w n cap h0 q 2 (by first | assumption | omega) (by first | assumption | omega)) ⟨(callB_of 1 hts (dc_good dn_w_338) rfl rfl rfl (hts _ dn_w_2) (hts _ dn_w_335) (by decide +kernel) ⟨Nat.le_of_ble_eq_true rfl, Nat.le_of_ble_eq_true rfl⟩), (hts _ dn_w_336), (hts _ dn_w_337)⟩ (dc_preVR (hP.sub [0, 1] rfl) hK0 (q0 := 0) rfl rfl) rfl rfl hl.1 rfl (lv_room (Nat.le_of_ble_eq_true rfl)) dn_d_Codes_signedNumber_12 ⟨Nat.le_of_ble_eq_true rfl, Nat.le_of_ble_eq_true rfl⟩)) (fun r9 hr9 => ?_)
  subst hr9
  refine vp_callSl (va_Run.run (va_runS (As := [.long (dc_get w n 0), .long (dc_get w n 1), .long (dc_get w n 2)]) (rest := []) ⟨hx, hb, hml, hown, hts⟩ (cc_dig3 l (dc_get w n 0) (dc_get w n 1) (dc_get w n 2) ) ⟨(callB_of 3 hts (dc_good dn_w_133) rfl rfl rfl (hts _ dn_w_8) (hts _ dn_w_354) (by decide +kernel) ⟨Nat.le_of_ble_eq_true rfl, Nat.le_of_ble_eq_true rfl⟩), (hts _ dn_w_132)⟩ preEq rfl rfl hl.1 rfl (lv_room (Nat.le_of_ble_eq_true rfl)) dn_d_Codes_signedNumber_15 ⟨Nat.le_of_ble_eq_true rfl, Nat.le_of_ble_eq_true rfl⟩)) (fun r9 hr9 => ?_)
  subst hr9
  refine lv_iconst (v := 1) hx hb dn_d_Codes_signedNumber_18 (by decide) ?_
  refine lv_lushr (v := dc_ju (dc_dig3 (dc_get w n 0) (dc_get w n 1) (dc_get w n 2)) (1 : Int32)) hx hb dn_d_Codes_signedNumber_19 rfl ?_
  exact W.lret (v := (dc_ju (dc_dig3 (dc_get w n 0) (dc_get w n 1) (dc_get w n 2)) (1 : Int32))) hx hb hr (fun t ht hW => ⟨_, rfl, (rfl), ht⟩) (fun q h => by cases h) dn_d_Codes_signedNumber_20
