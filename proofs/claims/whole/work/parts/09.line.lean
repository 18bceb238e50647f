set_option maxHeartbeats 4000000 in
set_option maxRecDepth 100000 in
theorem cc_fits (l : Launch) (G : va_G) (cA : Nat → ClassId) (z : Nat → Nat) (j : Nat) (v : Int32) (hj : j < 3) : Met l dn_y_Line_fits (.code dn_y_Line_fits dn_c_Line_fits 2 (some .boolean) :: dc_W) ({ frames := 1, cells := 0, slots := 0, locals := 20 }) (dc_pRZ G cA z [] [.int (nI j), .int v]) (vp_Si (fun r => r = dc_bI (decide (¬ v < 0 ∧ v < dc_lim j)))) 0 0 (fun _ => False) := by
  refine Met.ofW (cc := dn_c_Line_fits) (maxL := 2) (ret := (some .boolean)) (by decide) rfl ?_
  intro p9 en9 s m args9 below9 meth9 cd9 s9 B hml hv
  obtain ⟨rfl, hP, hK0, hZ⟩ := hv
  have hx := B.exec
  have hb := B.bytes
  have hr := B.returns
  have hts : ∀ w ∈ dc_W, w.before _ s = true := fun w h => atoms_spec (ws := (.code dn_y_Line_fits dn_c_Line_fits 2 (some .boolean) :: dc_W)) B.pre w (List.mem_cons_of_mem _ h)
  have hK := hK0.1
  have hN := hK0.2
  have hown : s.vm.findClass dn_R_Line = some m.cls := findClass_of_methodNamed B.named
  have hlocks := B.notSynchronized
  have hS : va_S (fun _ => False) s.heap s.heap [] := va_S.rf
  have hl := lv_entry ([.int (nI j), .int v]) (n := 2) (Nat.le_of_ble_eq_true rfl)
  rw [lg_entry_eq]
  generalize (lg_sl ([.int (nI j), .int v]) ++ List.replicate (2 - (lg_sl ([.int (nI j), .int v])).length) Slot.unset).toArray = ls at hl ⊢
  have hl : lv_has ls 2 [(0, .int (nI j)), (1, .int v)] := hl
  refine lv_iload_n hx hb dn_d_Line_fits_0 rfl (lv_at hl 0 rfl) ?_
  refine vp_callSi (va_Run.run (va_runS (As := [.int (nI j)]) (rest := []) ⟨hx, hb, hml, hown, hts⟩ (cc_isField l (nI j) ) ⟨(callB_of 1 hts (dc_good dn_w_105) rfl rfl rfl (hts _ dn_w_6) (hts _ dn_w_103) (by decide +kernel) ⟨Nat.le_of_ble_eq_true rfl, Nat.le_of_ble_eq_true rfl⟩), (hts _ dn_w_104)⟩ preEq rfl rfl hl.1 rfl (lv_room (Nat.le_of_ble_eq_true rfl)) dn_d_Line_fits_1 ⟨Nat.le_of_ble_eq_true rfl, Nat.le_of_ble_eq_true rfl⟩)) (fun r9 hr9 => ?_)
  subst hr9
  refine lv_if_eq (tgt := 24) hx hb dn_d_Line_fits_4 (by decide) (fun h4 => ?_) (fun h4 => ?_)
  · exact absurd (show (dc_has 3 (nI j)) = false from dc_bI0.1 h4) (by rw [dc_hasN (by omega) (by decide)]; decide)
  · -- 4: (dc_has 3 (nI j)) = true
    have h4 : (dc_has 3 (nI j)) = true := dc_bI1.1 h4
    refine lv_iload_n hx hb dn_d_Line_fits_7 rfl (lv_at hl 1 rfl) ?_
    refine lv_if_lt (tgt := 24) hx hb dn_d_Line_fits_8 (by decide) (fun h8 => ?_) (fun h8 => ?_)
    · -- 8: v < 0
      refine lv_iconst (v := 0) hx hb dn_d_Line_fits_24 (by decide) ?_
      exact W.zret (ty := .boolean) (v := 0) hx hb hr (rfl) (fun t ht hW => ⟨_, rfl, (by rw [decide_eq_false (fun z9 => z9.1 h8)]; rfl), ht⟩) (fun q h => by cases h) dn_d_Line_fits_25
    · -- 8: ¬ v < 0
      refine lv_iload_n hx hb dn_d_Line_fits_11 rfl (lv_at hl 1 rfl) ?_
      refine va_gets hx hb hZ.1 hS hown (hts _ dn_w_106) (fun _ h9 => h9) dn_d_Line_fits_12 ?_
      refine lv_iload_n hx hb dn_d_Line_fits_15 rfl (lv_at hl 0 rfl) ?_
      refine dc_ti (k := j) (f := dc_lim) hx hb hZ.2.1 hS (by omega) (by decide) dn_d_Line_fits_16 ?_
      refine lv_icmp_ge (tgt := 24) hx hb dn_d_Line_fits_17 (by decide) (fun h17 => ?_) (fun h17 => ?_)
      · -- 17: (dc_lim j) ≤ v
        refine lv_iconst (v := 0) hx hb dn_d_Line_fits_24 (by decide) ?_
        exact W.zret (ty := .boolean) (v := 0) hx hb hr (rfl) (fun t ht hW => ⟨_, rfl, (by rw [decide_eq_false (fun z9 => Int32.not_le.mpr z9.2 h17)]; rfl), ht⟩) (fun q h => by cases h) dn_d_Line_fits_25
      · -- 17: ¬ (dc_lim j) ≤ v
        refine lv_iconst (v := 1) hx hb dn_d_Line_fits_20 (by decide) ?_
        refine lv_goto (tgt := 25) hx hb dn_d_Line_fits_21 (by decide) ?_
        exact W.zret (ty := .boolean) (v := 1) hx hb hr (rfl) (fun t ht hW => ⟨_, rfl, (by rw [decide_eq_true ⟨h8, Int32.not_le.mp h17⟩]; rfl), ht⟩) (fun q h => by cases h) dn_d_Line_fits_25

set_option maxHeartbeats 4000000 in
set_option maxRecDepth 100000 in
theorem cc_rd (l : Launch) (G : va_G) (cA : Nat → ClassId) (z : Nat → Nat) (v : Int32) (k : Nat) (hk : k ≤ 9) : Met l dn_y_Line_rightDigit (.code dn_y_Line_rightDigit dn_c_Line_rightDigit 5 (some .int) :: dc_W) ({ frames := 0, cells := 0, slots := 0, locals := 0 }) (dc_pRZ G cA z [] [.int v, .int (nI k)]) (vp_Si (fun r => r = dc_rd v k)) 0 0 (fun _ => False) := by
  refine Met.ofW (cc := dn_c_Line_rightDigit) (maxL := 5) (ret := (some .int)) (by decide) rfl ?_
  intro p9 en9 s m args9 below9 meth9 cd9 s9 B hml hv
  obtain ⟨rfl, hP, hK0, hZ⟩ := hv
  have hx := B.exec
  have hb := B.bytes
  have hr := B.returns
  have hts : ∀ w ∈ dc_W, w.before _ s = true := fun w h => atoms_spec (ws := (.code dn_y_Line_rightDigit dn_c_Line_rightDigit 5 (some .int) :: dc_W)) B.pre w (List.mem_cons_of_mem _ h)
  have hK := hK0.1
  have hN := hK0.2
  have hown : s.vm.findClass dn_R_Line = some m.cls := findClass_of_methodNamed B.named
  have hlocks := B.notSynchronized
  have hS : va_S (fun _ => False) s.heap s.heap [] := va_S.rf
  have hl := lv_entry ([.int v, .int (nI k)]) (n := 5) (Nat.le_of_ble_eq_true rfl)
  rw [lg_entry_eq]
  generalize (lg_sl ([.int v, .int (nI k)]) ++ List.replicate (5 - (lg_sl ([.int v, .int (nI k)])).length) Slot.unset).toArray = ls at hl ⊢
  have hl : lv_has ls 5 [(0, .int v), (1, .int (nI k))] := hl
  refine lv_iconst (v := 0) hx hb dn_d_Line_rightDigit_0 (by decide) ?_
  refine lv_istore_n hx hb dn_d_Line_rightDigit_1 rfl hl (by decide) rfl (fun ls hl => ?_)
  have hl : lv_has ls 5 [(2, .int 0), (0, .int v), (1, .int (nI k))] := hl
  refine lv_iload_n hx hb dn_d_Line_rightDigit_2 rfl (lv_at hl 1 rfl) ?_
  refine lv_istore_n hx hb dn_d_Line_rightDigit_3 rfl hl (by decide) rfl (fun ls hl => ?_)
  have hl : lv_has ls 5 [(3, .int v), (2, .int 0), (0, .int v), (1, .int (nI k))] := hl
  refine lv_iload_n hx hb dn_d_Line_rightDigit_4 rfl (lv_at hl 3 rfl) ?_
  refine lv_iconst (v := 1) hx hb dn_d_Line_rightDigit_5 (by decide) ?_
  refine lv_isub hx hb dn_d_Line_rightDigit_6 ?_
  rw [show nI k - (1 : Int32) = dc_dn k from dc_dnm k]
  refine lv_istore hx hb dn_d_Line_rightDigit_7 hl (by decide) rfl (fun ls hl => ?_)
  have hl : lv_has ls 5 [(4, .int (dc_dn k)), (3, .int v), (2, .int 0), (0, .int v), (1, .int (nI k))] := hl
  refine dc_loop (σ := Nat × Int32 × Int32) 9 [] (fun (x9 : Nat × Int32 × Int32) => match x9 with | (j, u, x) => j) (fun (x9 : Nat × Int32 × Int32) (H : Heap) (locs : List Loc) (ls : Array Slot) => match x9 with | (j, u, x) => lv_has ls 5 [(4, .int (dc_dn j)), (3, .int x), (2, .int u), (0, .int v), (1, .int (nI k))] ∧ H = s.heap ∧ locs = [] ∧ (j ≤ 9) ∧ (dc_rdR j u x = dc_rd v k)) ?_ (k, 0, v) ⟨lv_sub hl [0, 1, 2, 3, 4] rfl, rfl, rfl, (hk), (rfl)⟩
  rintro ⟨j, u, x⟩ H locs ls ⟨hl, rfl, rfl, hj, hv⟩ ih9
  have hl : lv_has ls 5 [(4, .int (dc_dn j)), (3, .int x), (2, .int u), (0, .int v), (1, .int (nI k))] := hl
  rcases j with _ | j
  ·
    have hl : lv_has ls 5 [(4, .int (-1)), (3, .int x), (2, .int u), (0, .int v), (1, .int (nI k))] := hl
    refine lv_iload hx hb dn_d_Line_rightDigit_9 (lv_at hl 0 rfl) ?_
    refine lv_if_lt (tgt := 41) hx hb dn_d_Line_rightDigit_11 (by decide) (fun h11 => ?_) (fun h11 => ?_)
    · -- 11: (-1) < 0
      refine lv_iload_n hx hb dn_d_Line_rightDigit_41 rfl (lv_at hl 2 rfl) ?_
      refine lv_bipush (v := 10) hx hb dn_d_Line_rightDigit_42 (by decide) ?_
      refine lv_irem hx hb dn_d_Line_rightDigit_44 (by decide) ?_
      exact W.iret (v := (dc_irem u (10 : Int32))) hx hb hr (fun t ht hW => ⟨_, rfl, (hv), ht⟩) (fun q h => by cases h) dn_d_Line_rightDigit_45
    · exact absurd h11 (by decide)
  ·
    have hl : lv_has ls 5 [(4, .int (nI j)), (3, .int x), (2, .int u), (0, .int v), (1, .int (nI k))] := hl
    refine lv_iload hx hb dn_d_Line_rightDigit_9 (lv_at hl 0 rfl) ?_
    refine lv_if_lt (tgt := 41) hx hb dn_d_Line_rightDigit_11 (by decide) (fun h11 => ?_) (fun h11 => ?_)
    · exact absurd (show j < 0 from (nI_ltI (a := j) (b := 0) (by omega) (by omega)).1 h11) (by omega)
    · -- 11: ¬ j < 0
      have h11 : ¬ j < 0 := fun z => h11 ((nI_ltI (a := j) (b := 0) (by omega) (by omega)).2 z)
      refine lv_iload_n hx hb dn_d_Line_rightDigit_14 rfl (lv_at hl 2 rfl) ?_
      refine lv_iload_n hx hb dn_d_Line_rightDigit_15 rfl (lv_at hl 1 rfl) ?_
      refine lv_bipush (v := 10) hx hb dn_d_Line_rightDigit_16 (by decide) ?_
      refine lv_irem hx hb dn_d_Line_rightDigit_18 (by decide) ?_
      refine va_gets hx hb hZ.2.2.2.2.1 hS hown (hts _ dn_w_116) (fun _ h9 => h9) dn_d_Line_rightDigit_19 ?_
      refine lv_iload hx hb dn_d_Line_rightDigit_22 (lv_at hl 0 rfl) ?_
      refine lv_iconst (v := 3) hx hb dn_d_Line_rightDigit_24 (by decide) ?_
      refine lv_irem hx hb dn_d_Line_rightDigit_25 (by decide) ?_
      rw [show (nI j) - (nI j) / (3 : Int32) * (3 : Int32) = nI (j % 3) from pk_rem (by omega) (by decide) (by decide)]
      refine dc_ti (k := (j % 3)) (f := dc_wei) hx hb hZ.2.2.2.2.2.1 hS (by omega) (by decide) dn_d_Line_rightDigit_26 ?_
      refine lv_imul hx hb dn_d_Line_rightDigit_27 ?_
      refine lv_iadd hx hb dn_d_Line_rightDigit_28 ?_
      refine lv_istore_n hx hb dn_d_Line_rightDigit_29 rfl hl (by decide) rfl (fun ls hl => ?_)
      have hl : lv_has ls 5 [(2, .int (u + ((dc_irem x (10 : Int32)) * (dc_wei (j % 3))))), (4, .int (nI j)), (3, .int x), (0, .int v), (1, .int (nI k))] := hl
      refine lv_iload_n hx hb dn_d_Line_rightDigit_30 rfl (lv_at hl 2 rfl) ?_
      refine lv_bipush (v := 10) hx hb dn_d_Line_rightDigit_31 (by decide) ?_
      refine lv_idiv hx hb dn_d_Line_rightDigit_33 (by decide) ?_
      refine lv_istore_n hx hb dn_d_Line_rightDigit_34 rfl hl (by decide) rfl (fun ls hl => ?_)
      have hl : lv_has ls 5 [(3, .int (x / (10 : Int32))), (2, .int (u + ((dc_irem x (10 : Int32)) * (dc_wei (j % 3))))), (4, .int (nI j)), (0, .int v), (1, .int (nI k))] := hl
      refine lv_iinc (k := 2) (v := dc_dn j) hx hb dn_d_Line_rightDigit_35 hl rfl (dc_dnp _) (by decide) rfl (fun ls hl => ?_)
      have hl : lv_has ls 5 [(4, .int (dc_dn j)), (3, .int (x / (10 : Int32))), (2, .int (u + ((dc_irem x (10 : Int32)) * (dc_wei (j % 3))))), (0, .int v), (1, .int (nI k))] := hl
      refine lv_goto (tgt := 9) hx hb dn_d_Line_rightDigit_38 (by decide) ?_
      exact ih9 (j, u + ((dc_irem x (10 : Int32)) * (dc_wei (j % 3))), x / (10 : Int32)) _ _ _ (by first | omega | (dsimp only; omega)) ⟨lv_sub hl [0, 1, 2, 3, 4] rfl, rfl, rfl, (by omega), (hv)⟩

set_option maxHeartbeats 4000000 in
set_option maxRecDepth 100000 in
theorem cc_lput (l : Launch) (G : va_G) (cA : Nat → ClassId) (hp : Nat) (qv : Nat) (qd : Nat) (fv : Nat → Int32) (fd : Nat → Int32) (j : Nat) (x : Int32) (y : Int32) (hj : j < 3) (sz : Nat) : Met l dn_y_Line_put (.code dn_y_Line_put dn_c_Line_put 4 none :: dc_W) ({ frames := 1, cells := 0, slots := 0, locals := 20 }) (dc_pW G cA [(hp, .inr (4, [.ref qv, .ref qd])), (qv, .inl (cA 0, 3, .inl fv)), (qd, .inl (cA 0, 3, .inl fd))] sz [.ref hp, .int (nI j), .int x, .int y]) (dc_qv G (fun (_ : Unit) => True) (fun (_ : Unit) => [(hp, .inr (4, [.ref qv, .ref qd])), (qv, .inl (cA 0, 3, .inl (upd fv j x))), (qd, .inl (cA 0, 3, .inl (upd fd j y)))]) sz [(hp, .inr (4, [.ref qv, .ref qd])), (qv, .inl (cA 0, 3, .inl fv)), (qd, .inl (cA 0, 3, .inl fd))]) 0 0 (va_A [(hp, .inr (4, [.ref qv, .ref qd])), (qv, .inl (cA 0, 3, .inl fv)), (qd, .inl (cA 0, 3, .inl fd))] sz) := by
  refine Met.ofW (cc := dn_c_Line_put) (maxL := 4) (ret := none) (by decide) rfl ?_
  intro p9 en9 s m args9 below9 meth9 cd9 s9 B hml hv
  obtain ⟨rfl, hsz, hP, hK0, hD0⟩ := hv
  have hx := B.exec
  have hb := B.bytes
  have hr := B.returns
  have hts : ∀ w ∈ dc_W, w.before _ s = true := fun w h => atoms_spec (ws := (.code dn_y_Line_put dn_c_Line_put 4 none :: dc_W)) B.pre w (List.mem_cons_of_mem _ h)
  have hK := hK0.1
  have hN := hK0.2
  have hown : s.vm.findClass dn_R_Line = some m.cls := findClass_of_methodNamed B.named
  have hlocks := B.notSynchronized
  subst hsz
  have hD := hD0.self (sz := s.heap.size)
  unfold dc_qv
  generalize hAe : va_A [(hp, .inr (4, [.ref qv, .ref qd])), (qv, .inl (cA 0, 3, .inl fv)), (qd, .inl (cA 0, 3, .inl fd))] s.heap.size = A at hD ⊢
  have hA : ∀ q : Nat, s.heap.size ≤ q → A q := fun q h => by rw [← hAe]; exact Or.inr h
  have hS : va_S A s.heap s.heap [] := va_S.rf
  have hl := lv_entry ([.ref hp, .int (nI j), .int x, .int y]) (n := 4) (Nat.le_of_ble_eq_true rfl)
  rw [lg_entry_eq]
  generalize (lg_sl ([.ref hp, .int (nI j), .int x, .int y]) ++ List.replicate (4 - (lg_sl ([.ref hp, .int (nI j), .int x, .int y])).length) Slot.unset).toArray = ls at hl ⊢
  have hl : lv_has ls 4 [(0, .ref hp), (1, .int (nI j)), (2, .int x), (3, .int y)] := hl
  refine lv_iload_n hx hb dn_d_Line_put_0 rfl (lv_at hl 1 rfl) ?_
  refine vp_callSi (va_Run.run (va_runS (As := [.int (nI j)]) (rest := []) ⟨hx, hb, hml, hown, hts⟩ (cc_isField l (nI j) ) ⟨(callB_of 1 hts (dc_good dn_w_105) rfl rfl rfl (hts _ dn_w_6) (hts _ dn_w_103) (by decide +kernel) ⟨Nat.le_of_ble_eq_true rfl, Nat.le_of_ble_eq_true rfl⟩), (hts _ dn_w_104)⟩ preEq rfl rfl hl.1 rfl (lv_room (Nat.le_of_ble_eq_true rfl)) dn_d_Line_put_1 ⟨Nat.le_of_ble_eq_true rfl, Nat.le_of_ble_eq_true rfl⟩)) (fun r9 hr9 => ?_)
  subst hr9
  refine lv_if_eq (tgt := 21) hx hb dn_d_Line_put_4 (by decide) (fun h4 => ?_) (fun h4 => ?_)
  · exact absurd (show (dc_has 3 (nI j)) = false from dc_bI0.1 h4) (by rw [dc_hasN (by omega) (by decide)]; decide)
  · -- 4: (dc_has 3 (nI j)) = true
    have h4 : (dc_has 3 (nI j)) = true := dc_bI1.1 h4
    refine lv_aload_n hx hb dn_d_Line_put_7 rfl (lv_at hl 0 rfl) ?_
    refine va_get (D := G) (ci := 4) (v := .ref qv) (C := dn_R_Line) (T := dn_T_Line) (N := 2) hx hb hts (dn_u_Line) hown hK hP 0 rfl rfl 0 (by decide) (hts _ dn_w_91) (fun _ h9 => h9) rfl dn_d_Line_put_8 ?_
    refine lv_iload_n hx hb dn_d_Line_put_11 rfl (lv_at hl 1 rfl) ?_
    refine lv_iload_n hx hb dn_d_Line_put_12 rfl (lv_at hl 2 rfl) ?_
    refine dc_iast (k := j) hx hb hK hP hD hS 1 rfl (by omega) (by omega) dn_d_Line_put_13 (fun H locs hP hD hS => ?_)
    have hP : va_P G vwCl [(hp, .inr (4, [.ref qv, .ref qd])), (qv, .inl (cA 0, 3, .inl (upd fv j x))), (qd, .inl (cA 0, 3, .inl fd))] H := hP
    have hD : va_D A [(hp, .inr (4, [.ref qv, .ref qd])), (qv, .inl (cA 0, 3, .inl (upd fv j x))), (qd, .inl (cA 0, 3, .inl fd))] := hD
    refine lv_aload_n hx hb dn_d_Line_put_14 rfl (lv_at hl 0 rfl) ?_
    refine va_get (D := G) (ci := 4) (v := .ref qd) (C := dn_R_Line) (T := dn_T_Line) (N := 2) hx hb hts (dn_u_Line) hown hK hP 0 rfl rfl 1 (by decide) (hts _ dn_w_92) (fun _ h9 => h9) rfl dn_d_Line_put_15 ?_
    refine lv_iload_n hx hb dn_d_Line_put_18 rfl (lv_at hl 1 rfl) ?_
    refine lv_iload_n hx hb dn_d_Line_put_19 rfl (lv_at hl 3 rfl) ?_
    refine dc_iast (k := j) hx hb hK hP hD hS 2 rfl (by omega) (by omega) dn_d_Line_put_20 (fun H locs hP hD hS => ?_)
    have hP : va_P G vwCl [(hp, .inr (4, [.ref qv, .ref qd])), (qv, .inl (cA 0, 3, .inl (upd fv j x))), (qd, .inl (cA 0, 3, .inl (upd fd j y)))] H := hP
    have hD : va_D A [(hp, .inr (4, [.ref qv, .ref qd])), (qv, .inl (cA 0, 3, .inl (upd fv j x))), (qd, .inl (cA 0, 3, .inl (upd fd j y)))] := hD
    have hP9 := hP.sub (ws' := [(hp, .inr (4, [.ref qv, .ref qd])), (qv, .inl (cA 0, 3, .inl (upd fv j x))), (qd, .inl (cA 0, 3, .inl (upd fd j y)))]) [0, 1, 2] rfl
    have hD9 := hD.sub (ws' := [(hp, .inr (4, [.ref qv, .ref qd])), (qv, .inl (cA 0, 3, .inl (upd fv j x))), (qd, .inl (cA 0, 3, .inl (upd fd j y)))]) [0, 1, 2] (by decide) rfl
    exact W.vret hx hb hr (fun t ht hW => ⟨⟨(), rfl, (trivial), by rw [ht]; exact hP9, hD9⟩, hS.F ht⟩) hS.2.2 dn_d_Line_put_21

set_option maxHeartbeats 4000000 in
set_option maxRecDepth 100000 in
theorem cc_putFit (l : Launch) (G : va_G) (cA : Nat → ClassId) (z : Nat → Nat) (hp : Nat) (qv : Nat) (qd : Nat) (fv : Nat → Int32) (fd : Nat → Int32) (j : Nat) (x : Int32) (hj : j < 3) (sz : Nat) : Met l dn_y_Line_putFitting (.code dn_y_Line_putFitting dn_c_Line_putFitting 4 none :: dc_W) ({ frames := 2, cells := 0, slots := 0, locals := 43 }) (dc_pWZ G cA z [(hp, .inr (4, [.ref qv, .ref qd])), (qv, .inl (cA 0, 3, .inl fv)), (qd, .inl (cA 0, 3, .inl fd))] sz [.ref hp, .int (nI j), .int x]) (dc_qv G (fun (_ : Unit) => True) (fun (_ : Unit) => [(hp, .inr (4, [.ref qv, .ref qd])), (qv, .inl (cA 0, 3, .inl (upd fv j (dc_fit j x)))), (qd, .inl (cA 0, 3, .inl (upd fd j (dc_rd (dc_fit j x) (dc_wd j)))))]) sz [(hp, .inr (4, [.ref qv, .ref qd])), (qv, .inl (cA 0, 3, .inl fv)), (qd, .inl (cA 0, 3, .inl fd))]) 0 0 (va_A [(hp, .inr (4, [.ref qv, .ref qd])), (qv, .inl (cA 0, 3, .inl fv)), (qd, .inl (cA 0, 3, .inl fd))] sz) := by
  refine Met.ofW (cc := dn_c_Line_putFitting) (maxL := 4) (ret := none) (by decide) rfl ?_
  intro p9 en9 s m args9 below9 meth9 cd9 s9 B hml hv
  obtain ⟨rfl, hsz, hP, hK0, hD0, hZ⟩ := hv
  have hx := B.exec
  have hb := B.bytes
  have hr := B.returns
  have hts : ∀ w ∈ dc_W, w.before _ s = true := fun w h => atoms_spec (ws := (.code dn_y_Line_putFitting dn_c_Line_putFitting 4 none :: dc_W)) B.pre w (List.mem_cons_of_mem _ h)
  have hK := hK0.1
  have hN := hK0.2
  have hown : s.vm.findClass dn_R_Line = some m.cls := findClass_of_methodNamed B.named
  have hlocks := B.notSynchronized
  subst hsz
  have hD := hD0.self (sz := s.heap.size)
  unfold dc_qv
  generalize hAe : va_A [(hp, .inr (4, [.ref qv, .ref qd])), (qv, .inl (cA 0, 3, .inl fv)), (qd, .inl (cA 0, 3, .inl fd))] s.heap.size = A at hZ hD ⊢
  have hA : ∀ q : Nat, s.heap.size ≤ q → A q := fun q h => by rw [← hAe]; exact Or.inr h
  have hS : va_S A s.heap s.heap [] := va_S.rf
  have hl := lv_entry ([.ref hp, .int (nI j), .int x]) (n := 4) (Nat.le_of_ble_eq_true rfl)
  rw [lg_entry_eq]
  generalize (lg_sl ([.ref hp, .int (nI j), .int x]) ++ List.replicate (4 - (lg_sl ([.ref hp, .int (nI j), .int x])).length) Slot.unset).toArray = ls at hl ⊢
  have hl : lv_has ls 4 [(0, .ref hp), (1, .int (nI j)), (2, .int x)] := hl
  refine lv_iload_n hx hb dn_d_Line_putFitting_0 rfl (lv_at hl 1 rfl) ?_
  refine vp_callSi (va_Run.run (va_runS (As := [.int (nI j)]) (rest := []) ⟨hx, hb, hml, hown, hts⟩ (cc_isField l (nI j) ) ⟨(callB_of 1 hts (dc_good dn_w_105) rfl rfl rfl (hts _ dn_w_6) (hts _ dn_w_103) (by decide +kernel) ⟨Nat.le_of_ble_eq_true rfl, Nat.le_of_ble_eq_true rfl⟩), (hts _ dn_w_104)⟩ preEq rfl rfl hl.1 rfl (lv_room (Nat.le_of_ble_eq_true rfl)) dn_d_Line_putFitting_1 ⟨Nat.le_of_ble_eq_true rfl, Nat.le_of_ble_eq_true rfl⟩)) (fun r9 hr9 => ?_)
  subst hr9
  refine lv_if_eq (tgt := 33) hx hb dn_d_Line_putFitting_4 (by decide) (fun h4 => ?_) (fun h4 => ?_)
  · exact absurd (show (dc_has 3 (nI j)) = false from dc_bI0.1 h4) (by rw [dc_hasN (by omega) (by decide)]; decide)
  · -- 4: (dc_has 3 (nI j)) = true
    have h4 : (dc_has 3 (nI j)) = true := dc_bI1.1 h4
    refine lv_iload_n hx hb dn_d_Line_putFitting_7 rfl (lv_at hl 2 rfl) ?_
    refine va_gets hx hb hZ.1 hS hown (hts _ dn_w_106) (fun _ h9 => h9) dn_d_Line_putFitting_8 ?_
    refine lv_iload_n hx hb dn_d_Line_putFitting_11 rfl (lv_at hl 1 rfl) ?_
    refine dc_ti (k := j) (f := dc_lim) hx hb hZ.2.1 hS (by omega) (by decide) dn_d_Line_putFitting_12 ?_
    refine lv_irem hx hb dn_d_Line_putFitting_13 (dc_lim0 j) ?_
    refine va_mabs hx hb (hml.trans hl.1.symm) hown (hts _ dn_w_108) (hts _ dn_w_109) (hts _ dn_w_7) (hts _ dn_w_110) (Nat.le_of_ble_eq_true rfl) (Nat.le_of_ble_eq_true rfl) (Nat.le_of_ble_eq_true rfl) (Nat.le_of_ble_eq_true rfl) dn_d_Line_putFitting_14 ?_
    refine lv_istore_n hx hb dn_d_Line_putFitting_17 rfl hl (by decide) rfl (fun ls hl => ?_)
    have hl : lv_has ls 4 [(3, .int (dc_abs (dc_irem x (dc_lim j)))), (0, .ref hp), (1, .int (nI j)), (2, .int x)] := hl
    refine lv_aload_n hx hb dn_d_Line_putFitting_18 rfl (lv_at hl 1 rfl) ?_
    refine lv_iload_n hx hb dn_d_Line_putFitting_19 rfl (lv_at hl 2 rfl) ?_
    refine lv_iload_n hx hb dn_d_Line_putFitting_20 rfl (lv_at hl 0 rfl) ?_
    refine lv_iload_n hx hb dn_d_Line_putFitting_21 rfl (lv_at hl 0 rfl) ?_
    refine va_gets hx hb hZ.2.2.1 hS hown (hts _ dn_w_111) (fun _ h9 => h9) dn_d_Line_putFitting_22 ?_
    refine lv_iload_n hx hb dn_d_Line_putFitting_25 rfl (lv_at hl 2 rfl) ?_
    refine dc_ti (k := j) (f := (fun j => nI (dc_wd j))) hx hb hZ.2.2.2.1 hS (by omega) (by decide) dn_d_Line_putFitting_26 ?_
    refine vp_callSi (va_Run.run (va_runS (As := [.int (dc_abs (dc_irem x (dc_lim j))), .int (nI (dc_wd j))]) (rest := [.int (dc_abs (dc_irem x (dc_lim j))), .int (nI j), .ref hp]) ⟨hx, hb, hml, hown, hts⟩ (cc_rd l G cA z (dc_abs (dc_irem x (dc_lim j))) (dc_wd j) (dc_wd9 j)) ⟨(callB_of 2 hts (dc_good dn_w_115) rfl rfl rfl (hts _ dn_w_6) (hts _ dn_w_113) (by decide +kernel) ⟨Nat.le_of_ble_eq_true rfl, Nat.le_of_ble_eq_true rfl⟩), (hts _ dn_w_114)⟩ (dc_preSRZ (hP.sub [] rfl) hK0 hZ hS) rfl rfl hl.1 rfl (lv_room (Nat.le_of_ble_eq_true rfl)) dn_d_Line_putFitting_27 ⟨Nat.le_of_ble_eq_true rfl, Nat.le_of_ble_eq_true rfl⟩)) (fun r9 hr9 => ?_)
    subst hr9
    refine dc_wv (wr := []) (va_runV (b := hp) (As := [.int (nI j), .int (dc_abs (dc_irem x (dc_lim j))), .int (dc_rd (dc_abs (dc_irem x (dc_lim j))) (dc_wd j))]) (rest := []) ⟨hx, hb, hml, hown, hts⟩ (cc_lput l G cA hp qv qd fv fd j (dc_abs (dc_irem x (dc_lim j))) (dc_rd (dc_abs (dc_irem x (dc_lim j))) (dc_wd j)) (by first | assumption | omega) s.heap.size) ⟨(callB_of 3 hts (dc_good dn_w_121) rfl rfl rfl (hts _ dn_w_6) (hts _ dn_w_118) (by decide +kernel) ⟨Nat.le_of_ble_eq_true rfl, Nat.le_of_ble_eq_true rfl⟩), (hts _ dn_w_119), (hts _ dn_w_120)⟩ (dc_preVW (hP.sub [0, 1, 2] rfl) hK0 (hD.sub [0, 1, 2] (by decide) rfl) (q0 := 0) rfl rfl) rfl rfl hl.1 rfl (lv_room (Nat.le_of_ble_eq_true rfl)) dn_d_Line_putFitting_30 ⟨Nat.le_of_ble_eq_true rfl, Nat.le_of_ble_eq_true rfl⟩) hP hD hS hA [0, 1, 2] [] rfl rfl (by decide) (by decide) (fun u9 H locs hr9 hP hD hS => ?_)
    have hP : va_P G vwCl [(hp, .inr (4, [.ref qv, .ref qd])), (qv, .inl (cA 0, 3, .inl (upd fv j (dc_abs (dc_irem x (dc_lim j)))))), (qd, .inl (cA 0, 3, .inl (upd fd j (dc_rd (dc_abs (dc_irem x (dc_lim j))) (dc_wd j)))))] H := hP
    have hD : va_D A [(hp, .inr (4, [.ref qv, .ref qd])), (qv, .inl (cA 0, 3, .inl (upd fv j (dc_abs (dc_irem x (dc_lim j)))))), (qd, .inl (cA 0, 3, .inl (upd fd j (dc_rd (dc_abs (dc_irem x (dc_lim j))) (dc_wd j)))))] := hD
    have hP9 := hP.sub (ws' := [(hp, .inr (4, [.ref qv, .ref qd])), (qv, .inl (cA 0, 3, .inl (upd fv j (dc_abs (dc_irem x (dc_lim j)))))), (qd, .inl (cA 0, 3, .inl (upd fd j (dc_rd (dc_abs (dc_irem x (dc_lim j))) (dc_wd j)))))]) [0, 1, 2] rfl
    have hD9 := hD.sub (ws' := [(hp, .inr (4, [.ref qv, .ref qd])), (qv, .inl (cA 0, 3, .inl (upd fv j (dc_abs (dc_irem x (dc_lim j)))))), (qd, .inl (cA 0, 3, .inl (upd fd j (dc_rd (dc_abs (dc_irem x (dc_lim j))) (dc_wd j)))))]) [0, 1, 2] (by decide) rfl
    have hE9 : ([(hp, .inr (4, [.ref qv, .ref qd])), (qv, .inl (cA 0, 3, .inl (upd fv j (dc_abs (dc_irem x (dc_lim j)))))), (qd, .inl (cA 0, 3, .inl (upd fd j (dc_rd (dc_abs (dc_irem x (dc_lim j))) (dc_wd j)))))] : va_W) = [(hp, .inr (4, [.ref qv, .ref qd])), (qv, .inl (cA 0, 3, .inl (upd fv j (dc_fit j x)))), (qd, .inl (cA 0, 3, .inl (upd fd j (dc_rd (dc_fit j x) (dc_wd j)))))] := rfl
    rw [hE9] at hP9 hD9
    exact W.vret hx hb hr (fun t ht hW => ⟨⟨(), rfl, (trivial), by rw [ht]; exact hP9, hD9⟩, hS.F ht⟩) hS.2.2 dn_d_Line_putFitting_33

set_option maxHeartbeats 4000000 in
set_option maxRecDepth 100000 in
theorem cc_isRight (l : Launch) (G : va_G) (cA : Nat → ClassId) (z : Nat → Nat) (hp : Nat) (qv : Nat) (qd : Nat) (fv : Nat → Int32) (fd : Nat → Int32) (j : Nat) (hj : j < 3) : Met l dn_y_Line_isRight (.code dn_y_Line_isRight dn_c_Line_isRight 2 (some .boolean) :: dc_W) ({ frames := 1, cells := 0, slots := 0, locals := 24 }) (dc_pRZ G cA z [(hp, .inr (4, [.ref qv, .ref qd])), (qv, .inl (cA 0, 3, .inl fv)), (qd, .inl (cA 0, 3, .inl fd))] [.ref hp, .int (nI j)]) (vp_Si (fun r => r = dc_bI (decide (fd j = dc_rd (fv j) (dc_wd j))))) 0 0 (fun _ => False) := by
  refine Met.ofW (cc := dn_c_Line_isRight) (maxL := 2) (ret := (some .boolean)) (by decide) rfl ?_
  intro p9 en9 s m args9 below9 meth9 cd9 s9 B hml hv
  obtain ⟨rfl, hP, hK0, hZ⟩ := hv
  have hx := B.exec
  have hb := B.bytes
  have hr := B.returns
  have hts : ∀ w ∈ dc_W, w.before _ s = true := fun w h => atoms_spec (ws := (.code dn_y_Line_isRight dn_c_Line_isRight 2 (some .boolean) :: dc_W)) B.pre w (List.mem_cons_of_mem _ h)
  have hK := hK0.1
  have hN := hK0.2
  have hown : s.vm.findClass dn_R_Line = some m.cls := findClass_of_methodNamed B.named
  have hlocks := B.notSynchronized
  have hS : va_S (fun _ => False) s.heap s.heap [] := va_S.rf
  have hl := lv_entry ([.ref hp, .int (nI j)]) (n := 2) (Nat.le_of_ble_eq_true rfl)
  rw [lg_entry_eq]
  generalize (lg_sl ([.ref hp, .int (nI j)]) ++ List.replicate (2 - (lg_sl ([.ref hp, .int (nI j)])).length) Slot.unset).toArray = ls at hl ⊢
  have hl : lv_has ls 2 [(0, .ref hp), (1, .int (nI j))] := hl
  refine lv_iload_n hx hb dn_d_Line_isRight_0 rfl (lv_at hl 1 rfl) ?_
  refine vp_callSi (va_Run.run (va_runS (As := [.int (nI j)]) (rest := []) ⟨hx, hb, hml, hown, hts⟩ (cc_isField l (nI j) ) ⟨(callB_of 1 hts (dc_good dn_w_105) rfl rfl rfl (hts _ dn_w_6) (hts _ dn_w_103) (by decide +kernel) ⟨Nat.le_of_ble_eq_true rfl, Nat.le_of_ble_eq_true rfl⟩), (hts _ dn_w_104)⟩ preEq rfl rfl hl.1 rfl (lv_room (Nat.le_of_ble_eq_true rfl)) dn_d_Line_isRight_1 ⟨Nat.le_of_ble_eq_true rfl, Nat.le_of_ble_eq_true rfl⟩)) (fun r9 hr9 => ?_)
  subst hr9
  refine lv_if_eq (tgt := 34) hx hb dn_d_Line_isRight_4 (by decide) (fun h4 => ?_) (fun h4 => ?_)
  · exact absurd (show (dc_has 3 (nI j)) = false from dc_bI0.1 h4) (by rw [dc_hasN (by omega) (by decide)]; decide)
  · -- 4: (dc_has 3 (nI j)) = true
    have h4 : (dc_has 3 (nI j)) = true := dc_bI1.1 h4
    refine lv_aload_n hx hb dn_d_Line_isRight_7 rfl (lv_at hl 0 rfl) ?_
    refine va_get (D := G) (ci := 4) (v := .ref qd) (C := dn_R_Line) (T := dn_T_Line) (N := 2) hx hb hts (dn_u_Line) hown hK hP 0 rfl rfl 1 (by decide) (hts _ dn_w_92) (fun _ h9 => h9) rfl dn_d_Line_isRight_8 ?_
    refine lv_iload_n hx hb dn_d_Line_isRight_11 rfl (lv_at hl 1 rfl) ?_
    refine dc_iald (k := j) hx hb hK hP 2 rfl (by omega) (by omega) dn_d_Line_isRight_12 ?_
    refine lv_aload_n hx hb dn_d_Line_isRight_13 rfl (lv_at hl 0 rfl) ?_
    refine va_get (D := G) (ci := 4) (v := .ref qv) (C := dn_R_Line) (T := dn_T_Line) (N := 2) hx hb hts (dn_u_Line) hown hK hP 0 rfl rfl 0 (by decide) (hts _ dn_w_91) (fun _ h9 => h9) rfl dn_d_Line_isRight_14 ?_
    refine lv_iload_n hx hb dn_d_Line_isRight_17 rfl (lv_at hl 1 rfl) ?_
    refine dc_iald (k := j) hx hb hK hP 1 rfl (by omega) (by omega) dn_d_Line_isRight_18 ?_
    refine va_gets hx hb hZ.2.2.1 hS hown (hts _ dn_w_111) (fun _ h9 => h9) dn_d_Line_isRight_19 ?_
    refine lv_iload_n hx hb dn_d_Line_isRight_22 rfl (lv_at hl 1 rfl) ?_
    refine dc_ti (k := j) (f := (fun j => nI (dc_wd j))) hx hb hZ.2.2.2.1 hS (by omega) (by decide) dn_d_Line_isRight_23 ?_
    refine vp_callSi (va_Run.run (va_runS (As := [.int (fv j), .int (nI (dc_wd j))]) (rest := [.int (fd j)]) ⟨hx, hb, hml, hown, hts⟩ (cc_rd l G cA z (fv j) (dc_wd j) (dc_wd9 j)) ⟨(callB_of 2 hts (dc_good dn_w_115) rfl rfl rfl (hts _ dn_w_6) (hts _ dn_w_113) (by decide +kernel) ⟨Nat.le_of_ble_eq_true rfl, Nat.le_of_ble_eq_true rfl⟩), (hts _ dn_w_114)⟩ (dc_preSRZ (hP.sub [] rfl) hK0 hZ hS) rfl rfl hl.1 rfl (lv_room (Nat.le_of_ble_eq_true rfl)) dn_d_Line_isRight_24 ⟨Nat.le_of_ble_eq_true rfl, Nat.le_of_ble_eq_true rfl⟩)) (fun r9 hr9 => ?_)
    subst hr9
    refine lv_icmp_ne (tgt := 34) hx hb dn_d_Line_isRight_27 (by decide) (fun h27 => ?_) (fun h27 => ?_)
    · -- 27: ¬ (fd j) = (dc_rd (fv j) (dc_wd j))
      refine lv_iconst (v := 0) hx hb dn_d_Line_isRight_34 (by decide) ?_
      exact W.zret (ty := .boolean) (v := 0) hx hb hr (rfl) (fun t ht hW => ⟨_, rfl, (by rw [decide_eq_false h27]; rfl), ht⟩) (fun q h => by cases h) dn_d_Line_isRight_35
    · -- 27: (fd j) = (dc_rd (fv j) (dc_wd j))
      refine lv_iconst (v := 1) hx hb dn_d_Line_isRight_30 (by decide) ?_
      refine lv_goto (tgt := 35) hx hb dn_d_Line_isRight_31 (by decide) ?_
      exact W.zret (ty := .boolean) (v := 1) hx hb hr (rfl) (fun t ht hW => ⟨_, rfl, (by rw [decide_eq_true h27]; rfl), ht⟩) (fun q h => by cases h) dn_d_Line_isRight_35

set_option maxHeartbeats 4000000 in
set_option maxRecDepth 100000 in
theorem cc_allRight (l : Launch) (G : va_G) (cA : Nat → ClassId) (z : Nat → Nat) (hp : Nat) (qv : Nat) (qd : Nat) (fv : Nat → Int32) (fd : Nat → Int32)  : Met l dn_y_Line_isAllRight (.code dn_y_Line_isAllRight dn_c_Line_isAllRight 1 (some .boolean) :: dc_W) ({ frames := 2, cells := 0, slots := 0, locals := 45 }) (dc_pRZ G cA z [(hp, .inr (4, [.ref qv, .ref qd])), (qv, .inl (cA 0, 3, .inl fv)), (qd, .inl (cA 0, 3, .inl fd))] [.ref hp]) (vp_Si (fun r => r = dc_bI (dc_allRight fv fd))) 0 0 (fun _ => False) := by
  refine Met.ofW (cc := dn_c_Line_isAllRight) (maxL := 1) (ret := (some .boolean)) (by decide) rfl ?_
  intro p9 en9 s m args9 below9 meth9 cd9 s9 B hml hv
  obtain ⟨rfl, hP, hK0, hZ⟩ := hv
  have hx := B.exec
  have hb := B.bytes
  have hr := B.returns
  have hts : ∀ w ∈ dc_W, w.before _ s = true := fun w h => atoms_spec (ws := (.code dn_y_Line_isAllRight dn_c_Line_isAllRight 1 (some .boolean) :: dc_W)) B.pre w (List.mem_cons_of_mem _ h)
  have hK := hK0.1
  have hN := hK0.2
  have hown : s.vm.findClass dn_R_Line = some m.cls := findClass_of_methodNamed B.named
  have hlocks := B.notSynchronized
  have hS : va_S (fun _ => False) s.heap s.heap [] := va_S.rf
  have hl := lv_entry ([.ref hp]) (n := 1) (Nat.le_of_ble_eq_true rfl)
  rw [lg_entry_eq]
  generalize (lg_sl ([.ref hp]) ++ List.replicate (1 - (lg_sl ([.ref hp])).length) Slot.unset).toArray = ls at hl ⊢
  have hl : lv_has ls 1 [(0, .ref hp)] := hl
  refine lv_aload_n hx hb dn_d_Line_isAllRight_0 rfl (lv_at hl 0 rfl) ?_
  refine lv_iconst (v := 0) hx hb dn_d_Line_isAllRight_1 (by decide) ?_
  refine vp_callSi (va_Run.run (va_runV (b := hp) (As := [.int 0]) (rest := []) ⟨hx, hb, hml, hown, hts⟩ (cc_isRight l G cA z hp qv qd fv fd 0 (by first | assumption | omega)) ⟨(callB_of 1 hts (dc_good dn_w_401) rfl rfl rfl (hts _ dn_w_6) (hts _ dn_w_398) (by decide +kernel) ⟨Nat.le_of_ble_eq_true rfl, Nat.le_of_ble_eq_true rfl⟩), (hts _ dn_w_399), (hts _ dn_w_400)⟩ (dc_preVRZ (hP.sub [0, 1, 2] rfl) hK0 (q0 := 0) rfl rfl hZ hS) rfl rfl hl.1 rfl (lv_room (Nat.le_of_ble_eq_true rfl)) dn_d_Line_isAllRight_2 ⟨Nat.le_of_ble_eq_true rfl, Nat.le_of_ble_eq_true rfl⟩)) (fun r9 hr9 => ?_)
  subst hr9
  refine lv_if_eq (tgt := 28) hx hb dn_d_Line_isAllRight_5 (by decide) (fun h5 => ?_) (fun h5 => ?_)
  · -- 5: (decide (fd 0 = dc_rd (fv 0) (dc_wd 0))) = false
    have h5 : (decide (fd 0 = dc_rd (fv 0) (dc_wd 0))) = false := dc_bI0.1 h5
    refine lv_iconst (v := 0) hx hb dn_d_Line_isAllRight_28 (by decide) ?_
    exact W.zret (ty := .boolean) (v := 0) hx hb hr (rfl) (fun t ht hW => ⟨_, rfl, (by rw [show dc_allRight fv fd = false from by simp only [dc_allRight, h5]; rfl]; rfl), ht⟩) (fun q h => by cases h) dn_d_Line_isAllRight_29
  · -- 5: (decide (fd 0 = dc_rd (fv 0) (dc_wd 0))) = true
    have h5 : (decide (fd 0 = dc_rd (fv 0) (dc_wd 0))) = true := dc_bI1.1 h5
    refine lv_aload_n hx hb dn_d_Line_isAllRight_8 rfl (lv_at hl 0 rfl) ?_
    refine lv_iconst (v := 1) hx hb dn_d_Line_isAllRight_9 (by decide) ?_
    refine vp_callSi (va_Run.run (va_runV (b := hp) (As := [.int 1]) (rest := []) ⟨hx, hb, hml, hown, hts⟩ (cc_isRight l G cA z hp qv qd fv fd 1 (by first | assumption | omega)) ⟨(callB_of 1 hts (dc_good dn_w_401) rfl rfl rfl (hts _ dn_w_6) (hts _ dn_w_398) (by decide +kernel) ⟨Nat.le_of_ble_eq_true rfl, Nat.le_of_ble_eq_true rfl⟩), (hts _ dn_w_399), (hts _ dn_w_400)⟩ (dc_preVRZ (hP.sub [0, 1, 2] rfl) hK0 (q0 := 0) rfl rfl hZ hS) rfl rfl hl.1 rfl (lv_room (Nat.le_of_ble_eq_true rfl)) dn_d_Line_isAllRight_10 ⟨Nat.le_of_ble_eq_true rfl, Nat.le_of_ble_eq_true rfl⟩)) (fun r9 hr9 => ?_)
    subst hr9
    refine lv_if_eq (tgt := 28) hx hb dn_d_Line_isAllRight_13 (by decide) (fun h13 => ?_) (fun h13 => ?_)
    · -- 13: (decide (fd 1 = dc_rd (fv 1) (dc_wd 1))) = false
      have h13 : (decide (fd 1 = dc_rd (fv 1) (dc_wd 1))) = false := dc_bI0.1 h13
      refine lv_iconst (v := 0) hx hb dn_d_Line_isAllRight_28 (by decide) ?_
      exact W.zret (ty := .boolean) (v := 0) hx hb hr (rfl) (fun t ht hW => ⟨_, rfl, (by rw [show dc_allRight fv fd = false from by simp only [dc_allRight, h5, h13]; rfl]; rfl), ht⟩) (fun q h => by cases h) dn_d_Line_isAllRight_29
    · -- 13: (decide (fd 1 = dc_rd (fv 1) (dc_wd 1))) = true
      have h13 : (decide (fd 1 = dc_rd (fv 1) (dc_wd 1))) = true := dc_bI1.1 h13
      refine lv_aload_n hx hb dn_d_Line_isAllRight_16 rfl (lv_at hl 0 rfl) ?_
      refine lv_iconst (v := 2) hx hb dn_d_Line_isAllRight_17 (by decide) ?_
      refine vp_callSi (va_Run.run (va_runV (b := hp) (As := [.int 2]) (rest := []) ⟨hx, hb, hml, hown, hts⟩ (cc_isRight l G cA z hp qv qd fv fd 2 (by first | assumption | omega)) ⟨(callB_of 1 hts (dc_good dn_w_401) rfl rfl rfl (hts _ dn_w_6) (hts _ dn_w_398) (by decide +kernel) ⟨Nat.le_of_ble_eq_true rfl, Nat.le_of_ble_eq_true rfl⟩), (hts _ dn_w_399), (hts _ dn_w_400)⟩ (dc_preVRZ (hP.sub [0, 1, 2] rfl) hK0 (q0 := 0) rfl rfl hZ hS) rfl rfl hl.1 rfl (lv_room (Nat.le_of_ble_eq_true rfl)) dn_d_Line_isAllRight_18 ⟨Nat.le_of_ble_eq_true rfl, Nat.le_of_ble_eq_true rfl⟩)) (fun r9 hr9 => ?_)
      subst hr9
      refine lv_if_eq (tgt := 28) hx hb dn_d_Line_isAllRight_21 (by decide) (fun h21 => ?_) (fun h21 => ?_)
      · -- 21: (decide (fd 2 = dc_rd (fv 2) (dc_wd 2))) = false
        have h21 : (decide (fd 2 = dc_rd (fv 2) (dc_wd 2))) = false := dc_bI0.1 h21
        refine lv_iconst (v := 0) hx hb dn_d_Line_isAllRight_28 (by decide) ?_
        exact W.zret (ty := .boolean) (v := 0) hx hb hr (rfl) (fun t ht hW => ⟨_, rfl, (by rw [show dc_allRight fv fd = false from by simp only [dc_allRight, h5, h13, h21]; rfl]; rfl), ht⟩) (fun q h => by cases h) dn_d_Line_isAllRight_29
      · -- 21: (decide (fd 2 = dc_rd (fv 2) (dc_wd 2))) = true
        have h21 : (decide (fd 2 = dc_rd (fv 2) (dc_wd 2))) = true := dc_bI1.1 h21
        refine lv_iconst (v := 1) hx hb dn_d_Line_isAllRight_24 (by decide) ?_
        refine lv_goto (tgt := 29) hx hb dn_d_Line_isAllRight_25 (by decide) ?_
        exact W.zret (ty := .boolean) (v := 1) hx hb hr (rfl) (fun t ht hW => ⟨_, rfl, (by rw [show dc_allRight fv fd = true from by simp only [dc_allRight, h5, h13, h21]; rfl]; rfl), ht⟩) (fun q h => by cases h) dn_d_Line_isAllRight_29

set_option maxHeartbeats 4000000 in
set_option maxRecDepth 100000 in
theorem cc_word (l : Launch) (G : va_G) (cA : Nat → ClassId) (hp : Nat) (qv : Nat) (qd : Nat) (fv : Nat → Int32) (fd : Nat → Int32) (j : Nat) (hj : j < 3) : Met l dn_y_Line_word (.code dn_y_Line_word dn_c_Line_word 2 (some .long) :: dc_W) ({ frames := 1, cells := 0, slots := 0, locals := 20 }) (dc_pR G cA [(hp, .inr (4, [.ref qv, .ref qd])), (qv, .inl (cA 0, 3, .inl fv)), (qd, .inl (cA 0, 3, .inl fd))] [.ref hp, .int (nI j)]) (vp_Sl (fun r => r = dc_word fv fd j)) 0 0 (fun _ => False) := by
  refine Met.ofW (cc := dn_c_Line_word) (maxL := 2) (ret := (some .long)) (by decide) rfl ?_
  intro p9 en9 s m args9 below9 meth9 cd9 s9 B hml hv
  obtain ⟨rfl, hP, hK0⟩ := hv
  have hx := B.exec
  have hb := B.bytes
  have hr := B.returns
  have hts : ∀ w ∈ dc_W, w.before _ s = true := fun w h => atoms_spec (ws := (.code dn_y_Line_word dn_c_Line_word 2 (some .long) :: dc_W)) B.pre w (List.mem_cons_of_mem _ h)
  have hK := hK0.1
  have hN := hK0.2
  have hown : s.vm.findClass dn_R_Line = some m.cls := findClass_of_methodNamed B.named
  have hlocks := B.notSynchronized
  have hl := lv_entry ([.ref hp, .int (nI j)]) (n := 2) (Nat.le_of_ble_eq_true rfl)
  rw [lg_entry_eq]
  generalize (lg_sl ([.ref hp, .int (nI j)]) ++ List.replicate (2 - (lg_sl ([.ref hp, .int (nI j)])).length) Slot.unset).toArray = ls at hl ⊢
  have hl : lv_has ls 2 [(0, .ref hp), (1, .int (nI j))] := hl
  refine lv_iload_n hx hb dn_d_Line_word_0 rfl (lv_at hl 1 rfl) ?_
  refine vp_callSi (va_Run.run (va_runS (As := [.int (nI j)]) (rest := []) ⟨hx, hb, hml, hown, hts⟩ (cc_isField l (nI j) ) ⟨(callB_of 1 hts (dc_good dn_w_105) rfl rfl rfl (hts _ dn_w_6) (hts _ dn_w_103) (by decide +kernel) ⟨Nat.le_of_ble_eq_true rfl, Nat.le_of_ble_eq_true rfl⟩), (hts _ dn_w_104)⟩ preEq rfl rfl hl.1 rfl (lv_room (Nat.le_of_ble_eq_true rfl)) dn_d_Line_word_1 ⟨Nat.le_of_ble_eq_true rfl, Nat.le_of_ble_eq_true rfl⟩)) (fun r9 hr9 => ?_)
  subst hr9
  refine lv_if_eq (tgt := 29) hx hb dn_d_Line_word_4 (by decide) (fun h4 => ?_) (fun h4 => ?_)
  · exact absurd (show (dc_has 3 (nI j)) = false from dc_bI0.1 h4) (by rw [dc_hasN (by omega) (by decide)]; decide)
  · -- 4: (dc_has 3 (nI j)) = true
    have h4 : (dc_has 3 (nI j)) = true := dc_bI1.1 h4
    refine lv_aload_n hx hb dn_d_Line_word_7 rfl (lv_at hl 0 rfl) ?_
    refine va_get (D := G) (ci := 4) (v := .ref qv) (C := dn_R_Line) (T := dn_T_Line) (N := 2) hx hb hts (dn_u_Line) hown hK hP 0 rfl rfl 0 (by decide) (hts _ dn_w_91) (fun _ h9 => h9) rfl dn_d_Line_word_8 ?_
    refine lv_iload_n hx hb dn_d_Line_word_11 rfl (lv_at hl 1 rfl) ?_
    refine dc_iald (k := j) hx hb hK hP 1 rfl (by omega) (by omega) dn_d_Line_word_12 ?_
    refine lv_i2l (v := (fv j).toInt64) hx hb dn_d_Line_word_13 rfl ?_
    refine lv_ldc2 (v := 10) hx hb hown (hts _ dn_w_130) dn_d_Line_word_14 ?_
    refine lv_lmul hx hb dn_d_Line_word_17 ?_
    refine lv_aload_n hx hb dn_d_Line_word_18 rfl (lv_at hl 0 rfl) ?_
    refine va_get (D := G) (ci := 4) (v := .ref qd) (C := dn_R_Line) (T := dn_T_Line) (N := 2) hx hb hts (dn_u_Line) hown hK hP 0 rfl rfl 1 (by decide) (hts _ dn_w_92) (fun _ h9 => h9) rfl dn_d_Line_word_19 ?_
    refine lv_iload_n hx hb dn_d_Line_word_22 rfl (lv_at hl 1 rfl) ?_
    refine dc_iald (k := j) hx hb hK hP 2 rfl (by omega) (by omega) dn_d_Line_word_23 ?_
    refine lv_i2l (v := (fd j).toInt64) hx hb dn_d_Line_word_24 rfl ?_
    refine lv_ladd hx hb dn_d_Line_word_25 ?_
    refine lv_goto (tgt := 30) hx hb dn_d_Line_word_26 (by decide) ?_
    exact W.lret (v := ((((fv j).toInt64) * (10 : Int64)) + ((fd j).toInt64))) hx hb hr (fun t ht hW => ⟨_, rfl, (rfl), ht⟩) (fun q h => by cases h) dn_d_Line_word_30

set_option maxHeartbeats 4000000 in
set_option maxRecDepth 100000 in
theorem cc_lseed (l : Launch) (G : va_G) (cA : Nat → ClassId) (hp : Nat) (qv : Nat) (qd : Nat) (fv : Nat → Int32) (fd : Nat → Int32)  : Met l dn_y_Line_seed (.code dn_y_Line_seed dn_c_Line_seed 1 (some .long) :: dc_W) ({ frames := 3, cells := 0, slots := 0, locals := 73 }) (dc_pR G cA [(hp, .inr (4, [.ref qv, .ref qd])), (qv, .inl (cA 0, 3, .inl fv)), (qd, .inl (cA 0, 3, .inl fd))] [.ref hp]) (vp_Sl (fun r => r = dc_seed fv fd)) 0 0 (fun _ => False) := by
  refine Met.ofW (cc := dn_c_Line_seed) (maxL := 1) (ret := (some .long)) (by decide) rfl ?_
  intro p9 en9 s m args9 below9 meth9 cd9 s9 B hml hv
  obtain ⟨rfl, hP, hK0⟩ := hv
  have hx := B.exec
  have hb := B.bytes
  have hr := B.returns
  have hts : ∀ w ∈ dc_W, w.before _ s = true := fun w h => atoms_spec (ws := (.code dn_y_Line_seed dn_c_Line_seed 1 (some .long) :: dc_W)) B.pre w (List.mem_cons_of_mem _ h)
  have hK := hK0.1
  have hN := hK0.2
  have hown : s.vm.findClass dn_R_Line = some m.cls := findClass_of_methodNamed B.named
  have hlocks := B.notSynchronized
  have hl := lv_entry ([.ref hp]) (n := 1) (Nat.le_of_ble_eq_true rfl)
  rw [lg_entry_eq]
  generalize (lg_sl ([.ref hp]) ++ List.replicate (1 - (lg_sl ([.ref hp])).length) Slot.unset).toArray = ls at hl ⊢
  have hl : lv_has ls 1 [(0, .ref hp)] := hl
  refine lv_aload_n hx hb dn_d_Line_seed_0 rfl (lv_at hl 0 rfl) ?_
  refine lv_iconst (v := 0) hx hb dn_d_Line_seed_1 (by decide) ?_
  refine vp_callSl (va_Run.run (va_runV (b := hp) (As := [.int 0]) (rest := []) ⟨hx, hb, hml, hown, hts⟩ (cc_word l G cA hp qv qd fv fd 0 (by first | assumption | omega)) ⟨(callB_of 1 hts (dc_good dn_w_129) rfl rfl rfl (hts _ dn_w_6) (hts _ dn_w_126) (by decide +kernel) ⟨Nat.le_of_ble_eq_true rfl, Nat.le_of_ble_eq_true rfl⟩), (hts _ dn_w_127), (hts _ dn_w_128)⟩ (dc_preVR (hP.sub [0, 1, 2] rfl) hK0 (q0 := 0) rfl rfl) rfl rfl hl.1 rfl (lv_room (Nat.le_of_ble_eq_true rfl)) dn_d_Line_seed_2 ⟨Nat.le_of_ble_eq_true rfl, Nat.le_of_ble_eq_true rfl⟩)) (fun r9 hr9 => ?_)
  subst hr9
  refine lv_aload_n hx hb dn_d_Line_seed_5 rfl (lv_at hl 0 rfl) ?_
  refine lv_iconst (v := 1) hx hb dn_d_Line_seed_6 (by decide) ?_
  refine vp_callSl (va_Run.run (va_runV (b := hp) (As := [.int 1]) (rest := [.long (dc_word fv fd 0)]) ⟨hx, hb, hml, hown, hts⟩ (cc_word l G cA hp qv qd fv fd 1 (by first | assumption | omega)) ⟨(callB_of 1 hts (dc_good dn_w_129) rfl rfl rfl (hts _ dn_w_6) (hts _ dn_w_126) (by decide +kernel) ⟨Nat.le_of_ble_eq_true rfl, Nat.le_of_ble_eq_true rfl⟩), (hts _ dn_w_127), (hts _ dn_w_128)⟩ (dc_preVR (hP.sub [0, 1, 2] rfl) hK0 (q0 := 0) rfl rfl) rfl rfl hl.1 rfl (lv_room (Nat.le_of_ble_eq_true rfl)) dn_d_Line_seed_7 ⟨Nat.le_of_ble_eq_true rfl, Nat.le_of_ble_eq_true rfl⟩)) (fun r9 hr9 => ?_)
  subst hr9
  refine lv_aload_n hx hb dn_d_Line_seed_10 rfl (lv_at hl 0 rfl) ?_
  refine lv_iconst (v := 2) hx hb dn_d_Line_seed_11 (by decide) ?_
  refine vp_callSl (va_Run.run (va_runV (b := hp) (As := [.int 2]) (rest := [.long (dc_word fv fd 1), .long (dc_word fv fd 0)]) ⟨hx, hb, hml, hown, hts⟩ (cc_word l G cA hp qv qd fv fd 2 (by first | assumption | omega)) ⟨(callB_of 1 hts (dc_good dn_w_129) rfl rfl rfl (hts _ dn_w_6) (hts _ dn_w_126) (by decide +kernel) ⟨Nat.le_of_ble_eq_true rfl, Nat.le_of_ble_eq_true rfl⟩), (hts _ dn_w_127), (hts _ dn_w_128)⟩ (dc_preVR (hP.sub [0, 1, 2] rfl) hK0 (q0 := 0) rfl rfl) rfl rfl hl.1 rfl (lv_room (Nat.le_of_ble_eq_true rfl)) dn_d_Line_seed_12 ⟨Nat.le_of_ble_eq_true rfl, Nat.le_of_ble_eq_true rfl⟩)) (fun r9 hr9 => ?_)
  subst hr9
  refine vp_callSl (va_Run.run (va_runS (As := [.long (dc_word fv fd 0), .long (dc_word fv fd 1), .long (dc_word fv fd 2)]) (rest := []) ⟨hx, hb, hml, hown, hts⟩ (cc_dig3 l (dc_word fv fd 0) (dc_word fv fd 1) (dc_word fv fd 2) ) ⟨(callB_of 3 hts (dc_good dn_w_133) rfl rfl rfl (hts _ dn_w_8) (hts _ dn_w_131) (by decide +kernel) ⟨Nat.le_of_ble_eq_true rfl, Nat.le_of_ble_eq_true rfl⟩), (hts _ dn_w_132)⟩ preEq rfl rfl hl.1 rfl (lv_room (Nat.le_of_ble_eq_true rfl)) dn_d_Line_seed_15 ⟨Nat.le_of_ble_eq_true rfl, Nat.le_of_ble_eq_true rfl⟩)) (fun r9 hr9 => ?_)
  subst hr9
  exact W.lret (v := (dc_dig3 (dc_word fv fd 0) (dc_word fv fd 1) (dc_word fv fd 2))) hx hb hr (fun t ht hW => ⟨_, rfl, (rfl), ht⟩) (fun q h => by cases h) dn_d_Line_seed_18

set_option maxHeartbeats 4000000 in
set_option maxRecDepth 100000 in
theorem cc_isIn (l : Launch) (G : va_G) (cA : Nat → ClassId) (hp : Nat) (qv : Nat) (qd : Nat) (fv : Nat → Int32) (fd : Nat → Int32) (w : Nat → Int64) (n : Nat) (cap : Nat) (h0 : Nat) (q : Nat) (hn : n ≤ cap) (hc : cap < 2147483648) : Met l dn_y_Line_isIn (.code dn_y_Line_isIn dn_c_Line_isIn 2 (some .boolean) :: dc_W) ({ frames := 2, cells := 0, slots := 0, locals := 42 }) (dc_pR G cA [(hp, .inr (4, [.ref qv, .ref qd])), (qv, .inl (cA 0, 3, .inl fv)), (qd, .inl (cA 0, 3, .inl fd)), (h0, .inr (5, [.ref q, .int (nI n)])), (q, .inl (cA 1, cap, .inr (.inl w)))] [.ref hp, .ref h0]) (vp_Si (fun r => r = dc_bI (dc_isIn fv fd w n))) 0 0 (fun _ => False) := by
  refine Met.ofW (cc := dn_c_Line_isIn) (maxL := 2) (ret := (some .boolean)) (by decide) rfl ?_
  intro p9 en9 s m args9 below9 meth9 cd9 s9 B hml hv
  obtain ⟨rfl, hP, hK0⟩ := hv
  have hx := B.exec
  have hb := B.bytes
  have hr := B.returns
  have hts : ∀ w ∈ dc_W, w.before _ s = true := fun w h => atoms_spec (ws := (.code dn_y_Line_isIn dn_c_Line_isIn 2 (some .boolean) :: dc_W)) B.pre w (List.mem_cons_of_mem _ h)
  have hK := hK0.1
  have hN := hK0.2
  have hown : s.vm.findClass dn_R_Line = some m.cls := findClass_of_methodNamed B.named
  have hlocks := B.notSynchronized
  have hl := lv_entry ([.ref hp, .ref h0]) (n := 2) (Nat.le_of_ble_eq_true rfl)
  rw [lg_entry_eq]
  generalize (lg_sl ([.ref hp, .ref h0]) ++ List.replicate (2 - (lg_sl ([.ref hp, .ref h0])).length) Slot.unset).toArray = ls at hl ⊢
  have hl : lv_has ls 2 [(0, .ref hp), (1, .ref h0)] := hl
  refine lv_aload_n hx hb dn_d_Line_isIn_0 rfl (lv_at hl 1 rfl) ?_
  refine vp_callSi (va_Run.run (va_runV (b := h0) (As := []) (rest := []) ⟨hx, hb, hml, hown, hts⟩ (cc_size l G cA w n cap h0 q ) ⟨(callB_of 0 hts (dc_good dn_w_334) rfl rfl rfl (hts _ dn_w_2) (hts _ dn_w_562) (by decide +kernel) ⟨Nat.le_of_ble_eq_true rfl, Nat.le_of_ble_eq_true rfl⟩), (hts _ dn_w_332), (hts _ dn_w_333)⟩ (dc_preVR (hP.sub [3, 4] rfl) hK0 (q0 := 0) rfl rfl) rfl rfl hl.1 rfl (lv_room (Nat.le_of_ble_eq_true rfl)) dn_d_Line_isIn_1 ⟨Nat.le_of_ble_eq_true rfl, Nat.le_of_ble_eq_true rfl⟩)) (fun r9 hr9 => ?_)
  subst hr9
  refine lv_iconst (v := 3) hx hb dn_d_Line_isIn_4 (by decide) ?_
  refine lv_icmp_ne (tgt := 54) hx hb dn_d_Line_isIn_5 (by decide) (fun h5 => ?_) (fun h5 => ?_)
  · -- 5: ¬ n = 3
    have h5 : ¬ n = 3 := fun z => h5 ((nI_eq (a := n) (b := 3) (by omega) (by omega)).2 z)
    refine lv_iconst (v := 0) hx hb dn_d_Line_isIn_54 (by decide) ?_
    exact W.zret (ty := .boolean) (v := 0) hx hb hr (rfl) (fun t ht hW => ⟨_, rfl, (by rw [show dc_isIn fv fd w n = false from decide_eq_false (fun z9 => h5 z9.1)]; rfl), ht⟩) (fun q h => by cases h) dn_d_Line_isIn_55
  · -- 5: n = 3
    have h5 : n = 3 := (nI_eq (a := n) (b := 3) (by omega) (by omega)).1 h5
    refine lv_aload_n hx hb dn_d_Line_isIn_8 rfl (lv_at hl 1 rfl) ?_
    refine lv_iconst (v := 0) hx hb dn_d_Line_isIn_9 (by decide) ?_
    refine vp_callSl (va_Run.run (va_runV (b := h0) (As := [.int 0]) (rest := []) ⟨hx, hb, hml, hown, hts⟩ (cc_get l G cA w n cap h0 q 0 (by first | assumption | omega) (by first | assumption | omega)) ⟨(callB_of 1 hts (dc_good dn_w_338) rfl rfl rfl (hts _ dn_w_2) (hts _ dn_w_563) (by decide +kernel) ⟨Nat.le_of_ble_eq_true rfl, Nat.le_of_ble_eq_true rfl⟩), (hts _ dn_w_336), (hts _ dn_w_337)⟩ (dc_preVR (hP.sub [3, 4] rfl) hK0 (q0 := 0) rfl rfl) rfl rfl hl.1 rfl (lv_room (Nat.le_of_ble_eq_true rfl)) dn_d_Line_isIn_10 ⟨Nat.le_of_ble_eq_true rfl, Nat.le_of_ble_eq_true rfl⟩)) (fun r9 hr9 => ?_)
    subst hr9
    refine lv_aload_n hx hb dn_d_Line_isIn_13 rfl (lv_at hl 0 rfl) ?_
    refine lv_iconst (v := 0) hx hb dn_d_Line_isIn_14 (by decide) ?_
    refine vp_callSl (va_Run.run (va_runV (b := hp) (As := [.int 0]) (rest := [.long (dc_get w n 0)]) ⟨hx, hb, hml, hown, hts⟩ (cc_word l G cA hp qv qd fv fd 0 (by first | assumption | omega)) ⟨(callB_of 1 hts (dc_good dn_w_129) rfl rfl rfl (hts _ dn_w_6) (hts _ dn_w_126) (by decide +kernel) ⟨Nat.le_of_ble_eq_true rfl, Nat.le_of_ble_eq_true rfl⟩), (hts _ dn_w_127), (hts _ dn_w_128)⟩ (dc_preVR (hP.sub [0, 1, 2] rfl) hK0 (q0 := 0) rfl rfl) rfl rfl hl.1 rfl (lv_room (Nat.le_of_ble_eq_true rfl)) dn_d_Line_isIn_15 ⟨Nat.le_of_ble_eq_true rfl, Nat.le_of_ble_eq_true rfl⟩)) (fun r9 hr9 => ?_)
    subst hr9
    refine W.lcmp hx hb dn_d_Line_isIn_18 ?_
    refine lv_if_ne (tgt := 54) hx hb dn_d_Line_isIn_19 (by decide) (fun h19 => ?_) (fun h19 => ?_)
    · -- 19: ¬ (dc_get w n 0) = (dc_word fv fd 0)
      have h19 : ¬ (dc_get w n 0) = (dc_word fv fd 0) := fun z => h19 ((lg_cmp_eq (dc_get w n 0) (dc_word fv fd 0)).2 z)
      refine lv_iconst (v := 0) hx hb dn_d_Line_isIn_54 (by decide) ?_
      exact W.zret (ty := .boolean) (v := 0) hx hb hr (rfl) (fun t ht hW => ⟨_, rfl, (by rw [show dc_isIn fv fd w n = false from decide_eq_false (fun z9 => h19 z9.2.1)]; rfl), ht⟩) (fun q h => by cases h) dn_d_Line_isIn_55
    · -- 19: (dc_get w n 0) = (dc_word fv fd 0)
      have h19 : (dc_get w n 0) = (dc_word fv fd 0) := (lg_cmp_eq (dc_get w n 0) (dc_word fv fd 0)).1 h19
      refine lv_aload_n hx hb dn_d_Line_isIn_22 rfl (lv_at hl 1 rfl) ?_
      refine lv_iconst (v := 1) hx hb dn_d_Line_isIn_23 (by decide) ?_
      refine vp_callSl (va_Run.run (va_runV (b := h0) (As := [.int 1]) (rest := []) ⟨hx, hb, hml, hown, hts⟩ (cc_get l G cA w n cap h0 q 1 (by first | assumption | omega) (by first | assumption | omega)) ⟨(callB_of 1 hts (dc_good dn_w_338) rfl rfl rfl (hts _ dn_w_2) (hts _ dn_w_563) (by decide +kernel) ⟨Nat.le_of_ble_eq_true rfl, Nat.le_of_ble_eq_true rfl⟩), (hts _ dn_w_336), (hts _ dn_w_337)⟩ (dc_preVR (hP.sub [3, 4] rfl) hK0 (q0 := 0) rfl rfl) rfl rfl hl.1 rfl (lv_room (Nat.le_of_ble_eq_true rfl)) dn_d_Line_isIn_24 ⟨Nat.le_of_ble_eq_true rfl, Nat.le_of_ble_eq_true rfl⟩)) (fun r9 hr9 => ?_)
      subst hr9
      refine lv_aload_n hx hb dn_d_Line_isIn_27 rfl (lv_at hl 0 rfl) ?_
      refine lv_iconst (v := 1) hx hb dn_d_Line_isIn_28 (by decide) ?_
      refine vp_callSl (va_Run.run (va_runV (b := hp) (As := [.int 1]) (rest := [.long (dc_get w n 1)]) ⟨hx, hb, hml, hown, hts⟩ (cc_word l G cA hp qv qd fv fd 1 (by first | assumption | omega)) ⟨(callB_of 1 hts (dc_good dn_w_129) rfl rfl rfl (hts _ dn_w_6) (hts _ dn_w_126) (by decide +kernel) ⟨Nat.le_of_ble_eq_true rfl, Nat.le_of_ble_eq_true rfl⟩), (hts _ dn_w_127), (hts _ dn_w_128)⟩ (dc_preVR (hP.sub [0, 1, 2] rfl) hK0 (q0 := 0) rfl rfl) rfl rfl hl.1 rfl (lv_room (Nat.le_of_ble_eq_true rfl)) dn_d_Line_isIn_29 ⟨Nat.le_of_ble_eq_true rfl, Nat.le_of_ble_eq_true rfl⟩)) (fun r9 hr9 => ?_)
      subst hr9
      refine W.lcmp hx hb dn_d_Line_isIn_32 ?_
      refine lv_if_ne (tgt := 54) hx hb dn_d_Line_isIn_33 (by decide) (fun h33 => ?_) (fun h33 => ?_)
      · -- 33: ¬ (dc_get w n 1) = (dc_word fv fd 1)
        have h33 : ¬ (dc_get w n 1) = (dc_word fv fd 1) := fun z => h33 ((lg_cmp_eq (dc_get w n 1) (dc_word fv fd 1)).2 z)
        refine lv_iconst (v := 0) hx hb dn_d_Line_isIn_54 (by decide) ?_
        exact W.zret (ty := .boolean) (v := 0) hx hb hr (rfl) (fun t ht hW => ⟨_, rfl, (by rw [show dc_isIn fv fd w n = false from decide_eq_false (fun z9 => h33 z9.2.2.1)]; rfl), ht⟩) (fun q h => by cases h) dn_d_Line_isIn_55
      · -- 33: (dc_get w n 1) = (dc_word fv fd 1)
        have h33 : (dc_get w n 1) = (dc_word fv fd 1) := (lg_cmp_eq (dc_get w n 1) (dc_word fv fd 1)).1 h33
        refine lv_aload_n hx hb dn_d_Line_isIn_36 rfl (lv_at hl 1 rfl) ?_
        refine lv_iconst (v := 2) hx hb dn_d_Line_isIn_37 (by decide) ?_
        refine vp_callSl (va_Run.run (va_runV (b := h0) (As := [.int 2]) (rest := []) ⟨hx, hb, hml, hown, hts⟩ (cc_get l G cA w n cap h0 q 2 (by first | assumption | omega) (by first | assumption | omega)) ⟨(callB_of 1 hts (dc_good dn_w_338) rfl rfl rfl (hts _ dn_w_2) (hts _ dn_w_563) (by decide +kernel) ⟨Nat.le_of_ble_eq_true rfl, Nat.le_of_ble_eq_true rfl⟩), (hts _ dn_w_336), (hts _ dn_w_337)⟩ (dc_preVR (hP.sub [3, 4] rfl) hK0 (q0 := 0) rfl rfl) rfl rfl hl.1 rfl (lv_room (Nat.le_of_ble_eq_true rfl)) dn_d_Line_isIn_38 ⟨Nat.le_of_ble_eq_true rfl, Nat.le_of_ble_eq_true rfl⟩)) (fun r9 hr9 => ?_)
        subst hr9
        refine lv_aload_n hx hb dn_d_Line_isIn_41 rfl (lv_at hl 0 rfl) ?_
        refine lv_iconst (v := 2) hx hb dn_d_Line_isIn_42 (by decide) ?_
        refine vp_callSl (va_Run.run (va_runV (b := hp) (As := [.int 2]) (rest := [.long (dc_get w n 2)]) ⟨hx, hb, hml, hown, hts⟩ (cc_word l G cA hp qv qd fv fd 2 (by first | assumption | omega)) ⟨(callB_of 1 hts (dc_good dn_w_129) rfl rfl rfl (hts _ dn_w_6) (hts _ dn_w_126) (by decide +kernel) ⟨Nat.le_of_ble_eq_true rfl, Nat.le_of_ble_eq_true rfl⟩), (hts _ dn_w_127), (hts _ dn_w_128)⟩ (dc_preVR (hP.sub [0, 1, 2] rfl) hK0 (q0 := 0) rfl rfl) rfl rfl hl.1 rfl (lv_room (Nat.le_of_ble_eq_true rfl)) dn_d_Line_isIn_43 ⟨Nat.le_of_ble_eq_true rfl, Nat.le_of_ble_eq_true rfl⟩)) (fun r9 hr9 => ?_)
        subst hr9
        refine W.lcmp hx hb dn_d_Line_isIn_46 ?_
        refine lv_if_ne (tgt := 54) hx hb dn_d_Line_isIn_47 (by decide) (fun h47 => ?_) (fun h47 => ?_)
        · -- 47: ¬ (dc_get w n 2) = (dc_word fv fd 2)
          have h47 : ¬ (dc_get w n 2) = (dc_word fv fd 2) := fun z => h47 ((lg_cmp_eq (dc_get w n 2) (dc_word fv fd 2)).2 z)
          refine lv_iconst (v := 0) hx hb dn_d_Line_isIn_54 (by decide) ?_
          exact W.zret (ty := .boolean) (v := 0) hx hb hr (rfl) (fun t ht hW => ⟨_, rfl, (by rw [show dc_isIn fv fd w n = false from decide_eq_false (fun z9 => h47 z9.2.2.2)]; rfl), ht⟩) (fun q h => by cases h) dn_d_Line_isIn_55
        · -- 47: (dc_get w n 2) = (dc_word fv fd 2)
          have h47 : (dc_get w n 2) = (dc_word fv fd 2) := (lg_cmp_eq (dc_get w n 2) (dc_word fv fd 2)).1 h47
          refine lv_iconst (v := 1) hx hb dn_d_Line_isIn_50 (by decide) ?_
          refine lv_goto (tgt := 55) hx hb dn_d_Line_isIn_51 (by decide) ?_
          exact W.zret (ty := .boolean) (v := 1) hx hb hr (rfl) (fun t ht hW => ⟨_, rfl, (by rw [show dc_isIn fv fd w n = true from decide_eq_true ⟨h5, h19, h33, h47⟩]; rfl), ht⟩) (fun q h => by cases h) dn_d_Line_isIn_55
