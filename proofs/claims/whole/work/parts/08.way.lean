set_option maxHeartbeats 4000000 in
set_option maxRecDepth 100000 in
theorem cc_wFull (l : Launch) (G : va_G) (cA : Nat → ClassId) (hw : Nat) (ya : Nat) (yb : Nat) (ym : Nat) (fa : Nat → Int32) (fb : Nat → Int32) (fm : Nat → Int64) (t : Nat) (c : Int32) (ht : t ≤ 3) : Met l dn_y_Way_isFull (.code dn_y_Way_isFull dn_c_Way_isFull 1 (some .boolean) :: dc_W) ({ frames := 0, cells := 0, slots := 0, locals := 0 }) (dc_pR G cA [(hw, .inr (8, [.ref ya, .ref yb, .ref ym, .int (nI t), .int c])), (ya, .inl (cA 0, 3, .inl fa)), (yb, .inl (cA 0, 3, .inl fb)), (ym, .inl (cA 1, 3, .inr (.inl fm)))] [.ref hw]) (vp_Si (fun r => r = dc_bI (decide (3 ≤ t)))) 0 0 (fun _ => False) := by
  refine Met.ofW (cc := dn_c_Way_isFull) (maxL := 1) (ret := (some .boolean)) (by decide) rfl ?_
  intro p9 en9 s m args9 below9 meth9 cd9 s9 B hml hv
  obtain ⟨rfl, hP, hK0⟩ := hv
  have hx := B.exec
  have hb := B.bytes
  have hr := B.returns
  have hts : ∀ w ∈ dc_W, w.before _ s = true := fun w h => atoms_spec (ws := (.code dn_y_Way_isFull dn_c_Way_isFull 1 (some .boolean) :: dc_W)) B.pre w (List.mem_cons_of_mem _ h)
  have hK := hK0.1
  have hN := hK0.2
  have hown : s.vm.findClass dn_R_Way = some m.cls := findClass_of_methodNamed B.named
  have hlocks := B.notSynchronized
  have hl := lv_entry ([.ref hw]) (n := 1) (Nat.le_of_ble_eq_true rfl)
  rw [lg_entry_eq]
  generalize (lg_sl ([.ref hw]) ++ List.replicate (1 - (lg_sl ([.ref hw])).length) Slot.unset).toArray = ls at hl ⊢
  have hl : lv_has ls 1 [(0, .ref hw)] := hl
  refine lv_aload_n hx hb dn_d_Way_isFull_0 rfl (lv_at hl 0 rfl) ?_
  refine va_get (D := G) (ci := 8) (v := .int (nI t)) (C := dn_R_Way) (T := dn_T_Way) (N := 5) hx hb hts (dn_u_Way) hown hK hP 0 rfl rfl 3 (by decide) (hts _ dn_w_219) (fun _ h9 => h9) rfl dn_d_Way_isFull_1 ?_
  refine lv_iconst (v := 3) hx hb dn_d_Way_isFull_4 (by decide) ?_
  refine lv_icmp_lt (tgt := 12) hx hb dn_d_Way_isFull_5 (by decide) (fun h5 => ?_) (fun h5 => ?_)
  · -- 5: t < 3
    have h5 : t < 3 := (nI_ltI (a := t) (b := 3) (by omega) (by omega)).1 h5
    refine lv_iconst (v := 0) hx hb dn_d_Way_isFull_12 (by decide) ?_
    exact W.zret (ty := .boolean) (v := 0) hx hb hr (rfl) (fun t ht hW => ⟨_, rfl, (by first | rfl | (simp [dc_bI]; omega)), ht⟩) (fun q h => by cases h) dn_d_Way_isFull_13
  · -- 5: ¬ t < 3
    have h5 : ¬ t < 3 := fun z => h5 ((nI_ltI (a := t) (b := 3) (by omega) (by omega)).2 z)
    refine lv_iconst (v := 1) hx hb dn_d_Way_isFull_8 (by decide) ?_
    refine lv_goto (tgt := 13) hx hb dn_d_Way_isFull_9 (by decide) ?_
    exact W.zret (ty := .boolean) (v := 1) hx hb hr (rfl) (fun t ht hW => ⟨_, rfl, (by first | rfl | (simp [dc_bI]; omega)), ht⟩) (fun q h => by cases h) dn_d_Way_isFull_13

set_option maxHeartbeats 4000000 in
set_option maxRecDepth 100000 in
theorem cc_tell (l : Launch) (G : va_G) (cA : Nat → ClassId) (hw : Nat) (ya : Nat) (yb : Nat) (ym : Nat) (fa : Nat → Int32) (fb : Nat → Int32) (fm : Nat → Int64) (t : Nat) (c : Int32) (mm : Int32) (ii : Int32) (x : Int64) (ht : t < 3) (sz : Nat) : Met l dn_y_Way_tell (.code dn_y_Way_tell dn_c_Way_tell 5 (some .int) :: dc_W) ({ frames := 1, cells := 0, slots := 0, locals := 20 }) (dc_pW G cA [(hw, .inr (8, [.ref ya, .ref yb, .ref ym, .int (nI t), .int c])), (ya, .inl (cA 0, 3, .inl fa)), (yb, .inl (cA 0, 3, .inl fb)), (ym, .inl (cA 1, 3, .inr (.inl fm)))] sz [.ref hw, .int mm, .int ii, .long x]) (dc_qi G (fun (r : Int32) (_ : Unit) => r = nI (t + 1)) (fun (_ : Unit) => [(hw, .inr (8, [.ref ya, .ref yb, .ref ym, .int (nI (t + 1)), .int c])), (ya, .inl (cA 0, 3, .inl (upd fa t mm))), (yb, .inl (cA 0, 3, .inl (upd fb t ii))), (ym, .inl (cA 1, 3, .inr (.inl (vp_updL fm t x))))]) sz [(hw, .inr (8, [.ref ya, .ref yb, .ref ym, .int (nI t), .int c])), (ya, .inl (cA 0, 3, .inl fa)), (yb, .inl (cA 0, 3, .inl fb)), (ym, .inl (cA 1, 3, .inr (.inl fm)))]) 0 0 (va_A [(hw, .inr (8, [.ref ya, .ref yb, .ref ym, .int (nI t), .int c])), (ya, .inl (cA 0, 3, .inl fa)), (yb, .inl (cA 0, 3, .inl fb)), (ym, .inl (cA 1, 3, .inr (.inl fm)))] sz) := by
  refine Met.ofW (cc := dn_c_Way_tell) (maxL := 5) (ret := (some .int)) (by decide) rfl ?_
  intro p9 en9 s m args9 below9 meth9 cd9 s9 B hml hv
  obtain ⟨rfl, hsz, hP, hK0, hD0⟩ := hv
  have hx := B.exec
  have hb := B.bytes
  have hr := B.returns
  have hts : ∀ w ∈ dc_W, w.before _ s = true := fun w h => atoms_spec (ws := (.code dn_y_Way_tell dn_c_Way_tell 5 (some .int) :: dc_W)) B.pre w (List.mem_cons_of_mem _ h)
  have hK := hK0.1
  have hN := hK0.2
  have hown : s.vm.findClass dn_R_Way = some m.cls := findClass_of_methodNamed B.named
  have hlocks := B.notSynchronized
  subst hsz
  have hD := hD0.self (sz := s.heap.size)
  unfold dc_qi
  generalize hAe : va_A [(hw, .inr (8, [.ref ya, .ref yb, .ref ym, .int (nI t), .int c])), (ya, .inl (cA 0, 3, .inl fa)), (yb, .inl (cA 0, 3, .inl fb)), (ym, .inl (cA 1, 3, .inr (.inl fm)))] s.heap.size = A at hD ⊢
  have hA : ∀ q : Nat, s.heap.size ≤ q → A q := fun q h => by rw [← hAe]; exact Or.inr h
  have hS : va_S A s.heap s.heap [] := va_S.rf
  have hl := lv_entry ([.ref hw, .int mm, .int ii, .long x]) (n := 5) (Nat.le_of_ble_eq_true rfl)
  rw [lg_entry_eq]
  generalize (lg_sl ([.ref hw, .int mm, .int ii, .long x]) ++ List.replicate (5 - (lg_sl ([.ref hw, .int mm, .int ii, .long x])).length) Slot.unset).toArray = ls at hl ⊢
  have hl : lv_has ls 5 [(0, .ref hw), (1, .int mm), (2, .int ii), (3, .long x)] := hl
  refine lv_aload_n hx hb dn_d_Way_tell_0 rfl (lv_at hl 0 rfl) ?_
  refine vp_callSi (va_Run.run (va_runV (b := hw) (As := []) (rest := []) ⟨hx, hb, hml, hown, hts⟩ (cc_wFull l G cA hw ya yb ym fa fb fm t c (by first | assumption | omega)) ⟨(callB_of 0 hts (dc_good dn_w_757) rfl rfl rfl (hts _ dn_w_11) (hts _ dn_w_763) (by decide +kernel) ⟨Nat.le_of_ble_eq_true rfl, Nat.le_of_ble_eq_true rfl⟩), (hts _ dn_w_755), (hts _ dn_w_756)⟩ (dc_preVR (hP.sub [0, 1, 2, 3] rfl) hK0 (q0 := 0) rfl rfl) rfl rfl hl.1 rfl (lv_room (Nat.le_of_ble_eq_true rfl)) dn_d_Way_tell_1 ⟨Nat.le_of_ble_eq_true rfl, Nat.le_of_ble_eq_true rfl⟩)) (fun r9 hr9 => ?_)
  subst hr9
  refine lv_if_ne (tgt := 47) hx hb dn_d_Way_tell_4 (by decide) (fun h4 => ?_) (fun h4 => ?_)
  · exact absurd (show (decide (3 ≤ t)) = true from dc_bI1.1 h4) (by simp; omega)
  · -- 4: (decide (3 ≤ t)) = false
    have h4 : (decide (3 ≤ t)) = false := dc_bI0.1 h4
    refine lv_aload_n hx hb dn_d_Way_tell_7 rfl (lv_at hl 0 rfl) ?_
    refine va_get (D := G) (ci := 8) (v := .ref ya) (C := dn_R_Way) (T := dn_T_Way) (N := 5) hx hb hts (dn_u_Way) hown hK hP 0 rfl rfl 0 (by decide) (hts _ dn_w_216) (fun _ h9 => h9) rfl dn_d_Way_tell_8 ?_
    refine lv_aload_n hx hb dn_d_Way_tell_11 rfl (lv_at hl 0 rfl) ?_
    refine va_get (D := G) (ci := 8) (v := .int (nI t)) (C := dn_R_Way) (T := dn_T_Way) (N := 5) hx hb hts (dn_u_Way) hown hK hP 0 rfl rfl 3 (by decide) (hts _ dn_w_219) (fun _ h9 => h9) rfl dn_d_Way_tell_12 ?_
    refine lv_iload_n hx hb dn_d_Way_tell_15 rfl (lv_at hl 1 rfl) ?_
    refine dc_iast (k := t) hx hb hK hP hD hS 1 rfl (by omega) (by omega) dn_d_Way_tell_16 (fun H locs hP hD hS => ?_)
    have hP : va_P G vwCl [(hw, .inr (8, [.ref ya, .ref yb, .ref ym, .int (nI t), .int c])), (ya, .inl (cA 0, 3, .inl (upd fa t mm))), (yb, .inl (cA 0, 3, .inl fb)), (ym, .inl (cA 1, 3, .inr (.inl fm)))] H := hP
    have hD : va_D A [(hw, .inr (8, [.ref ya, .ref yb, .ref ym, .int (nI t), .int c])), (ya, .inl (cA 0, 3, .inl (upd fa t mm))), (yb, .inl (cA 0, 3, .inl fb)), (ym, .inl (cA 1, 3, .inr (.inl fm)))] := hD
    refine lv_aload_n hx hb dn_d_Way_tell_17 rfl (lv_at hl 0 rfl) ?_
    refine va_get (D := G) (ci := 8) (v := .ref yb) (C := dn_R_Way) (T := dn_T_Way) (N := 5) hx hb hts (dn_u_Way) hown hK hP 0 rfl rfl 1 (by decide) (hts _ dn_w_217) (fun _ h9 => h9) rfl dn_d_Way_tell_18 ?_
    refine lv_aload_n hx hb dn_d_Way_tell_21 rfl (lv_at hl 0 rfl) ?_
    refine va_get (D := G) (ci := 8) (v := .int (nI t)) (C := dn_R_Way) (T := dn_T_Way) (N := 5) hx hb hts (dn_u_Way) hown hK hP 0 rfl rfl 3 (by decide) (hts _ dn_w_219) (fun _ h9 => h9) rfl dn_d_Way_tell_22 ?_
    refine lv_iload_n hx hb dn_d_Way_tell_25 rfl (lv_at hl 2 rfl) ?_
    refine dc_iast (k := t) hx hb hK hP hD hS 2 rfl (by omega) (by omega) dn_d_Way_tell_26 (fun H locs hP hD hS => ?_)
    have hP : va_P G vwCl [(hw, .inr (8, [.ref ya, .ref yb, .ref ym, .int (nI t), .int c])), (ya, .inl (cA 0, 3, .inl (upd fa t mm))), (yb, .inl (cA 0, 3, .inl (upd fb t ii))), (ym, .inl (cA 1, 3, .inr (.inl fm)))] H := hP
    have hD : va_D A [(hw, .inr (8, [.ref ya, .ref yb, .ref ym, .int (nI t), .int c])), (ya, .inl (cA 0, 3, .inl (upd fa t mm))), (yb, .inl (cA 0, 3, .inl (upd fb t ii))), (ym, .inl (cA 1, 3, .inr (.inl fm)))] := hD
    refine lv_aload_n hx hb dn_d_Way_tell_27 rfl (lv_at hl 0 rfl) ?_
    refine va_get (D := G) (ci := 8) (v := .ref ym) (C := dn_R_Way) (T := dn_T_Way) (N := 5) hx hb hts (dn_u_Way) hown hK hP 0 rfl rfl 2 (by decide) (hts _ dn_w_218) (fun _ h9 => h9) rfl dn_d_Way_tell_28 ?_
    refine lv_aload_n hx hb dn_d_Way_tell_31 rfl (lv_at hl 0 rfl) ?_
    refine va_get (D := G) (ci := 8) (v := .int (nI t)) (C := dn_R_Way) (T := dn_T_Way) (N := 5) hx hb hts (dn_u_Way) hown hK hP 0 rfl rfl 3 (by decide) (hts _ dn_w_219) (fun _ h9 => h9) rfl dn_d_Way_tell_32 ?_
    refine lv_lload_n hx hb dn_d_Way_tell_35 rfl (lv_at hl 3 rfl) ?_
    refine dc_last (k := t) hx hb hK hP hD hS 3 rfl (by omega) (by omega) dn_d_Way_tell_36 (fun H locs hP hD hS => ?_)
    have hP : va_P G vwCl [(hw, .inr (8, [.ref ya, .ref yb, .ref ym, .int (nI t), .int c])), (ya, .inl (cA 0, 3, .inl (upd fa t mm))), (yb, .inl (cA 0, 3, .inl (upd fb t ii))), (ym, .inl (cA 1, 3, .inr (.inl (vp_updL fm t x))))] H := hP
    have hD : va_D A [(hw, .inr (8, [.ref ya, .ref yb, .ref ym, .int (nI t), .int c])), (ya, .inl (cA 0, 3, .inl (upd fa t mm))), (yb, .inl (cA 0, 3, .inl (upd fb t ii))), (ym, .inl (cA 1, 3, .inr (.inl (vp_updL fm t x))))] := hD
    refine lv_aload_n hx hb dn_d_Way_tell_37 rfl (lv_at hl 0 rfl) ?_
    refine lv_dup hx hb dn_d_Way_tell_38 rfl ?_
    refine va_get (D := G) (ci := 8) (v := .int (nI t)) (C := dn_R_Way) (T := dn_T_Way) (N := 5) hx hb hts (dn_u_Way) hown hK hP 0 rfl rfl 3 (by decide) (hts _ dn_w_219) (fun _ h9 => h9) rfl dn_d_Way_tell_39 ?_
    refine lv_iconst (v := 1) hx hb dn_d_Way_tell_42 (by decide) ?_
    refine lv_iadd hx hb dn_d_Way_tell_43 ?_
    rw [show (nI t) + (1 : Int32) = nI (t + 1) from nI_add t 1]
    refine va_put (D := G) (ci := 8) (v := .int (nI (t + 1))) (ty := (.int)) (C := dn_R_Way) (T := dn_T_Way) (N := 5) hx hb hts (dn_u_Way) dn_t_Way dn_o_Way dn_n_Way hown hK hP hD hS 0 rfl rfl 3 (by decide) (hts _ dn_w_219) (fun _ h9 => h9) rfl (by decide +kernel) rfl rfl (Nat.le_of_ble_eq_true rfl) dn_d_Way_tell_44 (fun H locs hP hD hS => ?_)
    have hP : va_P G vwCl [(hw, .inr (8, [.ref ya, .ref yb, .ref ym, .int (nI (t + 1)), .int c])), (ya, .inl (cA 0, 3, .inl (upd fa t mm))), (yb, .inl (cA 0, 3, .inl (upd fb t ii))), (ym, .inl (cA 1, 3, .inr (.inl (vp_updL fm t x))))] H := hP
    have hD : va_D A [(hw, .inr (8, [.ref ya, .ref yb, .ref ym, .int (nI (t + 1)), .int c])), (ya, .inl (cA 0, 3, .inl (upd fa t mm))), (yb, .inl (cA 0, 3, .inl (upd fb t ii))), (ym, .inl (cA 1, 3, .inr (.inl (vp_updL fm t x))))] := hD
    refine lv_aload_n hx hb dn_d_Way_tell_47 rfl (lv_at hl 0 rfl) ?_
    refine va_get (D := G) (ci := 8) (v := .int (nI (t + 1))) (C := dn_R_Way) (T := dn_T_Way) (N := 5) hx hb hts (dn_u_Way) hown hK hP 0 rfl rfl 3 (by decide) (hts _ dn_w_219) (fun _ h9 => h9) rfl dn_d_Way_tell_48 ?_
    have hP9 := hP.sub (ws' := [(hw, .inr (8, [.ref ya, .ref yb, .ref ym, .int (nI (t + 1)), .int c])), (ya, .inl (cA 0, 3, .inl (upd fa t mm))), (yb, .inl (cA 0, 3, .inl (upd fb t ii))), (ym, .inl (cA 1, 3, .inr (.inl (vp_updL fm t x))))]) [0, 1, 2, 3] rfl
    have hD9 := hD.sub (ws' := [(hw, .inr (8, [.ref ya, .ref yb, .ref ym, .int (nI (t + 1)), .int c])), (ya, .inl (cA 0, 3, .inl (upd fa t mm))), (yb, .inl (cA 0, 3, .inl (upd fb t ii))), (ym, .inl (cA 1, 3, .inr (.inl (vp_updL fm t x))))]) [0, 1, 2, 3] (by decide) rfl
    exact W.iret (v := (nI (t + 1))) hx hb hr (fun t ht hW => ⟨⟨_, (), rfl, (rfl), by rw [ht]; exact hP9, hD9⟩, hS.F ht⟩) hS.2.2 dn_d_Way_tell_51

set_option maxHeartbeats 4000000 in
set_option maxRecDepth 100000 in
theorem cc_wbegin (l : Launch) (G : va_G) (cA : Nat → ClassId) (hw : Nat) (ya : Nat) (yb : Nat) (ym : Nat) (fa : Nat → Int32) (fb : Nat → Int32) (fm : Nat → Int64) (t : Nat) (c : Int32)  (sz : Nat) : Met l dn_y_Way_begin (.code dn_y_Way_begin dn_c_Way_begin 1 none :: dc_W) ({ frames := 0, cells := 0, slots := 0, locals := 0 }) (dc_pW G cA [(hw, .inr (8, [.ref ya, .ref yb, .ref ym, .int (nI t), .int c])), (ya, .inl (cA 0, 3, .inl fa)), (yb, .inl (cA 0, 3, .inl fb)), (ym, .inl (cA 1, 3, .inr (.inl fm)))] sz [.ref hw]) (dc_qv G (fun (_ : Unit) => True) (fun (_ : Unit) => [(hw, .inr (8, [.ref ya, .ref yb, .ref ym, .int (nI t), .int 0])), (ya, .inl (cA 0, 3, .inl fa)), (yb, .inl (cA 0, 3, .inl fb)), (ym, .inl (cA 1, 3, .inr (.inl fm)))]) sz [(hw, .inr (8, [.ref ya, .ref yb, .ref ym, .int (nI t), .int c])), (ya, .inl (cA 0, 3, .inl fa)), (yb, .inl (cA 0, 3, .inl fb)), (ym, .inl (cA 1, 3, .inr (.inl fm)))]) 0 0 (va_A [(hw, .inr (8, [.ref ya, .ref yb, .ref ym, .int (nI t), .int c])), (ya, .inl (cA 0, 3, .inl fa)), (yb, .inl (cA 0, 3, .inl fb)), (ym, .inl (cA 1, 3, .inr (.inl fm)))] sz) := by
  refine Met.ofW (cc := dn_c_Way_begin) (maxL := 1) (ret := none) (by decide) rfl ?_
  intro p9 en9 s m args9 below9 meth9 cd9 s9 B hml hv
  obtain ⟨rfl, hsz, hP, hK0, hD0⟩ := hv
  have hx := B.exec
  have hb := B.bytes
  have hr := B.returns
  have hts : ∀ w ∈ dc_W, w.before _ s = true := fun w h => atoms_spec (ws := (.code dn_y_Way_begin dn_c_Way_begin 1 none :: dc_W)) B.pre w (List.mem_cons_of_mem _ h)
  have hK := hK0.1
  have hN := hK0.2
  have hown : s.vm.findClass dn_R_Way = some m.cls := findClass_of_methodNamed B.named
  have hlocks := B.notSynchronized
  subst hsz
  have hD := hD0.self (sz := s.heap.size)
  unfold dc_qv
  generalize hAe : va_A [(hw, .inr (8, [.ref ya, .ref yb, .ref ym, .int (nI t), .int c])), (ya, .inl (cA 0, 3, .inl fa)), (yb, .inl (cA 0, 3, .inl fb)), (ym, .inl (cA 1, 3, .inr (.inl fm)))] s.heap.size = A at hD ⊢
  have hA : ∀ q : Nat, s.heap.size ≤ q → A q := fun q h => by rw [← hAe]; exact Or.inr h
  have hS : va_S A s.heap s.heap [] := va_S.rf
  have hl := lv_entry ([.ref hw]) (n := 1) (Nat.le_of_ble_eq_true rfl)
  rw [lg_entry_eq]
  generalize (lg_sl ([.ref hw]) ++ List.replicate (1 - (lg_sl ([.ref hw])).length) Slot.unset).toArray = ls at hl ⊢
  have hl : lv_has ls 1 [(0, .ref hw)] := hl
  refine lv_aload_n hx hb dn_d_Way_begin_0 rfl (lv_at hl 0 rfl) ?_
  refine lv_iconst (v := 0) hx hb dn_d_Way_begin_1 (by decide) ?_
  refine va_put (D := G) (ci := 8) (v := .int 0) (ty := (.int)) (C := dn_R_Way) (T := dn_T_Way) (N := 5) hx hb hts (dn_u_Way) dn_t_Way dn_o_Way dn_n_Way hown hK hP hD hS 0 rfl rfl 4 (by decide) (hts _ dn_w_220) (fun _ h9 => h9) rfl (by decide +kernel) rfl rfl (Nat.le_of_ble_eq_true rfl) dn_d_Way_begin_2 (fun H locs hP hD hS => ?_)
  have hP : va_P G vwCl [(hw, .inr (8, [.ref ya, .ref yb, .ref ym, .int (nI t), .int 0])), (ya, .inl (cA 0, 3, .inl fa)), (yb, .inl (cA 0, 3, .inl fb)), (ym, .inl (cA 1, 3, .inr (.inl fm)))] H := hP
  have hD : va_D A [(hw, .inr (8, [.ref ya, .ref yb, .ref ym, .int (nI t), .int 0])), (ya, .inl (cA 0, 3, .inl fa)), (yb, .inl (cA 0, 3, .inl fb)), (ym, .inl (cA 1, 3, .inr (.inl fm)))] := hD
  have hP9 := hP.sub (ws' := [(hw, .inr (8, [.ref ya, .ref yb, .ref ym, .int (nI t), .int 0])), (ya, .inl (cA 0, 3, .inl fa)), (yb, .inl (cA 0, 3, .inl fb)), (ym, .inl (cA 1, 3, .inr (.inl fm)))]) [0, 1, 2, 3] rfl
  have hD9 := hD.sub (ws' := [(hw, .inr (8, [.ref ya, .ref yb, .ref ym, .int (nI t), .int 0])), (ya, .inl (cA 0, 3, .inl fa)), (yb, .inl (cA 0, 3, .inl fb)), (ym, .inl (cA 1, 3, .inr (.inl fm)))]) [0, 1, 2, 3] (by decide) rfl
  exact W.vret hx hb hr (fun t ht hW => ⟨⟨(), rfl, (trivial), by rw [ht]; exact hP9, hD9⟩, hS.F ht⟩) hS.2.2 dn_d_Way_begin_5

set_option maxHeartbeats 4000000 in
set_option maxRecDepth 100000 in
theorem cc_forget (l : Launch) (G : va_G) (cA : Nat → ClassId) (hw : Nat) (ya : Nat) (yb : Nat) (ym : Nat) (fa : Nat → Int32) (fb : Nat → Int32) (fm : Nat → Int64) (t : Nat) (c : Int32)  (sz : Nat) : Met l dn_y_Way_forget (.code dn_y_Way_forget dn_c_Way_forget 1 none :: dc_W) ({ frames := 0, cells := 0, slots := 0, locals := 0 }) (dc_pW G cA [(hw, .inr (8, [.ref ya, .ref yb, .ref ym, .int (nI t), .int c])), (ya, .inl (cA 0, 3, .inl fa)), (yb, .inl (cA 0, 3, .inl fb)), (ym, .inl (cA 1, 3, .inr (.inl fm)))] sz [.ref hw]) (dc_qv G (fun (_ : Unit) => True) (fun (_ : Unit) => [(hw, .inr (8, [.ref ya, .ref yb, .ref ym, .int (nI 0), .int c])), (ya, .inl (cA 0, 3, .inl fa)), (yb, .inl (cA 0, 3, .inl fb)), (ym, .inl (cA 1, 3, .inr (.inl fm)))]) sz [(hw, .inr (8, [.ref ya, .ref yb, .ref ym, .int (nI t), .int c])), (ya, .inl (cA 0, 3, .inl fa)), (yb, .inl (cA 0, 3, .inl fb)), (ym, .inl (cA 1, 3, .inr (.inl fm)))]) 0 0 (va_A [(hw, .inr (8, [.ref ya, .ref yb, .ref ym, .int (nI t), .int c])), (ya, .inl (cA 0, 3, .inl fa)), (yb, .inl (cA 0, 3, .inl fb)), (ym, .inl (cA 1, 3, .inr (.inl fm)))] sz) := by
  refine Met.ofW (cc := dn_c_Way_forget) (maxL := 1) (ret := none) (by decide) rfl ?_
  intro p9 en9 s m args9 below9 meth9 cd9 s9 B hml hv
  obtain ⟨rfl, hsz, hP, hK0, hD0⟩ := hv
  have hx := B.exec
  have hb := B.bytes
  have hr := B.returns
  have hts : ∀ w ∈ dc_W, w.before _ s = true := fun w h => atoms_spec (ws := (.code dn_y_Way_forget dn_c_Way_forget 1 none :: dc_W)) B.pre w (List.mem_cons_of_mem _ h)
  have hK := hK0.1
  have hN := hK0.2
  have hown : s.vm.findClass dn_R_Way = some m.cls := findClass_of_methodNamed B.named
  have hlocks := B.notSynchronized
  subst hsz
  have hD := hD0.self (sz := s.heap.size)
  unfold dc_qv
  generalize hAe : va_A [(hw, .inr (8, [.ref ya, .ref yb, .ref ym, .int (nI t), .int c])), (ya, .inl (cA 0, 3, .inl fa)), (yb, .inl (cA 0, 3, .inl fb)), (ym, .inl (cA 1, 3, .inr (.inl fm)))] s.heap.size = A at hD ⊢
  have hA : ∀ q : Nat, s.heap.size ≤ q → A q := fun q h => by rw [← hAe]; exact Or.inr h
  have hS : va_S A s.heap s.heap [] := va_S.rf
  have hl := lv_entry ([.ref hw]) (n := 1) (Nat.le_of_ble_eq_true rfl)
  rw [lg_entry_eq]
  generalize (lg_sl ([.ref hw]) ++ List.replicate (1 - (lg_sl ([.ref hw])).length) Slot.unset).toArray = ls at hl ⊢
  have hl : lv_has ls 1 [(0, .ref hw)] := hl
  refine lv_aload_n hx hb dn_d_Way_forget_0 rfl (lv_at hl 0 rfl) ?_
  refine lv_iconst (v := 0) hx hb dn_d_Way_forget_1 (by decide) ?_
  refine va_put (D := G) (ci := 8) (v := .int 0) (ty := (.int)) (C := dn_R_Way) (T := dn_T_Way) (N := 5) hx hb hts (dn_u_Way) dn_t_Way dn_o_Way dn_n_Way hown hK hP hD hS 0 rfl rfl 3 (by decide) (hts _ dn_w_219) (fun _ h9 => h9) rfl (by decide +kernel) rfl rfl (Nat.le_of_ble_eq_true rfl) dn_d_Way_forget_2 (fun H locs hP hD hS => ?_)
  have hP : va_P G vwCl [(hw, .inr (8, [.ref ya, .ref yb, .ref ym, .int 0, .int c])), (ya, .inl (cA 0, 3, .inl fa)), (yb, .inl (cA 0, 3, .inl fb)), (ym, .inl (cA 1, 3, .inr (.inl fm)))] H := hP
  have hD : va_D A [(hw, .inr (8, [.ref ya, .ref yb, .ref ym, .int 0, .int c])), (ya, .inl (cA 0, 3, .inl fa)), (yb, .inl (cA 0, 3, .inl fb)), (ym, .inl (cA 1, 3, .inr (.inl fm)))] := hD
  have hP9 := hP.sub (ws' := [(hw, .inr (8, [.ref ya, .ref yb, .ref ym, .int 0, .int c])), (ya, .inl (cA 0, 3, .inl fa)), (yb, .inl (cA 0, 3, .inl fb)), (ym, .inl (cA 1, 3, .inr (.inl fm)))]) [0, 1, 2, 3] rfl
  have hD9 := hD.sub (ws' := [(hw, .inr (8, [.ref ya, .ref yb, .ref ym, .int 0, .int c])), (ya, .inl (cA 0, 3, .inl fa)), (yb, .inl (cA 0, 3, .inl fb)), (ym, .inl (cA 1, 3, .inr (.inl fm)))]) [0, 1, 2, 3] (by decide) rfl
  have hE9 : ([(hw, .inr (8, [.ref ya, .ref yb, .ref ym, .int 0, .int c])), (ya, .inl (cA 0, 3, .inl fa)), (yb, .inl (cA 0, 3, .inl fb)), (ym, .inl (cA 1, 3, .inr (.inl fm)))] : va_W) = [(hw, .inr (8, [.ref ya, .ref yb, .ref ym, .int (nI 0), .int c])), (ya, .inl (cA 0, 3, .inl fa)), (yb, .inl (cA 0, 3, .inl fb)), (ym, .inl (cA 1, 3, .inr (.inl fm)))] := rfl
  rw [hE9] at hP9 hD9
  exact W.vret hx hb hr (fun t ht hW => ⟨⟨(), rfl, (trivial), by rw [ht]; exact hP9, hD9⟩, hS.F ht⟩) hS.2.2 dn_d_Way_forget_5

set_option maxHeartbeats 4000000 in
set_option maxRecDepth 100000 in
theorem cc_wcount (l : Launch) (G : va_G) (cA : Nat → ClassId) (hw : Nat) (ya : Nat) (yb : Nat) (ym : Nat) (fa : Nat → Int32) (fb : Nat → Int32) (fm : Nat → Int64) (t : Nat) (c : Int32)  : Met l dn_y_Way_count (.code dn_y_Way_count dn_c_Way_count 1 (some .int) :: dc_W) ({ frames := 0, cells := 0, slots := 0, locals := 0 }) (dc_pR G cA [(hw, .inr (8, [.ref ya, .ref yb, .ref ym, .int (nI t), .int c])), (ya, .inl (cA 0, 3, .inl fa)), (yb, .inl (cA 0, 3, .inl fb)), (ym, .inl (cA 1, 3, .inr (.inl fm)))] [.ref hw]) (vp_Si (fun r => r = c)) 0 0 (fun _ => False) := by
  refine Met.ofW (cc := dn_c_Way_count) (maxL := 1) (ret := (some .int)) (by decide) rfl ?_
  intro p9 en9 s m args9 below9 meth9 cd9 s9 B hml hv
  obtain ⟨rfl, hP, hK0⟩ := hv
  have hx := B.exec
  have hb := B.bytes
  have hr := B.returns
  have hts : ∀ w ∈ dc_W, w.before _ s = true := fun w h => atoms_spec (ws := (.code dn_y_Way_count dn_c_Way_count 1 (some .int) :: dc_W)) B.pre w (List.mem_cons_of_mem _ h)
  have hK := hK0.1
  have hN := hK0.2
  have hown : s.vm.findClass dn_R_Way = some m.cls := findClass_of_methodNamed B.named
  have hlocks := B.notSynchronized
  have hl := lv_entry ([.ref hw]) (n := 1) (Nat.le_of_ble_eq_true rfl)
  rw [lg_entry_eq]
  generalize (lg_sl ([.ref hw]) ++ List.replicate (1 - (lg_sl ([.ref hw])).length) Slot.unset).toArray = ls at hl ⊢
  have hl : lv_has ls 1 [(0, .ref hw)] := hl
  refine lv_aload_n hx hb dn_d_Way_count_0 rfl (lv_at hl 0 rfl) ?_
  refine va_get (D := G) (ci := 8) (v := .int c) (C := dn_R_Way) (T := dn_T_Way) (N := 5) hx hb hts (dn_u_Way) hown hK hP 0 rfl rfl 4 (by decide) (hts _ dn_w_220) (fun _ h9 => h9) rfl dn_d_Way_count_1 ?_
  exact W.iret (v := c) hx hb hr (fun t ht hW => ⟨_, rfl, (rfl), ht⟩) (fun q h => by cases h) dn_d_Way_count_4

set_option maxHeartbeats 4000000 in
set_option maxRecDepth 100000 in
theorem cc_carry (l : Launch) (G : va_G) (cA : Nat → ClassId) (hw : Nat) (ya : Nat) (yb : Nat) (ym : Nat) (fa : Nat → Int32) (fb : Nat → Int32) (fm : Nat → Int64) (t : Nat) (c : Int32) (w : Nat → Int64) (n : Nat) (cap : Nat) (h0 : Nat) (q : Nat) (ht : t ≤ 3) (hn : n ≤ cap) (hc : cap < 2147483648) (sz : Nat) : Met l dn_y_Way_carry (.code dn_y_Way_carry dn_c_Way_carry 3 none :: dc_W) ({ frames := 2, cells := 0, slots := 0, locals := 44 }) (dc_pW G cA [(hw, .inr (8, [.ref ya, .ref yb, .ref ym, .int (nI t), .int c])), (ya, .inl (cA 0, 3, .inl fa)), (yb, .inl (cA 0, 3, .inl fb)), (ym, .inl (cA 1, 3, .inr (.inl fm))), (h0, .inr (5, [.ref q, .int (nI n)])), (q, .inl (cA 1, cap, .inr (.inl w)))] sz [.ref hw, .ref h0]) (dc_qv G (fun (_ : Unit) => True) (fun (_ : Unit) => [(hw, .inr (8, [.ref ya, .ref yb, .ref ym, .int (nI t), .int (c + 1)])), (ya, .inl (cA 0, 3, .inl fa)), (yb, .inl (cA 0, 3, .inl fb)), (ym, .inl (cA 1, 3, .inr (.inl fm))), (h0, .inr (5, [.ref q, .int (nI n)])), (q, .inl (cA 1, cap, .inr (.inl (dc_carW fa fb fm c n w t))))]) sz [(hw, .inr (8, [.ref ya, .ref yb, .ref ym, .int (nI t), .int c])), (ya, .inl (cA 0, 3, .inl fa)), (yb, .inl (cA 0, 3, .inl fb)), (ym, .inl (cA 1, 3, .inr (.inl fm))), (h0, .inr (5, [.ref q, .int (nI n)])), (q, .inl (cA 1, cap, .inr (.inl w)))]) 0 0 (va_A [(hw, .inr (8, [.ref ya, .ref yb, .ref ym, .int (nI t), .int c])), (ya, .inl (cA 0, 3, .inl fa)), (yb, .inl (cA 0, 3, .inl fb)), (ym, .inl (cA 1, 3, .inr (.inl fm))), (h0, .inr (5, [.ref q, .int (nI n)])), (q, .inl (cA 1, cap, .inr (.inl w)))] sz) := by
  refine Met.ofW (cc := dn_c_Way_carry) (maxL := 3) (ret := none) (by decide) rfl ?_
  intro p9 en9 s m args9 below9 meth9 cd9 s9 B hml hv
  obtain ⟨rfl, hsz, hP, hK0, hD0⟩ := hv
  have hx := B.exec
  have hb := B.bytes
  have hr := B.returns
  have hts : ∀ w ∈ dc_W, w.before _ s = true := fun w h => atoms_spec (ws := (.code dn_y_Way_carry dn_c_Way_carry 3 none :: dc_W)) B.pre w (List.mem_cons_of_mem _ h)
  have hK := hK0.1
  have hN := hK0.2
  have hown : s.vm.findClass dn_R_Way = some m.cls := findClass_of_methodNamed B.named
  have hlocks := B.notSynchronized
  subst hsz
  have hD := hD0.self (sz := s.heap.size)
  unfold dc_qv
  generalize hAe : va_A [(hw, .inr (8, [.ref ya, .ref yb, .ref ym, .int (nI t), .int c])), (ya, .inl (cA 0, 3, .inl fa)), (yb, .inl (cA 0, 3, .inl fb)), (ym, .inl (cA 1, 3, .inr (.inl fm))), (h0, .inr (5, [.ref q, .int (nI n)])), (q, .inl (cA 1, cap, .inr (.inl w)))] s.heap.size = A at hD ⊢
  have hA : ∀ q : Nat, s.heap.size ≤ q → A q := fun q h => by rw [← hAe]; exact Or.inr h
  have hS : va_S A s.heap s.heap [] := va_S.rf
  have hl := lv_entry ([.ref hw, .ref h0]) (n := 3) (Nat.le_of_ble_eq_true rfl)
  rw [lg_entry_eq]
  generalize (lg_sl ([.ref hw, .ref h0]) ++ List.replicate (3 - (lg_sl ([.ref hw, .ref h0])).length) Slot.unset).toArray = ls at hl ⊢
  have hl : lv_has ls 3 [(0, .ref hw), (1, .ref h0)] := hl
  refine lv_iconst (v := 0) hx hb dn_d_Way_carry_0 (by decide) ?_
  refine lv_istore_n hx hb dn_d_Way_carry_1 rfl hl (by decide) rfl (fun ls hl => ?_)
  have hl : lv_has ls 3 [(2, .int 0), (0, .ref hw), (1, .ref h0)] := hl
  refine dc_loop (σ := Nat) 2 [] (fun (i : Nat) => t - i) (fun (i : Nat) (H : Heap) (locs : List Loc) (ls : Array Slot) => lv_has ls 3 [(2, .int (nI i)), (0, .ref hw), (1, .ref h0)] ∧ va_P G vwCl [(hw, .inr (8, [.ref ya, .ref yb, .ref ym, .int (nI t), .int c])), (ya, .inl (cA 0, 3, .inl fa)), (yb, .inl (cA 0, 3, .inl fb)), (ym, .inl (cA 1, 3, .inr (.inl fm))), (h0, .inr (5, [.ref q, .int (nI n)])), (q, .inl (cA 1, cap, .inr (.inl (dc_carW fa fb fm c n w i))))] H ∧ va_D A [(hw, .inr (8, [.ref ya, .ref yb, .ref ym, .int (nI t), .int c])), (ya, .inl (cA 0, 3, .inl fa)), (yb, .inl (cA 0, 3, .inl fb)), (ym, .inl (cA 1, 3, .inr (.inl fm))), (h0, .inr (5, [.ref q, .int (nI n)])), (q, .inl (cA 1, cap, .inr (.inl (dc_carW fa fb fm c n w i))))] ∧ va_S A s.heap H locs ∧ (i ≤ t)) ?_ 0 ⟨lv_sub hl [0, 1, 2] rfl, hP.sub [0, 1, 2, 3, 4, 5] rfl, hD.sub [0, 1, 2, 3, 4, 5] (by decide) rfl, hS, (by omega)⟩
  rintro i H locs ls ⟨hl, hP, hD, hS, hi⟩ ih2
  have hl : lv_has ls 3 [(2, .int (nI i)), (0, .ref hw), (1, .ref h0)] := hl
  have hP : va_P G vwCl [(hw, .inr (8, [.ref ya, .ref yb, .ref ym, .int (nI t), .int c])), (ya, .inl (cA 0, 3, .inl fa)), (yb, .inl (cA 0, 3, .inl fb)), (ym, .inl (cA 1, 3, .inr (.inl fm))), (h0, .inr (5, [.ref q, .int (nI n)])), (q, .inl (cA 1, cap, .inr (.inl (dc_carW fa fb fm c n w i))))] H := hP
  have hD : va_D A [(hw, .inr (8, [.ref ya, .ref yb, .ref ym, .int (nI t), .int c])), (ya, .inl (cA 0, 3, .inl fa)), (yb, .inl (cA 0, 3, .inl fb)), (ym, .inl (cA 1, 3, .inr (.inl fm))), (h0, .inr (5, [.ref q, .int (nI n)])), (q, .inl (cA 1, cap, .inr (.inl (dc_carW fa fb fm c n w i))))] := hD
  refine lv_iload_n hx hb dn_d_Way_carry_2 rfl (lv_at hl 0 rfl) ?_
  refine lv_aload_n hx hb dn_d_Way_carry_3 rfl (lv_at hl 1 rfl) ?_
  refine va_get (D := G) (ci := 8) (v := .int (nI t)) (C := dn_R_Way) (T := dn_T_Way) (N := 5) hx hb hts (dn_u_Way) hown hK hP 0 rfl rfl 3 (by decide) (hts _ dn_w_219) (fun _ h9 => h9) rfl dn_d_Way_carry_4 ?_
  refine lv_icmp_ge (tgt := 56) hx hb dn_d_Way_carry_7 (by decide) (fun h7 => ?_) (fun h7 => ?_)
  · -- 7: t ≤ i
    have h7 : t ≤ i := (nI_leI (a := t) (b := i) (by omega) (by omega)).1 h7
    have e9 : i = t := by omega
    rw [e9] at hP hD
    refine lv_aload_n hx hb dn_d_Way_carry_56 rfl (lv_at hl 1 rfl) ?_
    refine lv_dup hx hb dn_d_Way_carry_57 rfl ?_
    refine va_get (D := G) (ci := 8) (v := .int c) (C := dn_R_Way) (T := dn_T_Way) (N := 5) hx hb hts (dn_u_Way) hown hK hP 0 rfl rfl 4 (by decide) (hts _ dn_w_220) (fun _ h9 => h9) rfl dn_d_Way_carry_58 ?_
    refine lv_iconst (v := 1) hx hb dn_d_Way_carry_61 (by decide) ?_
    refine lv_iadd hx hb dn_d_Way_carry_62 ?_
    refine va_put (D := G) (ci := 8) (v := .int (c + (1 : Int32))) (ty := (.int)) (C := dn_R_Way) (T := dn_T_Way) (N := 5) hx hb hts (dn_u_Way) dn_t_Way dn_o_Way dn_n_Way hown hK hP hD hS 0 rfl rfl 4 (by decide) (hts _ dn_w_220) (fun _ h9 => h9) rfl (by decide +kernel) rfl rfl (Nat.le_of_ble_eq_true rfl) dn_d_Way_carry_63 (fun H locs hP hD hS => ?_)
    have hP : va_P G vwCl [(hw, .inr (8, [.ref ya, .ref yb, .ref ym, .int (nI t), .int (c + (1 : Int32))])), (ya, .inl (cA 0, 3, .inl fa)), (yb, .inl (cA 0, 3, .inl fb)), (ym, .inl (cA 1, 3, .inr (.inl fm))), (h0, .inr (5, [.ref q, .int (nI n)])), (q, .inl (cA 1, cap, .inr (.inl (dc_carW fa fb fm c n w t))))] H := hP
    have hD : va_D A [(hw, .inr (8, [.ref ya, .ref yb, .ref ym, .int (nI t), .int (c + (1 : Int32))])), (ya, .inl (cA 0, 3, .inl fa)), (yb, .inl (cA 0, 3, .inl fb)), (ym, .inl (cA 1, 3, .inr (.inl fm))), (h0, .inr (5, [.ref q, .int (nI n)])), (q, .inl (cA 1, cap, .inr (.inl (dc_carW fa fb fm c n w t))))] := hD
    have hP9 := hP.sub (ws' := [(hw, .inr (8, [.ref ya, .ref yb, .ref ym, .int (nI t), .int (c + (1 : Int32))])), (ya, .inl (cA 0, 3, .inl fa)), (yb, .inl (cA 0, 3, .inl fb)), (ym, .inl (cA 1, 3, .inr (.inl fm))), (h0, .inr (5, [.ref q, .int (nI n)])), (q, .inl (cA 1, cap, .inr (.inl (dc_carW fa fb fm c n w t))))]) [0, 1, 2, 3, 4, 5] rfl
    have hD9 := hD.sub (ws' := [(hw, .inr (8, [.ref ya, .ref yb, .ref ym, .int (nI t), .int (c + (1 : Int32))])), (ya, .inl (cA 0, 3, .inl fa)), (yb, .inl (cA 0, 3, .inl fb)), (ym, .inl (cA 1, 3, .inr (.inl fm))), (h0, .inr (5, [.ref q, .int (nI n)])), (q, .inl (cA 1, cap, .inr (.inl (dc_carW fa fb fm c n w t))))]) [0, 1, 2, 3, 4, 5] (by decide) rfl
    have hE9 : ([(hw, .inr (8, [.ref ya, .ref yb, .ref ym, .int (nI t), .int (c + (1 : Int32))])), (ya, .inl (cA 0, 3, .inl fa)), (yb, .inl (cA 0, 3, .inl fb)), (ym, .inl (cA 1, 3, .inr (.inl fm))), (h0, .inr (5, [.ref q, .int (nI n)])), (q, .inl (cA 1, cap, .inr (.inl (dc_carW fa fb fm c n w t))))] : va_W) = [(hw, .inr (8, [.ref ya, .ref yb, .ref ym, .int (nI t), .int (c + 1)])), (ya, .inl (cA 0, 3, .inl fa)), (yb, .inl (cA 0, 3, .inl fb)), (ym, .inl (cA 1, 3, .inr (.inl fm))), (h0, .inr (5, [.ref q, .int (nI n)])), (q, .inl (cA 1, cap, .inr (.inl (dc_carW fa fb fm c n w t))))] := rfl
    rw [hE9] at hP9 hD9
    exact W.vret hx hb hr (fun t ht hW => ⟨⟨(), rfl, (trivial), by rw [ht]; exact hP9, hD9⟩, hS.F ht⟩) hS.2.2 dn_d_Way_carry_66
  · -- 7: ¬ t ≤ i
    have h7 : ¬ t ≤ i := fun z => h7 ((nI_leI (a := t) (b := i) (by omega) (by omega)).2 z)
    refine lv_aload_n hx hb dn_d_Way_carry_10 rfl (lv_at hl 1 rfl) ?_
    refine va_get (D := G) (ci := 8) (v := .ref ya) (C := dn_R_Way) (T := dn_T_Way) (N := 5) hx hb hts (dn_u_Way) hown hK hP 0 rfl rfl 0 (by decide) (hts _ dn_w_216) (fun _ h9 => h9) rfl dn_d_Way_carry_11 ?_
    refine lv_iload_n hx hb dn_d_Way_carry_14 rfl (lv_at hl 0 rfl) ?_
    refine dc_iald (k := i) hx hb hK hP 1 rfl (by omega) (by omega) dn_d_Way_carry_15 ?_
    refine lv_aload_n hx hb dn_d_Way_carry_16 rfl (lv_at hl 1 rfl) ?_
    refine va_get (D := G) (ci := 8) (v := .int c) (C := dn_R_Way) (T := dn_T_Way) (N := 5) hx hb hts (dn_u_Way) hown hK hP 0 rfl rfl 4 (by decide) (hts _ dn_w_220) (fun _ h9 => h9) rfl dn_d_Way_carry_17 ?_
    refine lv_icmp_ne (tgt := 50) hx hb dn_d_Way_carry_20 (by decide) (fun h20 => ?_) (fun h20 => ?_)
    · -- 20: ¬ (fa i) = c
      have e9 : dc_carW fa fb fm c n w i = dc_carW fa fb fm c n w (i + 1) := by show _ = (if _ then _ else _); rw [if_neg h20]
      rw [e9] at hP hD
      refine lv_iinc (k := 0) (v := nI (i + 1)) hx hb dn_d_Way_carry_50 hl rfl (dc_inc1 _) (by decide) rfl (fun ls hl => ?_)
      have hl : lv_has ls 3 [(2, .int (nI (i + 1))), (0, .ref hw), (1, .ref h0)] := hl
      refine lv_goto (tgt := 2) hx hb dn_d_Way_carry_53 (by decide) ?_
      exact ih2 (i + 1) _ _ _ (by first | omega | (dsimp only; omega)) ⟨lv_sub hl [0, 1, 2] rfl, hP.sub [0, 1, 2, 3, 4, 5] rfl, hD.sub [0, 1, 2, 3, 4, 5] (by decide) rfl, hS, (by omega)⟩
    · -- 20: (fa i) = c
      refine lv_aload_n hx hb dn_d_Way_carry_23 rfl (lv_at hl 2 rfl) ?_
      refine lv_aload_n hx hb dn_d_Way_carry_24 rfl (lv_at hl 1 rfl) ?_
      refine va_get (D := G) (ci := 8) (v := .ref yb) (C := dn_R_Way) (T := dn_T_Way) (N := 5) hx hb hts (dn_u_Way) hown hK hP 0 rfl rfl 1 (by decide) (hts _ dn_w_217) (fun _ h9 => h9) rfl dn_d_Way_carry_25 ?_
      refine lv_iload_n hx hb dn_d_Way_carry_28 rfl (lv_at hl 0 rfl) ?_
      refine dc_iald (k := i) hx hb hK hP 2 rfl (by omega) (by omega) dn_d_Way_carry_29 ?_
      refine lv_aload_n hx hb dn_d_Way_carry_30 rfl (lv_at hl 2 rfl) ?_
      refine lv_aload_n hx hb dn_d_Way_carry_31 rfl (lv_at hl 1 rfl) ?_
      refine va_get (D := G) (ci := 8) (v := .ref yb) (C := dn_R_Way) (T := dn_T_Way) (N := 5) hx hb hts (dn_u_Way) hown hK hP 0 rfl rfl 1 (by decide) (hts _ dn_w_217) (fun _ h9 => h9) rfl dn_d_Way_carry_32 ?_
      refine lv_iload_n hx hb dn_d_Way_carry_35 rfl (lv_at hl 0 rfl) ?_
      refine dc_iald (k := i) hx hb hK hP 2 rfl (by omega) (by omega) dn_d_Way_carry_36 ?_
      refine vp_callSl (va_Run.run (va_runV (b := h0) (As := [.int (fb i)]) (rest := [.int (fb i), .ref h0]) ⟨hx, hb, hml, hown, hts⟩ (cc_get l G cA (dc_carW fa fb fm c n w i) n cap h0 q (fb i) (by first | assumption | omega) (by first | assumption | omega)) ⟨(callB_of 1 hts (dc_good dn_w_338) rfl rfl rfl (hts _ dn_w_2) (hts _ dn_w_412) (by decide +kernel) ⟨Nat.le_of_ble_eq_true rfl, Nat.le_of_ble_eq_true rfl⟩), (hts _ dn_w_336), (hts _ dn_w_337)⟩ (dc_preVR (hP.sub [4, 5] rfl) hK0 (q0 := 0) rfl rfl) rfl rfl hl.1 rfl (lv_room (Nat.le_of_ble_eq_true rfl)) dn_d_Way_carry_37 ⟨Nat.le_of_ble_eq_true rfl, Nat.le_of_ble_eq_true rfl⟩)) (fun r9 hr9 => ?_)
      subst hr9
      refine lv_aload_n hx hb dn_d_Way_carry_40 rfl (lv_at hl 1 rfl) ?_
      refine va_get (D := G) (ci := 8) (v := .ref ym) (C := dn_R_Way) (T := dn_T_Way) (N := 5) hx hb hts (dn_u_Way) hown hK hP 0 rfl rfl 2 (by decide) (hts _ dn_w_218) (fun _ h9 => h9) rfl dn_d_Way_carry_41 ?_
      refine lv_iload_n hx hb dn_d_Way_carry_44 rfl (lv_at hl 0 rfl) ?_
      refine dc_lald (k := i) hx hb hK hP 3 rfl (by omega) (by omega) dn_d_Way_carry_45 ?_
      refine lv_lxor hx hb dn_d_Way_carry_46 ?_
      refine dc_wv (wr := [(hw, .inr (8, [.ref ya, .ref yb, .ref ym, .int (nI t), .int c])), (ya, .inl (cA 0, 3, .inl fa)), (yb, .inl (cA 0, 3, .inl fb)), (ym, .inl (cA 1, 3, .inr (.inl fm)))]) (va_runV (b := h0) (As := [.int (fb i), .long ((dc_get (dc_carW fa fb fm c n w i) n (fb i)) ^^^ (fm i))]) (rest := []) ⟨hx, hb, hml, hown, hts⟩ (cc_put l G cA (dc_carW fa fb fm c n w i) n cap h0 q (fb i) ((dc_get (dc_carW fa fb fm c n w i) n (fb i)) ^^^ (fm i)) (by first | assumption | omega) (by first | assumption | omega) H.size) ⟨(callB_of 2 hts (dc_good dn_w_416) rfl rfl rfl (hts _ dn_w_2) (hts _ dn_w_413) (by decide +kernel) ⟨Nat.le_of_ble_eq_true rfl, Nat.le_of_ble_eq_true rfl⟩), (hts _ dn_w_414), (hts _ dn_w_415)⟩ (dc_preVW (hP.sub [4, 5] rfl) hK0 (hD.sub [4, 5] (by decide) rfl) (q0 := 0) rfl rfl) rfl rfl hl.1 rfl (lv_room (Nat.le_of_ble_eq_true rfl)) dn_d_Way_carry_47 ⟨Nat.le_of_ble_eq_true rfl, Nat.le_of_ble_eq_true rfl⟩) hP hD hS hA [4, 5] [0, 1, 2, 3] rfl rfl (by decide) (by decide) (fun u9 H locs hr9 hP hD hS => ?_)
      have hP : va_P G vwCl [(hw, .inr (8, [.ref ya, .ref yb, .ref ym, .int (nI t), .int c])), (ya, .inl (cA 0, 3, .inl fa)), (yb, .inl (cA 0, 3, .inl fb)), (ym, .inl (cA 1, 3, .inr (.inl fm))), (h0, .inr (5, [.ref q, .int (nI n)])), (q, .inl (cA 1, cap, .inr (.inl (dc_put (dc_carW fa fb fm c n w i) n (fb i) ((dc_get (dc_carW fa fb fm c n w i) n (fb i)) ^^^ (fm i))))))] H := hP
      have hD : va_D A [(hw, .inr (8, [.ref ya, .ref yb, .ref ym, .int (nI t), .int c])), (ya, .inl (cA 0, 3, .inl fa)), (yb, .inl (cA 0, 3, .inl fb)), (ym, .inl (cA 1, 3, .inr (.inl fm))), (h0, .inr (5, [.ref q, .int (nI n)])), (q, .inl (cA 1, cap, .inr (.inl (dc_put (dc_carW fa fb fm c n w i) n (fb i) ((dc_get (dc_carW fa fb fm c n w i) n (fb i)) ^^^ (fm i))))))] := hD
      have e9 : dc_put (dc_carW fa fb fm c n w i) n (fb i) ((dc_get (dc_carW fa fb fm c n w i) n (fb i)) ^^^ (fm i)) = dc_carW fa fb fm c n w (i + 1) := by show _ = (if _ then _ else _); rw [if_pos h20]
      rw [e9] at hP hD
      refine lv_iinc (k := 0) (v := nI (i + 1)) hx hb dn_d_Way_carry_50 hl rfl (dc_inc1 _) (by decide) rfl (fun ls hl => ?_)
      have hl : lv_has ls 3 [(2, .int (nI (i + 1))), (0, .ref hw), (1, .ref h0)] := hl
      refine lv_goto (tgt := 2) hx hb dn_d_Way_carry_53 (by decide) ?_
      exact ih2 (i + 1) _ _ _ (by first | omega | (dsimp only; omega)) ⟨lv_sub hl [0, 1, 2] rfl, hP.sub [0, 1, 2, 3, 4, 5] rfl, hD.sub [0, 1, 2, 3, 4, 5] (by decide) rfl, hS, (by omega)⟩

set_option maxHeartbeats 4000000 in
set_option maxRecDepth 100000 in
theorem cc_gFull (l : Launch) (G : va_G) (cA : Nat → ClassId) (hg : Nat) (ga : Nat) (gb : Nat) (gc : Nat) (fn : Nat → Int64) (fo : Nat → Int32) (fe : Nat → Int32) (sk : Nat) (hsk : sk ≤ 4) : Met l dn_y_Signers_isFull (.code dn_y_Signers_isFull dn_c_Signers_isFull 1 (some .boolean) :: dc_W) ({ frames := 0, cells := 0, slots := 0, locals := 0 }) (dc_pR G cA [(hg, .inr (7, [.ref ga, .ref gb, .ref gc, .int (nI sk)])), (ga, .inl (cA 1, 4, .inr (.inl fn))), (gb, .inl (cA 0, 4, .inl fo)), (gc, .inl (cA 0, 4, .inl fe))] [.ref hg]) (vp_Si (fun r => r = dc_bI (decide (4 ≤ sk)))) 0 0 (fun _ => False) := by
  refine Met.ofW (cc := dn_c_Signers_isFull) (maxL := 1) (ret := (some .boolean)) (by decide) rfl ?_
  intro p9 en9 s m args9 below9 meth9 cd9 s9 B hml hv
  obtain ⟨rfl, hP, hK0⟩ := hv
  have hx := B.exec
  have hb := B.bytes
  have hr := B.returns
  have hts : ∀ w ∈ dc_W, w.before _ s = true := fun w h => atoms_spec (ws := (.code dn_y_Signers_isFull dn_c_Signers_isFull 1 (some .boolean) :: dc_W)) B.pre w (List.mem_cons_of_mem _ h)
  have hK := hK0.1
  have hN := hK0.2
  have hown : s.vm.findClass dn_R_Signers = some m.cls := findClass_of_methodNamed B.named
  have hlocks := B.notSynchronized
  have hl := lv_entry ([.ref hg]) (n := 1) (Nat.le_of_ble_eq_true rfl)
  rw [lg_entry_eq]
  generalize (lg_sl ([.ref hg]) ++ List.replicate (1 - (lg_sl ([.ref hg])).length) Slot.unset).toArray = ls at hl ⊢
  have hl : lv_has ls 1 [(0, .ref hg)] := hl
  refine lv_aload_n hx hb dn_d_Signers_isFull_0 rfl (lv_at hl 0 rfl) ?_
  refine va_get (D := G) (ci := 7) (v := .int (nI sk)) (C := dn_R_Signers) (T := dn_T_Signers) (N := 4) hx hb hts (dn_u_Signers) hown hK hP 0 rfl rfl 3 (by decide) (hts _ dn_w_200) (fun _ h9 => h9) rfl dn_d_Signers_isFull_1 ?_
  refine lv_iconst (v := 4) hx hb dn_d_Signers_isFull_4 (by decide) ?_
  refine lv_icmp_lt (tgt := 12) hx hb dn_d_Signers_isFull_5 (by decide) (fun h5 => ?_) (fun h5 => ?_)
  · -- 5: sk < 4
    have h5 : sk < 4 := (nI_ltI (a := sk) (b := 4) (by omega) (by omega)).1 h5
    refine lv_iconst (v := 0) hx hb dn_d_Signers_isFull_12 (by decide) ?_
    exact W.zret (ty := .boolean) (v := 0) hx hb hr (rfl) (fun t ht hW => ⟨_, rfl, (by first | rfl | (simp [dc_bI]; omega)), ht⟩) (fun q h => by cases h) dn_d_Signers_isFull_13
  · -- 5: ¬ sk < 4
    have h5 : ¬ sk < 4 := fun z => h5 ((nI_ltI (a := sk) (b := 4) (by omega) (by omega)).2 z)
    refine lv_iconst (v := 1) hx hb dn_d_Signers_isFull_8 (by decide) ?_
    refine lv_goto (tgt := 13) hx hb dn_d_Signers_isFull_9 (by decide) ?_
    exact W.zret (ty := .boolean) (v := 1) hx hb hr (rfl) (fun t ht hW => ⟨_, rfl, (by first | rfl | (simp [dc_bI]; omega)), ht⟩) (fun q h => by cases h) dn_d_Signers_isFull_13

set_option maxHeartbeats 4000000 in
set_option maxRecDepth 100000 in
theorem cc_gadd (l : Launch) (G : va_G) (cA : Nat → ClassId) (hg : Nat) (ga : Nat) (gb : Nat) (gc : Nat) (fn : Nat → Int64) (fo : Nat → Int32) (fe : Nat → Int32) (sk : Nat) (x : Int64) (mm : Int32) (ee : Int32) (hsk : sk < 4) (sz : Nat) : Met l dn_y_Signers_add (.code dn_y_Signers_add dn_c_Signers_add 5 (some .int) :: dc_W) ({ frames := 1, cells := 0, slots := 0, locals := 20 }) (dc_pW G cA [(hg, .inr (7, [.ref ga, .ref gb, .ref gc, .int (nI sk)])), (ga, .inl (cA 1, 4, .inr (.inl fn))), (gb, .inl (cA 0, 4, .inl fo)), (gc, .inl (cA 0, 4, .inl fe))] sz [.ref hg, .long x, .int mm, .int ee]) (dc_qi G (fun (r : Int32) (_ : Unit) => r = nI (sk + 1)) (fun (_ : Unit) => [(hg, .inr (7, [.ref ga, .ref gb, .ref gc, .int (nI (sk + 1))])), (ga, .inl (cA 1, 4, .inr (.inl (vp_updL fn sk x)))), (gb, .inl (cA 0, 4, .inl (upd fo sk mm))), (gc, .inl (cA 0, 4, .inl (upd fe sk ee)))]) sz [(hg, .inr (7, [.ref ga, .ref gb, .ref gc, .int (nI sk)])), (ga, .inl (cA 1, 4, .inr (.inl fn))), (gb, .inl (cA 0, 4, .inl fo)), (gc, .inl (cA 0, 4, .inl fe))]) 0 0 (va_A [(hg, .inr (7, [.ref ga, .ref gb, .ref gc, .int (nI sk)])), (ga, .inl (cA 1, 4, .inr (.inl fn))), (gb, .inl (cA 0, 4, .inl fo)), (gc, .inl (cA 0, 4, .inl fe))] sz) := by
  refine Met.ofW (cc := dn_c_Signers_add) (maxL := 5) (ret := (some .int)) (by decide) rfl ?_
  intro p9 en9 s m args9 below9 meth9 cd9 s9 B hml hv
  obtain ⟨rfl, hsz, hP, hK0, hD0⟩ := hv
  have hx := B.exec
  have hb := B.bytes
  have hr := B.returns
  have hts : ∀ w ∈ dc_W, w.before _ s = true := fun w h => atoms_spec (ws := (.code dn_y_Signers_add dn_c_Signers_add 5 (some .int) :: dc_W)) B.pre w (List.mem_cons_of_mem _ h)
  have hK := hK0.1
  have hN := hK0.2
  have hown : s.vm.findClass dn_R_Signers = some m.cls := findClass_of_methodNamed B.named
  have hlocks := B.notSynchronized
  subst hsz
  have hD := hD0.self (sz := s.heap.size)
  unfold dc_qi
  generalize hAe : va_A [(hg, .inr (7, [.ref ga, .ref gb, .ref gc, .int (nI sk)])), (ga, .inl (cA 1, 4, .inr (.inl fn))), (gb, .inl (cA 0, 4, .inl fo)), (gc, .inl (cA 0, 4, .inl fe))] s.heap.size = A at hD ⊢
  have hA : ∀ q : Nat, s.heap.size ≤ q → A q := fun q h => by rw [← hAe]; exact Or.inr h
  have hS : va_S A s.heap s.heap [] := va_S.rf
  have hl := lv_entry ([.ref hg, .long x, .int mm, .int ee]) (n := 5) (Nat.le_of_ble_eq_true rfl)
  rw [lg_entry_eq]
  generalize (lg_sl ([.ref hg, .long x, .int mm, .int ee]) ++ List.replicate (5 - (lg_sl ([.ref hg, .long x, .int mm, .int ee])).length) Slot.unset).toArray = ls at hl ⊢
  have hl : lv_has ls 5 [(0, .ref hg), (1, .long x), (3, .int mm), (4, .int ee)] := hl
  refine lv_aload_n hx hb dn_d_Signers_add_0 rfl (lv_at hl 0 rfl) ?_
  refine vp_callSi (va_Run.run (va_runV (b := hg) (As := []) (rest := []) ⟨hx, hb, hml, hown, hts⟩ (cc_gFull l G cA hg ga gb gc fn fo fe sk (by first | assumption | omega)) ⟨(callB_of 0 hts (dc_good dn_w_739) rfl rfl rfl (hts _ dn_w_10) (hts _ dn_w_745) (by decide +kernel) ⟨Nat.le_of_ble_eq_true rfl, Nat.le_of_ble_eq_true rfl⟩), (hts _ dn_w_737), (hts _ dn_w_738)⟩ (dc_preVR (hP.sub [0, 1, 2, 3] rfl) hK0 (q0 := 0) rfl rfl) rfl rfl hl.1 rfl (lv_room (Nat.le_of_ble_eq_true rfl)) dn_d_Signers_add_1 ⟨Nat.le_of_ble_eq_true rfl, Nat.le_of_ble_eq_true rfl⟩)) (fun r9 hr9 => ?_)
  subst hr9
  refine lv_if_ne (tgt := 48) hx hb dn_d_Signers_add_4 (by decide) (fun h4 => ?_) (fun h4 => ?_)
  · exact absurd (show (decide (4 ≤ sk)) = true from dc_bI1.1 h4) (by simp; omega)
  · -- 4: (decide (4 ≤ sk)) = false
    have h4 : (decide (4 ≤ sk)) = false := dc_bI0.1 h4
    refine lv_aload_n hx hb dn_d_Signers_add_7 rfl (lv_at hl 0 rfl) ?_
    refine va_get (D := G) (ci := 7) (v := .ref ga) (C := dn_R_Signers) (T := dn_T_Signers) (N := 4) hx hb hts (dn_u_Signers) hown hK hP 0 rfl rfl 0 (by decide) (hts _ dn_w_197) (fun _ h9 => h9) rfl dn_d_Signers_add_8 ?_
    refine lv_aload_n hx hb dn_d_Signers_add_11 rfl (lv_at hl 0 rfl) ?_
    refine va_get (D := G) (ci := 7) (v := .int (nI sk)) (C := dn_R_Signers) (T := dn_T_Signers) (N := 4) hx hb hts (dn_u_Signers) hown hK hP 0 rfl rfl 3 (by decide) (hts _ dn_w_200) (fun _ h9 => h9) rfl dn_d_Signers_add_12 ?_
    refine lv_lload_n hx hb dn_d_Signers_add_15 rfl (lv_at hl 1 rfl) ?_
    refine dc_last (k := sk) hx hb hK hP hD hS 1 rfl (by omega) (by omega) dn_d_Signers_add_16 (fun H locs hP hD hS => ?_)
    have hP : va_P G vwCl [(hg, .inr (7, [.ref ga, .ref gb, .ref gc, .int (nI sk)])), (ga, .inl (cA 1, 4, .inr (.inl (vp_updL fn sk x)))), (gb, .inl (cA 0, 4, .inl fo)), (gc, .inl (cA 0, 4, .inl fe))] H := hP
    have hD : va_D A [(hg, .inr (7, [.ref ga, .ref gb, .ref gc, .int (nI sk)])), (ga, .inl (cA 1, 4, .inr (.inl (vp_updL fn sk x)))), (gb, .inl (cA 0, 4, .inl fo)), (gc, .inl (cA 0, 4, .inl fe))] := hD
    refine lv_aload_n hx hb dn_d_Signers_add_17 rfl (lv_at hl 0 rfl) ?_
    refine va_get (D := G) (ci := 7) (v := .ref gb) (C := dn_R_Signers) (T := dn_T_Signers) (N := 4) hx hb hts (dn_u_Signers) hown hK hP 0 rfl rfl 1 (by decide) (hts _ dn_w_198) (fun _ h9 => h9) rfl dn_d_Signers_add_18 ?_
    refine lv_aload_n hx hb dn_d_Signers_add_21 rfl (lv_at hl 0 rfl) ?_
    refine va_get (D := G) (ci := 7) (v := .int (nI sk)) (C := dn_R_Signers) (T := dn_T_Signers) (N := 4) hx hb hts (dn_u_Signers) hown hK hP 0 rfl rfl 3 (by decide) (hts _ dn_w_200) (fun _ h9 => h9) rfl dn_d_Signers_add_22 ?_
    refine lv_iload_n hx hb dn_d_Signers_add_25 rfl (lv_at hl 2 rfl) ?_
    refine dc_iast (k := sk) hx hb hK hP hD hS 2 rfl (by omega) (by omega) dn_d_Signers_add_26 (fun H locs hP hD hS => ?_)
    have hP : va_P G vwCl [(hg, .inr (7, [.ref ga, .ref gb, .ref gc, .int (nI sk)])), (ga, .inl (cA 1, 4, .inr (.inl (vp_updL fn sk x)))), (gb, .inl (cA 0, 4, .inl (upd fo sk mm))), (gc, .inl (cA 0, 4, .inl fe))] H := hP
    have hD : va_D A [(hg, .inr (7, [.ref ga, .ref gb, .ref gc, .int (nI sk)])), (ga, .inl (cA 1, 4, .inr (.inl (vp_updL fn sk x)))), (gb, .inl (cA 0, 4, .inl (upd fo sk mm))), (gc, .inl (cA 0, 4, .inl fe))] := hD
    refine lv_aload_n hx hb dn_d_Signers_add_27 rfl (lv_at hl 0 rfl) ?_
    refine va_get (D := G) (ci := 7) (v := .ref gc) (C := dn_R_Signers) (T := dn_T_Signers) (N := 4) hx hb hts (dn_u_Signers) hown hK hP 0 rfl rfl 2 (by decide) (hts _ dn_w_199) (fun _ h9 => h9) rfl dn_d_Signers_add_28 ?_
    refine lv_aload_n hx hb dn_d_Signers_add_31 rfl (lv_at hl 0 rfl) ?_
    refine va_get (D := G) (ci := 7) (v := .int (nI sk)) (C := dn_R_Signers) (T := dn_T_Signers) (N := 4) hx hb hts (dn_u_Signers) hown hK hP 0 rfl rfl 3 (by decide) (hts _ dn_w_200) (fun _ h9 => h9) rfl dn_d_Signers_add_32 ?_
    refine lv_iload hx hb dn_d_Signers_add_35 (lv_at hl 3 rfl) ?_
    refine dc_iast (k := sk) hx hb hK hP hD hS 3 rfl (by omega) (by omega) dn_d_Signers_add_37 (fun H locs hP hD hS => ?_)
    have hP : va_P G vwCl [(hg, .inr (7, [.ref ga, .ref gb, .ref gc, .int (nI sk)])), (ga, .inl (cA 1, 4, .inr (.inl (vp_updL fn sk x)))), (gb, .inl (cA 0, 4, .inl (upd fo sk mm))), (gc, .inl (cA 0, 4, .inl (upd fe sk ee)))] H := hP
    have hD : va_D A [(hg, .inr (7, [.ref ga, .ref gb, .ref gc, .int (nI sk)])), (ga, .inl (cA 1, 4, .inr (.inl (vp_updL fn sk x)))), (gb, .inl (cA 0, 4, .inl (upd fo sk mm))), (gc, .inl (cA 0, 4, .inl (upd fe sk ee)))] := hD
    refine lv_aload_n hx hb dn_d_Signers_add_38 rfl (lv_at hl 0 rfl) ?_
    refine lv_dup hx hb dn_d_Signers_add_39 rfl ?_
    refine va_get (D := G) (ci := 7) (v := .int (nI sk)) (C := dn_R_Signers) (T := dn_T_Signers) (N := 4) hx hb hts (dn_u_Signers) hown hK hP 0 rfl rfl 3 (by decide) (hts _ dn_w_200) (fun _ h9 => h9) rfl dn_d_Signers_add_40 ?_
    refine lv_iconst (v := 1) hx hb dn_d_Signers_add_43 (by decide) ?_
    refine lv_iadd hx hb dn_d_Signers_add_44 ?_
    rw [show (nI sk) + (1 : Int32) = nI (sk + 1) from nI_add sk 1]
    refine va_put (D := G) (ci := 7) (v := .int (nI (sk + 1))) (ty := (.int)) (C := dn_R_Signers) (T := dn_T_Signers) (N := 4) hx hb hts (dn_u_Signers) dn_t_Signers dn_o_Signers dn_n_Signers hown hK hP hD hS 0 rfl rfl 3 (by decide) (hts _ dn_w_200) (fun _ h9 => h9) rfl (by decide +kernel) rfl rfl (Nat.le_of_ble_eq_true rfl) dn_d_Signers_add_45 (fun H locs hP hD hS => ?_)
    have hP : va_P G vwCl [(hg, .inr (7, [.ref ga, .ref gb, .ref gc, .int (nI (sk + 1))])), (ga, .inl (cA 1, 4, .inr (.inl (vp_updL fn sk x)))), (gb, .inl (cA 0, 4, .inl (upd fo sk mm))), (gc, .inl (cA 0, 4, .inl (upd fe sk ee)))] H := hP
    have hD : va_D A [(hg, .inr (7, [.ref ga, .ref gb, .ref gc, .int (nI (sk + 1))])), (ga, .inl (cA 1, 4, .inr (.inl (vp_updL fn sk x)))), (gb, .inl (cA 0, 4, .inl (upd fo sk mm))), (gc, .inl (cA 0, 4, .inl (upd fe sk ee)))] := hD
    refine lv_aload_n hx hb dn_d_Signers_add_48 rfl (lv_at hl 0 rfl) ?_
    refine va_get (D := G) (ci := 7) (v := .int (nI (sk + 1))) (C := dn_R_Signers) (T := dn_T_Signers) (N := 4) hx hb hts (dn_u_Signers) hown hK hP 0 rfl rfl 3 (by decide) (hts _ dn_w_200) (fun _ h9 => h9) rfl dn_d_Signers_add_49 ?_
    have hP9 := hP.sub (ws' := [(hg, .inr (7, [.ref ga, .ref gb, .ref gc, .int (nI (sk + 1))])), (ga, .inl (cA 1, 4, .inr (.inl (vp_updL fn sk x)))), (gb, .inl (cA 0, 4, .inl (upd fo sk mm))), (gc, .inl (cA 0, 4, .inl (upd fe sk ee)))]) [0, 1, 2, 3] rfl
    have hD9 := hD.sub (ws' := [(hg, .inr (7, [.ref ga, .ref gb, .ref gc, .int (nI (sk + 1))])), (ga, .inl (cA 1, 4, .inr (.inl (vp_updL fn sk x)))), (gb, .inl (cA 0, 4, .inl (upd fo sk mm))), (gc, .inl (cA 0, 4, .inl (upd fe sk ee)))]) [0, 1, 2, 3] (by decide) rfl
    exact W.iret (v := (nI (sk + 1))) hx hb hr (fun t ht hW => ⟨⟨_, (), rfl, (rfl), by rw [ht]; exact hP9, hD9⟩, hS.F ht⟩) hS.2.2 dn_d_Signers_add_52

set_option maxHeartbeats 4000000 in
set_option maxRecDepth 100000 in
theorem cc_gfind (l : Launch) (G : va_G) (cA : Nat → ClassId) (hg : Nat) (ga : Nat) (gb : Nat) (gc : Nat) (fn : Nat → Int64) (fo : Nat → Int32) (fe : Nat → Int32) (sk : Nat) (x : Int64) (hsk : sk ≤ 4) : Met l dn_y_Signers_find (.code dn_y_Signers_find dn_c_Signers_find 4 (some .int) :: dc_W) ({ frames := 0, cells := 0, slots := 0, locals := 0 }) (dc_pR G cA [(hg, .inr (7, [.ref ga, .ref gb, .ref gc, .int (nI sk)])), (ga, .inl (cA 1, 4, .inr (.inl fn))), (gb, .inl (cA 0, 4, .inl fo)), (gc, .inl (cA 0, 4, .inl fe))] [.ref hg, .long x]) (vp_Si (fun r => r = dc_sfind fn x sk)) 0 0 (fun _ => False) := by
  refine Met.ofW (cc := dn_c_Signers_find) (maxL := 4) (ret := (some .int)) (by decide) rfl ?_
  intro p9 en9 s m args9 below9 meth9 cd9 s9 B hml hv
  obtain ⟨rfl, hP, hK0⟩ := hv
  have hx := B.exec
  have hb := B.bytes
  have hr := B.returns
  have hts : ∀ w ∈ dc_W, w.before _ s = true := fun w h => atoms_spec (ws := (.code dn_y_Signers_find dn_c_Signers_find 4 (some .int) :: dc_W)) B.pre w (List.mem_cons_of_mem _ h)
  have hK := hK0.1
  have hN := hK0.2
  have hown : s.vm.findClass dn_R_Signers = some m.cls := findClass_of_methodNamed B.named
  have hlocks := B.notSynchronized
  have hl := lv_entry ([.ref hg, .long x]) (n := 4) (Nat.le_of_ble_eq_true rfl)
  rw [lg_entry_eq]
  generalize (lg_sl ([.ref hg, .long x]) ++ List.replicate (4 - (lg_sl ([.ref hg, .long x])).length) Slot.unset).toArray = ls at hl ⊢
  have hl : lv_has ls 4 [(0, .ref hg), (1, .long x)] := hl
  refine lv_iconst (v := 0) hx hb dn_d_Signers_find_0 (by decide) ?_
  refine lv_istore_n hx hb dn_d_Signers_find_1 rfl hl (by decide) rfl (fun ls hl => ?_)
  have hl : lv_has ls 4 [(3, .int 0), (0, .ref hg), (1, .long x)] := hl
  refine dc_loop (σ := Nat) 2 [] (fun (i : Nat) => sk - i) (fun (i : Nat) (H : Heap) (locs : List Loc) (ls : Array Slot) => lv_has ls 4 [(3, .int (nI i)), (0, .ref hg), (1, .long x)] ∧ H = s.heap ∧ locs = [] ∧ (i ≤ sk) ∧ (dc_sfindR fn x (sk - i) i = dc_sfind fn x sk)) ?_ 0 ⟨lv_sub hl [0, 1, 2] rfl, rfl, rfl, (by omega), (rfl)⟩
  rintro i H locs ls ⟨hl, rfl, rfl, hi, hv⟩ ih2
  have hl : lv_has ls 4 [(3, .int (nI i)), (0, .ref hg), (1, .long x)] := hl
  refine lv_iload_n hx hb dn_d_Signers_find_2 rfl (lv_at hl 0 rfl) ?_
  refine lv_aload_n hx hb dn_d_Signers_find_3 rfl (lv_at hl 1 rfl) ?_
  refine va_get (D := G) (ci := 7) (v := .int (nI sk)) (C := dn_R_Signers) (T := dn_T_Signers) (N := 4) hx hb hts (dn_u_Signers) hown hK hP 0 rfl rfl 3 (by decide) (hts _ dn_w_200) (fun _ h9 => h9) rfl dn_d_Signers_find_4 ?_
  refine lv_icmp_ge (tgt := 29) hx hb dn_d_Signers_find_7 (by decide) (fun h7 => ?_) (fun h7 => ?_)
  · -- 7: sk ≤ i
    have h7 : sk ≤ i := (nI_leI (a := sk) (b := i) (by omega) (by omega)).1 h7
    refine lv_iconst (v := (-1)) hx hb dn_d_Signers_find_29 (by decide) ?_
    exact W.iret (v := (-1)) hx hb hr (fun t ht hW => ⟨_, rfl, (by rw [← hv, show sk - i = 0 by omega]; rfl), ht⟩) (fun q h => by cases h) dn_d_Signers_find_30
  · -- 7: ¬ sk ≤ i
    have h7 : ¬ sk ≤ i := fun z => h7 ((nI_leI (a := sk) (b := i) (by omega) (by omega)).2 z)
    refine lv_aload_n hx hb dn_d_Signers_find_10 rfl (lv_at hl 1 rfl) ?_
    refine va_get (D := G) (ci := 7) (v := .ref ga) (C := dn_R_Signers) (T := dn_T_Signers) (N := 4) hx hb hts (dn_u_Signers) hown hK hP 0 rfl rfl 0 (by decide) (hts _ dn_w_197) (fun _ h9 => h9) rfl dn_d_Signers_find_11 ?_
    refine lv_iload_n hx hb dn_d_Signers_find_14 rfl (lv_at hl 0 rfl) ?_
    refine dc_lald (k := i) hx hb hK hP 1 rfl (by omega) (by omega) dn_d_Signers_find_15 ?_
    refine lv_lload_n hx hb dn_d_Signers_find_16 rfl (lv_at hl 2 rfl) ?_
    refine W.lcmp hx hb dn_d_Signers_find_17 ?_
    refine lv_if_ne (tgt := 23) hx hb dn_d_Signers_find_18 (by decide) (fun h18 => ?_) (fun h18 => ?_)
    · -- 18: ¬ (fn i) = x
      have h18 : ¬ (fn i) = x := fun z => h18 ((lg_cmp_eq (fn i) x).2 z)
      refine lv_iinc (k := 0) (v := nI (i + 1)) hx hb dn_d_Signers_find_23 hl rfl (dc_inc1 _) (by decide) rfl (fun ls hl => ?_)
      have hl : lv_has ls 4 [(3, .int (nI (i + 1))), (0, .ref hg), (1, .long x)] := hl
      refine lv_goto (tgt := 2) hx hb dn_d_Signers_find_26 (by decide) ?_
      exact ih2 (i + 1) _ _ _ (by first | omega | (dsimp only; omega)) ⟨lv_sub hl [0, 1, 2] rfl, rfl, rfl, (by omega), (by rw [← hv, show sk - i = (sk - (i + 1)) + 1 by omega]; show _ = (if _ then _ else _); rw [if_neg h18])⟩
    · -- 18: (fn i) = x
      have h18 : (fn i) = x := (lg_cmp_eq (fn i) x).1 h18
      refine lv_iload_n hx hb dn_d_Signers_find_21 rfl (lv_at hl 0 rfl) ?_
      exact W.iret (v := (nI i)) hx hb hr (fun t ht hW => ⟨_, rfl, (by rw [← hv, show sk - i = (sk - (i + 1)) + 1 by omega]; show _ = (if _ then _ else _); rw [if_pos h18]), ht⟩) (fun q h => by cases h) dn_d_Signers_find_22

set_option maxHeartbeats 4000000 in
set_option maxRecDepth 100000 in
theorem cc_hasSigned (l : Launch) (G : va_G) (cA : Nat → ClassId) (hg : Nat) (ga : Nat) (gb : Nat) (gc : Nat) (fn : Nat → Int64) (fo : Nat → Int32) (fe : Nat → Int32) (sk : Nat) (g : Nat) (x : Int64) (y : Int64) (hsk : sk ≤ 4) (hgs : g < sk) : Met l dn_y_Signers_hasSigned (.code dn_y_Signers_hasSigned dn_c_Signers_hasSigned 7 (some .boolean) :: dc_W) ({ frames := 1, cells := 0, slots := 0, locals := 26 }) (dc_pR G cA [(hg, .inr (7, [.ref ga, .ref gb, .ref gc, .int (nI sk)])), (ga, .inl (cA 1, 4, .inr (.inl fn))), (gb, .inl (cA 0, 4, .inl fo)), (gc, .inl (cA 0, 4, .inl fe))] [.ref hg, .int (nI g), .long x, .long y]) (vp_Si (fun r => r = dc_bI (dc_sigOk (fo g) (fe g) x y))) 0 0 (fun _ => False) := by
  refine Met.ofW (cc := dn_c_Signers_hasSigned) (maxL := 7) (ret := (some .boolean)) (by decide) rfl ?_
  intro p9 en9 s m args9 below9 meth9 cd9 s9 B hml hv
  obtain ⟨rfl, hP, hK0⟩ := hv
  have hx := B.exec
  have hb := B.bytes
  have hr := B.returns
  have hts : ∀ w ∈ dc_W, w.before _ s = true := fun w h => atoms_spec (ws := (.code dn_y_Signers_hasSigned dn_c_Signers_hasSigned 7 (some .boolean) :: dc_W)) B.pre w (List.mem_cons_of_mem _ h)
  have hK := hK0.1
  have hN := hK0.2
  have hown : s.vm.findClass dn_R_Signers = some m.cls := findClass_of_methodNamed B.named
  have hlocks := B.notSynchronized
  have hl := lv_entry ([.ref hg, .int (nI g), .long x, .long y]) (n := 7) (Nat.le_of_ble_eq_true rfl)
  rw [lg_entry_eq]
  generalize (lg_sl ([.ref hg, .int (nI g), .long x, .long y]) ++ List.replicate (7 - (lg_sl ([.ref hg, .int (nI g), .long x, .long y])).length) Slot.unset).toArray = ls at hl ⊢
  have hl : lv_has ls 7 [(0, .ref hg), (1, .int (nI g)), (2, .long x), (4, .long y)] := hl
  refine lv_iload_n hx hb dn_d_Signers_hasSigned_0 rfl (lv_at hl 1 rfl) ?_
  refine lv_if_lt (tgt := 12) hx hb dn_d_Signers_hasSigned_1 (by decide) (fun h1 => ?_) (fun h1 => ?_)
  · exact absurd (show g < 0 from (nI_ltI (a := g) (b := 0) (by omega) (by omega)).1 h1) (by omega)
  · -- 1: ¬ g < 0
    have h1 : ¬ g < 0 := fun z => h1 ((nI_ltI (a := g) (b := 0) (by omega) (by omega)).2 z)
    refine lv_iload_n hx hb dn_d_Signers_hasSigned_4 rfl (lv_at hl 1 rfl) ?_
    refine lv_aload_n hx hb dn_d_Signers_hasSigned_5 rfl (lv_at hl 0 rfl) ?_
    refine va_get (D := G) (ci := 7) (v := .int (nI sk)) (C := dn_R_Signers) (T := dn_T_Signers) (N := 4) hx hb hts (dn_u_Signers) hown hK hP 0 rfl rfl 3 (by decide) (hts _ dn_w_200) (fun _ h9 => h9) rfl dn_d_Signers_hasSigned_6 ?_
    refine lv_icmp_lt (tgt := 14) hx hb dn_d_Signers_hasSigned_9 (by decide) (fun h9 => ?_) (fun h9 => ?_)
    · -- 9: g < sk
      have h9 : g < sk := (nI_ltI (a := g) (b := sk) (by omega) (by omega)).1 h9
      refine lv_aload_n hx hb dn_d_Signers_hasSigned_14 rfl (lv_at hl 0 rfl) ?_
      refine va_get (D := G) (ci := 7) (v := .ref gb) (C := dn_R_Signers) (T := dn_T_Signers) (N := 4) hx hb hts (dn_u_Signers) hown hK hP 0 rfl rfl 1 (by decide) (hts _ dn_w_198) (fun _ h9 => h9) rfl dn_d_Signers_hasSigned_15 ?_
      refine lv_iload_n hx hb dn_d_Signers_hasSigned_18 rfl (lv_at hl 1 rfl) ?_
      refine dc_iald (k := g) hx hb hK hP 2 rfl (by omega) (by omega) dn_d_Signers_hasSigned_19 ?_
      refine lv_istore hx hb dn_d_Signers_hasSigned_20 hl (by decide) rfl (fun ls hl => ?_)
      have hl : lv_has ls 7 [(6, .int (fo g)), (0, .ref hg), (1, .int (nI g)), (2, .long x), (4, .long y)] := hl
      refine lv_iload hx hb dn_d_Signers_hasSigned_22 (lv_at hl 0 rfl) ?_
      refine lv_iconst (v := 2) hx hb dn_d_Signers_hasSigned_24 (by decide) ?_
      refine lv_icmp_lt (tgt := 44) hx hb dn_d_Signers_hasSigned_25 (by decide) (fun h25 => ?_) (fun h25 => ?_)
      · -- 25: (fo g) < 2
        refine lv_iconst (v := 0) hx hb dn_d_Signers_hasSigned_44 (by decide) ?_
        exact W.zret (ty := .boolean) (v := 0) hx hb hr (rfl) (fun t ht hW => ⟨_, rfl, (by rw [show dc_sigOk (fo g) (fe g) x y = false from decide_eq_false (fun z => z.1 h25)]; rfl), ht⟩) (fun q h => by cases h) dn_d_Signers_hasSigned_45
      · -- 25: ¬ (fo g) < 2
        refine lv_lload hx hb dn_d_Signers_hasSigned_28 (lv_at hl 4 rfl) ?_
        refine lv_lconst (v := 0) hx hb dn_d_Signers_hasSigned_30 (by decide) ?_
        refine W.lcmp hx hb dn_d_Signers_hasSigned_31 ?_
        refine lv_if_lt (tgt := 44) hx hb dn_d_Signers_hasSigned_32 (by decide) (fun h32 => ?_) (fun h32 => ?_)
        · -- 32: y < 0
          have h32 : y < 0 := (lg_cmp_lt y 0).1 h32
          refine lv_iconst (v := 0) hx hb dn_d_Signers_hasSigned_44 (by decide) ?_
          exact W.zret (ty := .boolean) (v := 0) hx hb hr (rfl) (fun t ht hW => ⟨_, rfl, (by rw [show dc_sigOk (fo g) (fe g) x y = false from decide_eq_false (fun z => z.2.1 h32)]; rfl), ht⟩) (fun q h => by cases h) dn_d_Signers_hasSigned_45
        · -- 32: ¬ y < 0
          have h32 : ¬ y < 0 := fun z => h32 ((lg_cmp_lt y 0).2 z)
          refine lv_lload hx hb dn_d_Signers_hasSigned_35 (lv_at hl 4 rfl) ?_
          refine lv_iload hx hb dn_d_Signers_hasSigned_37 (lv_at hl 0 rfl) ?_
          refine lv_i2l (v := (fo g).toInt64) hx hb dn_d_Signers_hasSigned_39 rfl ?_
          refine W.lcmp hx hb dn_d_Signers_hasSigned_40 ?_
          refine lv_if_lt (tgt := 46) hx hb dn_d_Signers_hasSigned_41 (by decide) (fun h41 => ?_) (fun h41 => ?_)
          · -- 41: y < ((fo g).toInt64)
            have h41 : y < ((fo g).toInt64) := (lg_cmp_lt y ((fo g).toInt64)).1 h41
            refine lv_lload hx hb dn_d_Signers_hasSigned_46 (lv_at hl 4 rfl) ?_
            refine lv_aload_n hx hb dn_d_Signers_hasSigned_48 rfl (lv_at hl 1 rfl) ?_
            refine va_get (D := G) (ci := 7) (v := .ref gc) (C := dn_R_Signers) (T := dn_T_Signers) (N := 4) hx hb hts (dn_u_Signers) hown hK hP 0 rfl rfl 2 (by decide) (hts _ dn_w_199) (fun _ h9 => h9) rfl dn_d_Signers_hasSigned_49 ?_
            refine lv_iload_n hx hb dn_d_Signers_hasSigned_52 rfl (lv_at hl 2 rfl) ?_
            refine dc_iald (k := g) hx hb hK hP 3 rfl (by omega) (by omega) dn_d_Signers_hasSigned_53 ?_
            refine lv_iload hx hb dn_d_Signers_hasSigned_54 (lv_at hl 0 rfl) ?_
            refine vp_callSl (va_Run.run (va_runS (As := [.long y, .int (fe g), .int (fo g)]) (rest := []) ⟨hx, hb, hml, hown, hts⟩ (cc_power l y (fe g) (fo g) (dc_mne h25)) ⟨(callB_of 3 hts (dc_good dn_w_557) rfl rfl rfl (hts _ dn_w_10) (hts _ dn_w_555) (by decide +kernel) ⟨Nat.le_of_ble_eq_true rfl, Nat.le_of_ble_eq_true rfl⟩), (hts _ dn_w_556)⟩ preEq rfl rfl hl.1 rfl (lv_room (Nat.le_of_ble_eq_true rfl)) dn_d_Signers_hasSigned_56 ⟨Nat.le_of_ble_eq_true rfl, Nat.le_of_ble_eq_true rfl⟩)) (fun r9 hr9 => ?_)
            subst hr9
            refine lv_lload_n hx hb dn_d_Signers_hasSigned_59 rfl (lv_at hl 3 rfl) ?_
            refine lv_iload hx hb dn_d_Signers_hasSigned_60 (lv_at hl 0 rfl) ?_
            refine lv_i2l (v := (fo g).toInt64) hx hb dn_d_Signers_hasSigned_62 rfl ?_
            refine lv_lrem hx hb dn_d_Signers_hasSigned_63 (dc_mne h25) ?_
            refine W.lcmp hx hb dn_d_Signers_hasSigned_64 ?_
            refine lv_if_ne (tgt := 72) hx hb dn_d_Signers_hasSigned_65 (by decide) (fun h65 => ?_) (fun h65 => ?_)
            · -- 65: ¬ (dc_powR y (fe g) (fo g) 17 1) = (dc_lrem x ((fo g).toInt64))
              have h65 : ¬ (dc_powR y (fe g) (fo g) 17 1) = (dc_lrem x ((fo g).toInt64)) := fun z => h65 ((lg_cmp_eq (dc_powR y (fe g) (fo g) 17 1) (dc_lrem x ((fo g).toInt64))).2 z)
              refine lv_iconst (v := 0) hx hb dn_d_Signers_hasSigned_72 (by decide) ?_
              exact W.zret (ty := .boolean) (v := 0) hx hb hr (rfl) (fun t ht hW => ⟨_, rfl, (by rw [show dc_sigOk (fo g) (fe g) x y = false from decide_eq_false (fun z => h65 z.2.2.2)]; rfl), ht⟩) (fun q h => by cases h) dn_d_Signers_hasSigned_73
            · -- 65: (dc_powR y (fe g) (fo g) 17 1) = (dc_lrem x ((fo g).toInt64))
              have h65 : (dc_powR y (fe g) (fo g) 17 1) = (dc_lrem x ((fo g).toInt64)) := (lg_cmp_eq (dc_powR y (fe g) (fo g) 17 1) (dc_lrem x ((fo g).toInt64))).1 h65
              refine lv_iconst (v := 1) hx hb dn_d_Signers_hasSigned_68 (by decide) ?_
              refine lv_goto (tgt := 73) hx hb dn_d_Signers_hasSigned_69 (by decide) ?_
              exact W.zret (ty := .boolean) (v := 1) hx hb hr (rfl) (fun t ht hW => ⟨_, rfl, (by rw [show dc_sigOk (fo g) (fe g) x y = true from decide_eq_true ⟨h25, h32, h41, h65⟩]; rfl), ht⟩) (fun q h => by cases h) dn_d_Signers_hasSigned_73
          · -- 41: ¬ y < ((fo g).toInt64)
            have h41 : ¬ y < ((fo g).toInt64) := fun z => h41 ((lg_cmp_lt y ((fo g).toInt64)).2 z)
            refine lv_iconst (v := 0) hx hb dn_d_Signers_hasSigned_44 (by decide) ?_
            exact W.zret (ty := .boolean) (v := 0) hx hb hr (rfl) (fun t ht hW => ⟨_, rfl, (by rw [show dc_sigOk (fo g) (fe g) x y = false from decide_eq_false (fun z => h41 z.2.2.1)]; rfl), ht⟩) (fun q h => by cases h) dn_d_Signers_hasSigned_45
    · exact absurd (show ¬ g < sk from fun z => h9 ((nI_ltI (a := g) (b := sk) (by omega) (by omega)).2 z)) (by omega)
