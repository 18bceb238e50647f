set_option maxHeartbeats 4000000 in
set_option maxRecDepth 100000 in
theorem cc_rowI4 (l : Launch) (G : va_G) (cA : Nat → ClassId) (h0 : Nat)  (sz : Nat) : Met l dn_y_Row_init (.code dn_y_Row_init dn_c_Row_init 2 none :: dc_W) ({ frames := 1, cells := 1, slots := 4, locals := 20 }) (dc_pW G cA [(h0, .inr (5, [.null, .int 0]))] sz [.ref h0, .int 4]) (dc_qv G (fun (_ : Nat) => True) (fun (q : Nat) => [(h0, .inr (5, [.ref q, .int (nI 0)])), (q, .inl (cA 1, 4, .inr (.inl (fun _ => 0))))]) sz [(h0, .inr (5, [.null, .int 0]))]) 1 4 (va_A [(h0, .inr (5, [.null, .int 0]))] sz) := by
  refine Met.ofW (cc := dn_c_Row_init) (maxL := 2) (ret := none) (by decide) rfl ?_
  intro p9 en9 s m args9 below9 meth9 cd9 s9 B hml hv
  obtain ⟨rfl, hsz, hP, hK0, hD0⟩ := hv
  have hx := B.exec
  have hb := B.bytes
  have hr := B.returns
  have hts : ∀ w ∈ dc_W, w.before _ s = true := fun w h => atoms_spec (ws := (.code dn_y_Row_init dn_c_Row_init 2 none :: dc_W)) B.pre w (List.mem_cons_of_mem _ h)
  have hK := hK0.1
  have hN := hK0.2
  have hown : s.vm.findClass dn_R_Row = some m.cls := findClass_of_methodNamed B.named
  have hlocks := B.notSynchronized
  have hin : meth9.name = "<init>" := (name_of_methodNamed B.named B.method).1
  subst hsz
  have hD := hD0.self (sz := s.heap.size)
  unfold dc_qv
  generalize hAe : va_A [(h0, .inr (5, [.null, .int 0]))] s.heap.size = A at hD ⊢
  have hA : ∀ q : Nat, s.heap.size ≤ q → A q := fun q h => by rw [← hAe]; exact Or.inr h
  have hS : va_S A s.heap s.heap [] := va_S.rf
  have hl := lv_entry ([.ref h0, .int 4]) (n := 2) (Nat.le_of_ble_eq_true rfl)
  rw [lg_entry_eq]
  generalize (lg_sl ([.ref h0, .int 4]) ++ List.replicate (2 - (lg_sl ([.ref h0, .int 4])).length) Slot.unset).toArray = ls at hl ⊢
  have hl : lv_has ls 2 [(0, .ref h0), (1, .int 4)] := hl
  refine lv_aload_n hx hb dn_d_Row_init_0 rfl (lv_at hl 0 rfl) ?_
  refine W.objInit hx hb hown (hts _ dn_w_34) (hts _ dn_w_27) (hts _ dn_w_28) rfl (by rw [hml]; exact hl.1) rfl dn_d_Row_init_1 (Nat.le_of_ble_eq_true rfl) (Nat.le_of_ble_eq_true rfl) ?_
  refine W.eq (g2 := F0 m 4 ls []) rfl ?_
  refine lv_aload_n hx hb dn_d_Row_init_4 rfl (lv_at hl 0 rfl) ?_
  refine lv_iload_n hx hb dn_d_Row_init_5 rfl (lv_at hl 1 rfl) ?_
  refine va_newa (atype := .long) (ty := .long) (a0 := (4, .inr (.inl (fun _ => 0)))) (N' := 4) hx hb (hts _ dn_w_42) rfl hK hP hD hS hA (fun _ => rfl) (by decide) (by decide) (by show 4 * 8 ≤ _; omega) (Nat.le_of_ble_eq_true rfl) (Nat.le_of_ble_eq_true rfl) dn_d_Row_init_6 (fun q1 c9 H hK9 hP hD hS => ?_)
  obtain rfl : c9 = cA 1 := dc_sameJ hK9 (i := 3) (j := 1) rfl rfl
  have hP : va_P G vwCl [(h0, .inr (5, [.null, .int 0])), (q1, .inl (cA 1, 4, .inr (.inl (fun _ => 0))))] H := hP
  have hD : va_D A [(h0, .inr (5, [.null, .int 0])), (q1, .inl (cA 1, 4, .inr (.inl (fun _ => 0))))] := hD
  refine va_putF (D := G) (ci := 5) (v := .ref q1) (ty := (.array .long)) (C := dn_R_Row) (T := dn_T_Row) (N := 2) hx hb hts (dn_u_Row) dn_t_Row dn_o_Row dn_n_Row hown hK hP hD hS 0 rfl rfl 0 (by decide) (hts _ dn_w_35) (fun _ h9 => h9) rfl hin rfl (by decide +kernel) rfl rfl (Nat.le_of_ble_eq_true rfl) dn_d_Row_init_8 (fun H locs hP hD hS => ?_)
  have hP : va_P G vwCl [(h0, .inr (5, [.ref q1, .int 0])), (q1, .inl (cA 1, 4, .inr (.inl (fun _ => 0))))] H := hP
  have hD : va_D A [(h0, .inr (5, [.ref q1, .int 0])), (q1, .inl (cA 1, 4, .inr (.inl (fun _ => 0))))] := hD
  have hP9 := hP.sub (ws' := [(h0, .inr (5, [.ref q1, .int 0])), (q1, .inl (cA 1, 4, .inr (.inl (fun _ => 0))))]) [0, 1] rfl
  have hD9 := hD.sub (ws' := [(h0, .inr (5, [.ref q1, .int 0])), (q1, .inl (cA 1, 4, .inr (.inl (fun _ => 0))))]) [0, 1] (by decide) rfl
  have hE9 : ([(h0, .inr (5, [.ref q1, .int 0])), (q1, .inl (cA 1, 4, .inr (.inl (fun _ => 0))))] : va_W) = [(h0, .inr (5, [.ref q1, .int (nI 0)])), (q1, .inl (cA 1, 4, .inr (.inl (fun _ => 0))))] := rfl
  rw [hE9] at hP9 hD9
  exact W.vret hx hb hr (fun t ht hW => ⟨⟨q1, rfl, (trivial), by rw [ht]; exact hP9, hD9⟩, hS.F ht⟩) hS.2.2 dn_d_Row_init_11

set_option maxHeartbeats 4000000 in
set_option maxRecDepth 100000 in
theorem cc_rowI6 (l : Launch) (G : va_G) (cA : Nat → ClassId) (h0 : Nat)  (sz : Nat) : Met l dn_y_Row_init (.code dn_y_Row_init dn_c_Row_init 2 none :: dc_W) ({ frames := 1, cells := 1, slots := 6, locals := 20 }) (dc_pW G cA [(h0, .inr (5, [.null, .int 0]))] sz [.ref h0, .int 6]) (dc_qv G (fun (_ : Nat) => True) (fun (q : Nat) => [(h0, .inr (5, [.ref q, .int (nI 0)])), (q, .inl (cA 1, 6, .inr (.inl (fun _ => 0))))]) sz [(h0, .inr (5, [.null, .int 0]))]) 1 6 (va_A [(h0, .inr (5, [.null, .int 0]))] sz) := by
  refine Met.ofW (cc := dn_c_Row_init) (maxL := 2) (ret := none) (by decide) rfl ?_
  intro p9 en9 s m args9 below9 meth9 cd9 s9 B hml hv
  obtain ⟨rfl, hsz, hP, hK0, hD0⟩ := hv
  have hx := B.exec
  have hb := B.bytes
  have hr := B.returns
  have hts : ∀ w ∈ dc_W, w.before _ s = true := fun w h => atoms_spec (ws := (.code dn_y_Row_init dn_c_Row_init 2 none :: dc_W)) B.pre w (List.mem_cons_of_mem _ h)
  have hK := hK0.1
  have hN := hK0.2
  have hown : s.vm.findClass dn_R_Row = some m.cls := findClass_of_methodNamed B.named
  have hlocks := B.notSynchronized
  have hin : meth9.name = "<init>" := (name_of_methodNamed B.named B.method).1
  subst hsz
  have hD := hD0.self (sz := s.heap.size)
  unfold dc_qv
  generalize hAe : va_A [(h0, .inr (5, [.null, .int 0]))] s.heap.size = A at hD ⊢
  have hA : ∀ q : Nat, s.heap.size ≤ q → A q := fun q h => by rw [← hAe]; exact Or.inr h
  have hS : va_S A s.heap s.heap [] := va_S.rf
  have hl := lv_entry ([.ref h0, .int 6]) (n := 2) (Nat.le_of_ble_eq_true rfl)
  rw [lg_entry_eq]
  generalize (lg_sl ([.ref h0, .int 6]) ++ List.replicate (2 - (lg_sl ([.ref h0, .int 6])).length) Slot.unset).toArray = ls at hl ⊢
  have hl : lv_has ls 2 [(0, .ref h0), (1, .int 6)] := hl
  refine lv_aload_n hx hb dn_d_Row_init_0 rfl (lv_at hl 0 rfl) ?_
  refine W.objInit hx hb hown (hts _ dn_w_34) (hts _ dn_w_27) (hts _ dn_w_28) rfl (by rw [hml]; exact hl.1) rfl dn_d_Row_init_1 (Nat.le_of_ble_eq_true rfl) (Nat.le_of_ble_eq_true rfl) ?_
  refine W.eq (g2 := F0 m 4 ls []) rfl ?_
  refine lv_aload_n hx hb dn_d_Row_init_4 rfl (lv_at hl 0 rfl) ?_
  refine lv_iload_n hx hb dn_d_Row_init_5 rfl (lv_at hl 1 rfl) ?_
  refine va_newa (atype := .long) (ty := .long) (a0 := (6, .inr (.inl (fun _ => 0)))) (N' := 6) hx hb (hts _ dn_w_42) rfl hK hP hD hS hA (fun _ => rfl) (by decide) (by decide) (by show 6 * 8 ≤ _; omega) (Nat.le_of_ble_eq_true rfl) (Nat.le_of_ble_eq_true rfl) dn_d_Row_init_6 (fun q1 c9 H hK9 hP hD hS => ?_)
  obtain rfl : c9 = cA 1 := dc_sameJ hK9 (i := 3) (j := 1) rfl rfl
  have hP : va_P G vwCl [(h0, .inr (5, [.null, .int 0])), (q1, .inl (cA 1, 6, .inr (.inl (fun _ => 0))))] H := hP
  have hD : va_D A [(h0, .inr (5, [.null, .int 0])), (q1, .inl (cA 1, 6, .inr (.inl (fun _ => 0))))] := hD
  refine va_putF (D := G) (ci := 5) (v := .ref q1) (ty := (.array .long)) (C := dn_R_Row) (T := dn_T_Row) (N := 2) hx hb hts (dn_u_Row) dn_t_Row dn_o_Row dn_n_Row hown hK hP hD hS 0 rfl rfl 0 (by decide) (hts _ dn_w_35) (fun _ h9 => h9) rfl hin rfl (by decide +kernel) rfl rfl (Nat.le_of_ble_eq_true rfl) dn_d_Row_init_8 (fun H locs hP hD hS => ?_)
  have hP : va_P G vwCl [(h0, .inr (5, [.ref q1, .int 0])), (q1, .inl (cA 1, 6, .inr (.inl (fun _ => 0))))] H := hP
  have hD : va_D A [(h0, .inr (5, [.ref q1, .int 0])), (q1, .inl (cA 1, 6, .inr (.inl (fun _ => 0))))] := hD
  have hP9 := hP.sub (ws' := [(h0, .inr (5, [.ref q1, .int 0])), (q1, .inl (cA 1, 6, .inr (.inl (fun _ => 0))))]) [0, 1] rfl
  have hD9 := hD.sub (ws' := [(h0, .inr (5, [.ref q1, .int 0])), (q1, .inl (cA 1, 6, .inr (.inl (fun _ => 0))))]) [0, 1] (by decide) rfl
  have hE9 : ([(h0, .inr (5, [.ref q1, .int 0])), (q1, .inl (cA 1, 6, .inr (.inl (fun _ => 0))))] : va_W) = [(h0, .inr (5, [.ref q1, .int (nI 0)])), (q1, .inl (cA 1, 6, .inr (.inl (fun _ => 0))))] := rfl
  rw [hE9] at hP9 hD9
  exact W.vret hx hb hr (fun t ht hW => ⟨⟨q1, rfl, (trivial), by rw [ht]; exact hP9, hD9⟩, hS.F ht⟩) hS.2.2 dn_d_Row_init_11

set_option maxHeartbeats 4000000 in
set_option maxRecDepth 100000 in
theorem cc_rowI20 (l : Launch) (G : va_G) (cA : Nat → ClassId) (h0 : Nat)  (sz : Nat) : Met l dn_y_Row_init (.code dn_y_Row_init dn_c_Row_init 2 none :: dc_W) ({ frames := 1, cells := 1, slots := 20, locals := 20 }) (dc_pW G cA [(h0, .inr (5, [.null, .int 0]))] sz [.ref h0, .int 20]) (dc_qv G (fun (_ : Nat) => True) (fun (q : Nat) => [(h0, .inr (5, [.ref q, .int (nI 0)])), (q, .inl (cA 1, 20, .inr (.inl (fun _ => 0))))]) sz [(h0, .inr (5, [.null, .int 0]))]) 1 20 (va_A [(h0, .inr (5, [.null, .int 0]))] sz) := by
  refine Met.ofW (cc := dn_c_Row_init) (maxL := 2) (ret := none) (by decide) rfl ?_
  intro p9 en9 s m args9 below9 meth9 cd9 s9 B hml hv
  obtain ⟨rfl, hsz, hP, hK0, hD0⟩ := hv
  have hx := B.exec
  have hb := B.bytes
  have hr := B.returns
  have hts : ∀ w ∈ dc_W, w.before _ s = true := fun w h => atoms_spec (ws := (.code dn_y_Row_init dn_c_Row_init 2 none :: dc_W)) B.pre w (List.mem_cons_of_mem _ h)
  have hK := hK0.1
  have hN := hK0.2
  have hown : s.vm.findClass dn_R_Row = some m.cls := findClass_of_methodNamed B.named
  have hlocks := B.notSynchronized
  have hin : meth9.name = "<init>" := (name_of_methodNamed B.named B.method).1
  subst hsz
  have hD := hD0.self (sz := s.heap.size)
  unfold dc_qv
  generalize hAe : va_A [(h0, .inr (5, [.null, .int 0]))] s.heap.size = A at hD ⊢
  have hA : ∀ q : Nat, s.heap.size ≤ q → A q := fun q h => by rw [← hAe]; exact Or.inr h
  have hS : va_S A s.heap s.heap [] := va_S.rf
  have hl := lv_entry ([.ref h0, .int 20]) (n := 2) (Nat.le_of_ble_eq_true rfl)
  rw [lg_entry_eq]
  generalize (lg_sl ([.ref h0, .int 20]) ++ List.replicate (2 - (lg_sl ([.ref h0, .int 20])).length) Slot.unset).toArray = ls at hl ⊢
  have hl : lv_has ls 2 [(0, .ref h0), (1, .int 20)] := hl
  refine lv_aload_n hx hb dn_d_Row_init_0 rfl (lv_at hl 0 rfl) ?_
  refine W.objInit hx hb hown (hts _ dn_w_34) (hts _ dn_w_27) (hts _ dn_w_28) rfl (by rw [hml]; exact hl.1) rfl dn_d_Row_init_1 (Nat.le_of_ble_eq_true rfl) (Nat.le_of_ble_eq_true rfl) ?_
  refine W.eq (g2 := F0 m 4 ls []) rfl ?_
  refine lv_aload_n hx hb dn_d_Row_init_4 rfl (lv_at hl 0 rfl) ?_
  refine lv_iload_n hx hb dn_d_Row_init_5 rfl (lv_at hl 1 rfl) ?_
  refine va_newa (atype := .long) (ty := .long) (a0 := (20, .inr (.inl (fun _ => 0)))) (N' := 20) hx hb (hts _ dn_w_42) rfl hK hP hD hS hA (fun _ => rfl) (by decide) (by decide) (by show 20 * 8 ≤ _; omega) (Nat.le_of_ble_eq_true rfl) (Nat.le_of_ble_eq_true rfl) dn_d_Row_init_6 (fun q1 c9 H hK9 hP hD hS => ?_)
  obtain rfl : c9 = cA 1 := dc_sameJ hK9 (i := 3) (j := 1) rfl rfl
  have hP : va_P G vwCl [(h0, .inr (5, [.null, .int 0])), (q1, .inl (cA 1, 20, .inr (.inl (fun _ => 0))))] H := hP
  have hD : va_D A [(h0, .inr (5, [.null, .int 0])), (q1, .inl (cA 1, 20, .inr (.inl (fun _ => 0))))] := hD
  refine va_putF (D := G) (ci := 5) (v := .ref q1) (ty := (.array .long)) (C := dn_R_Row) (T := dn_T_Row) (N := 2) hx hb hts (dn_u_Row) dn_t_Row dn_o_Row dn_n_Row hown hK hP hD hS 0 rfl rfl 0 (by decide) (hts _ dn_w_35) (fun _ h9 => h9) rfl hin rfl (by decide +kernel) rfl rfl (Nat.le_of_ble_eq_true rfl) dn_d_Row_init_8 (fun H locs hP hD hS => ?_)
  have hP : va_P G vwCl [(h0, .inr (5, [.ref q1, .int 0])), (q1, .inl (cA 1, 20, .inr (.inl (fun _ => 0))))] H := hP
  have hD : va_D A [(h0, .inr (5, [.ref q1, .int 0])), (q1, .inl (cA 1, 20, .inr (.inl (fun _ => 0))))] := hD
  have hP9 := hP.sub (ws' := [(h0, .inr (5, [.ref q1, .int 0])), (q1, .inl (cA 1, 20, .inr (.inl (fun _ => 0))))]) [0, 1] rfl
  have hD9 := hD.sub (ws' := [(h0, .inr (5, [.ref q1, .int 0])), (q1, .inl (cA 1, 20, .inr (.inl (fun _ => 0))))]) [0, 1] (by decide) rfl
  have hE9 : ([(h0, .inr (5, [.ref q1, .int 0])), (q1, .inl (cA 1, 20, .inr (.inl (fun _ => 0))))] : va_W) = [(h0, .inr (5, [.ref q1, .int (nI 0)])), (q1, .inl (cA 1, 20, .inr (.inl (fun _ => 0))))] := rfl
  rw [hE9] at hP9 hD9
  exact W.vret hx hb hr (fun t ht hW => ⟨⟨q1, rfl, (trivial), by rw [ht]; exact hP9, hD9⟩, hS.F ht⟩) hS.2.2 dn_d_Row_init_11

set_option maxHeartbeats 4000000 in
set_option maxRecDepth 100000 in
theorem cc_accI (l : Launch) (G : va_G) (cA : Nat → ClassId) (ha : Nat) (ka : Int64) (kb : Int64)  (sz : Nat) : Met l dn_y_Access_init (.code dn_y_Access_init dn_c_Access_init 1 none :: dc_W) ({ frames := 1, cells := 0, slots := 0, locals := 20 }) (dc_pW G cA [(ha, .inr (1, [.long ka, .long kb]))] sz [.ref ha]) (dc_qv G (fun (_ : Unit) => True) (fun (_ : Unit) => [(ha, .inr (1, [.long ka, .long kb]))]) sz [(ha, .inr (1, [.long ka, .long kb]))]) 0 0 (va_A [(ha, .inr (1, [.long ka, .long kb]))] sz) := by
  refine Met.ofW (cc := dn_c_Access_init) (maxL := 1) (ret := none) (by decide) rfl ?_
  intro p9 en9 s m args9 below9 meth9 cd9 s9 B hml hv
  obtain ⟨rfl, hsz, hP, hK0, hD0⟩ := hv
  have hx := B.exec
  have hb := B.bytes
  have hr := B.returns
  have hts : ∀ w ∈ dc_W, w.before _ s = true := fun w h => atoms_spec (ws := (.code dn_y_Access_init dn_c_Access_init 1 none :: dc_W)) B.pre w (List.mem_cons_of_mem _ h)
  have hK := hK0.1
  have hN := hK0.2
  have hown : s.vm.findClass dn_R_Access = some m.cls := findClass_of_methodNamed B.named
  have hlocks := B.notSynchronized
  have hin : meth9.name = "<init>" := (name_of_methodNamed B.named B.method).1
  subst hsz
  have hD := hD0.self (sz := s.heap.size)
  unfold dc_qv
  generalize hAe : va_A [(ha, .inr (1, [.long ka, .long kb]))] s.heap.size = A at hD ⊢
  have hA : ∀ q : Nat, s.heap.size ≤ q → A q := fun q h => by rw [← hAe]; exact Or.inr h
  have hS : va_S A s.heap s.heap [] := va_S.rf
  have hl := lv_entry ([.ref ha]) (n := 1) (Nat.le_of_ble_eq_true rfl)
  rw [lg_entry_eq]
  generalize (lg_sl ([.ref ha]) ++ List.replicate (1 - (lg_sl ([.ref ha])).length) Slot.unset).toArray = ls at hl ⊢
  have hl : lv_has ls 1 [(0, .ref ha)] := hl
  refine lv_aload_n hx hb dn_d_Access_init_0 rfl (lv_at hl 0 rfl) ?_
  refine W.objInit hx hb hown (hts _ dn_w_54) (hts _ dn_w_27) (hts _ dn_w_28) rfl (by rw [hml]; exact hl.1) rfl dn_d_Access_init_1 (Nat.le_of_ble_eq_true rfl) (Nat.le_of_ble_eq_true rfl) ?_
  refine W.eq (g2 := F0 m 4 ls []) rfl ?_
  have hP9 := hP.sub (ws' := [(ha, .inr (1, [.long ka, .long kb]))]) [0] rfl
  have hD9 := hD.sub (ws' := [(ha, .inr (1, [.long ka, .long kb]))]) [0] (by decide) rfl
  exact W.vret hx hb hr (fun t ht hW => ⟨⟨(), rfl, (trivial), by rw [ht]; exact hP9, hD9⟩, hS.F ht⟩) hS.2.2 dn_d_Access_init_4

set_option maxHeartbeats 4000000 in
set_option maxRecDepth 100000 in
theorem cc_sesI (l : Launch) (G : va_G) (cA : Nat → ClassId) (hs : Nat) (so : Bool) (se : Int64) (sm : Int64) (sc : Int64)  (sz : Nat) : Met l dn_y_Session_init (.code dn_y_Session_init dn_c_Session_init 1 none :: dc_W) ({ frames := 1, cells := 0, slots := 0, locals := 20 }) (dc_pW G cA [(hs, .inr (6, [.int (dc_bI so), .long se, .long sm, .long sc]))] sz [.ref hs]) (dc_qv G (fun (_ : Unit) => True) (fun (_ : Unit) => [(hs, .inr (6, [.int (dc_bI so), .long se, .long sm, .long sc]))]) sz [(hs, .inr (6, [.int (dc_bI so), .long se, .long sm, .long sc]))]) 0 0 (va_A [(hs, .inr (6, [.int (dc_bI so), .long se, .long sm, .long sc]))] sz) := by
  refine Met.ofW (cc := dn_c_Session_init) (maxL := 1) (ret := none) (by decide) rfl ?_
  intro p9 en9 s m args9 below9 meth9 cd9 s9 B hml hv
  obtain ⟨rfl, hsz, hP, hK0, hD0⟩ := hv
  have hx := B.exec
  have hb := B.bytes
  have hr := B.returns
  have hts : ∀ w ∈ dc_W, w.before _ s = true := fun w h => atoms_spec (ws := (.code dn_y_Session_init dn_c_Session_init 1 none :: dc_W)) B.pre w (List.mem_cons_of_mem _ h)
  have hK := hK0.1
  have hN := hK0.2
  have hown : s.vm.findClass dn_R_Session = some m.cls := findClass_of_methodNamed B.named
  have hlocks := B.notSynchronized
  have hin : meth9.name = "<init>" := (name_of_methodNamed B.named B.method).1
  subst hsz
  have hD := hD0.self (sz := s.heap.size)
  unfold dc_qv
  generalize hAe : va_A [(hs, .inr (6, [.int (dc_bI so), .long se, .long sm, .long sc]))] s.heap.size = A at hD ⊢
  have hA : ∀ q : Nat, s.heap.size ≤ q → A q := fun q h => by rw [← hAe]; exact Or.inr h
  have hS : va_S A s.heap s.heap [] := va_S.rf
  have hl := lv_entry ([.ref hs]) (n := 1) (Nat.le_of_ble_eq_true rfl)
  rw [lg_entry_eq]
  generalize (lg_sl ([.ref hs]) ++ List.replicate (1 - (lg_sl ([.ref hs])).length) Slot.unset).toArray = ls at hl ⊢
  have hl : lv_has ls 1 [(0, .ref hs)] := hl
  refine lv_aload_n hx hb dn_d_Session_init_0 rfl (lv_at hl 0 rfl) ?_
  refine W.objInit hx hb hown (hts _ dn_w_67) (hts _ dn_w_27) (hts _ dn_w_28) rfl (by rw [hml]; exact hl.1) rfl dn_d_Session_init_1 (Nat.le_of_ble_eq_true rfl) (Nat.le_of_ble_eq_true rfl) ?_
  refine W.eq (g2 := F0 m 4 ls []) rfl ?_
  have hP9 := hP.sub (ws' := [(hs, .inr (6, [.int (dc_bI so), .long se, .long sm, .long sc]))]) [0] rfl
  have hD9 := hD.sub (ws' := [(hs, .inr (6, [.int (dc_bI so), .long se, .long sm, .long sc]))]) [0] (by decide) rfl
  exact W.vret hx hb hr (fun t ht hW => ⟨⟨(), rfl, (trivial), by rw [ht]; exact hP9, hD9⟩, hS.F ht⟩) hS.2.2 dn_d_Session_init_4

set_option maxHeartbeats 4000000 in
set_option maxRecDepth 100000 in
theorem cc_linI (l : Launch) (G : va_G) (cA : Nat → ClassId) (hp : Nat)  (sz : Nat) : Met l dn_y_Line_init (.code dn_y_Line_init dn_c_Line_init 1 none :: dc_W) ({ frames := 1, cells := 2, slots := 6, locals := 20 }) (dc_pW G cA [(hp, .inr (4, [.null, .null]))] sz [.ref hp]) (dc_qv G (fun (_ : Nat × Nat) => True) (fun (u : Nat × Nat) => match u with | (qv, qd) => [(hp, .inr (4, [.ref qv, .ref qd])), (qv, .inl (cA 0, 3, .inl (fun _ => 0))), (qd, .inl (cA 0, 3, .inl (fun _ => 0)))]) sz [(hp, .inr (4, [.null, .null]))]) 2 6 (va_A [(hp, .inr (4, [.null, .null]))] sz) := by
  refine Met.ofW (cc := dn_c_Line_init) (maxL := 1) (ret := none) (by decide) rfl ?_
  intro p9 en9 s m args9 below9 meth9 cd9 s9 B hml hv
  obtain ⟨rfl, hsz, hP, hK0, hD0⟩ := hv
  have hx := B.exec
  have hb := B.bytes
  have hr := B.returns
  have hts : ∀ w ∈ dc_W, w.before _ s = true := fun w h => atoms_spec (ws := (.code dn_y_Line_init dn_c_Line_init 1 none :: dc_W)) B.pre w (List.mem_cons_of_mem _ h)
  have hK := hK0.1
  have hN := hK0.2
  have hown : s.vm.findClass dn_R_Line = some m.cls := findClass_of_methodNamed B.named
  have hlocks := B.notSynchronized
  have hin : meth9.name = "<init>" := (name_of_methodNamed B.named B.method).1
  subst hsz
  have hD := hD0.self (sz := s.heap.size)
  unfold dc_qv
  generalize hAe : va_A [(hp, .inr (4, [.null, .null]))] s.heap.size = A at hD ⊢
  have hA : ∀ q : Nat, s.heap.size ≤ q → A q := fun q h => by rw [← hAe]; exact Or.inr h
  have hS : va_S A s.heap s.heap [] := va_S.rf
  have hl := lv_entry ([.ref hp]) (n := 1) (Nat.le_of_ble_eq_true rfl)
  rw [lg_entry_eq]
  generalize (lg_sl ([.ref hp]) ++ List.replicate (1 - (lg_sl ([.ref hp])).length) Slot.unset).toArray = ls at hl ⊢
  have hl : lv_has ls 1 [(0, .ref hp)] := hl
  refine lv_aload_n hx hb dn_d_Line_init_0 rfl (lv_at hl 0 rfl) ?_
  refine W.objInit hx hb hown (hts _ dn_w_90) (hts _ dn_w_27) (hts _ dn_w_28) rfl (by rw [hml]; exact hl.1) rfl dn_d_Line_init_1 (Nat.le_of_ble_eq_true rfl) (Nat.le_of_ble_eq_true rfl) ?_
  refine W.eq (g2 := F0 m 4 ls []) rfl ?_
  refine lv_aload_n hx hb dn_d_Line_init_4 rfl (lv_at hl 0 rfl) ?_
  refine lv_iconst (v := 3) hx hb dn_d_Line_init_5 (by decide) ?_
  refine va_newa (atype := .int) (ty := .int) (a0 := (3, .inl (fun _ => 0))) (N' := 3) hx hb (hts _ dn_w_98) rfl hK hP hD hS hA (fun _ => rfl) (by decide) (by decide) (by show 3 * 4 ≤ _; omega) (Nat.le_of_ble_eq_true rfl) (Nat.le_of_ble_eq_true rfl) dn_d_Line_init_6 (fun q1 c9 H hK9 hP hD hS => ?_)
  obtain rfl : c9 = cA 0 := dc_sameI hK9 (i := 3) (j := 0) rfl rfl
  have hP : va_P G vwCl [(hp, .inr (4, [.null, .null])), (q1, .inl (cA 0, 3, .inl (fun _ => 0)))] H := hP
  have hD : va_D A [(hp, .inr (4, [.null, .null])), (q1, .inl (cA 0, 3, .inl (fun _ => 0)))] := hD
  refine va_putF (D := G) (ci := 4) (v := .ref q1) (ty := (.array .int)) (C := dn_R_Line) (T := dn_T_Line) (N := 2) hx hb hts (dn_u_Line) dn_t_Line dn_o_Line dn_n_Line hown hK hP hD hS 0 rfl rfl 0 (by decide) (hts _ dn_w_91) (fun _ h9 => h9) rfl hin rfl (by decide +kernel) rfl rfl (Nat.le_of_ble_eq_true rfl) dn_d_Line_init_8 (fun H locs hP hD hS => ?_)
  have hP : va_P G vwCl [(hp, .inr (4, [.ref q1, .null])), (q1, .inl (cA 0, 3, .inl (fun _ => 0)))] H := hP
  have hD : va_D A [(hp, .inr (4, [.ref q1, .null])), (q1, .inl (cA 0, 3, .inl (fun _ => 0)))] := hD
  refine lv_aload_n hx hb dn_d_Line_init_11 rfl (lv_at hl 0 rfl) ?_
  refine lv_iconst (v := 3) hx hb dn_d_Line_init_12 (by decide) ?_
  refine va_newa (atype := .int) (ty := .int) (a0 := (3, .inl (fun _ => 0))) (N' := 3) hx hb (hts _ dn_w_98) rfl hK hP hD hS hA (fun _ => rfl) (by decide) (by decide) (by show 3 * 4 ≤ _; omega) (Nat.le_of_ble_eq_true rfl) (Nat.le_of_ble_eq_true rfl) dn_d_Line_init_13 (fun q2 c9 H hK9 hP hD hS => ?_)
  obtain rfl : c9 = cA 0 := dc_sameI hK9 (i := 3) (j := 0) rfl rfl
  have hP : va_P G vwCl [(hp, .inr (4, [.ref q1, .null])), (q1, .inl (cA 0, 3, .inl (fun _ => 0))), (q2, .inl (cA 0, 3, .inl (fun _ => 0)))] H := hP
  have hD : va_D A [(hp, .inr (4, [.ref q1, .null])), (q1, .inl (cA 0, 3, .inl (fun _ => 0))), (q2, .inl (cA 0, 3, .inl (fun _ => 0)))] := hD
  refine va_putF (D := G) (ci := 4) (v := .ref q2) (ty := (.array .int)) (C := dn_R_Line) (T := dn_T_Line) (N := 2) hx hb hts (dn_u_Line) dn_t_Line dn_o_Line dn_n_Line hown hK hP hD hS 0 rfl rfl 1 (by decide) (hts _ dn_w_92) (fun _ h9 => h9) rfl hin rfl (by decide +kernel) rfl rfl (Nat.le_of_ble_eq_true rfl) dn_d_Line_init_15 (fun H locs hP hD hS => ?_)
  have hP : va_P G vwCl [(hp, .inr (4, [.ref q1, .ref q2])), (q1, .inl (cA 0, 3, .inl (fun _ => 0))), (q2, .inl (cA 0, 3, .inl (fun _ => 0)))] H := hP
  have hD : va_D A [(hp, .inr (4, [.ref q1, .ref q2])), (q1, .inl (cA 0, 3, .inl (fun _ => 0))), (q2, .inl (cA 0, 3, .inl (fun _ => 0)))] := hD
  have hP9 := hP.sub (ws' := [(hp, .inr (4, [.ref q1, .ref q2])), (q1, .inl (cA 0, 3, .inl (fun _ => 0))), (q2, .inl (cA 0, 3, .inl (fun _ => 0)))]) [0, 1, 2] rfl
  have hD9 := hD.sub (ws' := [(hp, .inr (4, [.ref q1, .ref q2])), (q1, .inl (cA 0, 3, .inl (fun _ => 0))), (q2, .inl (cA 0, 3, .inl (fun _ => 0)))]) [0, 1, 2] (by decide) rfl
  exact W.vret hx hb hr (fun t ht hW => ⟨⟨(q1, q2), rfl, (trivial), by rw [ht]; exact hP9, hD9⟩, hS.F ht⟩) hS.2.2 dn_d_Line_init_18

set_option maxHeartbeats 4000000 in
set_option maxRecDepth 100000 in
theorem cc_wayI (l : Launch) (G : va_G) (cA : Nat → ClassId) (hw : Nat)  (sz : Nat) : Met l dn_y_Way_init (.code dn_y_Way_init dn_c_Way_init 1 none :: dc_W) ({ frames := 1, cells := 3, slots := 9, locals := 20 }) (dc_pW G cA [(hw, .inr (8, [.null, .null, .null, .int 0, .int 0]))] sz [.ref hw]) (dc_qv G (fun (_ : Nat × Nat × Nat) => True) (fun (u : Nat × Nat × Nat) => match u with | (ya, yb, ym) => [(hw, .inr (8, [.ref ya, .ref yb, .ref ym, .int (nI 0), .int 0])), (ya, .inl (cA 0, 3, .inl (fun _ => 0))), (yb, .inl (cA 0, 3, .inl (fun _ => 0))), (ym, .inl (cA 1, 3, .inr (.inl (fun _ => 0))))]) sz [(hw, .inr (8, [.null, .null, .null, .int 0, .int 0]))]) 3 9 (va_A [(hw, .inr (8, [.null, .null, .null, .int 0, .int 0]))] sz) := by
  refine Met.ofW (cc := dn_c_Way_init) (maxL := 1) (ret := none) (by decide) rfl ?_
  intro p9 en9 s m args9 below9 meth9 cd9 s9 B hml hv
  obtain ⟨rfl, hsz, hP, hK0, hD0⟩ := hv
  have hx := B.exec
  have hb := B.bytes
  have hr := B.returns
  have hts : ∀ w ∈ dc_W, w.before _ s = true := fun w h => atoms_spec (ws := (.code dn_y_Way_init dn_c_Way_init 1 none :: dc_W)) B.pre w (List.mem_cons_of_mem _ h)
  have hK := hK0.1
  have hN := hK0.2
  have hown : s.vm.findClass dn_R_Way = some m.cls := findClass_of_methodNamed B.named
  have hlocks := B.notSynchronized
  have hin : meth9.name = "<init>" := (name_of_methodNamed B.named B.method).1
  subst hsz
  have hD := hD0.self (sz := s.heap.size)
  unfold dc_qv
  generalize hAe : va_A [(hw, .inr (8, [.null, .null, .null, .int 0, .int 0]))] s.heap.size = A at hD ⊢
  have hA : ∀ q : Nat, s.heap.size ≤ q → A q := fun q h => by rw [← hAe]; exact Or.inr h
  have hS : va_S A s.heap s.heap [] := va_S.rf
  have hl := lv_entry ([.ref hw]) (n := 1) (Nat.le_of_ble_eq_true rfl)
  rw [lg_entry_eq]
  generalize (lg_sl ([.ref hw]) ++ List.replicate (1 - (lg_sl ([.ref hw])).length) Slot.unset).toArray = ls at hl ⊢
  have hl : lv_has ls 1 [(0, .ref hw)] := hl
  refine lv_aload_n hx hb dn_d_Way_init_0 rfl (lv_at hl 0 rfl) ?_
  refine W.objInit hx hb hown (hts _ dn_w_215) (hts _ dn_w_27) (hts _ dn_w_28) rfl (by rw [hml]; exact hl.1) rfl dn_d_Way_init_1 (Nat.le_of_ble_eq_true rfl) (Nat.le_of_ble_eq_true rfl) ?_
  refine W.eq (g2 := F0 m 4 ls []) rfl ?_
  refine lv_aload_n hx hb dn_d_Way_init_4 rfl (lv_at hl 0 rfl) ?_
  refine lv_iconst (v := 3) hx hb dn_d_Way_init_5 (by decide) ?_
  refine va_newa (atype := .int) (ty := .int) (a0 := (3, .inl (fun _ => 0))) (N' := 3) hx hb (hts _ dn_w_98) rfl hK hP hD hS hA (fun _ => rfl) (by decide) (by decide) (by show 3 * 4 ≤ _; omega) (Nat.le_of_ble_eq_true rfl) (Nat.le_of_ble_eq_true rfl) dn_d_Way_init_6 (fun q1 c9 H hK9 hP hD hS => ?_)
  obtain rfl : c9 = cA 0 := dc_sameI hK9 (i := 3) (j := 0) rfl rfl
  have hP : va_P G vwCl [(hw, .inr (8, [.null, .null, .null, .int 0, .int 0])), (q1, .inl (cA 0, 3, .inl (fun _ => 0)))] H := hP
  have hD : va_D A [(hw, .inr (8, [.null, .null, .null, .int 0, .int 0])), (q1, .inl (cA 0, 3, .inl (fun _ => 0)))] := hD
  refine va_putF (D := G) (ci := 8) (v := .ref q1) (ty := (.array .int)) (C := dn_R_Way) (T := dn_T_Way) (N := 5) hx hb hts (dn_u_Way) dn_t_Way dn_o_Way dn_n_Way hown hK hP hD hS 0 rfl rfl 0 (by decide) (hts _ dn_w_216) (fun _ h9 => h9) rfl hin rfl (by decide +kernel) rfl rfl (Nat.le_of_ble_eq_true rfl) dn_d_Way_init_8 (fun H locs hP hD hS => ?_)
  have hP : va_P G vwCl [(hw, .inr (8, [.ref q1, .null, .null, .int 0, .int 0])), (q1, .inl (cA 0, 3, .inl (fun _ => 0)))] H := hP
  have hD : va_D A [(hw, .inr (8, [.ref q1, .null, .null, .int 0, .int 0])), (q1, .inl (cA 0, 3, .inl (fun _ => 0)))] := hD
  refine lv_aload_n hx hb dn_d_Way_init_11 rfl (lv_at hl 0 rfl) ?_
  refine lv_iconst (v := 3) hx hb dn_d_Way_init_12 (by decide) ?_
  refine va_newa (atype := .int) (ty := .int) (a0 := (3, .inl (fun _ => 0))) (N' := 3) hx hb (hts _ dn_w_98) rfl hK hP hD hS hA (fun _ => rfl) (by decide) (by decide) (by show 3 * 4 ≤ _; omega) (Nat.le_of_ble_eq_true rfl) (Nat.le_of_ble_eq_true rfl) dn_d_Way_init_13 (fun q2 c9 H hK9 hP hD hS => ?_)
  obtain rfl : c9 = cA 0 := dc_sameI hK9 (i := 3) (j := 0) rfl rfl
  have hP : va_P G vwCl [(hw, .inr (8, [.ref q1, .null, .null, .int 0, .int 0])), (q1, .inl (cA 0, 3, .inl (fun _ => 0))), (q2, .inl (cA 0, 3, .inl (fun _ => 0)))] H := hP
  have hD : va_D A [(hw, .inr (8, [.ref q1, .null, .null, .int 0, .int 0])), (q1, .inl (cA 0, 3, .inl (fun _ => 0))), (q2, .inl (cA 0, 3, .inl (fun _ => 0)))] := hD
  refine va_putF (D := G) (ci := 8) (v := .ref q2) (ty := (.array .int)) (C := dn_R_Way) (T := dn_T_Way) (N := 5) hx hb hts (dn_u_Way) dn_t_Way dn_o_Way dn_n_Way hown hK hP hD hS 0 rfl rfl 1 (by decide) (hts _ dn_w_217) (fun _ h9 => h9) rfl hin rfl (by decide +kernel) rfl rfl (Nat.le_of_ble_eq_true rfl) dn_d_Way_init_15 (fun H locs hP hD hS => ?_)
  have hP : va_P G vwCl [(hw, .inr (8, [.ref q1, .ref q2, .null, .int 0, .int 0])), (q1, .inl (cA 0, 3, .inl (fun _ => 0))), (q2, .inl (cA 0, 3, .inl (fun _ => 0)))] H := hP
  have hD : va_D A [(hw, .inr (8, [.ref q1, .ref q2, .null, .int 0, .int 0])), (q1, .inl (cA 0, 3, .inl (fun _ => 0))), (q2, .inl (cA 0, 3, .inl (fun _ => 0)))] := hD
  refine lv_aload_n hx hb dn_d_Way_init_18 rfl (lv_at hl 0 rfl) ?_
  refine lv_iconst (v := 3) hx hb dn_d_Way_init_19 (by decide) ?_
  refine va_newa (atype := .long) (ty := .long) (a0 := (3, .inr (.inl (fun _ => 0)))) (N' := 3) hx hb (hts _ dn_w_42) rfl hK hP hD hS hA (fun _ => rfl) (by decide) (by decide) (by show 3 * 8 ≤ _; omega) (Nat.le_of_ble_eq_true rfl) (Nat.le_of_ble_eq_true rfl) dn_d_Way_init_20 (fun q3 c9 H hK9 hP hD hS => ?_)
  obtain rfl : c9 = cA 1 := dc_sameJ hK9 (i := 3) (j := 1) rfl rfl
  have hP : va_P G vwCl [(hw, .inr (8, [.ref q1, .ref q2, .null, .int 0, .int 0])), (q1, .inl (cA 0, 3, .inl (fun _ => 0))), (q2, .inl (cA 0, 3, .inl (fun _ => 0))), (q3, .inl (cA 1, 3, .inr (.inl (fun _ => 0))))] H := hP
  have hD : va_D A [(hw, .inr (8, [.ref q1, .ref q2, .null, .int 0, .int 0])), (q1, .inl (cA 0, 3, .inl (fun _ => 0))), (q2, .inl (cA 0, 3, .inl (fun _ => 0))), (q3, .inl (cA 1, 3, .inr (.inl (fun _ => 0))))] := hD
  refine va_putF (D := G) (ci := 8) (v := .ref q3) (ty := (.array .long)) (C := dn_R_Way) (T := dn_T_Way) (N := 5) hx hb hts (dn_u_Way) dn_t_Way dn_o_Way dn_n_Way hown hK hP hD hS 0 rfl rfl 2 (by decide) (hts _ dn_w_218) (fun _ h9 => h9) rfl hin rfl (by decide +kernel) rfl rfl (Nat.le_of_ble_eq_true rfl) dn_d_Way_init_22 (fun H locs hP hD hS => ?_)
  have hP : va_P G vwCl [(hw, .inr (8, [.ref q1, .ref q2, .ref q3, .int 0, .int 0])), (q1, .inl (cA 0, 3, .inl (fun _ => 0))), (q2, .inl (cA 0, 3, .inl (fun _ => 0))), (q3, .inl (cA 1, 3, .inr (.inl (fun _ => 0))))] H := hP
  have hD : va_D A [(hw, .inr (8, [.ref q1, .ref q2, .ref q3, .int 0, .int 0])), (q1, .inl (cA 0, 3, .inl (fun _ => 0))), (q2, .inl (cA 0, 3, .inl (fun _ => 0))), (q3, .inl (cA 1, 3, .inr (.inl (fun _ => 0))))] := hD
  have hP9 := hP.sub (ws' := [(hw, .inr (8, [.ref q1, .ref q2, .ref q3, .int 0, .int 0])), (q1, .inl (cA 0, 3, .inl (fun _ => 0))), (q2, .inl (cA 0, 3, .inl (fun _ => 0))), (q3, .inl (cA 1, 3, .inr (.inl (fun _ => 0))))]) [0, 1, 2, 3] rfl
  have hD9 := hD.sub (ws' := [(hw, .inr (8, [.ref q1, .ref q2, .ref q3, .int 0, .int 0])), (q1, .inl (cA 0, 3, .inl (fun _ => 0))), (q2, .inl (cA 0, 3, .inl (fun _ => 0))), (q3, .inl (cA 1, 3, .inr (.inl (fun _ => 0))))]) [0, 1, 2, 3] (by decide) rfl
  have hE9 : ([(hw, .inr (8, [.ref q1, .ref q2, .ref q3, .int 0, .int 0])), (q1, .inl (cA 0, 3, .inl (fun _ => 0))), (q2, .inl (cA 0, 3, .inl (fun _ => 0))), (q3, .inl (cA 1, 3, .inr (.inl (fun _ => 0))))] : va_W) = [(hw, .inr (8, [.ref q1, .ref q2, .ref q3, .int (nI 0), .int 0])), (q1, .inl (cA 0, 3, .inl (fun _ => 0))), (q2, .inl (cA 0, 3, .inl (fun _ => 0))), (q3, .inl (cA 1, 3, .inr (.inl (fun _ => 0))))] := rfl
  rw [hE9] at hP9 hD9
  exact W.vret hx hb hr (fun t ht hW => ⟨⟨(q1, q2, q3), rfl, (trivial), by rw [ht]; exact hP9, hD9⟩, hS.F ht⟩) hS.2.2 dn_d_Way_init_25

set_option maxHeartbeats 4000000 in
set_option maxRecDepth 100000 in
theorem cc_sigI (l : Launch) (G : va_G) (cA : Nat → ClassId) (hg : Nat)  (sz : Nat) : Met l dn_y_Signers_init (.code dn_y_Signers_init dn_c_Signers_init 1 none :: dc_W) ({ frames := 1, cells := 3, slots := 12, locals := 20 }) (dc_pW G cA [(hg, .inr (7, [.null, .null, .null, .int 0]))] sz [.ref hg]) (dc_qv G (fun (_ : Nat × Nat × Nat) => True) (fun (u : Nat × Nat × Nat) => match u with | (ga, gb, gc) => [(hg, .inr (7, [.ref ga, .ref gb, .ref gc, .int (nI 0)])), (ga, .inl (cA 1, 4, .inr (.inl (fun _ => 0)))), (gb, .inl (cA 0, 4, .inl (fun _ => 0))), (gc, .inl (cA 0, 4, .inl (fun _ => 0)))]) sz [(hg, .inr (7, [.null, .null, .null, .int 0]))]) 3 12 (va_A [(hg, .inr (7, [.null, .null, .null, .int 0]))] sz) := by
  refine Met.ofW (cc := dn_c_Signers_init) (maxL := 1) (ret := none) (by decide) rfl ?_
  intro p9 en9 s m args9 below9 meth9 cd9 s9 B hml hv
  obtain ⟨rfl, hsz, hP, hK0, hD0⟩ := hv
  have hx := B.exec
  have hb := B.bytes
  have hr := B.returns
  have hts : ∀ w ∈ dc_W, w.before _ s = true := fun w h => atoms_spec (ws := (.code dn_y_Signers_init dn_c_Signers_init 1 none :: dc_W)) B.pre w (List.mem_cons_of_mem _ h)
  have hK := hK0.1
  have hN := hK0.2
  have hown : s.vm.findClass dn_R_Signers = some m.cls := findClass_of_methodNamed B.named
  have hlocks := B.notSynchronized
  have hin : meth9.name = "<init>" := (name_of_methodNamed B.named B.method).1
  subst hsz
  have hD := hD0.self (sz := s.heap.size)
  unfold dc_qv
  generalize hAe : va_A [(hg, .inr (7, [.null, .null, .null, .int 0]))] s.heap.size = A at hD ⊢
  have hA : ∀ q : Nat, s.heap.size ≤ q → A q := fun q h => by rw [← hAe]; exact Or.inr h
  have hS : va_S A s.heap s.heap [] := va_S.rf
  have hl := lv_entry ([.ref hg]) (n := 1) (Nat.le_of_ble_eq_true rfl)
  rw [lg_entry_eq]
  generalize (lg_sl ([.ref hg]) ++ List.replicate (1 - (lg_sl ([.ref hg])).length) Slot.unset).toArray = ls at hl ⊢
  have hl : lv_has ls 1 [(0, .ref hg)] := hl
  refine lv_aload_n hx hb dn_d_Signers_init_0 rfl (lv_at hl 0 rfl) ?_
  refine W.objInit hx hb hown (hts _ dn_w_196) (hts _ dn_w_27) (hts _ dn_w_28) rfl (by rw [hml]; exact hl.1) rfl dn_d_Signers_init_1 (Nat.le_of_ble_eq_true rfl) (Nat.le_of_ble_eq_true rfl) ?_
  refine W.eq (g2 := F0 m 4 ls []) rfl ?_
  refine lv_aload_n hx hb dn_d_Signers_init_4 rfl (lv_at hl 0 rfl) ?_
  refine lv_iconst (v := 4) hx hb dn_d_Signers_init_5 (by decide) ?_
  refine va_newa (atype := .long) (ty := .long) (a0 := (4, .inr (.inl (fun _ => 0)))) (N' := 4) hx hb (hts _ dn_w_42) rfl hK hP hD hS hA (fun _ => rfl) (by decide) (by decide) (by show 4 * 8 ≤ _; omega) (Nat.le_of_ble_eq_true rfl) (Nat.le_of_ble_eq_true rfl) dn_d_Signers_init_6 (fun q1 c9 H hK9 hP hD hS => ?_)
  obtain rfl : c9 = cA 1 := dc_sameJ hK9 (i := 3) (j := 1) rfl rfl
  have hP : va_P G vwCl [(hg, .inr (7, [.null, .null, .null, .int 0])), (q1, .inl (cA 1, 4, .inr (.inl (fun _ => 0))))] H := hP
  have hD : va_D A [(hg, .inr (7, [.null, .null, .null, .int 0])), (q1, .inl (cA 1, 4, .inr (.inl (fun _ => 0))))] := hD
  refine va_putF (D := G) (ci := 7) (v := .ref q1) (ty := (.array .long)) (C := dn_R_Signers) (T := dn_T_Signers) (N := 4) hx hb hts (dn_u_Signers) dn_t_Signers dn_o_Signers dn_n_Signers hown hK hP hD hS 0 rfl rfl 0 (by decide) (hts _ dn_w_197) (fun _ h9 => h9) rfl hin rfl (by decide +kernel) rfl rfl (Nat.le_of_ble_eq_true rfl) dn_d_Signers_init_8 (fun H locs hP hD hS => ?_)
  have hP : va_P G vwCl [(hg, .inr (7, [.ref q1, .null, .null, .int 0])), (q1, .inl (cA 1, 4, .inr (.inl (fun _ => 0))))] H := hP
  have hD : va_D A [(hg, .inr (7, [.ref q1, .null, .null, .int 0])), (q1, .inl (cA 1, 4, .inr (.inl (fun _ => 0))))] := hD
  refine lv_aload_n hx hb dn_d_Signers_init_11 rfl (lv_at hl 0 rfl) ?_
  refine lv_iconst (v := 4) hx hb dn_d_Signers_init_12 (by decide) ?_
  refine va_newa (atype := .int) (ty := .int) (a0 := (4, .inl (fun _ => 0))) (N' := 4) hx hb (hts _ dn_w_98) rfl hK hP hD hS hA (fun _ => rfl) (by decide) (by decide) (by show 4 * 4 ≤ _; omega) (Nat.le_of_ble_eq_true rfl) (Nat.le_of_ble_eq_true rfl) dn_d_Signers_init_13 (fun q2 c9 H hK9 hP hD hS => ?_)
  obtain rfl : c9 = cA 0 := dc_sameI hK9 (i := 3) (j := 0) rfl rfl
  have hP : va_P G vwCl [(hg, .inr (7, [.ref q1, .null, .null, .int 0])), (q1, .inl (cA 1, 4, .inr (.inl (fun _ => 0)))), (q2, .inl (cA 0, 4, .inl (fun _ => 0)))] H := hP
  have hD : va_D A [(hg, .inr (7, [.ref q1, .null, .null, .int 0])), (q1, .inl (cA 1, 4, .inr (.inl (fun _ => 0)))), (q2, .inl (cA 0, 4, .inl (fun _ => 0)))] := hD
  refine va_putF (D := G) (ci := 7) (v := .ref q2) (ty := (.array .int)) (C := dn_R_Signers) (T := dn_T_Signers) (N := 4) hx hb hts (dn_u_Signers) dn_t_Signers dn_o_Signers dn_n_Signers hown hK hP hD hS 0 rfl rfl 1 (by decide) (hts _ dn_w_198) (fun _ h9 => h9) rfl hin rfl (by decide +kernel) rfl rfl (Nat.le_of_ble_eq_true rfl) dn_d_Signers_init_15 (fun H locs hP hD hS => ?_)
  have hP : va_P G vwCl [(hg, .inr (7, [.ref q1, .ref q2, .null, .int 0])), (q1, .inl (cA 1, 4, .inr (.inl (fun _ => 0)))), (q2, .inl (cA 0, 4, .inl (fun _ => 0)))] H := hP
  have hD : va_D A [(hg, .inr (7, [.ref q1, .ref q2, .null, .int 0])), (q1, .inl (cA 1, 4, .inr (.inl (fun _ => 0)))), (q2, .inl (cA 0, 4, .inl (fun _ => 0)))] := hD
  refine lv_aload_n hx hb dn_d_Signers_init_18 rfl (lv_at hl 0 rfl) ?_
  refine lv_iconst (v := 4) hx hb dn_d_Signers_init_19 (by decide) ?_
  refine va_newa (atype := .int) (ty := .int) (a0 := (4, .inl (fun _ => 0))) (N' := 4) hx hb (hts _ dn_w_98) rfl hK hP hD hS hA (fun _ => rfl) (by decide) (by decide) (by show 4 * 4 ≤ _; omega) (Nat.le_of_ble_eq_true rfl) (Nat.le_of_ble_eq_true rfl) dn_d_Signers_init_20 (fun q3 c9 H hK9 hP hD hS => ?_)
  obtain rfl : c9 = cA 0 := dc_sameI hK9 (i := 3) (j := 0) rfl rfl
  have hP : va_P G vwCl [(hg, .inr (7, [.ref q1, .ref q2, .null, .int 0])), (q1, .inl (cA 1, 4, .inr (.inl (fun _ => 0)))), (q2, .inl (cA 0, 4, .inl (fun _ => 0))), (q3, .inl (cA 0, 4, .inl (fun _ => 0)))] H := hP
  have hD : va_D A [(hg, .inr (7, [.ref q1, .ref q2, .null, .int 0])), (q1, .inl (cA 1, 4, .inr (.inl (fun _ => 0)))), (q2, .inl (cA 0, 4, .inl (fun _ => 0))), (q3, .inl (cA 0, 4, .inl (fun _ => 0)))] := hD
  refine va_putF (D := G) (ci := 7) (v := .ref q3) (ty := (.array .int)) (C := dn_R_Signers) (T := dn_T_Signers) (N := 4) hx hb hts (dn_u_Signers) dn_t_Signers dn_o_Signers dn_n_Signers hown hK hP hD hS 0 rfl rfl 2 (by decide) (hts _ dn_w_199) (fun _ h9 => h9) rfl hin rfl (by decide +kernel) rfl rfl (Nat.le_of_ble_eq_true rfl) dn_d_Signers_init_22 (fun H locs hP hD hS => ?_)
  have hP : va_P G vwCl [(hg, .inr (7, [.ref q1, .ref q2, .ref q3, .int 0])), (q1, .inl (cA 1, 4, .inr (.inl (fun _ => 0)))), (q2, .inl (cA 0, 4, .inl (fun _ => 0))), (q3, .inl (cA 0, 4, .inl (fun _ => 0)))] H := hP
  have hD : va_D A [(hg, .inr (7, [.ref q1, .ref q2, .ref q3, .int 0])), (q1, .inl (cA 1, 4, .inr (.inl (fun _ => 0)))), (q2, .inl (cA 0, 4, .inl (fun _ => 0))), (q3, .inl (cA 0, 4, .inl (fun _ => 0)))] := hD
  have hP9 := hP.sub (ws' := [(hg, .inr (7, [.ref q1, .ref q2, .ref q3, .int 0])), (q1, .inl (cA 1, 4, .inr (.inl (fun _ => 0)))), (q2, .inl (cA 0, 4, .inl (fun _ => 0))), (q3, .inl (cA 0, 4, .inl (fun _ => 0)))]) [0, 1, 2, 3] rfl
  have hD9 := hD.sub (ws' := [(hg, .inr (7, [.ref q1, .ref q2, .ref q3, .int 0])), (q1, .inl (cA 1, 4, .inr (.inl (fun _ => 0)))), (q2, .inl (cA 0, 4, .inl (fun _ => 0))), (q3, .inl (cA 0, 4, .inl (fun _ => 0)))]) [0, 1, 2, 3] (by decide) rfl
  have hE9 : ([(hg, .inr (7, [.ref q1, .ref q2, .ref q3, .int 0])), (q1, .inl (cA 1, 4, .inr (.inl (fun _ => 0)))), (q2, .inl (cA 0, 4, .inl (fun _ => 0))), (q3, .inl (cA 0, 4, .inl (fun _ => 0)))] : va_W) = [(hg, .inr (7, [.ref q1, .ref q2, .ref q3, .int (nI 0)])), (q1, .inl (cA 1, 4, .inr (.inl (fun _ => 0)))), (q2, .inl (cA 0, 4, .inl (fun _ => 0))), (q3, .inl (cA 0, 4, .inl (fun _ => 0)))] := rfl
  rw [hE9] at hP9 hD9
  exact W.vret hx hb hr (fun t ht hW => ⟨⟨(q1, q2, q3), rfl, (trivial), by rw [ht]; exact hP9, hD9⟩, hS.F ht⟩) hS.2.2 dn_d_Signers_init_25
