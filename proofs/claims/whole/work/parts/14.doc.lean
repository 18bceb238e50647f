set_option maxHeartbeats 4000000 in
set_option maxRecDepth 100000 in
theorem cc_digest (l : Launch) (G : va_G) (cA : Nat → ClassId) (o0 : Nat) (hd : Nat) (u1 : Nat) (u2 : Nat) (u3 : Nat) (hc : Nat) (x : Int64) (y : Int64)  : Met l dn_y_Doc_digest (.code dn_y_Doc_digest dn_c_Doc_digest 5 (some .long) :: dc_W) ({ frames := 2, cells := 0, slots := 0, locals := 48 }) (dc_pR G cA [(o0, .inr (0, [.ref hc, .ref hd, .ref u1, .ref u2, .ref u3]))] [.ref o0, .long x, .long y]) (vp_Sl (fun r => r = dc_dig2 x y)) 0 0 (fun _ => False) := by
  refine Met.ofW (cc := dn_c_Doc_digest) (maxL := 5) (ret := (some .long)) (by decide) rfl ?_
  intro p9 en9 s m args9 below9 meth9 cd9 s9 B hml hv
  obtain ⟨rfl, hP, hK0⟩ := hv
  have hx := B.exec
  have hb := B.bytes
  have hr := B.returns
  have hts : ∀ w ∈ dc_W, w.before _ s = true := fun w h => atoms_spec (ws := (.code dn_y_Doc_digest dn_c_Doc_digest 5 (some .long) :: dc_W)) B.pre w (List.mem_cons_of_mem _ h)
  have hK := hK0.1
  have hN := hK0.2
  have hown : s.vm.findClass dn_R_Doc = some m.cls := findClass_of_methodNamed B.named
  have hlocks := B.notSynchronized
  have hl := lv_entry ([.ref o0, .long x, .long y]) (n := 5) (Nat.le_of_ble_eq_true rfl)
  rw [lg_entry_eq]
  generalize (lg_sl ([.ref o0, .long x, .long y]) ++ List.replicate (5 - (lg_sl ([.ref o0, .long x, .long y])).length) Slot.unset).toArray = ls at hl ⊢
  have hl : lv_has ls 5 [(0, .ref o0), (1, .long x), (3, .long y)] := hl
  refine lv_lload_n hx hb dn_d_Doc_digest_0 rfl (lv_at hl 1 rfl) ?_
  refine lv_lload_n hx hb dn_d_Doc_digest_1 rfl (lv_at hl 2 rfl) ?_
  refine vp_callSl (va_Run.run (va_runS (As := [.long x, .long y]) (rest := []) ⟨hx, hb, hml, hown, hts⟩ (cc_dig2 l x y ) ⟨(callB_of 2 hts (dc_good dn_w_136) rfl rfl rfl (hts _ dn_w_8) (hts _ dn_w_300) (by decide +kernel) ⟨Nat.le_of_ble_eq_true rfl, Nat.le_of_ble_eq_true rfl⟩), (hts _ dn_w_135)⟩ preEq rfl rfl hl.1 rfl (lv_room (Nat.le_of_ble_eq_true rfl)) dn_d_Doc_digest_2 ⟨Nat.le_of_ble_eq_true rfl, Nat.le_of_ble_eq_true rfl⟩)) (fun r9 hr9 => ?_)
  subst hr9
  exact W.lret (v := (dc_dig2 x y)) hx hb hr (fun t ht hW => ⟨_, rfl, (rfl), ht⟩) (fun q h => by cases h) dn_d_Doc_digest_5

set_option maxHeartbeats 4000000 in
set_option maxRecDepth 100000 in
theorem cc_cipher (l : Launch) (G : va_G) (cA : Nat → ClassId) (o0 : Nat) (hd : Nat) (u1 : Nat) (u2 : Nat) (u3 : Nat) (hc : Nat) (x : Int64) (y : Int64)  : Met l dn_y_Doc_cipher (.code dn_y_Doc_cipher dn_c_Doc_cipher 5 (some .long) :: dc_W) ({ frames := 2, cells := 0, slots := 0, locals := 51 }) (dc_pR G cA [(o0, .inr (0, [.ref hc, .ref hd, .ref u1, .ref u2, .ref u3]))] [.ref o0, .long x, .long y]) (vp_Sl (fun r => r = dc_enc x y)) 0 0 (fun _ => False) := by
  refine Met.ofW (cc := dn_c_Doc_cipher) (maxL := 5) (ret := (some .long)) (by decide) rfl ?_
  intro p9 en9 s m args9 below9 meth9 cd9 s9 B hml hv
  obtain ⟨rfl, hP, hK0⟩ := hv
  have hx := B.exec
  have hb := B.bytes
  have hr := B.returns
  have hts : ∀ w ∈ dc_W, w.before _ s = true := fun w h => atoms_spec (ws := (.code dn_y_Doc_cipher dn_c_Doc_cipher 5 (some .long) :: dc_W)) B.pre w (List.mem_cons_of_mem _ h)
  have hK := hK0.1
  have hN := hK0.2
  have hown : s.vm.findClass dn_R_Doc = some m.cls := findClass_of_methodNamed B.named
  have hlocks := B.notSynchronized
  have hl := lv_entry ([.ref o0, .long x, .long y]) (n := 5) (Nat.le_of_ble_eq_true rfl)
  rw [lg_entry_eq]
  generalize (lg_sl ([.ref o0, .long x, .long y]) ++ List.replicate (5 - (lg_sl ([.ref o0, .long x, .long y])).length) Slot.unset).toArray = ls at hl ⊢
  have hl : lv_has ls 5 [(0, .ref o0), (1, .long x), (3, .long y)] := hl
  refine lv_lload_n hx hb dn_d_Doc_cipher_0 rfl (lv_at hl 1 rfl) ?_
  refine lv_lload_n hx hb dn_d_Doc_cipher_1 rfl (lv_at hl 2 rfl) ?_
  refine vp_callSl (va_Run.run (va_runS (As := [.long x, .long y]) (rest := []) ⟨hx, hb, hml, hown, hts⟩ (cc_enc l x y ) ⟨(callB_of 2 hts (dc_good dn_w_307) rfl rfl rfl (hts _ dn_w_8) (hts _ dn_w_305) (by decide +kernel) ⟨Nat.le_of_ble_eq_true rfl, Nat.le_of_ble_eq_true rfl⟩), (hts _ dn_w_306)⟩ preEq rfl rfl hl.1 rfl (lv_room (Nat.le_of_ble_eq_true rfl)) dn_d_Doc_cipher_2 ⟨Nat.le_of_ble_eq_true rfl, Nat.le_of_ble_eq_true rfl⟩)) (fun r9 hr9 => ?_)
  subst hr9
  exact W.lret (v := (dc_enc x y)) hx hb hr (fun t ht hW => ⟨_, rfl, (rfl), ht⟩) (fun q h => by cases h) dn_d_Doc_cipher_5

set_option maxHeartbeats 4000000 in
set_option maxRecDepth 100000 in
theorem cc_sign (l : Launch) (G : va_G) (cA : Nat → ClassId) (o0 : Nat) (hd : Nat) (u1 : Nat) (u2 : Nat) (u3 : Nat) (hc : Nat) (ha : Nat) (hs : Nat) (hf : Nat) (ak : Bool) (cw : Int64) (sv : Nat) (dn : Int32) (cq : Int64) (cj : Int64) (a0 : Nat) (a1 : Nat) (a2 : Nat) (a3 : Nat) (b1 : Nat) (w1 : Nat → Int64) (n1 : Nat) (b2 : Nat) (w2 : Nat → Int64) (n2 : Nat) (b3 : Nat) (w3 : Nat → Int64) (n3 : Nat) (x : Int64) (hn1 : n1 ≤ 20) (hn2 : n2 ≤ 20) (sz : Nat) : Met l dn_y_Doc_sign (.code dn_y_Doc_sign dn_c_Doc_sign 3 (some .long) :: dc_W) ({ frames := 5, cells := 0, slots := 0, locals := 116 }) (dc_pW G cA [(o0, .inr (0, [.ref hc, .ref hd, .ref u1, .ref u2, .ref u3])), (hc, .inr (2, [.ref ha, .ref hs, .ref hf, .int (dc_bI ak), .long cw, .int (dc_dn sv), .int dn, .long cq, .long cj])), (hf, .inl (cA 2, 4, .inr (.inr (.inr (.inr (dc_q4 a0 a1 a2 a3)))))), (a1, .inr (5, [.ref b1, .int (nI n1)])), (b1, .inl (cA 1, 20, .inr (.inl w1))), (a2, .inr (5, [.ref b2, .int (nI n2)])), (b2, .inl (cA 1, 20, .inr (.inl w2))), (a3, .inr (5, [.ref b3, .int (nI n3)])), (b3, .inl (cA 1, 20, .inr (.inl w3)))] sz [.ref o0, .long x]) (dc_ql G (fun (r : Int64) (_ : Unit) => r = dc_ju (dc_dig3 (dc_digN w1 n1) (dc_digN w2 n2) x) 1) (fun (_ : Unit) => [(o0, .inr (0, [.ref hc, .ref hd, .ref u1, .ref u2, .ref u3])), (hc, .inr (2, [.ref ha, .ref hs, .ref hf, .int (dc_bI ak), .long cw, .int (dc_dn sv), .int dn, .long cq, .long cj])), (hf, .inl (cA 2, 4, .inr (.inr (.inr (.inr (dc_q4 a0 a1 a2 a3)))))), (a1, .inr (5, [.ref b1, .int (nI n1)])), (b1, .inl (cA 1, 20, .inr (.inl w1))), (a2, .inr (5, [.ref b2, .int (nI n2)])), (b2, .inl (cA 1, 20, .inr (.inl w2))), (a3, .inr (5, [.ref b3, .int (nI 3)])), (b3, .inl (cA 1, 20, .inr (.inl (dc_sgW w3 (dc_digN w1 n1) (dc_digN w2 n2) x))))]) sz [(o0, .inr (0, [.ref hc, .ref hd, .ref u1, .ref u2, .ref u3])), (hc, .inr (2, [.ref ha, .ref hs, .ref hf, .int (dc_bI ak), .long cw, .int (dc_dn sv), .int dn, .long cq, .long cj])), (hf, .inl (cA 2, 4, .inr (.inr (.inr (.inr (dc_q4 a0 a1 a2 a3)))))), (a1, .inr (5, [.ref b1, .int (nI n1)])), (b1, .inl (cA 1, 20, .inr (.inl w1))), (a2, .inr (5, [.ref b2, .int (nI n2)])), (b2, .inl (cA 1, 20, .inr (.inl w2))), (a3, .inr (5, [.ref b3, .int (nI n3)])), (b3, .inl (cA 1, 20, .inr (.inl w3)))]) 0 0 (va_A [(o0, .inr (0, [.ref hc, .ref hd, .ref u1, .ref u2, .ref u3])), (hc, .inr (2, [.ref ha, .ref hs, .ref hf, .int (dc_bI ak), .long cw, .int (dc_dn sv), .int dn, .long cq, .long cj])), (hf, .inl (cA 2, 4, .inr (.inr (.inr (.inr (dc_q4 a0 a1 a2 a3)))))), (a1, .inr (5, [.ref b1, .int (nI n1)])), (b1, .inl (cA 1, 20, .inr (.inl w1))), (a2, .inr (5, [.ref b2, .int (nI n2)])), (b2, .inl (cA 1, 20, .inr (.inl w2))), (a3, .inr (5, [.ref b3, .int (nI n3)])), (b3, .inl (cA 1, 20, .inr (.inl w3)))] sz) := by
  refine Met.ofW (cc := dn_c_Doc_sign) (maxL := 3) (ret := (some .long)) (by decide) rfl ?_
  intro p9 en9 s m args9 below9 meth9 cd9 s9 B hml hv
  obtain ⟨rfl, hsz, hP, hK0, hD0⟩ := hv
  have hx := B.exec
  have hb := B.bytes
  have hr := B.returns
  have hts : ∀ w ∈ dc_W, w.before _ s = true := fun w h => atoms_spec (ws := (.code dn_y_Doc_sign dn_c_Doc_sign 3 (some .long) :: dc_W)) B.pre w (List.mem_cons_of_mem _ h)
  have hK := hK0.1
  have hN := hK0.2
  have hown : s.vm.findClass dn_R_Doc = some m.cls := findClass_of_methodNamed B.named
  have hlocks := B.notSynchronized
  subst hsz
  have hD := hD0.self (sz := s.heap.size)
  unfold dc_ql
  generalize hAe : va_A [(o0, .inr (0, [.ref hc, .ref hd, .ref u1, .ref u2, .ref u3])), (hc, .inr (2, [.ref ha, .ref hs, .ref hf, .int (dc_bI ak), .long cw, .int (dc_dn sv), .int dn, .long cq, .long cj])), (hf, .inl (cA 2, 4, .inr (.inr (.inr (.inr (dc_q4 a0 a1 a2 a3)))))), (a1, .inr (5, [.ref b1, .int (nI n1)])), (b1, .inl (cA 1, 20, .inr (.inl w1))), (a2, .inr (5, [.ref b2, .int (nI n2)])), (b2, .inl (cA 1, 20, .inr (.inl w2))), (a3, .inr (5, [.ref b3, .int (nI n3)])), (b3, .inl (cA 1, 20, .inr (.inl w3)))] s.heap.size = A at hD ⊢
  have hA : ∀ q : Nat, s.heap.size ≤ q → A q := fun q h => by rw [← hAe]; exact Or.inr h
  have hS : va_S A s.heap s.heap [] := va_S.rf
  have hl := lv_entry ([.ref o0, .long x]) (n := 3) (Nat.le_of_ble_eq_true rfl)
  rw [lg_entry_eq]
  generalize (lg_sl ([.ref o0, .long x]) ++ List.replicate (3 - (lg_sl ([.ref o0, .long x])).length) Slot.unset).toArray = ls at hl ⊢
  have hl : lv_has ls 3 [(0, .ref o0), (1, .long x)] := hl
  refine lv_aload_n hx hb dn_d_Doc_sign_0 rfl (lv_at hl 0 rfl) ?_
  refine va_get (D := G) (ci := 0) (v := .ref hc) (C := dn_R_Doc) (T := dn_T_Doc) (N := 5) hx hb hts (dn_u_Doc) hown hK hP 0 rfl rfl 0 (by decide) (hts _ dn_w_280) (fun _ h9 => h9) rfl dn_d_Doc_sign_1 ?_
  refine lv_lload_n hx hb dn_d_Doc_sign_4 rfl (lv_at hl 1 rfl) ?_
  refine dc_wl (wr := [(o0, .inr (0, [.ref hc, .ref hd, .ref u1, .ref u2, .ref u3]))]) (va_runV (b := hc) (As := [.long x]) (rest := []) ⟨hx, hb, hml, hown, hts⟩ (cc_putSigned l G cA hc ha hs hf ak cw sv dn cq cj a0 a1 a2 a3 b1 w1 n1 b2 w2 n2 b3 w3 n3 x (by first | assumption | omega) (by first | assumption | omega) s.heap.size) ⟨(callB_of 1 hts (dc_good dn_w_323) rfl rfl rfl (hts _ dn_w_3) (hts _ dn_w_320) (by decide +kernel) ⟨Nat.le_of_ble_eq_true rfl, Nat.le_of_ble_eq_true rfl⟩), (hts _ dn_w_321), (hts _ dn_w_322)⟩ (dc_preVW (hP.sub [1, 2, 3, 4, 5, 6, 7, 8] rfl) hK0 (hD.sub [1, 2, 3, 4, 5, 6, 7, 8] (by decide) rfl) (q0 := 0) rfl rfl) rfl rfl hl.1 rfl (lv_room (Nat.le_of_ble_eq_true rfl)) dn_d_Doc_sign_5 ⟨Nat.le_of_ble_eq_true rfl, Nat.le_of_ble_eq_true rfl⟩) hP hD hS hA [1, 2, 3, 4, 5, 6, 7, 8] [0] rfl rfl (by decide) (by decide) (fun r9 u9 H locs hr9 hP hD hS => ?_)
  subst hr9
  have hP : va_P G vwCl [(o0, .inr (0, [.ref hc, .ref hd, .ref u1, .ref u2, .ref u3])), (hc, .inr (2, [.ref ha, .ref hs, .ref hf, .int (dc_bI ak), .long cw, .int (dc_dn sv), .int dn, .long cq, .long cj])), (hf, .inl (cA 2, 4, .inr (.inr (.inr (.inr (dc_q4 a0 a1 a2 a3)))))), (a1, .inr (5, [.ref b1, .int (nI n1)])), (b1, .inl (cA 1, 20, .inr (.inl w1))), (a2, .inr (5, [.ref b2, .int (nI n2)])), (b2, .inl (cA 1, 20, .inr (.inl w2))), (a3, .inr (5, [.ref b3, .int (nI 3)])), (b3, .inl (cA 1, 20, .inr (.inl (dc_sgW w3 (dc_digN w1 n1) (dc_digN w2 n2) x))))] H := hP
  have hD : va_D A [(o0, .inr (0, [.ref hc, .ref hd, .ref u1, .ref u2, .ref u3])), (hc, .inr (2, [.ref ha, .ref hs, .ref hf, .int (dc_bI ak), .long cw, .int (dc_dn sv), .int dn, .long cq, .long cj])), (hf, .inl (cA 2, 4, .inr (.inr (.inr (.inr (dc_q4 a0 a1 a2 a3)))))), (a1, .inr (5, [.ref b1, .int (nI n1)])), (b1, .inl (cA 1, 20, .inr (.inl w1))), (a2, .inr (5, [.ref b2, .int (nI n2)])), (b2, .inl (cA 1, 20, .inr (.inl w2))), (a3, .inr (5, [.ref b3, .int (nI 3)])), (b3, .inl (cA 1, 20, .inr (.inl (dc_sgW w3 (dc_digN w1 n1) (dc_digN w2 n2) x))))] := hD
  have hP9 := hP.sub (ws' := [(o0, .inr (0, [.ref hc, .ref hd, .ref u1, .ref u2, .ref u3])), (hc, .inr (2, [.ref ha, .ref hs, .ref hf, .int (dc_bI ak), .long cw, .int (dc_dn sv), .int dn, .long cq, .long cj])), (hf, .inl (cA 2, 4, .inr (.inr (.inr (.inr (dc_q4 a0 a1 a2 a3)))))), (a1, .inr (5, [.ref b1, .int (nI n1)])), (b1, .inl (cA 1, 20, .inr (.inl w1))), (a2, .inr (5, [.ref b2, .int (nI n2)])), (b2, .inl (cA 1, 20, .inr (.inl w2))), (a3, .inr (5, [.ref b3, .int (nI 3)])), (b3, .inl (cA 1, 20, .inr (.inl (dc_sgW w3 (dc_digN w1 n1) (dc_digN w2 n2) x))))]) [0, 1, 2, 3, 4, 5, 6, 7, 8] rfl
  have hD9 := hD.sub (ws' := [(o0, .inr (0, [.ref hc, .ref hd, .ref u1, .ref u2, .ref u3])), (hc, .inr (2, [.ref ha, .ref hs, .ref hf, .int (dc_bI ak), .long cw, .int (dc_dn sv), .int dn, .long cq, .long cj])), (hf, .inl (cA 2, 4, .inr (.inr (.inr (.inr (dc_q4 a0 a1 a2 a3)))))), (a1, .inr (5, [.ref b1, .int (nI n1)])), (b1, .inl (cA 1, 20, .inr (.inl w1))), (a2, .inr (5, [.ref b2, .int (nI n2)])), (b2, .inl (cA 1, 20, .inr (.inl w2))), (a3, .inr (5, [.ref b3, .int (nI 3)])), (b3, .inl (cA 1, 20, .inr (.inl (dc_sgW w3 (dc_digN w1 n1) (dc_digN w2 n2) x))))]) [0, 1, 2, 3, 4, 5, 6, 7, 8] (by decide) rfl
  exact W.lret (v := (dc_ju (dc_dig3 (dc_digN w1 n1) (dc_digN w2 n2) x) 1)) hx hb hr (fun t ht hW => ⟨⟨_, (), rfl, (rfl), by rw [ht]; exact hP9, hD9⟩, hS.F ht⟩) hS.2.2 dn_d_Doc_sign_8

set_option maxHeartbeats 4000000 in
set_option maxRecDepth 100000 in
theorem cc_check (l : Launch) (G : va_G) (cA : Nat → ClassId) (z : Nat → Nat) (o0 : Nat) (hd : Nat) (u1 : Nat) (u2 : Nat) (u3 : Nat) (hc : Nat) (v : Int32) (dg : Int32)  : Met l dn_y_Doc_check (.code dn_y_Doc_check dn_c_Doc_check 3 (some .int) :: dc_W) ({ frames := 1, cells := 0, slots := 0, locals := 24 }) (dc_pRZ G cA z [(o0, .inr (0, [.ref hc, .ref hd, .ref u1, .ref u2, .ref u3]))] [.ref o0, .int v, .int dg]) (vp_Si (fun r => r = dc_check v dg)) 0 0 (fun _ => False) := by
  refine Met.ofW (cc := dn_c_Doc_check) (maxL := 3) (ret := (some .int)) (by decide) rfl ?_
  intro p9 en9 s m args9 below9 meth9 cd9 s9 B hml hv
  obtain ⟨rfl, hP, hK0, hZ⟩ := hv
  have hx := B.exec
  have hb := B.bytes
  have hr := B.returns
  have hts : ∀ w ∈ dc_W, w.before _ s = true := fun w h => atoms_spec (ws := (.code dn_y_Doc_check dn_c_Doc_check 3 (some .int) :: dc_W)) B.pre w (List.mem_cons_of_mem _ h)
  have hK := hK0.1
  have hN := hK0.2
  have hown : s.vm.findClass dn_R_Doc = some m.cls := findClass_of_methodNamed B.named
  have hlocks := B.notSynchronized
  have hS : va_S (fun _ => False) s.heap s.heap [] := va_S.rf
  have hl := lv_entry ([.ref o0, .int v, .int dg]) (n := 3) (Nat.le_of_ble_eq_true rfl)
  rw [lg_entry_eq]
  generalize (lg_sl ([.ref o0, .int v, .int dg]) ++ List.replicate (3 - (lg_sl ([.ref o0, .int v, .int dg])).length) Slot.unset).toArray = ls at hl ⊢
  have hl : lv_has ls 3 [(0, .ref o0), (1, .int v), (2, .int dg)] := hl
  refine lv_iload_n hx hb dn_d_Doc_check_0 rfl (lv_at hl 2 rfl) ?_
  refine lv_iconst (v := 1) hx hb dn_d_Doc_check_1 (by decide) ?_
  refine lv_icmp_lt (tgt := 15) hx hb dn_d_Doc_check_2 (by decide) (fun h2 => ?_) (fun h2 => ?_)
  · -- 2: dg < 1
    refine lv_iconst (v := (-1)) hx hb dn_d_Doc_check_15 (by decide) ?_
    exact W.iret (v := (-1)) hx hb hr (fun t ht hW => ⟨_, rfl, (by unfold dc_check; rw [if_neg (fun z9 => z9.1 h2)]), ht⟩) (fun q h => by cases h) dn_d_Doc_check_16
  · -- 2: ¬ dg < 1
    refine lv_iload_n hx hb dn_d_Doc_check_5 rfl (lv_at hl 2 rfl) ?_
    refine lv_bipush (v := 9) hx hb dn_d_Doc_check_6 (by decide) ?_
    refine lv_icmp_gt (tgt := 15) hx hb dn_d_Doc_check_8 (by decide) (fun h8 => ?_) (fun h8 => ?_)
    · -- 8: 9 < dg
      refine lv_iconst (v := (-1)) hx hb dn_d_Doc_check_15 (by decide) ?_
      exact W.iret (v := (-1)) hx hb hr (fun t ht hW => ⟨_, rfl, (by unfold dc_check; rw [if_neg (fun z9 => z9.2.1 h8)]), ht⟩) (fun q h => by cases h) dn_d_Doc_check_16
    · -- 8: ¬ 9 < dg
      refine lv_iload_n hx hb dn_d_Doc_check_11 rfl (lv_at hl 1 rfl) ?_
      refine lv_if_ge (tgt := 17) hx hb dn_d_Doc_check_12 (by decide) (fun h12 => ?_) (fun h12 => ?_)
      · -- 12: 0 ≤ v
        obtain ⟨k, hk9, rfl⟩ := dc_ix9 h2 h8
        have hl : lv_has ls 3 [(0, .ref o0), (1, .int v), (2, .int (nI k))] := hl
        refine lv_iload_n hx hb dn_d_Doc_check_17 rfl (lv_at hl 1 rfl) ?_
        refine lv_iload_n hx hb dn_d_Doc_check_18 rfl (lv_at hl 2 rfl) ?_
        refine vp_callSi (va_Run.run (va_runS (As := [.int v, .int (nI k)]) (rest := []) ⟨hx, hb, hml, hown, hts⟩ (cc_rd l G cA z v k (by first | assumption | omega)) ⟨(callB_of 2 hts (dc_good dn_w_115) rfl rfl rfl (hts _ dn_w_6) (hts _ dn_w_359) (by decide +kernel) ⟨Nat.le_of_ble_eq_true rfl, Nat.le_of_ble_eq_true rfl⟩), (hts _ dn_w_114)⟩ (dc_preSRZ (hP.sub [] rfl) hK0 hZ hS) rfl rfl hl.1 rfl (lv_room (Nat.le_of_ble_eq_true rfl)) dn_d_Doc_check_19 ⟨Nat.le_of_ble_eq_true rfl, Nat.le_of_ble_eq_true rfl⟩)) (fun r9 hr9 => ?_)
        subst hr9
        exact W.iret (v := (dc_rd v k)) hx hb hr (fun t ht hW => ⟨_, rfl, (by unfold dc_check; rw [if_pos ⟨h2, h8, h12⟩, nI_clamp (by omega)]), ht⟩) (fun q h => by cases h) dn_d_Doc_check_22
      · -- 12: ¬ 0 ≤ v
        refine lv_iconst (v := (-1)) hx hb dn_d_Doc_check_15 (by decide) ?_
        exact W.iret (v := (-1)) hx hb hr (fun t ht hW => ⟨_, rfl, (by unfold dc_check; rw [if_neg (fun z9 => h12 z9.2.2)]), ht⟩) (fun q h => by cases h) dn_d_Doc_check_16

set_option maxHeartbeats 4000000 in
set_option maxRecDepth 100000 in
theorem cc_draw (l : Launch) (G : va_G) (cA : Nat → ClassId) (o0 : Nat) (hd : Nat) (u1 : Nat) (u2 : Nat) (u3 : Nat) (hc : Nat) (ha : Nat) (hs : Nat) (hf : Nat) (ak : Bool) (cw : Int64) (sv : Nat) (dn : Int32) (cq : Int64) (cj : Int64) (hp : Nat) (hg : Nat) (hw : Nat) (da : Nat) (ds : Nat) (hT : Nat) (hU : Nat) (hfd : Nat) (gn : Bool) (dT : Int64) (dK : Int64) (xt : Int64) (xk : Int64) (xq : Int64) (xj : Int64)  (sz : Nat) : Met l dn_y_Doc_draw (.code dn_y_Doc_draw dn_c_Doc_draw 9 (some .boolean) :: dc_W) ({ frames := 1, cells := 0, slots := 0, locals := 25 }) (dc_pW G cA [(o0, .inr (0, [.ref hc, .ref hd, .ref u1, .ref u2, .ref u3])), (hc, .inr (2, [.ref ha, .ref hs, .ref hf, .int (dc_bI ak), .long cw, .int (dc_dn sv), .int dn, .long cq, .long cj])), (hd, .inr (3, [.ref hc, .ref hp, .ref hg, .ref hw, .ref da, .ref ds, .ref hT, .ref hU, .ref hfd, .int (dc_bI gn), .long dT, .long dK]))] sz [.ref o0, .long xt, .long xk, .long xq, .long xj]) (dc_qi G (fun (r : Int32) (_ : Unit) => r = dc_bI (dc_other dT dK xt xk)) (fun (_ : Unit) => [(o0, .inr (0, [.ref hc, .ref hd, .ref u1, .ref u2, .ref u3])), (hc, .inr (2, [.ref ha, .ref hs, .ref hf, .int (dc_bI ak), .long cw, .int (dc_dn sv), .int dn, .long xq, .long xj])), (hd, .inr (3, [.ref hc, .ref hp, .ref hg, .ref hw, .ref da, .ref ds, .ref hT, .ref hU, .ref hfd, .int (dc_bI gn), .long xt, .long xk]))]) sz [(o0, .inr (0, [.ref hc, .ref hd, .ref u1, .ref u2, .ref u3])), (hc, .inr (2, [.ref ha, .ref hs, .ref hf, .int (dc_bI ak), .long cw, .int (dc_dn sv), .int dn, .long cq, .long cj])), (hd, .inr (3, [.ref hc, .ref hp, .ref hg, .ref hw, .ref da, .ref ds, .ref hT, .ref hU, .ref hfd, .int (dc_bI gn), .long dT, .long dK]))]) 0 0 (va_A [(o0, .inr (0, [.ref hc, .ref hd, .ref u1, .ref u2, .ref u3])), (hc, .inr (2, [.ref ha, .ref hs, .ref hf, .int (dc_bI ak), .long cw, .int (dc_dn sv), .int dn, .long cq, .long cj])), (hd, .inr (3, [.ref hc, .ref hp, .ref hg, .ref hw, .ref da, .ref ds, .ref hT, .ref hU, .ref hfd, .int (dc_bI gn), .long dT, .long dK]))] sz) := by
  refine Met.ofW (cc := dn_c_Doc_draw) (maxL := 9) (ret := (some .boolean)) (by decide) rfl ?_
  intro p9 en9 s m args9 below9 meth9 cd9 s9 B hml hv
  obtain ⟨rfl, hsz, hP, hK0, hD0⟩ := hv
  have hx := B.exec
  have hb := B.bytes
  have hr := B.returns
  have hts : ∀ w ∈ dc_W, w.before _ s = true := fun w h => atoms_spec (ws := (.code dn_y_Doc_draw dn_c_Doc_draw 9 (some .boolean) :: dc_W)) B.pre w (List.mem_cons_of_mem _ h)
  have hK := hK0.1
  have hN := hK0.2
  have hown : s.vm.findClass dn_R_Doc = some m.cls := findClass_of_methodNamed B.named
  have hlocks := B.notSynchronized
  subst hsz
  have hD := hD0.self (sz := s.heap.size)
  unfold dc_qi
  generalize hAe : va_A [(o0, .inr (0, [.ref hc, .ref hd, .ref u1, .ref u2, .ref u3])), (hc, .inr (2, [.ref ha, .ref hs, .ref hf, .int (dc_bI ak), .long cw, .int (dc_dn sv), .int dn, .long cq, .long cj])), (hd, .inr (3, [.ref hc, .ref hp, .ref hg, .ref hw, .ref da, .ref ds, .ref hT, .ref hU, .ref hfd, .int (dc_bI gn), .long dT, .long dK]))] s.heap.size = A at hD ⊢
  have hA : ∀ q : Nat, s.heap.size ≤ q → A q := fun q h => by rw [← hAe]; exact Or.inr h
  have hS : va_S A s.heap s.heap [] := va_S.rf
  have hl := lv_entry ([.ref o0, .long xt, .long xk, .long xq, .long xj]) (n := 9) (Nat.le_of_ble_eq_true rfl)
  rw [lg_entry_eq]
  generalize (lg_sl ([.ref o0, .long xt, .long xk, .long xq, .long xj]) ++ List.replicate (9 - (lg_sl ([.ref o0, .long xt, .long xk, .long xq, .long xj])).length) Slot.unset).toArray = ls at hl ⊢
  have hl : lv_has ls 9 [(0, .ref o0), (1, .long xt), (3, .long xk), (5, .long xq), (7, .long xj)] := hl
  refine lv_aload_n hx hb dn_d_Doc_draw_0 rfl (lv_at hl 0 rfl) ?_
  refine va_get (D := G) (ci := 0) (v := .ref hc) (C := dn_R_Doc) (T := dn_T_Doc) (N := 5) hx hb hts (dn_u_Doc) hown hK hP 0 rfl rfl 0 (by decide) (hts _ dn_w_280) (fun _ h9 => h9) rfl dn_d_Doc_draw_1 ?_
  refine lv_lload hx hb dn_d_Doc_draw_4 (lv_at hl 3 rfl) ?_
  refine lv_lload hx hb dn_d_Doc_draw_6 (lv_at hl 4 rfl) ?_
  refine dc_wv (wr := [(o0, .inr (0, [.ref hc, .ref hd, .ref u1, .ref u2, .ref u3])), (hd, .inr (3, [.ref hc, .ref hp, .ref hg, .ref hw, .ref da, .ref ds, .ref hT, .ref hU, .ref hfd, .int (dc_bI gn), .long dT, .long dK]))]) (va_runV (b := hc) (As := [.long xq, .long xj]) (rest := []) ⟨hx, hb, hml, hown, hts⟩ (cc_chDraw l G cA hc ha hs hf ak cw sv dn cq cj xq xj  s.heap.size) ⟨(callB_of 2 hts (dc_good dn_w_367) rfl rfl rfl (hts _ dn_w_3) (hts _ dn_w_364) (by decide +kernel) ⟨Nat.le_of_ble_eq_true rfl, Nat.le_of_ble_eq_true rfl⟩), (hts _ dn_w_365), (hts _ dn_w_366)⟩ (dc_preVW (hP.sub [1] rfl) hK0 (hD.sub [1] (by decide) rfl) (q0 := 0) rfl rfl) rfl rfl hl.1 rfl (lv_room (Nat.le_of_ble_eq_true rfl)) dn_d_Doc_draw_8 ⟨Nat.le_of_ble_eq_true rfl, Nat.le_of_ble_eq_true rfl⟩) hP hD hS hA [1] [0, 2] rfl rfl (by decide) (by decide) (fun u9 H locs hr9 hP hD hS => ?_)
  have hP : va_P G vwCl [(o0, .inr (0, [.ref hc, .ref hd, .ref u1, .ref u2, .ref u3])), (hd, .inr (3, [.ref hc, .ref hp, .ref hg, .ref hw, .ref da, .ref ds, .ref hT, .ref hU, .ref hfd, .int (dc_bI gn), .long dT, .long dK])), (hc, .inr (2, [.ref ha, .ref hs, .ref hf, .int (dc_bI ak), .long cw, .int (dc_dn sv), .int dn, .long xq, .long xj]))] H := hP
  have hD : va_D A [(o0, .inr (0, [.ref hc, .ref hd, .ref u1, .ref u2, .ref u3])), (hd, .inr (3, [.ref hc, .ref hp, .ref hg, .ref hw, .ref da, .ref ds, .ref hT, .ref hU, .ref hfd, .int (dc_bI gn), .long dT, .long dK])), (hc, .inr (2, [.ref ha, .ref hs, .ref hf, .int (dc_bI ak), .long cw, .int (dc_dn sv), .int dn, .long xq, .long xj]))] := hD
  refine lv_aload_n hx hb dn_d_Doc_draw_11 rfl (lv_at hl 0 rfl) ?_
  refine va_get (D := G) (ci := 0) (v := .ref hd) (C := dn_R_Doc) (T := dn_T_Doc) (N := 5) hx hb hts (dn_u_Doc) hown hK hP 0 rfl rfl 1 (by decide) (hts _ dn_w_281) (fun _ h9 => h9) rfl dn_d_Doc_draw_12 ?_
  refine lv_lload_n hx hb dn_d_Doc_draw_15 rfl (lv_at hl 1 rfl) ?_
  refine lv_lload_n hx hb dn_d_Doc_draw_16 rfl (lv_at hl 2 rfl) ?_
  refine dc_wi (wr := [(o0, .inr (0, [.ref hc, .ref hd, .ref u1, .ref u2, .ref u3])), (hc, .inr (2, [.ref ha, .ref hs, .ref hf, .int (dc_bI ak), .long cw, .int (dc_dn sv), .int dn, .long xq, .long xj]))]) (va_runV (b := hd) (As := [.long xt, .long xk]) (rest := []) ⟨hx, hb, hml, hown, hts⟩ (cc_dkDraw l G cA hd hc hp hg hw da ds hT hU hfd gn dT dK xt xk  H.size) ⟨(callB_of 2 hts (dc_good dn_w_371) rfl rfl rfl (hts _ dn_w_9) (hts _ dn_w_368) (by decide +kernel) ⟨Nat.le_of_ble_eq_true rfl, Nat.le_of_ble_eq_true rfl⟩), (hts _ dn_w_369), (hts _ dn_w_370)⟩ (dc_preVW (hP.sub [1] rfl) hK0 (hD.sub [1] (by decide) rfl) (q0 := 0) rfl rfl) rfl rfl hl.1 rfl (lv_room (Nat.le_of_ble_eq_true rfl)) dn_d_Doc_draw_17 ⟨Nat.le_of_ble_eq_true rfl, Nat.le_of_ble_eq_true rfl⟩) hP hD hS hA [1] [0, 2] rfl rfl (by decide) (by decide) (fun r9 u9 H locs hr9 hP hD hS => ?_)
  subst hr9
  have hP : va_P G vwCl [(o0, .inr (0, [.ref hc, .ref hd, .ref u1, .ref u2, .ref u3])), (hc, .inr (2, [.ref ha, .ref hs, .ref hf, .int (dc_bI ak), .long cw, .int (dc_dn sv), .int dn, .long xq, .long xj])), (hd, .inr (3, [.ref hc, .ref hp, .ref hg, .ref hw, .ref da, .ref ds, .ref hT, .ref hU, .ref hfd, .int (dc_bI gn), .long xt, .long xk]))] H := hP
  have hD : va_D A [(o0, .inr (0, [.ref hc, .ref hd, .ref u1, .ref u2, .ref u3])), (hc, .inr (2, [.ref ha, .ref hs, .ref hf, .int (dc_bI ak), .long cw, .int (dc_dn sv), .int dn, .long xq, .long xj])), (hd, .inr (3, [.ref hc, .ref hp, .ref hg, .ref hw, .ref da, .ref ds, .ref hT, .ref hU, .ref hfd, .int (dc_bI gn), .long xt, .long xk]))] := hD
  have hP9 := hP.sub (ws' := [(o0, .inr (0, [.ref hc, .ref hd, .ref u1, .ref u2, .ref u3])), (hc, .inr (2, [.ref ha, .ref hs, .ref hf, .int (dc_bI ak), .long cw, .int (dc_dn sv), .int dn, .long xq, .long xj])), (hd, .inr (3, [.ref hc, .ref hp, .ref hg, .ref hw, .ref da, .ref ds, .ref hT, .ref hU, .ref hfd, .int (dc_bI gn), .long xt, .long xk]))]) [0, 1, 2] rfl
  have hD9 := hD.sub (ws' := [(o0, .inr (0, [.ref hc, .ref hd, .ref u1, .ref u2, .ref u3])), (hc, .inr (2, [.ref ha, .ref hs, .ref hf, .int (dc_bI ak), .long cw, .int (dc_dn sv), .int dn, .long xq, .long xj])), (hd, .inr (3, [.ref hc, .ref hp, .ref hg, .ref hw, .ref da, .ref ds, .ref hT, .ref hU, .ref hfd, .int (dc_bI gn), .long xt, .long xk]))]) [0, 1, 2] (by decide) rfl
  exact W.zret (ty := .boolean) (v := (dc_bI (dc_other dT dK xt xk))) hx hb hr (dc_nz _) (fun t ht hW => ⟨⟨_, (), rfl, (rfl), by rw [ht]; exact hP9, hD9⟩, hS.F ht⟩) hS.2.2 dn_d_Doc_draw_20

set_option maxHeartbeats 4000000 in
set_option maxRecDepth 100000 in
theorem cc_messages (l : Launch) (G : va_G) (cA : Nat → ClassId) (o0 : Nat) (hd : Nat) (u1 : Nat) (u2 : Nat) (u3 : Nat) (hc : Nat) (hp : Nat) (hg : Nat) (hw : Nat) (da : Nat) (ds : Nat) (hT : Nat) (hU : Nat) (hfd : Nat) (gn : Bool) (dT : Int64) (dK : Int64) (ya : Nat) (yb : Nat) (ym : Nat) (fa : Nat → Int32) (fb : Nat → Int32) (fm : Nat → Int64) (t : Nat) (c : Int32)  : Met l dn_y_Doc_messages (.code dn_y_Doc_messages dn_c_Doc_messages 1 (some .int) :: dc_W) ({ frames := 1, cells := 0, slots := 0, locals := 20 }) (dc_pR G cA [(o0, .inr (0, [.ref hc, .ref hd, .ref u1, .ref u2, .ref u3])), (hd, .inr (3, [.ref hc, .ref hp, .ref hg, .ref hw, .ref da, .ref ds, .ref hT, .ref hU, .ref hfd, .int (dc_bI gn), .long dT, .long dK])), (hw, .inr (8, [.ref ya, .ref yb, .ref ym, .int (nI t), .int c])), (ya, .inl (cA 0, 3, .inl fa)), (yb, .inl (cA 0, 3, .inl fb)), (ym, .inl (cA 1, 3, .inr (.inl fm)))] [.ref o0]) (vp_Si (fun r => r = c)) 0 0 (fun _ => False) := by
  refine Met.ofW (cc := dn_c_Doc_messages) (maxL := 1) (ret := (some .int)) (by decide) rfl ?_
  intro p9 en9 s m args9 below9 meth9 cd9 s9 B hml hv
  obtain ⟨rfl, hP, hK0⟩ := hv
  have hx := B.exec
  have hb := B.bytes
  have hr := B.returns
  have hts : ∀ w ∈ dc_W, w.before _ s = true := fun w h => atoms_spec (ws := (.code dn_y_Doc_messages dn_c_Doc_messages 1 (some .int) :: dc_W)) B.pre w (List.mem_cons_of_mem _ h)
  have hK := hK0.1
  have hN := hK0.2
  have hown : s.vm.findClass dn_R_Doc = some m.cls := findClass_of_methodNamed B.named
  have hlocks := B.notSynchronized
  have hl := lv_entry ([.ref o0]) (n := 1) (Nat.le_of_ble_eq_true rfl)
  rw [lg_entry_eq]
  generalize (lg_sl ([.ref o0]) ++ List.replicate (1 - (lg_sl ([.ref o0])).length) Slot.unset).toArray = ls at hl ⊢
  have hl : lv_has ls 1 [(0, .ref o0)] := hl
  refine lv_aload_n hx hb dn_d_Doc_messages_0 rfl (lv_at hl 0 rfl) ?_
  refine va_get (D := G) (ci := 0) (v := .ref hd) (C := dn_R_Doc) (T := dn_T_Doc) (N := 5) hx hb hts (dn_u_Doc) hown hK hP 0 rfl rfl 1 (by decide) (hts _ dn_w_281) (fun _ h9 => h9) rfl dn_d_Doc_messages_1 ?_
  refine va_getN (D := G) (ci := 3) (v := .ref hw) (C := dn_R_Desk) (T := dn_T_Desk) (N := 12) hx hb hts (dn_u_Desk) hown hK hP 1 rfl rfl 3 (by decide) (va_Nw.use rfl (hN.1 ("DocumentChip", 144, "DocumentChip$Desk", "way", "LDocumentChip$Way;") (by decide +kernel))) (fun _ h9 => h9) rfl dn_d_Doc_messages_4 ?_
  refine vp_callSi (va_Run.run (va_runV (b := hw) (As := []) (rest := []) ⟨hx, hb, hml, hown, hts⟩ (cc_wcount l G cA hw ya yb ym fa fb fm t c ) ⟨(callB_of 0 hts (dc_good dn_w_579) rfl rfl rfl (hts _ dn_w_11) (hts _ dn_w_576) (by decide +kernel) ⟨Nat.le_of_ble_eq_true rfl, Nat.le_of_ble_eq_true rfl⟩), (hts _ dn_w_577), (hts _ dn_w_578)⟩ (dc_preVR (hP.sub [2, 3, 4, 5] rfl) hK0 (q0 := 0) rfl rfl) rfl rfl hl.1 rfl (lv_room (Nat.le_of_ble_eq_true rfl)) dn_d_Doc_messages_7 ⟨Nat.le_of_ble_eq_true rfl, Nat.le_of_ble_eq_true rfl⟩)) (fun r9 hr9 => ?_)
  subst r9
  exact W.iret (v := c) hx hb hr (fun t ht hW => ⟨_, rfl, (rfl), ht⟩) (fun q h => by cases h) dn_d_Doc_messages_10

set_option maxHeartbeats 4000000 in
set_option maxRecDepth 100000 in
theorem cc_challenge (l : Launch) (G : va_G) (cA : Nat → ClassId) (o0 : Nat) (hd : Nat) (u1 : Nat) (u2 : Nat) (u3 : Nat) (hc : Nat) (ha : Nat) (hs : Nat) (hf : Nat) (ak : Bool) (cw : Int64) (sv : Nat) (dn : Int32) (cq : Int64) (cj : Int64) (so : Bool) (se : Int64) (sm : Int64) (sc : Int64) (w : Nat → Int64) (n : Nat) (q : Nat)  (sz : Nat) : Met l dn_y_Doc_challenge (.code dn_y_Doc_challenge dn_c_Doc_challenge 1 (some .long) :: dc_W) ({ frames := 3, cells := 0, slots := 0, locals := 60 }) (dc_pW G cA [(o0, .inr (0, [.ref hc, .ref hd, .ref u1, .ref u2, .ref u3])), (hc, .inr (2, [.ref ha, .ref hs, .ref hf, .int (dc_bI ak), .long cw, .int (dc_dn sv), .int dn, .long cq, .long cj])), (hs, .inr (6, [.int (dc_bI so), .long se, .long sm, .long sc])), (u3, .inr (5, [.ref q, .int (nI n)])), (q, .inl (cA 1, 6, .inr (.inl w)))] sz [.ref o0]) (dc_ql G (fun (r : Int64) (_ : Unit) => r = cq) (fun (_ : Unit) => [(o0, .inr (0, [.ref hc, .ref hd, .ref u1, .ref u2, .ref u3])), (hc, .inr (2, [.ref ha, .ref hs, .ref hf, .int (dc_bI true), .long cq, .int (dc_dn 0), .int dn, .long cq, .long cj])), (hs, .inr (6, [.int (dc_bI false), .long se, .long sm, .long sc])), (u3, .inr (5, [.ref q, .int (nI 0)])), (q, .inl (cA 1, 6, .inr (.inl w)))]) sz [(o0, .inr (0, [.ref hc, .ref hd, .ref u1, .ref u2, .ref u3])), (hc, .inr (2, [.ref ha, .ref hs, .ref hf, .int (dc_bI ak), .long cw, .int (dc_dn sv), .int dn, .long cq, .long cj])), (hs, .inr (6, [.int (dc_bI so), .long se, .long sm, .long sc])), (u3, .inr (5, [.ref q, .int (nI n)])), (q, .inl (cA 1, 6, .inr (.inl w)))]) 0 0 (va_A [(o0, .inr (0, [.ref hc, .ref hd, .ref u1, .ref u2, .ref u3])), (hc, .inr (2, [.ref ha, .ref hs, .ref hf, .int (dc_bI ak), .long cw, .int (dc_dn sv), .int dn, .long cq, .long cj])), (hs, .inr (6, [.int (dc_bI so), .long se, .long sm, .long sc])), (u3, .inr (5, [.ref q, .int (nI n)])), (q, .inl (cA 1, 6, .inr (.inl w)))] sz) := by
  refine Met.ofW (cc := dn_c_Doc_challenge) (maxL := 1) (ret := (some .long)) (by decide) rfl ?_
  intro p9 en9 s m args9 below9 meth9 cd9 s9 B hml hv
  obtain ⟨rfl, hsz, hP, hK0, hD0⟩ := hv
  have hx := B.exec
  have hb := B.bytes
  have hr := B.returns
  have hts : ∀ w ∈ dc_W, w.before _ s = true := fun w h => atoms_spec (ws := (.code dn_y_Doc_challenge dn_c_Doc_challenge 1 (some .long) :: dc_W)) B.pre w (List.mem_cons_of_mem _ h)
  have hK := hK0.1
  have hN := hK0.2
  have hown : s.vm.findClass dn_R_Doc = some m.cls := findClass_of_methodNamed B.named
  have hlocks := B.notSynchronized
  subst hsz
  have hD := hD0.self (sz := s.heap.size)
  unfold dc_ql
  generalize hAe : va_A [(o0, .inr (0, [.ref hc, .ref hd, .ref u1, .ref u2, .ref u3])), (hc, .inr (2, [.ref ha, .ref hs, .ref hf, .int (dc_bI ak), .long cw, .int (dc_dn sv), .int dn, .long cq, .long cj])), (hs, .inr (6, [.int (dc_bI so), .long se, .long sm, .long sc])), (u3, .inr (5, [.ref q, .int (nI n)])), (q, .inl (cA 1, 6, .inr (.inl w)))] s.heap.size = A at hD ⊢
  have hA : ∀ q : Nat, s.heap.size ≤ q → A q := fun q h => by rw [← hAe]; exact Or.inr h
  have hS : va_S A s.heap s.heap [] := va_S.rf
  have hl := lv_entry ([.ref o0]) (n := 1) (Nat.le_of_ble_eq_true rfl)
  rw [lg_entry_eq]
  generalize (lg_sl ([.ref o0]) ++ List.replicate (1 - (lg_sl ([.ref o0])).length) Slot.unset).toArray = ls at hl ⊢
  have hl : lv_has ls 1 [(0, .ref o0)] := hl
  refine lv_aload_n hx hb dn_d_Doc_challenge_0 rfl (lv_at hl 0 rfl) ?_
  refine va_get (D := G) (ci := 0) (v := .ref u3) (C := dn_R_Doc) (T := dn_T_Doc) (N := 5) hx hb hts (dn_u_Doc) hown hK hP 0 rfl rfl 4 (by decide) (hts _ dn_w_284) (fun _ h9 => h9) rfl dn_d_Doc_challenge_1 ?_
  refine dc_wv (wr := [(o0, .inr (0, [.ref hc, .ref hd, .ref u1, .ref u2, .ref u3])), (hc, .inr (2, [.ref ha, .ref hs, .ref hf, .int (dc_bI ak), .long cw, .int (dc_dn sv), .int dn, .long cq, .long cj])), (hs, .inr (6, [.int (dc_bI so), .long se, .long sm, .long sc]))]) (va_runV (b := u3) (As := []) (rest := []) ⟨hx, hb, hml, hown, hts⟩ (cc_clear l G cA w n 6 u3 q  s.heap.size) ⟨(callB_of 0 hts (dc_good dn_w_327) rfl rfl rfl (hts _ dn_w_2) (hts _ dn_w_384) (by decide +kernel) ⟨Nat.le_of_ble_eq_true rfl, Nat.le_of_ble_eq_true rfl⟩), (hts _ dn_w_325), (hts _ dn_w_326)⟩ (dc_preVW (hP.sub [3, 4] rfl) hK0 (hD.sub [3, 4] (by decide) rfl) (q0 := 0) rfl rfl) rfl rfl hl.1 rfl (lv_room (Nat.le_of_ble_eq_true rfl)) dn_d_Doc_challenge_4 ⟨Nat.le_of_ble_eq_true rfl, Nat.le_of_ble_eq_true rfl⟩) hP hD hS hA [3, 4] [0, 1, 2] rfl rfl (by decide) (by decide) (fun u9 H locs hr9 hP hD hS => ?_)
  have hP : va_P G vwCl [(o0, .inr (0, [.ref hc, .ref hd, .ref u1, .ref u2, .ref u3])), (hc, .inr (2, [.ref ha, .ref hs, .ref hf, .int (dc_bI ak), .long cw, .int (dc_dn sv), .int dn, .long cq, .long cj])), (hs, .inr (6, [.int (dc_bI so), .long se, .long sm, .long sc])), (u3, .inr (5, [.ref q, .int (nI 0)])), (q, .inl (cA 1, 6, .inr (.inl w)))] H := hP
  have hD : va_D A [(o0, .inr (0, [.ref hc, .ref hd, .ref u1, .ref u2, .ref u3])), (hc, .inr (2, [.ref ha, .ref hs, .ref hf, .int (dc_bI ak), .long cw, .int (dc_dn sv), .int dn, .long cq, .long cj])), (hs, .inr (6, [.int (dc_bI so), .long se, .long sm, .long sc])), (u3, .inr (5, [.ref q, .int (nI 0)])), (q, .inl (cA 1, 6, .inr (.inl w)))] := hD
  refine lv_aload_n hx hb dn_d_Doc_challenge_7 rfl (lv_at hl 0 rfl) ?_
  refine va_get (D := G) (ci := 0) (v := .ref hc) (C := dn_R_Doc) (T := dn_T_Doc) (N := 5) hx hb hts (dn_u_Doc) hown hK hP 0 rfl rfl 0 (by decide) (hts _ dn_w_280) (fun _ h9 => h9) rfl dn_d_Doc_challenge_8 ?_
  refine dc_wl (wr := [(o0, .inr (0, [.ref hc, .ref hd, .ref u1, .ref u2, .ref u3])), (u3, .inr (5, [.ref q, .int (nI 0)])), (q, .inl (cA 1, 6, .inr (.inl w)))]) (va_runV (b := hc) (As := []) (rest := []) ⟨hx, hb, hml, hown, hts⟩ (cc_give l G cA hc ha hs hf ak cw sv dn cq cj so se sm sc  H.size) ⟨(callB_of 0 hts (dc_good dn_w_420) rfl rfl rfl (hts _ dn_w_3) (hts _ dn_w_584) (by decide +kernel) ⟨Nat.le_of_ble_eq_true rfl, Nat.le_of_ble_eq_true rfl⟩), (hts _ dn_w_418), (hts _ dn_w_419)⟩ (dc_preVW (hP.sub [1, 2] rfl) hK0 (hD.sub [1, 2] (by decide) rfl) (q0 := 0) rfl rfl) rfl rfl hl.1 rfl (lv_room (Nat.le_of_ble_eq_true rfl)) dn_d_Doc_challenge_11 ⟨Nat.le_of_ble_eq_true rfl, Nat.le_of_ble_eq_true rfl⟩) hP hD hS hA [1, 2] [0, 3, 4] rfl rfl (by decide) (by decide) (fun r9 u9 H locs hr9 hP hD hS => ?_)
  subst r9
  have hP : va_P G vwCl [(o0, .inr (0, [.ref hc, .ref hd, .ref u1, .ref u2, .ref u3])), (u3, .inr (5, [.ref q, .int (nI 0)])), (q, .inl (cA 1, 6, .inr (.inl w))), (hc, .inr (2, [.ref ha, .ref hs, .ref hf, .int (dc_bI true), .long cq, .int (dc_dn 0), .int dn, .long cq, .long cj])), (hs, .inr (6, [.int (dc_bI false), .long se, .long sm, .long sc]))] H := hP
  have hD : va_D A [(o0, .inr (0, [.ref hc, .ref hd, .ref u1, .ref u2, .ref u3])), (u3, .inr (5, [.ref q, .int (nI 0)])), (q, .inl (cA 1, 6, .inr (.inl w))), (hc, .inr (2, [.ref ha, .ref hs, .ref hf, .int (dc_bI true), .long cq, .int (dc_dn 0), .int dn, .long cq, .long cj])), (hs, .inr (6, [.int (dc_bI false), .long se, .long sm, .long sc]))] := hD
  have hP9 := hP.sub (ws' := [(o0, .inr (0, [.ref hc, .ref hd, .ref u1, .ref u2, .ref u3])), (hc, .inr (2, [.ref ha, .ref hs, .ref hf, .int (dc_bI true), .long cq, .int (dc_dn 0), .int dn, .long cq, .long cj])), (hs, .inr (6, [.int (dc_bI false), .long se, .long sm, .long sc])), (u3, .inr (5, [.ref q, .int (nI 0)])), (q, .inl (cA 1, 6, .inr (.inl w)))]) [0, 3, 4, 1, 2] rfl
  have hD9 := hD.sub (ws' := [(o0, .inr (0, [.ref hc, .ref hd, .ref u1, .ref u2, .ref u3])), (hc, .inr (2, [.ref ha, .ref hs, .ref hf, .int (dc_bI true), .long cq, .int (dc_dn 0), .int dn, .long cq, .long cj])), (hs, .inr (6, [.int (dc_bI false), .long se, .long sm, .long sc])), (u3, .inr (5, [.ref q, .int (nI 0)])), (q, .inl (cA 1, 6, .inr (.inl w)))]) [0, 3, 4, 1, 2] (by decide) rfl
  exact W.lret (v := cq) hx hb hr (fun t ht hW => ⟨⟨_, (), rfl, (rfl), by rw [ht]; exact hP9, hD9⟩, hS.F ht⟩) hS.2.2 dn_d_Doc_challenge_14

set_option maxHeartbeats 4000000 in
set_option maxRecDepth 100000 in
theorem cc_answer (l : Launch) (G : va_G) (cA : Nat → ClassId) (o0 : Nat) (hd : Nat) (u1 : Nat) (u2 : Nat) (u3 : Nat) (hc : Nat) (w : Nat → Int64) (n : Nat) (q : Nat) (i : Int32) (hn : n ≤ 6) : Met l dn_y_Doc_answer (.code dn_y_Doc_answer dn_c_Doc_answer 2 (some .long) :: dc_W) ({ frames := 2, cells := 0, slots := 0, locals := 42 }) (dc_pR G cA [(o0, .inr (0, [.ref hc, .ref hd, .ref u1, .ref u2, .ref u3])), (u3, .inr (5, [.ref q, .int (nI n)])), (q, .inl (cA 1, 6, .inr (.inl w)))] [.ref o0, .int i]) (vp_Sl (fun r => r = dc_get w n i)) 0 0 (fun _ => False) := by
  refine Met.ofW (cc := dn_c_Doc_answer) (maxL := 2) (ret := (some .long)) (by decide) rfl ?_
  intro p9 en9 s m args9 below9 meth9 cd9 s9 B hml hv
  obtain ⟨rfl, hP, hK0⟩ := hv
  have hx := B.exec
  have hb := B.bytes
  have hr := B.returns
  have hts : ∀ w ∈ dc_W, w.before _ s = true := fun w h => atoms_spec (ws := (.code dn_y_Doc_answer dn_c_Doc_answer 2 (some .long) :: dc_W)) B.pre w (List.mem_cons_of_mem _ h)
  have hK := hK0.1
  have hN := hK0.2
  have hown : s.vm.findClass dn_R_Doc = some m.cls := findClass_of_methodNamed B.named
  have hlocks := B.notSynchronized
  have hl := lv_entry ([.ref o0, .int i]) (n := 2) (Nat.le_of_ble_eq_true rfl)
  rw [lg_entry_eq]
  generalize (lg_sl ([.ref o0, .int i]) ++ List.replicate (2 - (lg_sl ([.ref o0, .int i])).length) Slot.unset).toArray = ls at hl ⊢
  have hl : lv_has ls 2 [(0, .ref o0), (1, .int i)] := hl
  refine lv_aload_n hx hb dn_d_Doc_answer_0 rfl (lv_at hl 0 rfl) ?_
  refine va_get (D := G) (ci := 0) (v := .ref u3) (C := dn_R_Doc) (T := dn_T_Doc) (N := 5) hx hb hts (dn_u_Doc) hown hK hP 0 rfl rfl 4 (by decide) (hts _ dn_w_284) (fun _ h9 => h9) rfl dn_d_Doc_answer_1 ?_
  refine lv_iload_n hx hb dn_d_Doc_answer_4 rfl (lv_at hl 1 rfl) ?_
  refine vp_callSl (va_Run.run (va_runV (b := u3) (As := [.int i]) (rest := []) ⟨hx, hb, hml, hown, hts⟩ (cc_get l G cA w n 6 u3 q i (by first | assumption | omega) (by first | assumption | omega)) ⟨(callB_of 1 hts (dc_good dn_w_338) rfl rfl rfl (hts _ dn_w_2) (hts _ dn_w_589) (by decide +kernel) ⟨Nat.le_of_ble_eq_true rfl, Nat.le_of_ble_eq_true rfl⟩), (hts _ dn_w_336), (hts _ dn_w_337)⟩ (dc_preVR (hP.sub [1, 2] rfl) hK0 (q0 := 0) rfl rfl) rfl rfl hl.1 rfl (lv_room (Nat.le_of_ble_eq_true rfl)) dn_d_Doc_answer_5 ⟨Nat.le_of_ble_eq_true rfl, Nat.le_of_ble_eq_true rfl⟩)) (fun r9 hr9 => ?_)
  subst hr9
  exact W.lret (v := (dc_get w n i)) hx hb hr (fun t ht hW => ⟨_, rfl, (rfl), ht⟩) (fun q h => by cases h) dn_d_Doc_answer_8
