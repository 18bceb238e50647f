set_option maxHeartbeats 4000000 in
set_option maxRecDepth 100000 in
theorem cc_derive (l : Launch) (G : va_G) (cA : Nat → ClassId) (ha : Nat) (ka : Int64) (kb : Int64) (sd : Int64)  (sz : Nat) : Met l dn_y_Access_derive (.code dn_y_Access_derive dn_c_Access_derive 3 none :: dc_W) ({ frames := 2, cells := 0, slots := 0, locals := 48 }) (dc_pW G cA [(ha, .inr (1, [.long ka, .long kb]))] sz [.ref ha, .long sd]) (dc_qv G (fun (_ : Unit) => True) (fun (_ : Unit) => [(ha, .inr (1, [.long (dc_dig2 sd 1), .long (dc_dig2 sd 2)]))]) sz [(ha, .inr (1, [.long ka, .long kb]))]) 0 0 (va_A [(ha, .inr (1, [.long ka, .long kb]))] sz) := by
  refine Met.ofW (cc := dn_c_Access_derive) (maxL := 3) (ret := none) (by decide) rfl ?_
  intro p9 en9 s m args9 below9 meth9 cd9 s9 B hml hv
  obtain ⟨rfl, hsz, hP, hK0, hD0⟩ := hv
  have hx := B.exec
  have hb := B.bytes
  have hr := B.returns
  have hts : ∀ w ∈ dc_W, w.before _ s = true := fun w h => atoms_spec (ws := (.code dn_y_Access_derive dn_c_Access_derive 3 none :: dc_W)) B.pre w (List.mem_cons_of_mem _ h)
  have hK := hK0.1
  have hN := hK0.2
  have hown : s.vm.findClass dn_R_Access = some m.cls := findClass_of_methodNamed B.named
  have hlocks := B.notSynchronized
  subst hsz
  have hD := hD0.self (sz := s.heap.size)
  unfold dc_qv
  generalize hAe : va_A [(ha, .inr (1, [.long ka, .long kb]))] s.heap.size = A at hD ⊢
  have hA : ∀ q : Nat, s.heap.size ≤ q → A q := fun q h => by rw [← hAe]; exact Or.inr h
  have hS : va_S A s.heap s.heap [] := va_S.rf
  have hl := lv_entry ([.ref ha, .long sd]) (n := 3) (Nat.le_of_ble_eq_true rfl)
  rw [lg_entry_eq]
  generalize (lg_sl ([.ref ha, .long sd]) ++ List.replicate (3 - (lg_sl ([.ref ha, .long sd])).length) Slot.unset).toArray = ls at hl ⊢
  have hl : lv_has ls 3 [(0, .ref ha), (1, .long sd)] := hl
  refine lv_aload_n hx hb dn_d_Access_derive_0 rfl (lv_at hl 0 rfl) ?_
  refine lv_lload_n hx hb dn_d_Access_derive_1 rfl (lv_at hl 1 rfl) ?_
  refine lv_lconst (v := 1) hx hb dn_d_Access_derive_2 (by decide) ?_
  refine vp_callSl (va_Run.run (va_runS (As := [.long sd, .long 1]) (rest := [.ref ha]) ⟨hx, hb, hml, hown, hts⟩ (cc_dig2 l sd 1 ) ⟨(callB_of 2 hts (dc_good dn_w_136) rfl rfl rfl (hts _ dn_w_8) (hts _ dn_w_146) (by decide +kernel) ⟨Nat.le_of_ble_eq_true rfl, Nat.le_of_ble_eq_true rfl⟩), (hts _ dn_w_135)⟩ preEq rfl rfl hl.1 rfl (lv_room (Nat.le_of_ble_eq_true rfl)) dn_d_Access_derive_3 ⟨Nat.le_of_ble_eq_true rfl, Nat.le_of_ble_eq_true rfl⟩)) (fun r9 hr9 => ?_)
  subst hr9
  refine va_put (D := G) (ci := 1) (v := .long (dc_dig2 sd 1)) (ty := (.long)) (C := dn_R_Access) (T := dn_T_Access) (N := 2) hx hb hts (dn_u_Access) dn_t_Access dn_o_Access dn_n_Access hown hK hP hD hS 0 rfl rfl 0 (by decide) (hts _ dn_w_55) (fun _ h9 => h9) rfl (by decide +kernel) rfl rfl (Nat.le_of_ble_eq_true rfl) dn_d_Access_derive_6 (fun H locs hP hD hS => ?_)
  have hP : va_P G vwCl [(ha, .inr (1, [.long (dc_dig2 sd 1), .long kb]))] H := hP
  have hD : va_D A [(ha, .inr (1, [.long (dc_dig2 sd 1), .long kb]))] := hD
  refine lv_aload_n hx hb dn_d_Access_derive_9 rfl (lv_at hl 0 rfl) ?_
  refine lv_lload_n hx hb dn_d_Access_derive_10 rfl (lv_at hl 1 rfl) ?_
  refine lv_ldc2 (v := 2) hx hb hown (hts _ dn_w_147) dn_d_Access_derive_11 ?_
  refine vp_callSl (va_Run.run (va_runS (As := [.long sd, .long 2]) (rest := [.ref ha]) ⟨hx, hb, hml, hown, hts⟩ (cc_dig2 l sd 2 ) ⟨(callB_of 2 hts (dc_good dn_w_136) rfl rfl rfl (hts _ dn_w_8) (hts _ dn_w_146) (by decide +kernel) ⟨Nat.le_of_ble_eq_true rfl, Nat.le_of_ble_eq_true rfl⟩), (hts _ dn_w_135)⟩ preEq rfl rfl hl.1 rfl (lv_room (Nat.le_of_ble_eq_true rfl)) dn_d_Access_derive_14 ⟨Nat.le_of_ble_eq_true rfl, Nat.le_of_ble_eq_true rfl⟩)) (fun r9 hr9 => ?_)
  subst hr9
  refine va_put (D := G) (ci := 1) (v := .long (dc_dig2 sd 2)) (ty := (.long)) (C := dn_R_Access) (T := dn_T_Access) (N := 2) hx hb hts (dn_u_Access) dn_t_Access dn_o_Access dn_n_Access hown hK hP hD hS 0 rfl rfl 1 (by decide) (hts _ dn_w_56) (fun _ h9 => h9) rfl (by decide +kernel) rfl rfl (Nat.le_of_ble_eq_true rfl) dn_d_Access_derive_17 (fun H locs hP hD hS => ?_)
  have hP : va_P G vwCl [(ha, .inr (1, [.long (dc_dig2 sd 1), .long (dc_dig2 sd 2)]))] H := hP
  have hD : va_D A [(ha, .inr (1, [.long (dc_dig2 sd 1), .long (dc_dig2 sd 2)]))] := hD
  have hP9 := hP.sub (ws' := [(ha, .inr (1, [.long (dc_dig2 sd 1), .long (dc_dig2 sd 2)]))]) [0] rfl
  have hD9 := hD.sub (ws' := [(ha, .inr (1, [.long (dc_dig2 sd 1), .long (dc_dig2 sd 2)]))]) [0] (by decide) rfl
  exact W.vret hx hb hr (fun t ht hW => ⟨⟨(), rfl, (trivial), by rw [ht]; exact hP9, hD9⟩, hS.F ht⟩) hS.2.2 dn_d_Access_derive_20

set_option maxHeartbeats 4000000 in
set_option maxRecDepth 100000 in
theorem cc_awrap (l : Launch) (G : va_G) (cA : Nat → ClassId) (ha : Nat) (ka : Int64) (kb : Int64) (w : Nat → Int64) (n : Nat) (cap : Nat) (h0 : Nat) (q : Nat) (x : Int64) (y : Int64) (u : Int64) (h4 : 4 ≤ cap) (hc : cap < 2147483648) (sz : Nat) : Met l dn_y_Access_wrap (.code dn_y_Access_wrap dn_c_Access_wrap 14 none :: dc_W) ({ frames := 3, cells := 0, slots := 0, locals := 78 }) (dc_pW G cA [(ha, .inr (1, [.long ka, .long kb])), (h0, .inr (5, [.ref q, .int (nI n)])), (q, .inl (cA 1, cap, .inr (.inl w)))] sz [.ref ha, .ref h0, .long x, .long y, .long u]) (dc_qv G (fun (_ : Unit) => True) (fun (_ : Unit) => [(ha, .inr (1, [.long ka, .long kb])), (h0, .inr (5, [.ref q, .int (nI 4)])), (q, .inl (cA 1, cap, .inr (.inl (dc_awrap w ka kb x y u))))]) sz [(ha, .inr (1, [.long ka, .long kb])), (h0, .inr (5, [.ref q, .int (nI n)])), (q, .inl (cA 1, cap, .inr (.inl w)))]) 0 0 (va_A [(ha, .inr (1, [.long ka, .long kb])), (h0, .inr (5, [.ref q, .int (nI n)])), (q, .inl (cA 1, cap, .inr (.inl w)))] sz) := by
  refine Met.ofW (cc := dn_c_Access_wrap) (maxL := 14) (ret := none) (by decide) rfl ?_
  intro p9 en9 s m args9 below9 meth9 cd9 s9 B hml hv
  obtain ⟨rfl, hsz, hP, hK0, hD0⟩ := hv
  have hx := B.exec
  have hb := B.bytes
  have hr := B.returns
  have hts : ∀ w ∈ dc_W, w.before _ s = true := fun w h => atoms_spec (ws := (.code dn_y_Access_wrap dn_c_Access_wrap 14 none :: dc_W)) B.pre w (List.mem_cons_of_mem _ h)
  have hK := hK0.1
  have hN := hK0.2
  have hown : s.vm.findClass dn_R_Access = some m.cls := findClass_of_methodNamed B.named
  have hlocks := B.notSynchronized
  subst hsz
  have hD := hD0.self (sz := s.heap.size)
  unfold dc_qv
  generalize hAe : va_A [(ha, .inr (1, [.long ka, .long kb])), (h0, .inr (5, [.ref q, .int (nI n)])), (q, .inl (cA 1, cap, .inr (.inl w)))] s.heap.size = A at hD ⊢
  have hA : ∀ q : Nat, s.heap.size ≤ q → A q := fun q h => by rw [← hAe]; exact Or.inr h
  have hS : va_S A s.heap s.heap [] := va_S.rf
  have hl := lv_entry ([.ref ha, .ref h0, .long x, .long y, .long u]) (n := 14) (Nat.le_of_ble_eq_true rfl)
  rw [lg_entry_eq]
  generalize (lg_sl ([.ref ha, .ref h0, .long x, .long y, .long u]) ++ List.replicate (14 - (lg_sl ([.ref ha, .ref h0, .long x, .long y, .long u])).length) Slot.unset).toArray = ls at hl ⊢
  have hl : lv_has ls 14 [(0, .ref ha), (1, .ref h0), (2, .long x), (4, .long y), (6, .long u)] := hl
  refine lv_aload_n hx hb dn_d_Access_wrap_0 rfl (lv_at hl 0 rfl) ?_
  refine va_get (D := G) (ci := 1) (v := .long ka) (C := dn_R_Access) (T := dn_T_Access) (N := 2) hx hb hts (dn_u_Access) hown hK hP 0 rfl rfl 0 (by decide) (hts _ dn_w_55) (fun _ h9 => h9) rfl dn_d_Access_wrap_1 ?_
  refine lv_lload_n hx hb dn_d_Access_wrap_4 rfl (lv_at hl 2 rfl) ?_
  refine vp_callSl (va_Run.run (va_runS (As := [.long ka, .long x]) (rest := []) ⟨hx, hb, hml, hown, hts⟩ (cc_enc l ka x ) ⟨(callB_of 2 hts (dc_good dn_w_307) rfl rfl rfl (hts _ dn_w_8) (hts _ dn_w_428) (by decide +kernel) ⟨Nat.le_of_ble_eq_true rfl, Nat.le_of_ble_eq_true rfl⟩), (hts _ dn_w_306)⟩ preEq rfl rfl hl.1 rfl (lv_room (Nat.le_of_ble_eq_true rfl)) dn_d_Access_wrap_5 ⟨Nat.le_of_ble_eq_true rfl, Nat.le_of_ble_eq_true rfl⟩)) (fun r9 hr9 => ?_)
  subst hr9
  refine lv_topl (fun va e_va => ?_)
  refine lv_lstore hx hb dn_d_Access_wrap_8 hl (by decide) rfl (fun ls hl => ?_)
  have hl : lv_has ls 14 [(8, .long va), (0, .ref ha), (1, .ref h0), (2, .long x), (4, .long y), (6, .long u)] := hl
  refine lv_aload_n hx hb dn_d_Access_wrap_10 rfl (lv_at hl 1 rfl) ?_
  refine va_get (D := G) (ci := 1) (v := .long ka) (C := dn_R_Access) (T := dn_T_Access) (N := 2) hx hb hts (dn_u_Access) hown hK hP 0 rfl rfl 0 (by decide) (hts _ dn_w_55) (fun _ h9 => h9) rfl dn_d_Access_wrap_11 ?_
  refine lv_lload hx hb dn_d_Access_wrap_14 (lv_at hl 4 rfl) ?_
  refine lv_lload hx hb dn_d_Access_wrap_16 (lv_at hl 0 rfl) ?_
  refine lv_lxor hx hb dn_d_Access_wrap_18 ?_
  refine vp_callSl (va_Run.run (va_runS (As := [.long ka, .long (y ^^^ va)]) (rest := []) ⟨hx, hb, hml, hown, hts⟩ (cc_enc l ka (y ^^^ va) ) ⟨(callB_of 2 hts (dc_good dn_w_307) rfl rfl rfl (hts _ dn_w_8) (hts _ dn_w_428) (by decide +kernel) ⟨Nat.le_of_ble_eq_true rfl, Nat.le_of_ble_eq_true rfl⟩), (hts _ dn_w_306)⟩ preEq rfl rfl hl.1 rfl (lv_room (Nat.le_of_ble_eq_true rfl)) dn_d_Access_wrap_19 ⟨Nat.le_of_ble_eq_true rfl, Nat.le_of_ble_eq_true rfl⟩)) (fun r9 hr9 => ?_)
  subst hr9
  refine lv_topl (fun vb e_vb => ?_)
  refine lv_lstore hx hb dn_d_Access_wrap_22 hl (by decide) rfl (fun ls hl => ?_)
  have hl : lv_has ls 14 [(10, .long vb), (8, .long va), (0, .ref ha), (1, .ref h0), (2, .long x), (4, .long y), (6, .long u)] := hl
  refine lv_aload_n hx hb dn_d_Access_wrap_24 rfl (lv_at hl 2 rfl) ?_
  refine va_get (D := G) (ci := 1) (v := .long ka) (C := dn_R_Access) (T := dn_T_Access) (N := 2) hx hb hts (dn_u_Access) hown hK hP 0 rfl rfl 0 (by decide) (hts _ dn_w_55) (fun _ h9 => h9) rfl dn_d_Access_wrap_25 ?_
  refine lv_lload hx hb dn_d_Access_wrap_28 (lv_at hl 6 rfl) ?_
  refine lv_lload hx hb dn_d_Access_wrap_30 (lv_at hl 0 rfl) ?_
  refine lv_lxor hx hb dn_d_Access_wrap_32 ?_
  refine vp_callSl (va_Run.run (va_runS (As := [.long ka, .long (u ^^^ vb)]) (rest := []) ⟨hx, hb, hml, hown, hts⟩ (cc_enc l ka (u ^^^ vb) ) ⟨(callB_of 2 hts (dc_good dn_w_307) rfl rfl rfl (hts _ dn_w_8) (hts _ dn_w_428) (by decide +kernel) ⟨Nat.le_of_ble_eq_true rfl, Nat.le_of_ble_eq_true rfl⟩), (hts _ dn_w_306)⟩ preEq rfl rfl hl.1 rfl (lv_room (Nat.le_of_ble_eq_true rfl)) dn_d_Access_wrap_33 ⟨Nat.le_of_ble_eq_true rfl, Nat.le_of_ble_eq_true rfl⟩)) (fun r9 hr9 => ?_)
  subst hr9
  refine lv_topl (fun vc e_vc => ?_)
  refine lv_lstore hx hb dn_d_Access_wrap_36 hl (by decide) rfl (fun ls hl => ?_)
  have hl : lv_has ls 14 [(12, .long vc), (10, .long vb), (8, .long va), (0, .ref ha), (1, .ref h0), (2, .long x), (4, .long y), (6, .long u)] := hl
  refine lv_aload_n hx hb dn_d_Access_wrap_38 rfl (lv_at hl 4 rfl) ?_
  refine dc_wv (wr := [(ha, .inr (1, [.long ka, .long kb]))]) (va_runV (b := h0) (As := []) (rest := []) ⟨hx, hb, hml, hown, hts⟩ (cc_clear l G cA w n cap h0 q  s.heap.size) ⟨(callB_of 0 hts (dc_good dn_w_327) rfl rfl rfl (hts _ dn_w_2) (hts _ dn_w_429) (by decide +kernel) ⟨Nat.le_of_ble_eq_true rfl, Nat.le_of_ble_eq_true rfl⟩), (hts _ dn_w_325), (hts _ dn_w_326)⟩ (dc_preVW (hP.sub [1, 2] rfl) hK0 (hD.sub [1, 2] (by decide) rfl) (q0 := 0) rfl rfl) rfl rfl hl.1 rfl (lv_room (Nat.le_of_ble_eq_true rfl)) dn_d_Access_wrap_39 ⟨Nat.le_of_ble_eq_true rfl, Nat.le_of_ble_eq_true rfl⟩) hP hD hS hA [1, 2] [0] rfl rfl (by decide) (by decide) (fun u9 H locs hr9 hP hD hS => ?_)
  have hP : va_P G vwCl [(ha, .inr (1, [.long ka, .long kb])), (h0, .inr (5, [.ref q, .int (nI 0)])), (q, .inl (cA 1, cap, .inr (.inl w)))] H := hP
  have hD : va_D A [(ha, .inr (1, [.long ka, .long kb])), (h0, .inr (5, [.ref q, .int (nI 0)])), (q, .inl (cA 1, cap, .inr (.inl w)))] := hD
  refine lv_aload_n hx hb dn_d_Access_wrap_42 rfl (lv_at hl 4 rfl) ?_
  refine lv_lload hx hb dn_d_Access_wrap_43 (lv_at hl 2 rfl) ?_
  refine dc_wv (wr := [(ha, .inr (1, [.long ka, .long kb]))]) (va_runV (b := h0) (As := [.long va]) (rest := []) ⟨hx, hb, hml, hown, hts⟩ (cc_add l G cA w 0 cap h0 q va (by first | assumption | omega) (by first | assumption | omega) H.size) ⟨(callB_of 1 hts (dc_good dn_w_346) rfl rfl rfl (hts _ dn_w_2) (hts _ dn_w_430) (by decide +kernel) ⟨Nat.le_of_ble_eq_true rfl, Nat.le_of_ble_eq_true rfl⟩), (hts _ dn_w_344), (hts _ dn_w_345)⟩ (dc_preVW (hP.sub [1, 2] rfl) hK0 (hD.sub [1, 2] (by decide) rfl) (q0 := 0) rfl rfl) rfl rfl hl.1 rfl (lv_room (Nat.le_of_ble_eq_true rfl)) dn_d_Access_wrap_45 ⟨Nat.le_of_ble_eq_true rfl, Nat.le_of_ble_eq_true rfl⟩) hP hD hS hA [1, 2] [0] rfl rfl (by decide) (by decide) (fun u9 H locs hr9 hP hD hS => ?_)
  have hP : va_P G vwCl [(ha, .inr (1, [.long ka, .long kb])), (h0, .inr (5, [.ref q, .int (nI (0 + 1))])), (q, .inl (cA 1, cap, .inr (.inl (vp_updL w 0 va))))] H := hP
  have hD : va_D A [(ha, .inr (1, [.long ka, .long kb])), (h0, .inr (5, [.ref q, .int (nI (0 + 1))])), (q, .inl (cA 1, cap, .inr (.inl (vp_updL w 0 va))))] := hD
  refine lv_aload_n hx hb dn_d_Access_wrap_48 rfl (lv_at hl 4 rfl) ?_
  refine lv_lload hx hb dn_d_Access_wrap_49 (lv_at hl 1 rfl) ?_
  refine dc_wv (wr := [(ha, .inr (1, [.long ka, .long kb]))]) (va_runV (b := h0) (As := [.long vb]) (rest := []) ⟨hx, hb, hml, hown, hts⟩ (cc_add l G cA (vp_updL w 0 va) (0 + 1) cap h0 q vb (by first | assumption | omega) (by first | assumption | omega) H.size) ⟨(callB_of 1 hts (dc_good dn_w_346) rfl rfl rfl (hts _ dn_w_2) (hts _ dn_w_430) (by decide +kernel) ⟨Nat.le_of_ble_eq_true rfl, Nat.le_of_ble_eq_true rfl⟩), (hts _ dn_w_344), (hts _ dn_w_345)⟩ (dc_preVW (hP.sub [1, 2] rfl) hK0 (hD.sub [1, 2] (by decide) rfl) (q0 := 0) rfl rfl) rfl rfl hl.1 rfl (lv_room (Nat.le_of_ble_eq_true rfl)) dn_d_Access_wrap_51 ⟨Nat.le_of_ble_eq_true rfl, Nat.le_of_ble_eq_true rfl⟩) hP hD hS hA [1, 2] [0] rfl rfl (by decide) (by decide) (fun u9 H locs hr9 hP hD hS => ?_)
  have hP : va_P G vwCl [(ha, .inr (1, [.long ka, .long kb])), (h0, .inr (5, [.ref q, .int (nI ((0 + 1) + 1))])), (q, .inl (cA 1, cap, .inr (.inl (vp_updL (vp_updL w 0 va) (0 + 1) vb))))] H := hP
  have hD : va_D A [(ha, .inr (1, [.long ka, .long kb])), (h0, .inr (5, [.ref q, .int (nI ((0 + 1) + 1))])), (q, .inl (cA 1, cap, .inr (.inl (vp_updL (vp_updL w 0 va) (0 + 1) vb))))] := hD
  refine lv_aload_n hx hb dn_d_Access_wrap_54 rfl (lv_at hl 4 rfl) ?_
  refine lv_lload hx hb dn_d_Access_wrap_55 (lv_at hl 0 rfl) ?_
  refine dc_wv (wr := [(ha, .inr (1, [.long ka, .long kb]))]) (va_runV (b := h0) (As := [.long vc]) (rest := []) ⟨hx, hb, hml, hown, hts⟩ (cc_add l G cA (vp_updL (vp_updL w 0 va) (0 + 1) vb) ((0 + 1) + 1) cap h0 q vc (by first | assumption | omega) (by first | assumption | omega) H.size) ⟨(callB_of 1 hts (dc_good dn_w_346) rfl rfl rfl (hts _ dn_w_2) (hts _ dn_w_430) (by decide +kernel) ⟨Nat.le_of_ble_eq_true rfl, Nat.le_of_ble_eq_true rfl⟩), (hts _ dn_w_344), (hts _ dn_w_345)⟩ (dc_preVW (hP.sub [1, 2] rfl) hK0 (hD.sub [1, 2] (by decide) rfl) (q0 := 0) rfl rfl) rfl rfl hl.1 rfl (lv_room (Nat.le_of_ble_eq_true rfl)) dn_d_Access_wrap_57 ⟨Nat.le_of_ble_eq_true rfl, Nat.le_of_ble_eq_true rfl⟩) hP hD hS hA [1, 2] [0] rfl rfl (by decide) (by decide) (fun u9 H locs hr9 hP hD hS => ?_)
  have hP : va_P G vwCl [(ha, .inr (1, [.long ka, .long kb])), (h0, .inr (5, [.ref q, .int (nI (((0 + 1) + 1) + 1))])), (q, .inl (cA 1, cap, .inr (.inl (vp_updL (vp_updL (vp_updL w 0 va) (0 + 1) vb) ((0 + 1) + 1) vc))))] H := hP
  have hD : va_D A [(ha, .inr (1, [.long ka, .long kb])), (h0, .inr (5, [.ref q, .int (nI (((0 + 1) + 1) + 1))])), (q, .inl (cA 1, cap, .inr (.inl (vp_updL (vp_updL (vp_updL w 0 va) (0 + 1) vb) ((0 + 1) + 1) vc))))] := hD
  refine lv_aload_n hx hb dn_d_Access_wrap_60 rfl (lv_at hl 4 rfl) ?_
  refine lv_aload_n hx hb dn_d_Access_wrap_61 rfl (lv_at hl 3 rfl) ?_
  refine va_get (D := G) (ci := 1) (v := .long kb) (C := dn_R_Access) (T := dn_T_Access) (N := 2) hx hb hts (dn_u_Access) hown hK hP 0 rfl rfl 1 (by decide) (hts _ dn_w_56) (fun _ h9 => h9) rfl dn_d_Access_wrap_62 ?_
  refine lv_lload hx hb dn_d_Access_wrap_65 (lv_at hl 2 rfl) ?_
  refine lv_lload hx hb dn_d_Access_wrap_67 (lv_at hl 1 rfl) ?_
  refine lv_lload hx hb dn_d_Access_wrap_69 (lv_at hl 0 rfl) ?_
  refine vp_callSl (va_Run.run (va_runS (As := [.long kb, .long va, .long vb, .long vc]) (rest := [.ref h0]) ⟨hx, hb, hml, hown, hts⟩ (cc_seal3 l kb va vb vc ) ⟨(callB_of 4 hts (dc_good dn_w_433) rfl rfl rfl (hts _ dn_w_8) (hts _ dn_w_431) (by decide +kernel) ⟨Nat.le_of_ble_eq_true rfl, Nat.le_of_ble_eq_true rfl⟩), (hts _ dn_w_432)⟩ preEq rfl rfl hl.1 rfl (lv_room (Nat.le_of_ble_eq_true rfl)) dn_d_Access_wrap_71 ⟨Nat.le_of_ble_eq_true rfl, Nat.le_of_ble_eq_true rfl⟩)) (fun r9 hr9 => ?_)
  subst hr9
  refine dc_wv (wr := [(ha, .inr (1, [.long ka, .long kb]))]) (va_runV (b := h0) (As := [.long (dc_seal3 kb va vb vc)]) (rest := []) ⟨hx, hb, hml, hown, hts⟩ (cc_add l G cA (vp_updL (vp_updL (vp_updL w 0 va) (0 + 1) vb) ((0 + 1) + 1) vc) (((0 + 1) + 1) + 1) cap h0 q (dc_seal3 kb va vb vc) (by first | assumption | omega) (by first | assumption | omega) H.size) ⟨(callB_of 1 hts (dc_good dn_w_346) rfl rfl rfl (hts _ dn_w_2) (hts _ dn_w_430) (by decide +kernel) ⟨Nat.le_of_ble_eq_true rfl, Nat.le_of_ble_eq_true rfl⟩), (hts _ dn_w_344), (hts _ dn_w_345)⟩ (dc_preVW (hP.sub [1, 2] rfl) hK0 (hD.sub [1, 2] (by decide) rfl) (q0 := 0) rfl rfl) rfl rfl hl.1 rfl (lv_room (Nat.le_of_ble_eq_true rfl)) dn_d_Access_wrap_74 ⟨Nat.le_of_ble_eq_true rfl, Nat.le_of_ble_eq_true rfl⟩) hP hD hS hA [1, 2] [0] rfl rfl (by decide) (by decide) (fun u9 H locs hr9 hP hD hS => ?_)
  have hP : va_P G vwCl [(ha, .inr (1, [.long ka, .long kb])), (h0, .inr (5, [.ref q, .int (nI ((((0 + 1) + 1) + 1) + 1))])), (q, .inl (cA 1, cap, .inr (.inl (vp_updL (vp_updL (vp_updL (vp_updL w 0 va) (0 + 1) vb) ((0 + 1) + 1) vc) (((0 + 1) + 1) + 1) (dc_seal3 kb va vb vc)))))] H := hP
  have hD : va_D A [(ha, .inr (1, [.long ka, .long kb])), (h0, .inr (5, [.ref q, .int (nI ((((0 + 1) + 1) + 1) + 1))])), (q, .inl (cA 1, cap, .inr (.inl (vp_updL (vp_updL (vp_updL (vp_updL w 0 va) (0 + 1) vb) ((0 + 1) + 1) vc) (((0 + 1) + 1) + 1) (dc_seal3 kb va vb vc)))))] := hD
  have hP9 := hP.sub (ws' := [(ha, .inr (1, [.long ka, .long kb])), (h0, .inr (5, [.ref q, .int (nI ((((0 + 1) + 1) + 1) + 1))])), (q, .inl (cA 1, cap, .inr (.inl (vp_updL (vp_updL (vp_updL (vp_updL w 0 va) (0 + 1) vb) ((0 + 1) + 1) vc) (((0 + 1) + 1) + 1) (dc_seal3 kb va vb vc)))))]) [0, 1, 2] rfl
  have hD9 := hD.sub (ws' := [(ha, .inr (1, [.long ka, .long kb])), (h0, .inr (5, [.ref q, .int (nI ((((0 + 1) + 1) + 1) + 1))])), (q, .inl (cA 1, cap, .inr (.inl (vp_updL (vp_updL (vp_updL (vp_updL w 0 va) (0 + 1) vb) ((0 + 1) + 1) vc) (((0 + 1) + 1) + 1) (dc_seal3 kb va vb vc)))))]) [0, 1, 2] (by decide) rfl
  have hE9 : ([(ha, .inr (1, [.long ka, .long kb])), (h0, .inr (5, [.ref q, .int (nI ((((0 + 1) + 1) + 1) + 1))])), (q, .inl (cA 1, cap, .inr (.inl (vp_updL (vp_updL (vp_updL (vp_updL w 0 va) (0 + 1) vb) ((0 + 1) + 1) vc) (((0 + 1) + 1) + 1) (dc_seal3 kb va vb vc)))))] : va_W) = [(ha, .inr (1, [.long ka, .long kb])), (h0, .inr (5, [.ref q, .int (nI 4)])), (q, .inl (cA 1, cap, .inr (.inl (dc_awrap w ka kb x y u))))] := by subst e_vc; subst e_vb; subst e_va; rfl
  rw [hE9] at hP9 hD9
  exact W.vret hx hb hr (fun t ht hW => ⟨⟨(), rfl, (trivial), by rw [ht]; exact hP9, hD9⟩, hS.F ht⟩) hS.2.2 dn_d_Access_wrap_77

set_option maxHeartbeats 4000000 in
set_option maxRecDepth 100000 in
theorem cc_sealHolds (l : Launch) (G : va_G) (cA : Nat → ClassId) (ha : Nat) (ka : Int64) (kb : Int64) (w : Nat → Int64) (n : Nat) (cap : Nat) (h0 : Nat) (q : Nat) (hn : n ≤ cap) (hc : cap < 2147483648) : Met l dn_y_Access_sealHolds (.code dn_y_Access_sealHolds dn_c_Access_sealHolds 2 (some .boolean) :: dc_W) ({ frames := 3, cells := 0, slots := 0, locals := 78 }) (dc_pR G cA [(ha, .inr (1, [.long ka, .long kb])), (h0, .inr (5, [.ref q, .int (nI n)])), (q, .inl (cA 1, cap, .inr (.inl w)))] [.ref ha, .ref h0]) (vp_Si (fun r => r = dc_bI (dc_sealOk kb w n))) 0 0 (fun _ => False) := by
  refine Met.ofW (cc := dn_c_Access_sealHolds) (maxL := 2) (ret := (some .boolean)) (by decide) rfl ?_
  intro p9 en9 s m args9 below9 meth9 cd9 s9 B hml hv
  obtain ⟨rfl, hP, hK0⟩ := hv
  have hx := B.exec
  have hb := B.bytes
  have hr := B.returns
  have hts : ∀ w ∈ dc_W, w.before _ s = true := fun w h => atoms_spec (ws := (.code dn_y_Access_sealHolds dn_c_Access_sealHolds 2 (some .boolean) :: dc_W)) B.pre w (List.mem_cons_of_mem _ h)
  have hK := hK0.1
  have hN := hK0.2
  have hown : s.vm.findClass dn_R_Access = some m.cls := findClass_of_methodNamed B.named
  have hlocks := B.notSynchronized
  have hl := lv_entry ([.ref ha, .ref h0]) (n := 2) (Nat.le_of_ble_eq_true rfl)
  rw [lg_entry_eq]
  generalize (lg_sl ([.ref ha, .ref h0]) ++ List.replicate (2 - (lg_sl ([.ref ha, .ref h0])).length) Slot.unset).toArray = ls at hl ⊢
  have hl : lv_has ls 2 [(0, .ref ha), (1, .ref h0)] := hl
  refine lv_aload_n hx hb dn_d_Access_sealHolds_0 rfl (lv_at hl 1 rfl) ?_
  refine lv_iconst (v := 3) hx hb dn_d_Access_sealHolds_1 (by decide) ?_
  refine vp_callSl (va_Run.run (va_runV (b := h0) (As := [.int 3]) (rest := []) ⟨hx, hb, hml, hown, hts⟩ (cc_get l G cA w n cap h0 q 3 (by first | assumption | omega) (by first | assumption | omega)) ⟨(callB_of 1 hts (dc_good dn_w_338) rfl rfl rfl (hts _ dn_w_2) (hts _ dn_w_443) (by decide +kernel) ⟨Nat.le_of_ble_eq_true rfl, Nat.le_of_ble_eq_true rfl⟩), (hts _ dn_w_336), (hts _ dn_w_337)⟩ (dc_preVR (hP.sub [1, 2] rfl) hK0 (q0 := 0) rfl rfl) rfl rfl hl.1 rfl (lv_room (Nat.le_of_ble_eq_true rfl)) dn_d_Access_sealHolds_2 ⟨Nat.le_of_ble_eq_true rfl, Nat.le_of_ble_eq_true rfl⟩)) (fun r9 hr9 => ?_)
  subst hr9
  refine lv_aload_n hx hb dn_d_Access_sealHolds_5 rfl (lv_at hl 0 rfl) ?_
  refine va_get (D := G) (ci := 1) (v := .long kb) (C := dn_R_Access) (T := dn_T_Access) (N := 2) hx hb hts (dn_u_Access) hown hK hP 0 rfl rfl 1 (by decide) (hts _ dn_w_56) (fun _ h9 => h9) rfl dn_d_Access_sealHolds_6 ?_
  refine lv_aload_n hx hb dn_d_Access_sealHolds_9 rfl (lv_at hl 1 rfl) ?_
  refine lv_iconst (v := 0) hx hb dn_d_Access_sealHolds_10 (by decide) ?_
  refine vp_callSl (va_Run.run (va_runV (b := h0) (As := [.int 0]) (rest := [.long kb, .long (dc_get w n 3)]) ⟨hx, hb, hml, hown, hts⟩ (cc_get l G cA w n cap h0 q 0 (by first | assumption | omega) (by first | assumption | omega)) ⟨(callB_of 1 hts (dc_good dn_w_338) rfl rfl rfl (hts _ dn_w_2) (hts _ dn_w_443) (by decide +kernel) ⟨Nat.le_of_ble_eq_true rfl, Nat.le_of_ble_eq_true rfl⟩), (hts _ dn_w_336), (hts _ dn_w_337)⟩ (dc_preVR (hP.sub [1, 2] rfl) hK0 (q0 := 0) rfl rfl) rfl rfl hl.1 rfl (lv_room (Nat.le_of_ble_eq_true rfl)) dn_d_Access_sealHolds_11 ⟨Nat.le_of_ble_eq_true rfl, Nat.le_of_ble_eq_true rfl⟩)) (fun r9 hr9 => ?_)
  subst hr9
  refine lv_aload_n hx hb dn_d_Access_sealHolds_14 rfl (lv_at hl 1 rfl) ?_
  refine lv_iconst (v := 1) hx hb dn_d_Access_sealHolds_15 (by decide) ?_
  refine vp_callSl (va_Run.run (va_runV (b := h0) (As := [.int 1]) (rest := [.long (dc_get w n 0), .long kb, .long (dc_get w n 3)]) ⟨hx, hb, hml, hown, hts⟩ (cc_get l G cA w n cap h0 q 1 (by first | assumption | omega) (by first | assumption | omega)) ⟨(callB_of 1 hts (dc_good dn_w_338) rfl rfl rfl (hts _ dn_w_2) (hts _ dn_w_443) (by decide +kernel) ⟨Nat.le_of_ble_eq_true rfl, Nat.le_of_ble_eq_true rfl⟩), (hts _ dn_w_336), (hts _ dn_w_337)⟩ (dc_preVR (hP.sub [1, 2] rfl) hK0 (q0 := 0) rfl rfl) rfl rfl hl.1 rfl (lv_room (Nat.le_of_ble_eq_true rfl)) dn_d_Access_sealHolds_16 ⟨Nat.le_of_ble_eq_true rfl, Nat.le_of_ble_eq_true rfl⟩)) (fun r9 hr9 => ?_)
  subst hr9
  refine lv_aload_n hx hb dn_d_Access_sealHolds_19 rfl (lv_at hl 1 rfl) ?_
  refine lv_iconst (v := 2) hx hb dn_d_Access_sealHolds_20 (by decide) ?_
  refine vp_callSl (va_Run.run (va_runV (b := h0) (As := [.int 2]) (rest := [.long (dc_get w n 1), .long (dc_get w n 0), .long kb, .long (dc_get w n 3)]) ⟨hx, hb, hml, hown, hts⟩ (cc_get l G cA w n cap h0 q 2 (by first | assumption | omega) (by first | assumption | omega)) ⟨(callB_of 1 hts (dc_good dn_w_338) rfl rfl rfl (hts _ dn_w_2) (hts _ dn_w_443) (by decide +kernel) ⟨Nat.le_of_ble_eq_true rfl, Nat.le_of_ble_eq_true rfl⟩), (hts _ dn_w_336), (hts _ dn_w_337)⟩ (dc_preVR (hP.sub [1, 2] rfl) hK0 (q0 := 0) rfl rfl) rfl rfl hl.1 rfl (lv_room (Nat.le_of_ble_eq_true rfl)) dn_d_Access_sealHolds_21 ⟨Nat.le_of_ble_eq_true rfl, Nat.le_of_ble_eq_true rfl⟩)) (fun r9 hr9 => ?_)
  subst hr9
  refine vp_callSl (va_Run.run (va_runS (As := [.long kb, .long (dc_get w n 0), .long (dc_get w n 1), .long (dc_get w n 2)]) (rest := [.long (dc_get w n 3)]) ⟨hx, hb, hml, hown, hts⟩ (cc_seal3 l kb (dc_get w n 0) (dc_get w n 1) (dc_get w n 2) ) ⟨(callB_of 4 hts (dc_good dn_w_433) rfl rfl rfl (hts _ dn_w_8) (hts _ dn_w_431) (by decide +kernel) ⟨Nat.le_of_ble_eq_true rfl, Nat.le_of_ble_eq_true rfl⟩), (hts _ dn_w_432)⟩ preEq rfl rfl hl.1 rfl (lv_room (Nat.le_of_ble_eq_true rfl)) dn_d_Access_sealHolds_24 ⟨Nat.le_of_ble_eq_true rfl, Nat.le_of_ble_eq_true rfl⟩)) (fun r9 hr9 => ?_)
  subst hr9
  refine W.lcmp hx hb dn_d_Access_sealHolds_27 ?_
  refine lv_if_ne (tgt := 35) hx hb dn_d_Access_sealHolds_28 (by decide) (fun h28 => ?_) (fun h28 => ?_)
  · -- 28: ¬ (dc_get w n 3) = (dc_seal3 kb (dc_get w n 0) (dc_get w n 1) (dc_get w n 2))
    have h28 : ¬ (dc_get w n 3) = (dc_seal3 kb (dc_get w n 0) (dc_get w n 1) (dc_get w n 2)) := fun z => h28 ((lg_cmp_eq (dc_get w n 3) (dc_seal3 kb (dc_get w n 0) (dc_get w n 1) (dc_get w n 2))).2 z)
    refine lv_iconst (v := 0) hx hb dn_d_Access_sealHolds_35 (by decide) ?_
    exact W.zret (ty := .boolean) (v := 0) hx hb hr (rfl) (fun t ht hW => ⟨_, rfl, (by rw [show dc_sealOk kb w n = false from decide_eq_false h28]; rfl), ht⟩) (fun q h => by cases h) dn_d_Access_sealHolds_36
  · -- 28: (dc_get w n 3) = (dc_seal3 kb (dc_get w n 0) (dc_get w n 1) (dc_get w n 2))
    have h28 : (dc_get w n 3) = (dc_seal3 kb (dc_get w n 0) (dc_get w n 1) (dc_get w n 2)) := (lg_cmp_eq (dc_get w n 3) (dc_seal3 kb (dc_get w n 0) (dc_get w n 1) (dc_get w n 2))).1 h28
    refine lv_iconst (v := 1) hx hb dn_d_Access_sealHolds_31 (by decide) ?_
    refine lv_goto (tgt := 36) hx hb dn_d_Access_sealHolds_32 (by decide) ?_
    exact W.zret (ty := .boolean) (v := 1) hx hb hr (rfl) (fun t ht hW => ⟨_, rfl, (by rw [show dc_sealOk kb w n = true from decide_eq_true h28]; rfl), ht⟩) (fun q h => by cases h) dn_d_Access_sealHolds_36

set_option maxHeartbeats 4000000 in
set_option maxRecDepth 100000 in
theorem cc_afind (l : Launch) (G : va_G) (cA : Nat → ClassId) (ha : Nat) (ka : Int64) (kb : Int64) (w : Nat → Int64) (n : Nat) (cap : Nat) (h0 : Nat) (q : Nat) (i : Int32) (hn : n ≤ cap) (hc : cap < 2147483648) : Met l dn_y_Access_find (.code dn_y_Access_find dn_c_Access_find 3 (some .long) :: dc_W) ({ frames := 2, cells := 0, slots := 0, locals := 51 }) (dc_pR G cA [(ha, .inr (1, [.long ka, .long kb])), (h0, .inr (5, [.ref q, .int (nI n)])), (q, .inl (cA 1, cap, .inr (.inl w)))] [.ref ha, .ref h0, .int i]) (vp_Sl (fun r => r = dc_find ka w n i)) 0 0 (fun _ => False) := by
  refine Met.ofW (cc := dn_c_Access_find) (maxL := 3) (ret := (some .long)) (by decide) rfl ?_
  intro p9 en9 s m args9 below9 meth9 cd9 s9 B hml hv
  obtain ⟨rfl, hP, hK0⟩ := hv
  have hx := B.exec
  have hb := B.bytes
  have hr := B.returns
  have hts : ∀ w ∈ dc_W, w.before _ s = true := fun w h => atoms_spec (ws := (.code dn_y_Access_find dn_c_Access_find 3 (some .long) :: dc_W)) B.pre w (List.mem_cons_of_mem _ h)
  have hK := hK0.1
  have hN := hK0.2
  have hown : s.vm.findClass dn_R_Access = some m.cls := findClass_of_methodNamed B.named
  have hlocks := B.notSynchronized
  have hl := lv_entry ([.ref ha, .ref h0, .int i]) (n := 3) (Nat.le_of_ble_eq_true rfl)
  rw [lg_entry_eq]
  generalize (lg_sl ([.ref ha, .ref h0, .int i]) ++ List.replicate (3 - (lg_sl ([.ref ha, .ref h0, .int i])).length) Slot.unset).toArray = ls at hl ⊢
  have hl : lv_has ls 3 [(0, .ref ha), (1, .ref h0), (2, .int i)] := hl
  refine lv_aload_n hx hb dn_d_Access_find_0 rfl (lv_at hl 0 rfl) ?_
  refine va_get (D := G) (ci := 1) (v := .long ka) (C := dn_R_Access) (T := dn_T_Access) (N := 2) hx hb hts (dn_u_Access) hown hK hP 0 rfl rfl 0 (by decide) (hts _ dn_w_55) (fun _ h9 => h9) rfl dn_d_Access_find_1 ?_
  refine lv_aload_n hx hb dn_d_Access_find_4 rfl (lv_at hl 1 rfl) ?_
  refine lv_iload_n hx hb dn_d_Access_find_5 rfl (lv_at hl 2 rfl) ?_
  refine vp_callSl (va_Run.run (va_runV (b := h0) (As := [.int i]) (rest := [.long ka]) ⟨hx, hb, hml, hown, hts⟩ (cc_get l G cA w n cap h0 q i (by first | assumption | omega) (by first | assumption | omega)) ⟨(callB_of 1 hts (dc_good dn_w_338) rfl rfl rfl (hts _ dn_w_2) (hts _ dn_w_443) (by decide +kernel) ⟨Nat.le_of_ble_eq_true rfl, Nat.le_of_ble_eq_true rfl⟩), (hts _ dn_w_336), (hts _ dn_w_337)⟩ (dc_preVR (hP.sub [1, 2] rfl) hK0 (q0 := 0) rfl rfl) rfl rfl hl.1 rfl (lv_room (Nat.le_of_ble_eq_true rfl)) dn_d_Access_find_6 ⟨Nat.le_of_ble_eq_true rfl, Nat.le_of_ble_eq_true rfl⟩)) (fun r9 hr9 => ?_)
  subst hr9
  refine vp_callSl (va_Run.run (va_runS (As := [.long ka, .long (dc_get w n i)]) (rest := []) ⟨hx, hb, hml, hown, hts⟩ (cc_dec l ka (dc_get w n i) ) ⟨(callB_of 2 hts (dc_good dn_w_450) rfl rfl rfl (hts _ dn_w_8) (hts _ dn_w_448) (by decide +kernel) ⟨Nat.le_of_ble_eq_true rfl, Nat.le_of_ble_eq_true rfl⟩), (hts _ dn_w_449)⟩ preEq rfl rfl hl.1 rfl (lv_room (Nat.le_of_ble_eq_true rfl)) dn_d_Access_find_9 ⟨Nat.le_of_ble_eq_true rfl, Nat.le_of_ble_eq_true rfl⟩)) (fun r9 hr9 => ?_)
  subst hr9
  refine lv_aload_n hx hb dn_d_Access_find_12 rfl (lv_at hl 1 rfl) ?_
  refine lv_iload_n hx hb dn_d_Access_find_13 rfl (lv_at hl 2 rfl) ?_
  refine lv_iconst (v := 1) hx hb dn_d_Access_find_14 (by decide) ?_
  refine lv_isub hx hb dn_d_Access_find_15 ?_
  refine vp_callSl (va_Run.run (va_runV (b := h0) (As := [.int (i - (1 : Int32))]) (rest := [.long (dc_dec ka (dc_get w n i))]) ⟨hx, hb, hml, hown, hts⟩ (cc_get l G cA w n cap h0 q (i - (1 : Int32)) (by first | assumption | omega) (by first | assumption | omega)) ⟨(callB_of 1 hts (dc_good dn_w_338) rfl rfl rfl (hts _ dn_w_2) (hts _ dn_w_443) (by decide +kernel) ⟨Nat.le_of_ble_eq_true rfl, Nat.le_of_ble_eq_true rfl⟩), (hts _ dn_w_336), (hts _ dn_w_337)⟩ (dc_preVR (hP.sub [1, 2] rfl) hK0 (q0 := 0) rfl rfl) rfl rfl hl.1 rfl (lv_room (Nat.le_of_ble_eq_true rfl)) dn_d_Access_find_16 ⟨Nat.le_of_ble_eq_true rfl, Nat.le_of_ble_eq_true rfl⟩)) (fun r9 hr9 => ?_)
  subst hr9
  refine lv_lxor hx hb dn_d_Access_find_19 ?_
  exact W.lret (v := ((dc_dec ka (dc_get w n i)) ^^^ (dc_get w n (i - (1 : Int32))))) hx hb hr (fun t ht hW => ⟨_, rfl, (rfl), ht⟩) (fun q h => by cases h) dn_d_Access_find_20

set_option maxHeartbeats 4000000 in
set_option maxRecDepth 100000 in
theorem cc_sbegin (l : Launch) (G : va_G) (cA : Nat → ClassId) (hs : Nat) (so : Bool) (se : Int64) (sm : Int64) (sc : Int64) (x : Int64) (y : Int64) (u : Int64)  (sz : Nat) : Met l dn_y_Session_begin (.code dn_y_Session_begin dn_c_Session_begin 7 none :: dc_W) ({ frames := 2, cells := 0, slots := 0, locals := 48 }) (dc_pW G cA [(hs, .inr (6, [.int (dc_bI so), .long se, .long sm, .long sc]))] sz [.ref hs, .long x, .long y, .long u]) (dc_qv G (fun (_ : Unit) => True) (fun (_ : Unit) => [(hs, .inr (6, [.int (dc_bI true), .long (dc_dig2 x 1), .long (dc_dig2 x 2), .long (dc_join y u)]))]) sz [(hs, .inr (6, [.int (dc_bI so), .long se, .long sm, .long sc]))]) 0 0 (va_A [(hs, .inr (6, [.int (dc_bI so), .long se, .long sm, .long sc]))] sz) := by
  refine Met.ofW (cc := dn_c_Session_begin) (maxL := 7) (ret := none) (by decide) rfl ?_
  intro p9 en9 s m args9 below9 meth9 cd9 s9 B hml hv
  obtain ⟨rfl, hsz, hP, hK0, hD0⟩ := hv
  have hx := B.exec
  have hb := B.bytes
  have hr := B.returns
  have hts : ∀ w ∈ dc_W, w.before _ s = true := fun w h => atoms_spec (ws := (.code dn_y_Session_begin dn_c_Session_begin 7 none :: dc_W)) B.pre w (List.mem_cons_of_mem _ h)
  have hK := hK0.1
  have hN := hK0.2
  have hown : s.vm.findClass dn_R_Session = some m.cls := findClass_of_methodNamed B.named
  have hlocks := B.notSynchronized
  subst hsz
  have hD := hD0.self (sz := s.heap.size)
  unfold dc_qv
  generalize hAe : va_A [(hs, .inr (6, [.int (dc_bI so), .long se, .long sm, .long sc]))] s.heap.size = A at hD ⊢
  have hA : ∀ q : Nat, s.heap.size ≤ q → A q := fun q h => by rw [← hAe]; exact Or.inr h
  have hS : va_S A s.heap s.heap [] := va_S.rf
  have hl := lv_entry ([.ref hs, .long x, .long y, .long u]) (n := 7) (Nat.le_of_ble_eq_true rfl)
  rw [lg_entry_eq]
  generalize (lg_sl ([.ref hs, .long x, .long y, .long u]) ++ List.replicate (7 - (lg_sl ([.ref hs, .long x, .long y, .long u])).length) Slot.unset).toArray = ls at hl ⊢
  have hl : lv_has ls 7 [(0, .ref hs), (1, .long x), (3, .long y), (5, .long u)] := hl
  refine lv_aload_n hx hb dn_d_Session_begin_0 rfl (lv_at hl 0 rfl) ?_
  refine lv_iconst (v := 1) hx hb dn_d_Session_begin_1 (by decide) ?_
  refine va_put (D := G) (ci := 6) (v := .int 1) (ty := (.boolean)) (C := dn_R_Session) (T := dn_T_Session) (N := 4) hx hb hts (dn_u_Session) dn_t_Session dn_o_Session dn_n_Session hown hK hP hD hS 0 rfl rfl 0 (by decide) (hts _ dn_w_68) (fun _ h9 => h9) rfl (by decide +kernel) rfl rfl (Nat.le_of_ble_eq_true rfl) dn_d_Session_begin_2 (fun H locs hP hD hS => ?_)
  have hP : va_P G vwCl [(hs, .inr (6, [.int 1, .long se, .long sm, .long sc]))] H := hP
  have hD : va_D A [(hs, .inr (6, [.int 1, .long se, .long sm, .long sc]))] := hD
  refine lv_aload_n hx hb dn_d_Session_begin_5 rfl (lv_at hl 0 rfl) ?_
  refine lv_lload_n hx hb dn_d_Session_begin_6 rfl (lv_at hl 1 rfl) ?_
  refine lv_lconst (v := 1) hx hb dn_d_Session_begin_7 (by decide) ?_
  refine vp_callSl (va_Run.run (va_runS (As := [.long x, .long 1]) (rest := [.ref hs]) ⟨hx, hb, hml, hown, hts⟩ (cc_dig2 l x 1 ) ⟨(callB_of 2 hts (dc_good dn_w_136) rfl rfl rfl (hts _ dn_w_8) (hts _ dn_w_456) (by decide +kernel) ⟨Nat.le_of_ble_eq_true rfl, Nat.le_of_ble_eq_true rfl⟩), (hts _ dn_w_135)⟩ preEq rfl rfl hl.1 rfl (lv_room (Nat.le_of_ble_eq_true rfl)) dn_d_Session_begin_8 ⟨Nat.le_of_ble_eq_true rfl, Nat.le_of_ble_eq_true rfl⟩)) (fun r9 hr9 => ?_)
  subst hr9
  refine va_put (D := G) (ci := 6) (v := .long (dc_dig2 x 1)) (ty := (.long)) (C := dn_R_Session) (T := dn_T_Session) (N := 4) hx hb hts (dn_u_Session) dn_t_Session dn_o_Session dn_n_Session hown hK hP hD hS 0 rfl rfl 1 (by decide) (hts _ dn_w_71) (fun _ h9 => h9) rfl (by decide +kernel) rfl rfl (Nat.le_of_ble_eq_true rfl) dn_d_Session_begin_11 (fun H locs hP hD hS => ?_)
  have hP : va_P G vwCl [(hs, .inr (6, [.int 1, .long (dc_dig2 x 1), .long sm, .long sc]))] H := hP
  have hD : va_D A [(hs, .inr (6, [.int 1, .long (dc_dig2 x 1), .long sm, .long sc]))] := hD
  refine lv_aload_n hx hb dn_d_Session_begin_14 rfl (lv_at hl 0 rfl) ?_
  refine lv_lload_n hx hb dn_d_Session_begin_15 rfl (lv_at hl 1 rfl) ?_
  refine lv_ldc2 (v := 2) hx hb hown (hts _ dn_w_457) dn_d_Session_begin_16 ?_
  refine vp_callSl (va_Run.run (va_runS (As := [.long x, .long 2]) (rest := [.ref hs]) ⟨hx, hb, hml, hown, hts⟩ (cc_dig2 l x 2 ) ⟨(callB_of 2 hts (dc_good dn_w_136) rfl rfl rfl (hts _ dn_w_8) (hts _ dn_w_456) (by decide +kernel) ⟨Nat.le_of_ble_eq_true rfl, Nat.le_of_ble_eq_true rfl⟩), (hts _ dn_w_135)⟩ preEq rfl rfl hl.1 rfl (lv_room (Nat.le_of_ble_eq_true rfl)) dn_d_Session_begin_19 ⟨Nat.le_of_ble_eq_true rfl, Nat.le_of_ble_eq_true rfl⟩)) (fun r9 hr9 => ?_)
  subst hr9
  refine va_put (D := G) (ci := 6) (v := .long (dc_dig2 x 2)) (ty := (.long)) (C := dn_R_Session) (T := dn_T_Session) (N := 4) hx hb hts (dn_u_Session) dn_t_Session dn_o_Session dn_n_Session hown hK hP hD hS 0 rfl rfl 2 (by decide) (hts _ dn_w_72) (fun _ h9 => h9) rfl (by decide +kernel) rfl rfl (Nat.le_of_ble_eq_true rfl) dn_d_Session_begin_22 (fun H locs hP hD hS => ?_)
  have hP : va_P G vwCl [(hs, .inr (6, [.int 1, .long (dc_dig2 x 1), .long (dc_dig2 x 2), .long sc]))] H := hP
  have hD : va_D A [(hs, .inr (6, [.int 1, .long (dc_dig2 x 1), .long (dc_dig2 x 2), .long sc]))] := hD
  refine lv_aload_n hx hb dn_d_Session_begin_25 rfl (lv_at hl 0 rfl) ?_
  refine lv_lload_n hx hb dn_d_Session_begin_26 rfl (lv_at hl 2 rfl) ?_
  refine lv_lload hx hb dn_d_Session_begin_27 (lv_at hl 3 rfl) ?_
  refine vp_callSl (va_Run.run (va_runS (As := [.long y, .long u]) (rest := [.ref hs]) ⟨hx, hb, hml, hown, hts⟩ (cc_join l y u ) ⟨(callB_of 2 hts (dc_good dn_w_314) rfl rfl rfl (hts _ dn_w_8) (hts _ dn_w_458) (by decide +kernel) ⟨Nat.le_of_ble_eq_true rfl, Nat.le_of_ble_eq_true rfl⟩), (hts _ dn_w_313)⟩ preEq rfl rfl hl.1 rfl (lv_room (Nat.le_of_ble_eq_true rfl)) dn_d_Session_begin_29 ⟨Nat.le_of_ble_eq_true rfl, Nat.le_of_ble_eq_true rfl⟩)) (fun r9 hr9 => ?_)
  subst hr9
  refine va_put (D := G) (ci := 6) (v := .long (dc_join y u)) (ty := (.long)) (C := dn_R_Session) (T := dn_T_Session) (N := 4) hx hb hts (dn_u_Session) dn_t_Session dn_o_Session dn_n_Session hown hK hP hD hS 0 rfl rfl 3 (by decide) (hts _ dn_w_73) (fun _ h9 => h9) rfl (by decide +kernel) rfl rfl (Nat.le_of_ble_eq_true rfl) dn_d_Session_begin_32 (fun H locs hP hD hS => ?_)
  have hP : va_P G vwCl [(hs, .inr (6, [.int 1, .long (dc_dig2 x 1), .long (dc_dig2 x 2), .long (dc_join y u)]))] H := hP
  have hD : va_D A [(hs, .inr (6, [.int 1, .long (dc_dig2 x 1), .long (dc_dig2 x 2), .long (dc_join y u)]))] := hD
  have hP9 := hP.sub (ws' := [(hs, .inr (6, [.int 1, .long (dc_dig2 x 1), .long (dc_dig2 x 2), .long (dc_join y u)]))]) [0] rfl
  have hD9 := hD.sub (ws' := [(hs, .inr (6, [.int 1, .long (dc_dig2 x 1), .long (dc_dig2 x 2), .long (dc_join y u)]))]) [0] (by decide) rfl
  have hE9 : ([(hs, .inr (6, [.int 1, .long (dc_dig2 x 1), .long (dc_dig2 x 2), .long (dc_join y u)]))] : va_W) = [(hs, .inr (6, [.int (dc_bI true), .long (dc_dig2 x 1), .long (dc_dig2 x 2), .long (dc_join y u)]))] := rfl
  rw [hE9] at hP9 hD9
  exact W.vret hx hb hr (fun t ht hW => ⟨⟨(), rfl, (trivial), by rw [ht]; exact hP9, hD9⟩, hS.F ht⟩) hS.2.2 dn_d_Session_begin_35

set_option maxHeartbeats 4000000 in
set_option maxRecDepth 100000 in
theorem cc_sclose (l : Launch) (G : va_G) (cA : Nat → ClassId) (hs : Nat) (so : Bool) (se : Int64) (sm : Int64) (sc : Int64)  (sz : Nat) : Met l dn_y_Session_close (.code dn_y_Session_close dn_c_Session_close 1 none :: dc_W) ({ frames := 0, cells := 0, slots := 0, locals := 0 }) (dc_pW G cA [(hs, .inr (6, [.int (dc_bI so), .long se, .long sm, .long sc]))] sz [.ref hs]) (dc_qv G (fun (_ : Unit) => True) (fun (_ : Unit) => [(hs, .inr (6, [.int (dc_bI false), .long se, .long sm, .long sc]))]) sz [(hs, .inr (6, [.int (dc_bI so), .long se, .long sm, .long sc]))]) 0 0 (va_A [(hs, .inr (6, [.int (dc_bI so), .long se, .long sm, .long sc]))] sz) := by
  refine Met.ofW (cc := dn_c_Session_close) (maxL := 1) (ret := none) (by decide) rfl ?_
  intro p9 en9 s m args9 below9 meth9 cd9 s9 B hml hv
  obtain ⟨rfl, hsz, hP, hK0, hD0⟩ := hv
  have hx := B.exec
  have hb := B.bytes
  have hr := B.returns
  have hts : ∀ w ∈ dc_W, w.before _ s = true := fun w h => atoms_spec (ws := (.code dn_y_Session_close dn_c_Session_close 1 none :: dc_W)) B.pre w (List.mem_cons_of_mem _ h)
  have hK := hK0.1
  have hN := hK0.2
  have hown : s.vm.findClass dn_R_Session = some m.cls := findClass_of_methodNamed B.named
  have hlocks := B.notSynchronized
  subst hsz
  have hD := hD0.self (sz := s.heap.size)
  unfold dc_qv
  generalize hAe : va_A [(hs, .inr (6, [.int (dc_bI so), .long se, .long sm, .long sc]))] s.heap.size = A at hD ⊢
  have hA : ∀ q : Nat, s.heap.size ≤ q → A q := fun q h => by rw [← hAe]; exact Or.inr h
  have hS : va_S A s.heap s.heap [] := va_S.rf
  have hl := lv_entry ([.ref hs]) (n := 1) (Nat.le_of_ble_eq_true rfl)
  rw [lg_entry_eq]
  generalize (lg_sl ([.ref hs]) ++ List.replicate (1 - (lg_sl ([.ref hs])).length) Slot.unset).toArray = ls at hl ⊢
  have hl : lv_has ls 1 [(0, .ref hs)] := hl
  refine lv_aload_n hx hb dn_d_Session_close_0 rfl (lv_at hl 0 rfl) ?_
  refine lv_iconst (v := 0) hx hb dn_d_Session_close_1 (by decide) ?_
  refine va_put (D := G) (ci := 6) (v := .int 0) (ty := (.boolean)) (C := dn_R_Session) (T := dn_T_Session) (N := 4) hx hb hts (dn_u_Session) dn_t_Session dn_o_Session dn_n_Session hown hK hP hD hS 0 rfl rfl 0 (by decide) (hts _ dn_w_68) (fun _ h9 => h9) rfl (by decide +kernel) rfl rfl (Nat.le_of_ble_eq_true rfl) dn_d_Session_close_2 (fun H locs hP hD hS => ?_)
  have hP : va_P G vwCl [(hs, .inr (6, [.int 0, .long se, .long sm, .long sc]))] H := hP
  have hD : va_D A [(hs, .inr (6, [.int 0, .long se, .long sm, .long sc]))] := hD
  have hP9 := hP.sub (ws' := [(hs, .inr (6, [.int 0, .long se, .long sm, .long sc]))]) [0] rfl
  have hD9 := hD.sub (ws' := [(hs, .inr (6, [.int 0, .long se, .long sm, .long sc]))]) [0] (by decide) rfl
  have hE9 : ([(hs, .inr (6, [.int 0, .long se, .long sm, .long sc]))] : va_W) = [(hs, .inr (6, [.int (dc_bI false), .long se, .long sm, .long sc]))] := rfl
  rw [hE9] at hP9 hD9
  exact W.vret hx hb hr (fun t ht hW => ⟨⟨(), rfl, (trivial), by rw [ht]; exact hP9, hD9⟩, hS.F ht⟩) hS.2.2 dn_d_Session_close_5

set_option maxHeartbeats 4000000 in
set_option maxRecDepth 100000 in
theorem cc_sstep (l : Launch) (G : va_G) (cA : Nat → ClassId) (hs : Nat) (so : Bool) (se : Int64) (sm : Int64) (sc : Int64)  (sz : Nat) : Met l dn_y_Session_step (.code dn_y_Session_step dn_c_Session_step 1 none :: dc_W) ({ frames := 0, cells := 0, slots := 0, locals := 0 }) (dc_pW G cA [(hs, .inr (6, [.int (dc_bI so), .long se, .long sm, .long sc]))] sz [.ref hs]) (dc_qv G (fun (_ : Unit) => True) (fun (_ : Unit) => [(hs, .inr (6, [.int (dc_bI so), .long se, .long sm, .long (sc + 1)]))]) sz [(hs, .inr (6, [.int (dc_bI so), .long se, .long sm, .long sc]))]) 0 0 (va_A [(hs, .inr (6, [.int (dc_bI so), .long se, .long sm, .long sc]))] sz) := by
  refine Met.ofW (cc := dn_c_Session_step) (maxL := 1) (ret := none) (by decide) rfl ?_
  intro p9 en9 s m args9 below9 meth9 cd9 s9 B hml hv
  obtain ⟨rfl, hsz, hP, hK0, hD0⟩ := hv
  have hx := B.exec
  have hb := B.bytes
  have hr := B.returns
  have hts : ∀ w ∈ dc_W, w.before _ s = true := fun w h => atoms_spec (ws := (.code dn_y_Session_step dn_c_Session_step 1 none :: dc_W)) B.pre w (List.mem_cons_of_mem _ h)
  have hK := hK0.1
  have hN := hK0.2
  have hown : s.vm.findClass dn_R_Session = some m.cls := findClass_of_methodNamed B.named
  have hlocks := B.notSynchronized
  subst hsz
  have hD := hD0.self (sz := s.heap.size)
  unfold dc_qv
  generalize hAe : va_A [(hs, .inr (6, [.int (dc_bI so), .long se, .long sm, .long sc]))] s.heap.size = A at hD ⊢
  have hA : ∀ q : Nat, s.heap.size ≤ q → A q := fun q h => by rw [← hAe]; exact Or.inr h
  have hS : va_S A s.heap s.heap [] := va_S.rf
  have hl := lv_entry ([.ref hs]) (n := 1) (Nat.le_of_ble_eq_true rfl)
  rw [lg_entry_eq]
  generalize (lg_sl ([.ref hs]) ++ List.replicate (1 - (lg_sl ([.ref hs])).length) Slot.unset).toArray = ls at hl ⊢
  have hl : lv_has ls 1 [(0, .ref hs)] := hl
  refine lv_aload_n hx hb dn_d_Session_step_0 rfl (lv_at hl 0 rfl) ?_
  refine lv_dup hx hb dn_d_Session_step_1 rfl ?_
  refine va_get (D := G) (ci := 6) (v := .long sc) (C := dn_R_Session) (T := dn_T_Session) (N := 4) hx hb hts (dn_u_Session) hown hK hP 0 rfl rfl 3 (by decide) (hts _ dn_w_73) (fun _ h9 => h9) rfl dn_d_Session_step_2 ?_
  refine lv_lconst (v := 1) hx hb dn_d_Session_step_5 (by decide) ?_
  refine lv_ladd hx hb dn_d_Session_step_6 ?_
  refine va_put (D := G) (ci := 6) (v := .long (sc + (1 : Int64))) (ty := (.long)) (C := dn_R_Session) (T := dn_T_Session) (N := 4) hx hb hts (dn_u_Session) dn_t_Session dn_o_Session dn_n_Session hown hK hP hD hS 0 rfl rfl 3 (by decide) (hts _ dn_w_73) (fun _ h9 => h9) rfl (by decide +kernel) rfl rfl (Nat.le_of_ble_eq_true rfl) dn_d_Session_step_7 (fun H locs hP hD hS => ?_)
  have hP : va_P G vwCl [(hs, .inr (6, [.int (dc_bI so), .long se, .long sm, .long (sc + (1 : Int64))]))] H := hP
  have hD : va_D A [(hs, .inr (6, [.int (dc_bI so), .long se, .long sm, .long (sc + (1 : Int64))]))] := hD
  have hP9 := hP.sub (ws' := [(hs, .inr (6, [.int (dc_bI so), .long se, .long sm, .long (sc + (1 : Int64))]))]) [0] rfl
  have hD9 := hD.sub (ws' := [(hs, .inr (6, [.int (dc_bI so), .long se, .long sm, .long (sc + (1 : Int64))]))]) [0] (by decide) rfl
  have hE9 : ([(hs, .inr (6, [.int (dc_bI so), .long se, .long sm, .long (sc + (1 : Int64))]))] : va_W) = [(hs, .inr (6, [.int (dc_bI so), .long se, .long sm, .long (sc + 1)]))] := rfl
  rw [hE9] at hP9 hD9
  exact W.vret hx hb hr (fun t ht hW => ⟨⟨(), rfl, (trivial), by rw [ht]; exact hP9, hD9⟩, hS.F ht⟩) hS.2.2 dn_d_Session_step_10

set_option maxHeartbeats 4000000 in
set_option maxRecDepth 100000 in
theorem cc_nextSeal (l : Launch) (G : va_G) (cA : Nat → ClassId) (hs : Nat) (so : Bool) (se : Int64) (sm : Int64) (sc : Int64) (x : Int64) (y : Int64)  : Met l dn_y_Session_nextSeal (.code dn_y_Session_nextSeal dn_c_Session_nextSeal 5 (some .long) :: dc_W) ({ frames := 3, cells := 0, slots := 0, locals := 78 }) (dc_pR G cA [(hs, .inr (6, [.int (dc_bI so), .long se, .long sm, .long sc]))] [.ref hs, .long x, .long y]) (vp_Sl (fun r => r = dc_seal3 sm (sc + 1) x y)) 0 0 (fun _ => False) := by
  refine Met.ofW (cc := dn_c_Session_nextSeal) (maxL := 5) (ret := (some .long)) (by decide) rfl ?_
  intro p9 en9 s m args9 below9 meth9 cd9 s9 B hml hv
  obtain ⟨rfl, hP, hK0⟩ := hv
  have hx := B.exec
  have hb := B.bytes
  have hr := B.returns
  have hts : ∀ w ∈ dc_W, w.before _ s = true := fun w h => atoms_spec (ws := (.code dn_y_Session_nextSeal dn_c_Session_nextSeal 5 (some .long) :: dc_W)) B.pre w (List.mem_cons_of_mem _ h)
  have hK := hK0.1
  have hN := hK0.2
  have hown : s.vm.findClass dn_R_Session = some m.cls := findClass_of_methodNamed B.named
  have hlocks := B.notSynchronized
  have hl := lv_entry ([.ref hs, .long x, .long y]) (n := 5) (Nat.le_of_ble_eq_true rfl)
  rw [lg_entry_eq]
  generalize (lg_sl ([.ref hs, .long x, .long y]) ++ List.replicate (5 - (lg_sl ([.ref hs, .long x, .long y])).length) Slot.unset).toArray = ls at hl ⊢
  have hl : lv_has ls 5 [(0, .ref hs), (1, .long x), (3, .long y)] := hl
  refine lv_aload_n hx hb dn_d_Session_nextSeal_0 rfl (lv_at hl 0 rfl) ?_
  refine va_get (D := G) (ci := 6) (v := .long sm) (C := dn_R_Session) (T := dn_T_Session) (N := 4) hx hb hts (dn_u_Session) hown hK hP 0 rfl rfl 2 (by decide) (hts _ dn_w_72) (fun _ h9 => h9) rfl dn_d_Session_nextSeal_1 ?_
  refine lv_aload_n hx hb dn_d_Session_nextSeal_4 rfl (lv_at hl 0 rfl) ?_
  refine va_get (D := G) (ci := 6) (v := .long sc) (C := dn_R_Session) (T := dn_T_Session) (N := 4) hx hb hts (dn_u_Session) hown hK hP 0 rfl rfl 3 (by decide) (hts _ dn_w_73) (fun _ h9 => h9) rfl dn_d_Session_nextSeal_5 ?_
  refine lv_lconst (v := 1) hx hb dn_d_Session_nextSeal_8 (by decide) ?_
  refine lv_ladd hx hb dn_d_Session_nextSeal_9 ?_
  refine lv_lload_n hx hb dn_d_Session_nextSeal_10 rfl (lv_at hl 1 rfl) ?_
  refine lv_lload_n hx hb dn_d_Session_nextSeal_11 rfl (lv_at hl 2 rfl) ?_
  refine vp_callSl (va_Run.run (va_runS (As := [.long sm, .long (sc + (1 : Int64)), .long x, .long y]) (rest := []) ⟨hx, hb, hml, hown, hts⟩ (cc_seal3 l sm (sc + (1 : Int64)) x y ) ⟨(callB_of 4 hts (dc_good dn_w_433) rfl rfl rfl (hts _ dn_w_8) (hts _ dn_w_482) (by decide +kernel) ⟨Nat.le_of_ble_eq_true rfl, Nat.le_of_ble_eq_true rfl⟩), (hts _ dn_w_432)⟩ preEq rfl rfl hl.1 rfl (lv_room (Nat.le_of_ble_eq_true rfl)) dn_d_Session_nextSeal_12 ⟨Nat.le_of_ble_eq_true rfl, Nat.le_of_ble_eq_true rfl⟩)) (fun r9 hr9 => ?_)
  subst hr9
  exact W.lret (v := (dc_seal3 sm (sc + (1 : Int64)) x y)) hx hb hr (fun t ht hW => ⟨_, rfl, (rfl), ht⟩) (fun q h => by cases h) dn_d_Session_nextSeal_15

set_option maxHeartbeats 4000000 in
set_option maxRecDepth 100000 in
theorem cc_nextData (l : Launch) (G : va_G) (cA : Nat → ClassId) (hs : Nat) (so : Bool) (se : Int64) (sm : Int64) (sc : Int64) (x : Int64)  : Met l dn_y_Session_nextData (.code dn_y_Session_nextData dn_c_Session_nextData 3 (some .long) :: dc_W) ({ frames := 2, cells := 0, slots := 0, locals := 51 }) (dc_pR G cA [(hs, .inr (6, [.int (dc_bI so), .long se, .long sm, .long sc]))] [.ref hs, .long x]) (vp_Sl (fun r => r = dc_enc se x ^^^ (sc + 1))) 0 0 (fun _ => False) := by
  refine Met.ofW (cc := dn_c_Session_nextData) (maxL := 3) (ret := (some .long)) (by decide) rfl ?_
  intro p9 en9 s m args9 below9 meth9 cd9 s9 B hml hv
  obtain ⟨rfl, hP, hK0⟩ := hv
  have hx := B.exec
  have hb := B.bytes
  have hr := B.returns
  have hts : ∀ w ∈ dc_W, w.before _ s = true := fun w h => atoms_spec (ws := (.code dn_y_Session_nextData dn_c_Session_nextData 3 (some .long) :: dc_W)) B.pre w (List.mem_cons_of_mem _ h)
  have hK := hK0.1
  have hN := hK0.2
  have hown : s.vm.findClass dn_R_Session = some m.cls := findClass_of_methodNamed B.named
  have hlocks := B.notSynchronized
  have hl := lv_entry ([.ref hs, .long x]) (n := 3) (Nat.le_of_ble_eq_true rfl)
  rw [lg_entry_eq]
  generalize (lg_sl ([.ref hs, .long x]) ++ List.replicate (3 - (lg_sl ([.ref hs, .long x])).length) Slot.unset).toArray = ls at hl ⊢
  have hl : lv_has ls 3 [(0, .ref hs), (1, .long x)] := hl
  refine lv_aload_n hx hb dn_d_Session_nextData_0 rfl (lv_at hl 0 rfl) ?_
  refine va_get (D := G) (ci := 6) (v := .long se) (C := dn_R_Session) (T := dn_T_Session) (N := 4) hx hb hts (dn_u_Session) hown hK hP 0 rfl rfl 1 (by decide) (hts _ dn_w_71) (fun _ h9 => h9) rfl dn_d_Session_nextData_1 ?_
  refine lv_lload_n hx hb dn_d_Session_nextData_4 rfl (lv_at hl 1 rfl) ?_
  refine vp_callSl (va_Run.run (va_runS (As := [.long se, .long x]) (rest := []) ⟨hx, hb, hml, hown, hts⟩ (cc_enc l se x ) ⟨(callB_of 2 hts (dc_good dn_w_307) rfl rfl rfl (hts _ dn_w_8) (hts _ dn_w_477) (by decide +kernel) ⟨Nat.le_of_ble_eq_true rfl, Nat.le_of_ble_eq_true rfl⟩), (hts _ dn_w_306)⟩ preEq rfl rfl hl.1 rfl (lv_room (Nat.le_of_ble_eq_true rfl)) dn_d_Session_nextData_5 ⟨Nat.le_of_ble_eq_true rfl, Nat.le_of_ble_eq_true rfl⟩)) (fun r9 hr9 => ?_)
  subst hr9
  refine lv_aload_n hx hb dn_d_Session_nextData_8 rfl (lv_at hl 0 rfl) ?_
  refine va_get (D := G) (ci := 6) (v := .long sc) (C := dn_R_Session) (T := dn_T_Session) (N := 4) hx hb hts (dn_u_Session) hown hK hP 0 rfl rfl 3 (by decide) (hts _ dn_w_73) (fun _ h9 => h9) rfl dn_d_Session_nextData_9 ?_
  refine lv_lconst (v := 1) hx hb dn_d_Session_nextData_12 (by decide) ?_
  refine lv_ladd hx hb dn_d_Session_nextData_13 ?_
  refine lv_lxor hx hb dn_d_Session_nextData_14 ?_
  exact W.lret (v := ((dc_enc se x) ^^^ (sc + (1 : Int64)))) hx hb hr (fun t ht hW => ⟨_, rfl, (rfl), ht⟩) (fun q h => by cases h) dn_d_Session_nextData_15

set_option maxHeartbeats 4000000 in
set_option maxRecDepth 100000 in
theorem cc_sfind (l : Launch) (G : va_G) (cA : Nat → ClassId) (hs : Nat) (so : Bool) (se : Int64) (sm : Int64) (sc : Int64) (x : Int64)  : Met l dn_y_Session_find (.code dn_y_Session_find dn_c_Session_find 3 (some .long) :: dc_W) ({ frames := 2, cells := 0, slots := 0, locals := 51 }) (dc_pR G cA [(hs, .inr (6, [.int (dc_bI so), .long se, .long sm, .long sc]))] [.ref hs, .long x]) (vp_Sl (fun r => r = dc_dec se (x ^^^ sc))) 0 0 (fun _ => False) := by
  refine Met.ofW (cc := dn_c_Session_find) (maxL := 3) (ret := (some .long)) (by decide) rfl ?_
  intro p9 en9 s m args9 below9 meth9 cd9 s9 B hml hv
  obtain ⟨rfl, hP, hK0⟩ := hv
  have hx := B.exec
  have hb := B.bytes
  have hr := B.returns
  have hts : ∀ w ∈ dc_W, w.before _ s = true := fun w h => atoms_spec (ws := (.code dn_y_Session_find dn_c_Session_find 3 (some .long) :: dc_W)) B.pre w (List.mem_cons_of_mem _ h)
  have hK := hK0.1
  have hN := hK0.2
  have hown : s.vm.findClass dn_R_Session = some m.cls := findClass_of_methodNamed B.named
  have hlocks := B.notSynchronized
  have hl := lv_entry ([.ref hs, .long x]) (n := 3) (Nat.le_of_ble_eq_true rfl)
  rw [lg_entry_eq]
  generalize (lg_sl ([.ref hs, .long x]) ++ List.replicate (3 - (lg_sl ([.ref hs, .long x])).length) Slot.unset).toArray = ls at hl ⊢
  have hl : lv_has ls 3 [(0, .ref hs), (1, .long x)] := hl
  refine lv_aload_n hx hb dn_d_Session_find_0 rfl (lv_at hl 0 rfl) ?_
  refine va_get (D := G) (ci := 6) (v := .long se) (C := dn_R_Session) (T := dn_T_Session) (N := 4) hx hb hts (dn_u_Session) hown hK hP 0 rfl rfl 1 (by decide) (hts _ dn_w_71) (fun _ h9 => h9) rfl dn_d_Session_find_1 ?_
  refine lv_lload_n hx hb dn_d_Session_find_4 rfl (lv_at hl 1 rfl) ?_
  refine lv_aload_n hx hb dn_d_Session_find_5 rfl (lv_at hl 0 rfl) ?_
  refine va_get (D := G) (ci := 6) (v := .long sc) (C := dn_R_Session) (T := dn_T_Session) (N := 4) hx hb hts (dn_u_Session) hown hK hP 0 rfl rfl 3 (by decide) (hts _ dn_w_73) (fun _ h9 => h9) rfl dn_d_Session_find_6 ?_
  refine lv_lxor hx hb dn_d_Session_find_9 ?_
  refine vp_callSl (va_Run.run (va_runS (As := [.long se, .long (x ^^^ sc)]) (rest := []) ⟨hx, hb, hml, hown, hts⟩ (cc_dec l se (x ^^^ sc) ) ⟨(callB_of 2 hts (dc_good dn_w_450) rfl rfl rfl (hts _ dn_w_8) (hts _ dn_w_501) (by decide +kernel) ⟨Nat.le_of_ble_eq_true rfl, Nat.le_of_ble_eq_true rfl⟩), (hts _ dn_w_449)⟩ preEq rfl rfl hl.1 rfl (lv_room (Nat.le_of_ble_eq_true rfl)) dn_d_Session_find_10 ⟨Nat.le_of_ble_eq_true rfl, Nat.le_of_ble_eq_true rfl⟩)) (fun r9 hr9 => ?_)
  subst hr9
  exact W.lret (v := (dc_dec se (x ^^^ sc))) hx hb hr (fun t ht hW => ⟨_, rfl, (rfl), ht⟩) (fun q h => by cases h) dn_d_Session_find_13

set_option maxHeartbeats 4000000 in
set_option maxRecDepth 100000 in
theorem cc_sealOf (l : Launch) (G : va_G) (cA : Nat → ClassId) (hs : Nat) (so : Bool) (se : Int64) (sm : Int64) (sc : Int64) (w : Nat → Int64) (n : Nat) (cap : Nat) (h0 : Nat) (q : Nat) (k : Nat) (hk : k ≤ n) (hn : n ≤ cap) (hc : cap < 2147483648) : Met l dn_y_Session_sealOf (.code dn_y_Session_sealOf dn_c_Session_sealOf 6 (some .long) :: dc_W) ({ frames := 2, cells := 0, slots := 0, locals := 51 }) (dc_pR G cA [(hs, .inr (6, [.int (dc_bI so), .long se, .long sm, .long sc])), (h0, .inr (5, [.ref q, .int (nI n)])), (q, .inl (cA 1, cap, .inr (.inl w)))] [.ref hs, .ref h0, .int (nI k)]) (vp_Sl (fun r => r = dc_sealR sm (dc_enc sm sc) w k)) 0 0 (fun _ => False) := by
  refine Met.ofW (cc := dn_c_Session_sealOf) (maxL := 6) (ret := (some .long)) (by decide) rfl ?_
  intro p9 en9 s m args9 below9 meth9 cd9 s9 B hml hv
  obtain ⟨rfl, hP, hK0⟩ := hv
  have hx := B.exec
  have hb := B.bytes
  have hr := B.returns
  have hts : ∀ w ∈ dc_W, w.before _ s = true := fun w h => atoms_spec (ws := (.code dn_y_Session_sealOf dn_c_Session_sealOf 6 (some .long) :: dc_W)) B.pre w (List.mem_cons_of_mem _ h)
  have hK := hK0.1
  have hN := hK0.2
  have hown : s.vm.findClass dn_R_Session = some m.cls := findClass_of_methodNamed B.named
  have hlocks := B.notSynchronized
  have hl := lv_entry ([.ref hs, .ref h0, .int (nI k)]) (n := 6) (Nat.le_of_ble_eq_true rfl)
  rw [lg_entry_eq]
  generalize (lg_sl ([.ref hs, .ref h0, .int (nI k)]) ++ List.replicate (6 - (lg_sl ([.ref hs, .ref h0, .int (nI k)])).length) Slot.unset).toArray = ls at hl ⊢
  have hl : lv_has ls 6 [(0, .ref hs), (1, .ref h0), (2, .int (nI k))] := hl
  refine lv_aload_n hx hb dn_d_Session_sealOf_0 rfl (lv_at hl 0 rfl) ?_
  refine va_get (D := G) (ci := 6) (v := .long sm) (C := dn_R_Session) (T := dn_T_Session) (N := 4) hx hb hts (dn_u_Session) hown hK hP 0 rfl rfl 2 (by decide) (hts _ dn_w_72) (fun _ h9 => h9) rfl dn_d_Session_sealOf_1 ?_
  refine lv_aload_n hx hb dn_d_Session_sealOf_4 rfl (lv_at hl 0 rfl) ?_
  refine va_get (D := G) (ci := 6) (v := .long sc) (C := dn_R_Session) (T := dn_T_Session) (N := 4) hx hb hts (dn_u_Session) hown hK hP 0 rfl rfl 3 (by decide) (hts _ dn_w_73) (fun _ h9 => h9) rfl dn_d_Session_sealOf_5 ?_
  refine vp_callSl (va_Run.run (va_runS (As := [.long sm, .long sc]) (rest := []) ⟨hx, hb, hml, hown, hts⟩ (cc_enc l sm sc ) ⟨(callB_of 2 hts (dc_good dn_w_307) rfl rfl rfl (hts _ dn_w_8) (hts _ dn_w_477) (by decide +kernel) ⟨Nat.le_of_ble_eq_true rfl, Nat.le_of_ble_eq_true rfl⟩), (hts _ dn_w_306)⟩ preEq rfl rfl hl.1 rfl (lv_room (Nat.le_of_ble_eq_true rfl)) dn_d_Session_sealOf_8 ⟨Nat.le_of_ble_eq_true rfl, Nat.le_of_ble_eq_true rfl⟩)) (fun r9 hr9 => ?_)
  subst hr9
  refine lv_lstore_n hx hb dn_d_Session_sealOf_11 rfl hl (by decide) rfl (fun ls hl => ?_)
  have hl : lv_has ls 6 [(3, .long (dc_enc sm sc)), (0, .ref hs), (1, .ref h0), (2, .int (nI k))] := hl
  refine lv_iconst (v := 0) hx hb dn_d_Session_sealOf_12 (by decide) ?_
  refine lv_istore hx hb dn_d_Session_sealOf_13 hl (by decide) rfl (fun ls hl => ?_)
  have hl : lv_has ls 6 [(5, .int 0), (3, .long (dc_enc sm sc)), (0, .ref hs), (1, .ref h0), (2, .int (nI k))] := hl
  refine dc_loop (σ := Nat) 15 [] (fun (i : Nat) => k - i) (fun (i : Nat) (H : Heap) (locs : List Loc) (ls : Array Slot) => lv_has ls 6 [(5, .int (nI i)), (3, .long (dc_sealR sm (dc_enc sm sc) w i)), (0, .ref hs), (1, .ref h0), (2, .int (nI k))] ∧ H = s.heap ∧ locs = [] ∧ (i ≤ k)) ?_ 0 ⟨lv_sub hl [0, 1, 2, 3, 4] rfl, rfl, rfl, (by omega)⟩
  rintro i H locs ls ⟨hl, rfl, rfl, hi⟩ ih15
  have hl : lv_has ls 6 [(5, .int (nI i)), (3, .long (dc_sealR sm (dc_enc sm sc) w i)), (0, .ref hs), (1, .ref h0), (2, .int (nI k))] := hl
  refine lv_iload hx hb dn_d_Session_sealOf_15 (lv_at hl 0 rfl) ?_
  refine lv_iload_n hx hb dn_d_Session_sealOf_17 rfl (lv_at hl 4 rfl) ?_
  refine lv_icmp_ge (tgt := 43) hx hb dn_d_Session_sealOf_18 (by decide) (fun h18 => ?_) (fun h18 => ?_)
  · -- 18: k ≤ i
    have h18 : k ≤ i := (nI_leI (a := k) (b := i) (by omega) (by omega)).1 h18
    refine lv_lload_n hx hb dn_d_Session_sealOf_43 rfl (lv_at hl 1 rfl) ?_
    exact W.lret (v := (dc_sealR sm (dc_enc sm sc) w i)) hx hb hr (fun t ht hW => ⟨_, rfl, (by rw [show i = k by omega]), ht⟩) (fun q h => by cases h) dn_d_Session_sealOf_44
  · -- 18: ¬ k ≤ i
    have h18 : ¬ k ≤ i := fun z => h18 ((nI_leI (a := k) (b := i) (by omega) (by omega)).2 z)
    refine lv_aload_n hx hb dn_d_Session_sealOf_21 rfl (lv_at hl 2 rfl) ?_
    refine va_get (D := G) (ci := 6) (v := .long sm) (C := dn_R_Session) (T := dn_T_Session) (N := 4) hx hb hts (dn_u_Session) hown hK hP 0 rfl rfl 2 (by decide) (hts _ dn_w_72) (fun _ h9 => h9) rfl dn_d_Session_sealOf_22 ?_
    refine lv_lload_n hx hb dn_d_Session_sealOf_25 rfl (lv_at hl 1 rfl) ?_
    refine lv_aload_n hx hb dn_d_Session_sealOf_26 rfl (lv_at hl 3 rfl) ?_
    refine lv_iload hx hb dn_d_Session_sealOf_27 (lv_at hl 0 rfl) ?_
    refine vp_callSl (va_Run.run (va_runV (b := h0) (As := [.int (nI i)]) (rest := [.long (dc_sealR sm (dc_enc sm sc) w i), .long sm]) ⟨hx, hb, hml, hown, hts⟩ (cc_get l G cA w n cap h0 q (nI i) (by first | assumption | omega) (by first | assumption | omega)) ⟨(callB_of 1 hts (dc_good dn_w_338) rfl rfl rfl (hts _ dn_w_2) (hts _ dn_w_525) (by decide +kernel) ⟨Nat.le_of_ble_eq_true rfl, Nat.le_of_ble_eq_true rfl⟩), (hts _ dn_w_336), (hts _ dn_w_337)⟩ (dc_preVR (hP.sub [1, 2] rfl) hK0 (q0 := 0) rfl rfl) rfl rfl hl.1 rfl (lv_room (Nat.le_of_ble_eq_true rfl)) dn_d_Session_sealOf_29 ⟨Nat.le_of_ble_eq_true rfl, Nat.le_of_ble_eq_true rfl⟩)) (fun r9 hr9 => ?_)
    subst hr9
    rw [dc_getN (by omega) (by omega)]
    refine lv_lxor hx hb dn_d_Session_sealOf_32 ?_
    refine vp_callSl (va_Run.run (va_runS (As := [.long sm, .long ((dc_sealR sm (dc_enc sm sc) w i) ^^^ (w i))]) (rest := []) ⟨hx, hb, hml, hown, hts⟩ (cc_enc l sm ((dc_sealR sm (dc_enc sm sc) w i) ^^^ (w i)) ) ⟨(callB_of 2 hts (dc_good dn_w_307) rfl rfl rfl (hts _ dn_w_8) (hts _ dn_w_477) (by decide +kernel) ⟨Nat.le_of_ble_eq_true rfl, Nat.le_of_ble_eq_true rfl⟩), (hts _ dn_w_306)⟩ preEq rfl rfl hl.1 rfl (lv_room (Nat.le_of_ble_eq_true rfl)) dn_d_Session_sealOf_33 ⟨Nat.le_of_ble_eq_true rfl, Nat.le_of_ble_eq_true rfl⟩)) (fun r9 hr9 => ?_)
    subst hr9
    refine lv_lstore_n hx hb dn_d_Session_sealOf_36 rfl hl (by decide) rfl (fun ls hl => ?_)
    have hl : lv_has ls 6 [(3, .long (dc_enc sm ((dc_sealR sm (dc_enc sm sc) w i) ^^^ (w i)))), (5, .int (nI i)), (0, .ref hs), (1, .ref h0), (2, .int (nI k))] := hl
    refine lv_iinc (k := 1) (v := nI (i + 1)) hx hb dn_d_Session_sealOf_37 hl rfl (dc_inc1 _) (by decide) rfl (fun ls hl => ?_)
    have hl : lv_has ls 6 [(5, .int (nI (i + 1))), (3, .long (dc_enc sm ((dc_sealR sm (dc_enc sm sc) w i) ^^^ (w i)))), (0, .ref hs), (1, .ref h0), (2, .int (nI k))] := hl
    refine lv_goto (tgt := 15) hx hb dn_d_Session_sealOf_40 (by decide) ?_
    exact ih15 (i + 1) _ _ _ (by first | omega | (dsimp only; omega)) ⟨lv_sub hl [0, 1, 2, 3, 4] rfl, rfl, rfl, (by omega)⟩

set_option maxHeartbeats 4000000 in
set_option maxRecDepth 100000 in
theorem cc_swrap (l : Launch) (G : va_G) (cA : Nat → ClassId) (hs : Nat) (so : Bool) (se : Int64) (sm : Int64) (sc : Int64) (w : Nat → Int64) (n : Nat) (cap : Nat) (h0 : Nat) (q : Nat) (h2 : n + 2 ≤ cap) (hc : cap < 2147483648) (sz : Nat) : Met l dn_y_Session_wrap (.code dn_y_Session_wrap dn_c_Session_wrap 3 none :: dc_W) ({ frames := 3, cells := 0, slots := 0, locals := 76 }) (dc_pW G cA [(hs, .inr (6, [.int (dc_bI so), .long se, .long sm, .long sc])), (h0, .inr (5, [.ref q, .int (nI n)])), (q, .inl (cA 1, cap, .inr (.inl w)))] sz [.ref hs, .ref h0]) (dc_qv G (fun (_ : Unit) => True) (fun (_ : Unit) => [(hs, .inr (6, [.int (dc_bI so), .long se, .long sm, .long (sc + 1)])), (h0, .inr (5, [.ref q, .int (nI (n + 2))])), (q, .inl (cA 1, cap, .inr (.inl (dc_swrap w n se sm (sc + 1)))))]) sz [(hs, .inr (6, [.int (dc_bI so), .long se, .long sm, .long sc])), (h0, .inr (5, [.ref q, .int (nI n)])), (q, .inl (cA 1, cap, .inr (.inl w)))]) 0 0 (va_A [(hs, .inr (6, [.int (dc_bI so), .long se, .long sm, .long sc])), (h0, .inr (5, [.ref q, .int (nI n)])), (q, .inl (cA 1, cap, .inr (.inl w)))] sz) := by
  refine Met.ofW (cc := dn_c_Session_wrap) (maxL := 3) (ret := none) (by decide) rfl ?_
  intro p9 en9 s m args9 below9 meth9 cd9 s9 B hml hv
  obtain ⟨rfl, hsz, hP, hK0, hD0⟩ := hv
  have hx := B.exec
  have hb := B.bytes
  have hr := B.returns
  have hts : ∀ w ∈ dc_W, w.before _ s = true := fun w h => atoms_spec (ws := (.code dn_y_Session_wrap dn_c_Session_wrap 3 none :: dc_W)) B.pre w (List.mem_cons_of_mem _ h)
  have hK := hK0.1
  have hN := hK0.2
  have hown : s.vm.findClass dn_R_Session = some m.cls := findClass_of_methodNamed B.named
  have hlocks := B.notSynchronized
  subst hsz
  have hD := hD0.self (sz := s.heap.size)
  unfold dc_qv
  generalize hAe : va_A [(hs, .inr (6, [.int (dc_bI so), .long se, .long sm, .long sc])), (h0, .inr (5, [.ref q, .int (nI n)])), (q, .inl (cA 1, cap, .inr (.inl w)))] s.heap.size = A at hD ⊢
  have hA : ∀ q : Nat, s.heap.size ≤ q → A q := fun q h => by rw [← hAe]; exact Or.inr h
  have hS : va_S A s.heap s.heap [] := va_S.rf
  have hl := lv_entry ([.ref hs, .ref h0]) (n := 3) (Nat.le_of_ble_eq_true rfl)
  rw [lg_entry_eq]
  generalize (lg_sl ([.ref hs, .ref h0]) ++ List.replicate (3 - (lg_sl ([.ref hs, .ref h0])).length) Slot.unset).toArray = ls at hl ⊢
  have hl : lv_has ls 3 [(0, .ref hs), (1, .ref h0)] := hl
  refine lv_aload_n hx hb dn_d_Session_wrap_0 rfl (lv_at hl 0 rfl) ?_
  refine dc_wv (wr := [(h0, .inr (5, [.ref q, .int (nI n)])), (q, .inl (cA 1, cap, .inr (.inl w)))]) (va_runV (b := hs) (As := []) (rest := []) ⟨hx, hb, hml, hown, hts⟩ (cc_sstep l G cA hs so se sm sc  s.heap.size) ⟨(callB_of 0 hts (dc_good dn_w_486) rfl rfl rfl (hts _ dn_w_5) (hts _ dn_w_523) (by decide +kernel) ⟨Nat.le_of_ble_eq_true rfl, Nat.le_of_ble_eq_true rfl⟩), (hts _ dn_w_484), (hts _ dn_w_485)⟩ (dc_preVW (hP.sub [0] rfl) hK0 (hD.sub [0] (by decide) rfl) (q0 := 0) rfl rfl) rfl rfl hl.1 rfl (lv_room (Nat.le_of_ble_eq_true rfl)) dn_d_Session_wrap_1 ⟨Nat.le_of_ble_eq_true rfl, Nat.le_of_ble_eq_true rfl⟩) hP hD hS hA [0] [1, 2] rfl rfl (by decide) (by decide) (fun u9 H locs hr9 hP hD hS => ?_)
  have hP : va_P G vwCl [(h0, .inr (5, [.ref q, .int (nI n)])), (q, .inl (cA 1, cap, .inr (.inl w))), (hs, .inr (6, [.int (dc_bI so), .long se, .long sm, .long (sc + 1)]))] H := hP
  have hD : va_D A [(h0, .inr (5, [.ref q, .int (nI n)])), (q, .inl (cA 1, cap, .inr (.inl w))), (hs, .inr (6, [.int (dc_bI so), .long se, .long sm, .long (sc + 1)]))] := hD
  refine lv_iconst (v := 0) hx hb dn_d_Session_wrap_4 (by decide) ?_
  refine lv_istore_n hx hb dn_d_Session_wrap_5 rfl hl (by decide) rfl (fun ls hl => ?_)
  have hl : lv_has ls 3 [(2, .int 0), (0, .ref hs), (1, .ref h0)] := hl
  refine dc_loop (σ := Nat) 6 [] (fun (i : Nat) => n - i) (fun (i : Nat) (H : Heap) (locs : List Loc) (ls : Array Slot) => lv_has ls 3 [(2, .int (nI i)), (0, .ref hs), (1, .ref h0)] ∧ va_P G vwCl [(hs, .inr (6, [.int (dc_bI so), .long se, .long sm, .long (sc + 1)])), (h0, .inr (5, [.ref q, .int (nI n)])), (q, .inl (cA 1, cap, .inr (.inl (dc_swrapN w se (sc + 1) i))))] H ∧ va_D A [(hs, .inr (6, [.int (dc_bI so), .long se, .long sm, .long (sc + 1)])), (h0, .inr (5, [.ref q, .int (nI n)])), (q, .inl (cA 1, cap, .inr (.inl (dc_swrapN w se (sc + 1) i))))] ∧ va_S A s.heap H locs ∧ (i ≤ n)) ?_ 0 ⟨lv_sub hl [0, 1, 2] rfl, hP.sub [2, 0, 1] rfl, hD.sub [2, 0, 1] (by decide) rfl, hS, (by omega)⟩
  rintro i H locs ls ⟨hl, hP, hD, hS, hi⟩ ih6
  have hl : lv_has ls 3 [(2, .int (nI i)), (0, .ref hs), (1, .ref h0)] := hl
  have hP : va_P G vwCl [(hs, .inr (6, [.int (dc_bI so), .long se, .long sm, .long (sc + 1)])), (h0, .inr (5, [.ref q, .int (nI n)])), (q, .inl (cA 1, cap, .inr (.inl (dc_swrapN w se (sc + 1) i))))] H := hP
  have hD : va_D A [(hs, .inr (6, [.int (dc_bI so), .long se, .long sm, .long (sc + 1)])), (h0, .inr (5, [.ref q, .int (nI n)])), (q, .inl (cA 1, cap, .inr (.inl (dc_swrapN w se (sc + 1) i))))] := hD
  refine lv_iload_n hx hb dn_d_Session_wrap_6 rfl (lv_at hl 0 rfl) ?_
  refine lv_aload_n hx hb dn_d_Session_wrap_7 rfl (lv_at hl 2 rfl) ?_
  refine vp_callSi (va_Run.run (va_runV (b := h0) (As := []) (rest := [.int (nI i)]) ⟨hx, hb, hml, hown, hts⟩ (cc_size l G cA (dc_swrapN w se (sc + 1) i) n cap h0 q ) ⟨(callB_of 0 hts (dc_good dn_w_334) rfl rfl rfl (hts _ dn_w_2) (hts _ dn_w_524) (by decide +kernel) ⟨Nat.le_of_ble_eq_true rfl, Nat.le_of_ble_eq_true rfl⟩), (hts _ dn_w_332), (hts _ dn_w_333)⟩ (dc_preVR (hP.sub [1, 2] rfl) hK0 (q0 := 0) rfl rfl) rfl rfl hl.1 rfl (lv_room (Nat.le_of_ble_eq_true rfl)) dn_d_Session_wrap_8 ⟨Nat.le_of_ble_eq_true rfl, Nat.le_of_ble_eq_true rfl⟩)) (fun r9 hr9 => ?_)
  subst hr9
  refine lv_icmp_ge (tgt := 42) hx hb dn_d_Session_wrap_11 (by decide) (fun h11 => ?_) (fun h11 => ?_)
  · -- 11: n ≤ i
    have h11 : n ≤ i := (nI_leI (a := n) (b := i) (by omega) (by omega)).1 h11
    refine lv_aload_n hx hb dn_d_Session_wrap_42 rfl (lv_at hl 2 rfl) ?_
    refine lv_ldc2 (v := 36864) hx hb hown (hts _ dn_w_527) dn_d_Session_wrap_43 ?_
    refine dc_wv (wr := [(hs, .inr (6, [.int (dc_bI so), .long se, .long sm, .long (sc + 1)]))]) (va_runV (b := h0) (As := [.long 36864]) (rest := []) ⟨hx, hb, hml, hown, hts⟩ (cc_add l G cA (dc_swrapN w se (sc + 1) i) n cap h0 q 36864 (by first | assumption | omega) (by first | assumption | omega) H.size) ⟨(callB_of 1 hts (dc_good dn_w_346) rfl rfl rfl (hts _ dn_w_2) (hts _ dn_w_528) (by decide +kernel) ⟨Nat.le_of_ble_eq_true rfl, Nat.le_of_ble_eq_true rfl⟩), (hts _ dn_w_344), (hts _ dn_w_345)⟩ (dc_preVW (hP.sub [1, 2] rfl) hK0 (hD.sub [1, 2] (by decide) rfl) (q0 := 0) rfl rfl) rfl rfl hl.1 rfl (lv_room (Nat.le_of_ble_eq_true rfl)) dn_d_Session_wrap_46 ⟨Nat.le_of_ble_eq_true rfl, Nat.le_of_ble_eq_true rfl⟩) hP hD hS hA [1, 2] [0] rfl rfl (by decide) (by decide) (fun u9 H locs hr9 hP hD hS => ?_)
    have hP : va_P G vwCl [(hs, .inr (6, [.int (dc_bI so), .long se, .long sm, .long (sc + 1)])), (h0, .inr (5, [.ref q, .int (nI (n + 1))])), (q, .inl (cA 1, cap, .inr (.inl (vp_updL (dc_swrapN w se (sc + 1) i) n 36864))))] H := hP
    have hD : va_D A [(hs, .inr (6, [.int (dc_bI so), .long se, .long sm, .long (sc + 1)])), (h0, .inr (5, [.ref q, .int (nI (n + 1))])), (q, .inl (cA 1, cap, .inr (.inl (vp_updL (dc_swrapN w se (sc + 1) i) n 36864))))] := hD
    refine lv_aload_n hx hb dn_d_Session_wrap_49 rfl (lv_at hl 2 rfl) ?_
    refine lv_aload_n hx hb dn_d_Session_wrap_50 rfl (lv_at hl 1 rfl) ?_
    refine lv_aload_n hx hb dn_d_Session_wrap_51 rfl (lv_at hl 2 rfl) ?_
    refine lv_aload_n hx hb dn_d_Session_wrap_52 rfl (lv_at hl 2 rfl) ?_
    refine vp_callSi (va_Run.run (va_runV (b := h0) (As := []) (rest := [.ref h0, .ref hs, .ref h0]) ⟨hx, hb, hml, hown, hts⟩ (cc_size l G cA (vp_updL (dc_swrapN w se (sc + 1) i) n 36864) (n + 1) cap h0 q ) ⟨(callB_of 0 hts (dc_good dn_w_334) rfl rfl rfl (hts _ dn_w_2) (hts _ dn_w_524) (by decide +kernel) ⟨Nat.le_of_ble_eq_true rfl, Nat.le_of_ble_eq_true rfl⟩), (hts _ dn_w_332), (hts _ dn_w_333)⟩ (dc_preVR (hP.sub [1, 2] rfl) hK0 (q0 := 0) rfl rfl) rfl rfl hl.1 rfl (lv_room (Nat.le_of_ble_eq_true rfl)) dn_d_Session_wrap_53 ⟨Nat.le_of_ble_eq_true rfl, Nat.le_of_ble_eq_true rfl⟩)) (fun r9 hr9 => ?_)
    subst hr9
    refine vp_callSl (va_Run.run (va_runV (b := hs) (As := [.ref h0, .int (nI (n + 1))]) (rest := [.ref h0]) ⟨hx, hb, hml, hown, hts⟩ (cc_sealOf l G cA hs so se sm (sc + 1) (vp_updL (dc_swrapN w se (sc + 1) i) n 36864) (n + 1) cap h0 q (n + 1) (by first | assumption | omega) (by first | assumption | omega) (by first | assumption | omega)) ⟨(callB_of 2 hts (dc_good dn_w_532) rfl rfl rfl (hts _ dn_w_5) (hts _ dn_w_529) (by decide +kernel) ⟨Nat.le_of_ble_eq_true rfl, Nat.le_of_ble_eq_true rfl⟩), (hts _ dn_w_531), (hts _ dn_s_Session_sealOf)⟩ (dc_preVR (hP.sub [0, 1, 2] rfl) hK0 (q0 := 0) rfl rfl) rfl rfl hl.1 rfl (lv_room (Nat.le_of_ble_eq_true rfl)) dn_d_Session_wrap_56 ⟨Nat.le_of_ble_eq_true rfl, Nat.le_of_ble_eq_true rfl⟩)) (fun r9 hr9 => ?_)
    subst hr9
    refine dc_wv (wr := [(hs, .inr (6, [.int (dc_bI so), .long se, .long sm, .long (sc + 1)]))]) (va_runV (b := h0) (As := [.long (dc_sealR sm (dc_enc sm (sc + 1)) (vp_updL (dc_swrapN w se (sc + 1) i) n 36864) (n + 1))]) (rest := []) ⟨hx, hb, hml, hown, hts⟩ (cc_add l G cA (vp_updL (dc_swrapN w se (sc + 1) i) n 36864) (n + 1) cap h0 q (dc_sealR sm (dc_enc sm (sc + 1)) (vp_updL (dc_swrapN w se (sc + 1) i) n 36864) (n + 1)) (by first | assumption | omega) (by first | assumption | omega) H.size) ⟨(callB_of 1 hts (dc_good dn_w_346) rfl rfl rfl (hts _ dn_w_2) (hts _ dn_w_528) (by decide +kernel) ⟨Nat.le_of_ble_eq_true rfl, Nat.le_of_ble_eq_true rfl⟩), (hts _ dn_w_344), (hts _ dn_w_345)⟩ (dc_preVW (hP.sub [1, 2] rfl) hK0 (hD.sub [1, 2] (by decide) rfl) (q0 := 0) rfl rfl) rfl rfl hl.1 rfl (lv_room (Nat.le_of_ble_eq_true rfl)) dn_d_Session_wrap_59 ⟨Nat.le_of_ble_eq_true rfl, Nat.le_of_ble_eq_true rfl⟩) hP hD hS hA [1, 2] [0] rfl rfl (by decide) (by decide) (fun u9 H locs hr9 hP hD hS => ?_)
    have hP : va_P G vwCl [(hs, .inr (6, [.int (dc_bI so), .long se, .long sm, .long (sc + 1)])), (h0, .inr (5, [.ref q, .int (nI ((n + 1) + 1))])), (q, .inl (cA 1, cap, .inr (.inl (vp_updL (vp_updL (dc_swrapN w se (sc + 1) i) n 36864) (n + 1) (dc_sealR sm (dc_enc sm (sc + 1)) (vp_updL (dc_swrapN w se (sc + 1) i) n 36864) (n + 1))))))] H := hP
    have hD : va_D A [(hs, .inr (6, [.int (dc_bI so), .long se, .long sm, .long (sc + 1)])), (h0, .inr (5, [.ref q, .int (nI ((n + 1) + 1))])), (q, .inl (cA 1, cap, .inr (.inl (vp_updL (vp_updL (dc_swrapN w se (sc + 1) i) n 36864) (n + 1) (dc_sealR sm (dc_enc sm (sc + 1)) (vp_updL (dc_swrapN w se (sc + 1) i) n 36864) (n + 1))))))] := hD
    have e9 : i = n := by omega
    rw [e9] at hP hD
    have hP9 := hP.sub (ws' := [(hs, .inr (6, [.int (dc_bI so), .long se, .long sm, .long (sc + 1)])), (h0, .inr (5, [.ref q, .int (nI ((n + 1) + 1))])), (q, .inl (cA 1, cap, .inr (.inl (vp_updL (vp_updL (dc_swrapN w se (sc + 1) n) n 36864) (n + 1) (dc_sealR sm (dc_enc sm (sc + 1)) (vp_updL (dc_swrapN w se (sc + 1) n) n 36864) (n + 1))))))]) [0, 1, 2] rfl
    have hD9 := hD.sub (ws' := [(hs, .inr (6, [.int (dc_bI so), .long se, .long sm, .long (sc + 1)])), (h0, .inr (5, [.ref q, .int (nI ((n + 1) + 1))])), (q, .inl (cA 1, cap, .inr (.inl (vp_updL (vp_updL (dc_swrapN w se (sc + 1) n) n 36864) (n + 1) (dc_sealR sm (dc_enc sm (sc + 1)) (vp_updL (dc_swrapN w se (sc + 1) n) n 36864) (n + 1))))))]) [0, 1, 2] (by decide) rfl
    have hE9 : ([(hs, .inr (6, [.int (dc_bI so), .long se, .long sm, .long (sc + 1)])), (h0, .inr (5, [.ref q, .int (nI ((n + 1) + 1))])), (q, .inl (cA 1, cap, .inr (.inl (vp_updL (vp_updL (dc_swrapN w se (sc + 1) n) n 36864) (n + 1) (dc_sealR sm (dc_enc sm (sc + 1)) (vp_updL (dc_swrapN w se (sc + 1) n) n 36864) (n + 1))))))] : va_W) = [(hs, .inr (6, [.int (dc_bI so), .long se, .long sm, .long (sc + 1)])), (h0, .inr (5, [.ref q, .int (nI (n + 2))])), (q, .inl (cA 1, cap, .inr (.inl (dc_swrap w n se sm (sc + 1)))))] := rfl
    rw [hE9] at hP9 hD9
    exact W.vret hx hb hr (fun t ht hW => ⟨⟨(), rfl, (trivial), by rw [ht]; exact hP9, hD9⟩, hS.F ht⟩) hS.2.2 dn_d_Session_wrap_62
  · -- 11: ¬ n ≤ i
    have h11 : ¬ n ≤ i := fun z => h11 ((nI_leI (a := n) (b := i) (by omega) (by omega)).2 z)
    refine lv_aload_n hx hb dn_d_Session_wrap_14 rfl (lv_at hl 2 rfl) ?_
    refine lv_iload_n hx hb dn_d_Session_wrap_15 rfl (lv_at hl 0 rfl) ?_
    refine lv_aload_n hx hb dn_d_Session_wrap_16 rfl (lv_at hl 1 rfl) ?_
    refine va_get (D := G) (ci := 6) (v := .long se) (C := dn_R_Session) (T := dn_T_Session) (N := 4) hx hb hts (dn_u_Session) hown hK hP 0 rfl rfl 1 (by decide) (hts _ dn_w_71) (fun _ h9 => h9) rfl dn_d_Session_wrap_17 ?_
    refine lv_aload_n hx hb dn_d_Session_wrap_20 rfl (lv_at hl 2 rfl) ?_
    refine lv_iload_n hx hb dn_d_Session_wrap_21 rfl (lv_at hl 0 rfl) ?_
    refine vp_callSl (va_Run.run (va_runV (b := h0) (As := [.int (nI i)]) (rest := [.long se, .int (nI i), .ref h0]) ⟨hx, hb, hml, hown, hts⟩ (cc_get l G cA (dc_swrapN w se (sc + 1) i) n cap h0 q (nI i) (by first | assumption | omega) (by first | assumption | omega)) ⟨(callB_of 1 hts (dc_good dn_w_338) rfl rfl rfl (hts _ dn_w_2) (hts _ dn_w_525) (by decide +kernel) ⟨Nat.le_of_ble_eq_true rfl, Nat.le_of_ble_eq_true rfl⟩), (hts _ dn_w_336), (hts _ dn_w_337)⟩ (dc_preVR (hP.sub [1, 2] rfl) hK0 (q0 := 0) rfl rfl) rfl rfl hl.1 rfl (lv_room (Nat.le_of_ble_eq_true rfl)) dn_d_Session_wrap_22 ⟨Nat.le_of_ble_eq_true rfl, Nat.le_of_ble_eq_true rfl⟩)) (fun r9 hr9 => ?_)
    subst hr9
    rw [dc_getN (by omega) (by omega)]
    refine lv_aload_n hx hb dn_d_Session_wrap_25 rfl (lv_at hl 1 rfl) ?_
    refine va_get (D := G) (ci := 6) (v := .long (sc + 1)) (C := dn_R_Session) (T := dn_T_Session) (N := 4) hx hb hts (dn_u_Session) hown hK hP 0 rfl rfl 3 (by decide) (hts _ dn_w_73) (fun _ h9 => h9) rfl dn_d_Session_wrap_26 ?_
    refine lv_lxor hx hb dn_d_Session_wrap_29 ?_
    refine vp_callSl (va_Run.run (va_runS (As := [.long se, .long (((dc_swrapN w se (sc + 1) i) i) ^^^ (sc + 1))]) (rest := [.int (nI i), .ref h0]) ⟨hx, hb, hml, hown, hts⟩ (cc_enc l se (((dc_swrapN w se (sc + 1) i) i) ^^^ (sc + 1)) ) ⟨(callB_of 2 hts (dc_good dn_w_307) rfl rfl rfl (hts _ dn_w_8) (hts _ dn_w_477) (by decide +kernel) ⟨Nat.le_of_ble_eq_true rfl, Nat.le_of_ble_eq_true rfl⟩), (hts _ dn_w_306)⟩ preEq rfl rfl hl.1 rfl (lv_room (Nat.le_of_ble_eq_true rfl)) dn_d_Session_wrap_30 ⟨Nat.le_of_ble_eq_true rfl, Nat.le_of_ble_eq_true rfl⟩)) (fun r9 hr9 => ?_)
    subst hr9
    refine dc_wv (wr := [(hs, .inr (6, [.int (dc_bI so), .long se, .long sm, .long (sc + 1)]))]) (va_runV (b := h0) (As := [.int (nI i), .long (dc_enc se (((dc_swrapN w se (sc + 1) i) i) ^^^ (sc + 1)))]) (rest := []) ⟨hx, hb, hml, hown, hts⟩ (cc_put l G cA (dc_swrapN w se (sc + 1) i) n cap h0 q (nI i) (dc_enc se (((dc_swrapN w se (sc + 1) i) i) ^^^ (sc + 1))) (by first | assumption | omega) (by first | assumption | omega) H.size) ⟨(callB_of 2 hts (dc_good dn_w_416) rfl rfl rfl (hts _ dn_w_2) (hts _ dn_w_526) (by decide +kernel) ⟨Nat.le_of_ble_eq_true rfl, Nat.le_of_ble_eq_true rfl⟩), (hts _ dn_w_414), (hts _ dn_w_415)⟩ (dc_preVW (hP.sub [1, 2] rfl) hK0 (hD.sub [1, 2] (by decide) rfl) (q0 := 0) rfl rfl) rfl rfl hl.1 rfl (lv_room (Nat.le_of_ble_eq_true rfl)) dn_d_Session_wrap_33 ⟨Nat.le_of_ble_eq_true rfl, Nat.le_of_ble_eq_true rfl⟩) hP hD hS hA [1, 2] [0] rfl rfl (by decide) (by decide) (fun u9 H locs hr9 hP hD hS => ?_)
    have hP : va_P G vwCl [(hs, .inr (6, [.int (dc_bI so), .long se, .long sm, .long (sc + 1)])), (h0, .inr (5, [.ref q, .int (nI n)])), (q, .inl (cA 1, cap, .inr (.inl (dc_put (dc_swrapN w se (sc + 1) i) n (nI i) (dc_enc se (((dc_swrapN w se (sc + 1) i) i) ^^^ (sc + 1)))))))] H := hP
    have hD : va_D A [(hs, .inr (6, [.int (dc_bI so), .long se, .long sm, .long (sc + 1)])), (h0, .inr (5, [.ref q, .int (nI n)])), (q, .inl (cA 1, cap, .inr (.inl (dc_put (dc_swrapN w se (sc + 1) i) n (nI i) (dc_enc se (((dc_swrapN w se (sc + 1) i) i) ^^^ (sc + 1)))))))] := hD
    rw [dc_putN (by omega) (by omega)] at hP hD
    refine lv_iinc (k := 0) (v := nI (i + 1)) hx hb dn_d_Session_wrap_36 hl rfl (dc_inc1 _) (by decide) rfl (fun ls hl => ?_)
    have hl : lv_has ls 3 [(2, .int (nI (i + 1))), (0, .ref hs), (1, .ref h0)] := hl
    refine lv_goto (tgt := 6) hx hb dn_d_Session_wrap_39 (by decide) ?_
    exact ih6 (i + 1) _ _ _ (by first | omega | (dsimp only; omega)) ⟨lv_sub hl [0, 1, 2] rfl, hP.sub [0, 1, 2] rfl, hD.sub [0, 1, 2] (by decide) rfl, hS, (by omega)⟩

set_option maxHeartbeats 4000000 in
set_option maxRecDepth 100000 in
theorem cc_unwrap (l : Launch) (G : va_G) (cA : Nat → ClassId) (hs : Nat) (so : Bool) (se : Int64) (sm : Int64) (sc : Int64) (w : Nat → Int64) (n : Nat) (cap : Nat) (h0 : Nat) (q : Nat) (k : Nat) (w2 : Nat → Int64) (n2 : Nat) (cap2 : Nat) (h2 : Nat) (q2 : Nat) (hn : n ≤ cap) (hc : cap < 2147483648) (hk : n2 + k ≤ cap2) (hc2 : cap2 < 2147483646) (sz : Nat) : Met l dn_y_Session_unwrap (.code dn_y_Session_unwrap dn_c_Session_unwrap 6 (some .boolean) :: dc_W) ({ frames := 3, cells := 0, slots := 0, locals := 76 }) (dc_pW G cA [(hs, .inr (6, [.int (dc_bI so), .long se, .long sm, .long sc])), (h0, .inr (5, [.ref q, .int (nI n)])), (q, .inl (cA 1, cap, .inr (.inl w))), (h2, .inr (5, [.ref q2, .int (nI n2)])), (q2, .inl (cA 1, cap2, .inr (.inl w2)))] sz [.ref hs, .ref h0, .int (nI k), .ref h2]) (dc_qi G (fun (r : Int32) (_ : Unit) => r = dc_bI (dc_unwOk w n k sm (sc + 1))) (fun (_ : Unit) => [(hs, .inr (6, [.int (dc_bI so), .long se, .long sm, .long (sc + 1)])), (h0, .inr (5, [.ref q, .int (nI n)])), (q, .inl (cA 1, cap, .inr (.inl w))), (h2, .inr (5, [.ref q2, .int (nI (dc_sel (dc_unwOk w n k sm (sc + 1)) (n2 + k) n2))])), (q2, .inl (cA 1, cap2, .inr (.inl (dc_sel (dc_unwOk w n k sm (sc + 1)) (dc_unwN w se (sc + 1) w2 n2 k) w2))))]) sz [(hs, .inr (6, [.int (dc_bI so), .long se, .long sm, .long sc])), (h0, .inr (5, [.ref q, .int (nI n)])), (q, .inl (cA 1, cap, .inr (.inl w))), (h2, .inr (5, [.ref q2, .int (nI n2)])), (q2, .inl (cA 1, cap2, .inr (.inl w2)))]) 0 0 (va_A [(hs, .inr (6, [.int (dc_bI so), .long se, .long sm, .long sc])), (h0, .inr (5, [.ref q, .int (nI n)])), (q, .inl (cA 1, cap, .inr (.inl w))), (h2, .inr (5, [.ref q2, .int (nI n2)])), (q2, .inl (cA 1, cap2, .inr (.inl w2)))] sz) := by
  refine Met.ofW (cc := dn_c_Session_unwrap) (maxL := 6) (ret := (some .boolean)) (by decide) rfl ?_
  intro p9 en9 s m args9 below9 meth9 cd9 s9 B hml hv
  obtain ⟨rfl, hsz, hP, hK0, hD0⟩ := hv
  have hx := B.exec
  have hb := B.bytes
  have hr := B.returns
  have hts : ∀ w ∈ dc_W, w.before _ s = true := fun w h => atoms_spec (ws := (.code dn_y_Session_unwrap dn_c_Session_unwrap 6 (some .boolean) :: dc_W)) B.pre w (List.mem_cons_of_mem _ h)
  have hK := hK0.1
  have hN := hK0.2
  have hown : s.vm.findClass dn_R_Session = some m.cls := findClass_of_methodNamed B.named
  have hlocks := B.notSynchronized
  subst hsz
  have hD := hD0.self (sz := s.heap.size)
  unfold dc_qi
  generalize hAe : va_A [(hs, .inr (6, [.int (dc_bI so), .long se, .long sm, .long sc])), (h0, .inr (5, [.ref q, .int (nI n)])), (q, .inl (cA 1, cap, .inr (.inl w))), (h2, .inr (5, [.ref q2, .int (nI n2)])), (q2, .inl (cA 1, cap2, .inr (.inl w2)))] s.heap.size = A at hD ⊢
  have hA : ∀ q : Nat, s.heap.size ≤ q → A q := fun q h => by rw [← hAe]; exact Or.inr h
  have hS : va_S A s.heap s.heap [] := va_S.rf
  have hl := lv_entry ([.ref hs, .ref h0, .int (nI k), .ref h2]) (n := 6) (Nat.le_of_ble_eq_true rfl)
  rw [lg_entry_eq]
  generalize (lg_sl ([.ref hs, .ref h0, .int (nI k), .ref h2]) ++ List.replicate (6 - (lg_sl ([.ref hs, .ref h0, .int (nI k), .ref h2])).length) Slot.unset).toArray = ls at hl ⊢
  have hl : lv_has ls 6 [(0, .ref hs), (1, .ref h0), (2, .int (nI k)), (3, .ref h2)] := hl
  refine lv_aload_n hx hb dn_d_Session_unwrap_0 rfl (lv_at hl 0 rfl) ?_
  refine dc_wv (wr := [(h0, .inr (5, [.ref q, .int (nI n)])), (q, .inl (cA 1, cap, .inr (.inl w))), (h2, .inr (5, [.ref q2, .int (nI n2)])), (q2, .inl (cA 1, cap2, .inr (.inl w2)))]) (va_runV (b := hs) (As := []) (rest := []) ⟨hx, hb, hml, hown, hts⟩ (cc_sstep l G cA hs so se sm sc  s.heap.size) ⟨(callB_of 0 hts (dc_good dn_w_486) rfl rfl rfl (hts _ dn_w_5) (hts _ dn_w_523) (by decide +kernel) ⟨Nat.le_of_ble_eq_true rfl, Nat.le_of_ble_eq_true rfl⟩), (hts _ dn_w_484), (hts _ dn_w_485)⟩ (dc_preVW (hP.sub [0] rfl) hK0 (hD.sub [0] (by decide) rfl) (q0 := 0) rfl rfl) rfl rfl hl.1 rfl (lv_room (Nat.le_of_ble_eq_true rfl)) dn_d_Session_unwrap_1 ⟨Nat.le_of_ble_eq_true rfl, Nat.le_of_ble_eq_true rfl⟩) hP hD hS hA [0] [1, 2, 3, 4] rfl rfl (by decide) (by decide) (fun u9 H locs hr9 hP hD hS => ?_)
  have hP : va_P G vwCl [(h0, .inr (5, [.ref q, .int (nI n)])), (q, .inl (cA 1, cap, .inr (.inl w))), (h2, .inr (5, [.ref q2, .int (nI n2)])), (q2, .inl (cA 1, cap2, .inr (.inl w2))), (hs, .inr (6, [.int (dc_bI so), .long se, .long sm, .long (sc + 1)]))] H := hP
  have hD : va_D A [(h0, .inr (5, [.ref q, .int (nI n)])), (q, .inl (cA 1, cap, .inr (.inl w))), (h2, .inr (5, [.ref q2, .int (nI n2)])), (q2, .inl (cA 1, cap2, .inr (.inl w2))), (hs, .inr (6, [.int (dc_bI so), .long se, .long sm, .long (sc + 1)]))] := hD
  refine lv_iload_n hx hb dn_d_Session_unwrap_4 rfl (lv_at hl 2 rfl) ?_
  refine lv_iconst (v := 1) hx hb dn_d_Session_unwrap_5 (by decide) ?_
  refine lv_iadd hx hb dn_d_Session_unwrap_6 ?_
  rw [show (nI k) + (1 : Int32) = nI (k + 1) from nI_add k 1]
  refine lv_istore hx hb dn_d_Session_unwrap_7 hl (by decide) rfl (fun ls hl => ?_)
  have hl : lv_has ls 6 [(4, .int (nI (k + 1))), (0, .ref hs), (1, .ref h0), (2, .int (nI k)), (3, .ref h2)] := hl
  refine lv_aload_n hx hb dn_d_Session_unwrap_9 rfl (lv_at hl 2 rfl) ?_
  refine vp_callSi (va_Run.run (va_runV (b := h0) (As := []) (rest := []) ⟨hx, hb, hml, hown, hts⟩ (cc_size l G cA w n cap h0 q ) ⟨(callB_of 0 hts (dc_good dn_w_334) rfl rfl rfl (hts _ dn_w_2) (hts _ dn_w_524) (by decide +kernel) ⟨Nat.le_of_ble_eq_true rfl, Nat.le_of_ble_eq_true rfl⟩), (hts _ dn_w_332), (hts _ dn_w_333)⟩ (dc_preVR (hP.sub [0, 1] rfl) hK0 (q0 := 0) rfl rfl) rfl rfl hl.1 rfl (lv_room (Nat.le_of_ble_eq_true rfl)) dn_d_Session_unwrap_10 ⟨Nat.le_of_ble_eq_true rfl, Nat.le_of_ble_eq_true rfl⟩)) (fun r9 hr9 => ?_)
  subst hr9
  refine lv_iload_n hx hb dn_d_Session_unwrap_13 rfl (lv_at hl 3 rfl) ?_
  refine lv_iconst (v := 2) hx hb dn_d_Session_unwrap_14 (by decide) ?_
  refine lv_iadd hx hb dn_d_Session_unwrap_15 ?_
  rw [show (nI k) + (2 : Int32) = nI (k + 2) from nI_add k 2]
  refine lv_icmp_ne (tgt := 48) hx hb dn_d_Session_unwrap_16 (by decide) (fun h16 => ?_) (fun h16 => ?_)
  · -- 16: ¬ n = (k + 2)
    have h16 : ¬ n = (k + 2) := fun z => h16 ((nI_eq (a := n) (b := k + 2) (by omega) (by omega)).2 z)
    refine lv_iconst (v := 0) hx hb dn_d_Session_unwrap_48 (by decide) ?_
    have hok : dc_unwOk w n k sm (sc + 1) = false := decide_eq_false (fun z => h16 z.1)
    have hP9 := hP.sub (ws' := [(hs, .inr (6, [.int (dc_bI so), .long se, .long sm, .long (sc + 1)])), (h0, .inr (5, [.ref q, .int (nI n)])), (q, .inl (cA 1, cap, .inr (.inl w))), (h2, .inr (5, [.ref q2, .int (nI n2)])), (q2, .inl (cA 1, cap2, .inr (.inl w2)))]) [4, 0, 1, 2, 3] rfl
    have hD9 := hD.sub (ws' := [(hs, .inr (6, [.int (dc_bI so), .long se, .long sm, .long (sc + 1)])), (h0, .inr (5, [.ref q, .int (nI n)])), (q, .inl (cA 1, cap, .inr (.inl w))), (h2, .inr (5, [.ref q2, .int (nI n2)])), (q2, .inl (cA 1, cap2, .inr (.inl w2)))]) [4, 0, 1, 2, 3] (by decide) rfl
    have hE9 : ([(hs, .inr (6, [.int (dc_bI so), .long se, .long sm, .long (sc + 1)])), (h0, .inr (5, [.ref q, .int (nI n)])), (q, .inl (cA 1, cap, .inr (.inl w))), (h2, .inr (5, [.ref q2, .int (nI n2)])), (q2, .inl (cA 1, cap2, .inr (.inl w2)))] : va_W) = [(hs, .inr (6, [.int (dc_bI so), .long se, .long sm, .long (sc + 1)])), (h0, .inr (5, [.ref q, .int (nI n)])), (q, .inl (cA 1, cap, .inr (.inl w))), (h2, .inr (5, [.ref q2, .int (nI (dc_sel (dc_unwOk w n k sm (sc + 1)) (n2 + k) n2))])), (q2, .inl (cA 1, cap2, .inr (.inl (dc_sel (dc_unwOk w n k sm (sc + 1)) (dc_unwN w se (sc + 1) w2 n2 k) w2))))] := by rw [hok]; rfl
    rw [hE9] at hP9 hD9
    exact W.zret (ty := .boolean) (v := 0) hx hb hr (rfl) (fun t ht hW => ⟨⟨_, (), rfl, (by rw [hok]; rfl), by rw [ht]; exact hP9, hD9⟩, hS.F ht⟩) hS.2.2 dn_d_Session_unwrap_49
  · -- 16: n = (k + 2)
    have h16 : n = (k + 2) := (nI_eq (a := n) (b := k + 2) (by omega) (by omega)).1 h16
    refine lv_aload_n hx hb dn_d_Session_unwrap_19 rfl (lv_at hl 2 rfl) ?_
    refine lv_iload_n hx hb dn_d_Session_unwrap_20 rfl (lv_at hl 3 rfl) ?_
    refine vp_callSl (va_Run.run (va_runV (b := h0) (As := [.int (nI k)]) (rest := []) ⟨hx, hb, hml, hown, hts⟩ (cc_get l G cA w n cap h0 q (nI k) (by first | assumption | omega) (by first | assumption | omega)) ⟨(callB_of 1 hts (dc_good dn_w_338) rfl rfl rfl (hts _ dn_w_2) (hts _ dn_w_525) (by decide +kernel) ⟨Nat.le_of_ble_eq_true rfl, Nat.le_of_ble_eq_true rfl⟩), (hts _ dn_w_336), (hts _ dn_w_337)⟩ (dc_preVR (hP.sub [0, 1] rfl) hK0 (q0 := 0) rfl rfl) rfl rfl hl.1 rfl (lv_room (Nat.le_of_ble_eq_true rfl)) dn_d_Session_unwrap_21 ⟨Nat.le_of_ble_eq_true rfl, Nat.le_of_ble_eq_true rfl⟩)) (fun r9 hr9 => ?_)
    subst hr9
    refine lv_ldc2 (v := 36864) hx hb hown (hts _ dn_w_527) dn_d_Session_unwrap_24 ?_
    refine W.lcmp hx hb dn_d_Session_unwrap_27 ?_
    refine lv_if_ne (tgt := 48) hx hb dn_d_Session_unwrap_28 (by decide) (fun h28 => ?_) (fun h28 => ?_)
    · -- 28: ¬ (dc_get w n (nI k)) = 36864
      have h28 : ¬ (dc_get w n (nI k)) = 36864 := fun z => h28 ((lg_cmp_eq (dc_get w n (nI k)) 36864).2 z)
      refine lv_iconst (v := 0) hx hb dn_d_Session_unwrap_48 (by decide) ?_
      have hok : dc_unwOk w n k sm (sc + 1) = false := decide_eq_false (fun z => h28 z.2.1)
      have hP9 := hP.sub (ws' := [(hs, .inr (6, [.int (dc_bI so), .long se, .long sm, .long (sc + 1)])), (h0, .inr (5, [.ref q, .int (nI n)])), (q, .inl (cA 1, cap, .inr (.inl w))), (h2, .inr (5, [.ref q2, .int (nI n2)])), (q2, .inl (cA 1, cap2, .inr (.inl w2)))]) [4, 0, 1, 2, 3] rfl
      have hD9 := hD.sub (ws' := [(hs, .inr (6, [.int (dc_bI so), .long se, .long sm, .long (sc + 1)])), (h0, .inr (5, [.ref q, .int (nI n)])), (q, .inl (cA 1, cap, .inr (.inl w))), (h2, .inr (5, [.ref q2, .int (nI n2)])), (q2, .inl (cA 1, cap2, .inr (.inl w2)))]) [4, 0, 1, 2, 3] (by decide) rfl
      have hE9 : ([(hs, .inr (6, [.int (dc_bI so), .long se, .long sm, .long (sc + 1)])), (h0, .inr (5, [.ref q, .int (nI n)])), (q, .inl (cA 1, cap, .inr (.inl w))), (h2, .inr (5, [.ref q2, .int (nI n2)])), (q2, .inl (cA 1, cap2, .inr (.inl w2)))] : va_W) = [(hs, .inr (6, [.int (dc_bI so), .long se, .long sm, .long (sc + 1)])), (h0, .inr (5, [.ref q, .int (nI n)])), (q, .inl (cA 1, cap, .inr (.inl w))), (h2, .inr (5, [.ref q2, .int (nI (dc_sel (dc_unwOk w n k sm (sc + 1)) (n2 + k) n2))])), (q2, .inl (cA 1, cap2, .inr (.inl (dc_sel (dc_unwOk w n k sm (sc + 1)) (dc_unwN w se (sc + 1) w2 n2 k) w2))))] := by rw [hok]; rfl
      rw [hE9] at hP9 hD9
      exact W.zret (ty := .boolean) (v := 0) hx hb hr (rfl) (fun t ht hW => ⟨⟨_, (), rfl, (by rw [hok]; rfl), by rw [ht]; exact hP9, hD9⟩, hS.F ht⟩) hS.2.2 dn_d_Session_unwrap_49
    · -- 28: (dc_get w n (nI k)) = 36864
      have h28 : (dc_get w n (nI k)) = 36864 := (lg_cmp_eq (dc_get w n (nI k)) 36864).1 h28
      refine lv_aload_n hx hb dn_d_Session_unwrap_31 rfl (lv_at hl 2 rfl) ?_
      refine lv_iload hx hb dn_d_Session_unwrap_32 (lv_at hl 0 rfl) ?_
      refine vp_callSl (va_Run.run (va_runV (b := h0) (As := [.int (nI (k + 1))]) (rest := []) ⟨hx, hb, hml, hown, hts⟩ (cc_get l G cA w n cap h0 q (nI (k + 1)) (by first | assumption | omega) (by first | assumption | omega)) ⟨(callB_of 1 hts (dc_good dn_w_338) rfl rfl rfl (hts _ dn_w_2) (hts _ dn_w_525) (by decide +kernel) ⟨Nat.le_of_ble_eq_true rfl, Nat.le_of_ble_eq_true rfl⟩), (hts _ dn_w_336), (hts _ dn_w_337)⟩ (dc_preVR (hP.sub [0, 1] rfl) hK0 (q0 := 0) rfl rfl) rfl rfl hl.1 rfl (lv_room (Nat.le_of_ble_eq_true rfl)) dn_d_Session_unwrap_34 ⟨Nat.le_of_ble_eq_true rfl, Nat.le_of_ble_eq_true rfl⟩)) (fun r9 hr9 => ?_)
      subst hr9
      refine lv_aload_n hx hb dn_d_Session_unwrap_37 rfl (lv_at hl 1 rfl) ?_
      refine lv_aload_n hx hb dn_d_Session_unwrap_38 rfl (lv_at hl 2 rfl) ?_
      refine lv_iload hx hb dn_d_Session_unwrap_39 (lv_at hl 0 rfl) ?_
      refine vp_callSl (va_Run.run (va_runV (b := hs) (As := [.ref h0, .int (nI (k + 1))]) (rest := [.long (dc_get w n (nI (k + 1)))]) ⟨hx, hb, hml, hown, hts⟩ (cc_sealOf l G cA hs so se sm (sc + 1) w n cap h0 q (k + 1) (by first | assumption | omega) (by first | assumption | omega) (by first | assumption | omega)) ⟨(callB_of 2 hts (dc_good dn_w_532) rfl rfl rfl (hts _ dn_w_5) (hts _ dn_w_529) (by decide +kernel) ⟨Nat.le_of_ble_eq_true rfl, Nat.le_of_ble_eq_true rfl⟩), (hts _ dn_w_531), (hts _ dn_s_Session_sealOf)⟩ (dc_preVR (hP.sub [4, 0, 1] rfl) hK0 (q0 := 0) rfl rfl) rfl rfl hl.1 rfl (lv_room (Nat.le_of_ble_eq_true rfl)) dn_d_Session_unwrap_41 ⟨Nat.le_of_ble_eq_true rfl, Nat.le_of_ble_eq_true rfl⟩)) (fun r9 hr9 => ?_)
      subst hr9
      refine W.lcmp hx hb dn_d_Session_unwrap_44 ?_
      refine lv_if_eq (tgt := 50) hx hb dn_d_Session_unwrap_45 (by decide) (fun h45 => ?_) (fun h45 => ?_)
      · -- 45: (dc_get w n (nI (k + 1))) = (dc_sealR sm (dc_enc sm (sc + 1)) w (k + 1))
        have h45 : (dc_get w n (nI (k + 1))) = (dc_sealR sm (dc_enc sm (sc + 1)) w (k + 1)) := (lg_cmp_eq (dc_get w n (nI (k + 1))) (dc_sealR sm (dc_enc sm (sc + 1)) w (k + 1))).1 h45
        refine lv_iconst (v := 0) hx hb dn_d_Session_unwrap_50 (by decide) ?_
        refine lv_istore hx hb dn_d_Session_unwrap_51 hl (by decide) rfl (fun ls hl => ?_)
        have hl : lv_has ls 6 [(5, .int 0), (4, .int (nI (k + 1))), (0, .ref hs), (1, .ref h0), (2, .int (nI k)), (3, .ref h2)] := hl
        refine dc_loop (σ := Nat) 53 [] (fun (i : Nat) => k - i) (fun (i : Nat) (H : Heap) (locs : List Loc) (ls : Array Slot) => lv_has ls 6 [(5, .int (nI i)), (4, .int (nI (k + 1))), (0, .ref hs), (1, .ref h0), (2, .int (nI k)), (3, .ref h2)] ∧ va_P G vwCl [(hs, .inr (6, [.int (dc_bI so), .long se, .long sm, .long (sc + 1)])), (h0, .inr (5, [.ref q, .int (nI n)])), (q, .inl (cA 1, cap, .inr (.inl w))), (h2, .inr (5, [.ref q2, .int (nI (n2 + i))])), (q2, .inl (cA 1, cap2, .inr (.inl (dc_unwN w se (sc + 1) w2 n2 i))))] H ∧ va_D A [(hs, .inr (6, [.int (dc_bI so), .long se, .long sm, .long (sc + 1)])), (h0, .inr (5, [.ref q, .int (nI n)])), (q, .inl (cA 1, cap, .inr (.inl w))), (h2, .inr (5, [.ref q2, .int (nI (n2 + i))])), (q2, .inl (cA 1, cap2, .inr (.inl (dc_unwN w se (sc + 1) w2 n2 i))))] ∧ va_S A s.heap H locs ∧ (i ≤ k)) ?_ 0 ⟨lv_sub hl [0, 1, 2, 3, 4, 5] rfl, hP.sub [4, 0, 1, 2, 3] rfl, hD.sub [4, 0, 1, 2, 3] (by decide) rfl, hS, (by omega)⟩
        rintro i H locs ls ⟨hl, hP, hD, hS, hi⟩ ih53
        have hl : lv_has ls 6 [(5, .int (nI i)), (4, .int (nI (k + 1))), (0, .ref hs), (1, .ref h0), (2, .int (nI k)), (3, .ref h2)] := hl
        have hP : va_P G vwCl [(hs, .inr (6, [.int (dc_bI so), .long se, .long sm, .long (sc + 1)])), (h0, .inr (5, [.ref q, .int (nI n)])), (q, .inl (cA 1, cap, .inr (.inl w))), (h2, .inr (5, [.ref q2, .int (nI (n2 + i))])), (q2, .inl (cA 1, cap2, .inr (.inl (dc_unwN w se (sc + 1) w2 n2 i))))] H := hP
        have hD : va_D A [(hs, .inr (6, [.int (dc_bI so), .long se, .long sm, .long (sc + 1)])), (h0, .inr (5, [.ref q, .int (nI n)])), (q, .inl (cA 1, cap, .inr (.inl w))), (h2, .inr (5, [.ref q2, .int (nI (n2 + i))])), (q2, .inl (cA 1, cap2, .inr (.inl (dc_unwN w se (sc + 1) w2 n2 i))))] := hD
        refine lv_iload hx hb dn_d_Session_unwrap_53 (lv_at hl 0 rfl) ?_
        refine lv_iload_n hx hb dn_d_Session_unwrap_55 rfl (lv_at hl 4 rfl) ?_
        refine lv_icmp_ge (tgt := 87) hx hb dn_d_Session_unwrap_56 (by decide) (fun h56 => ?_) (fun h56 => ?_)
        · -- 56: k ≤ i
          have h56 : k ≤ i := (nI_leI (a := k) (b := i) (by omega) (by omega)).1 h56
          refine lv_iconst (v := 1) hx hb dn_d_Session_unwrap_87 (by decide) ?_
          have e9 : i = k := by omega
          rw [e9] at hP hD
          have hok : dc_unwOk w n k sm (sc + 1) = true := decide_eq_true ⟨h16, h28, h45⟩
          have hP9 := hP.sub (ws' := [(hs, .inr (6, [.int (dc_bI so), .long se, .long sm, .long (sc + 1)])), (h0, .inr (5, [.ref q, .int (nI n)])), (q, .inl (cA 1, cap, .inr (.inl w))), (h2, .inr (5, [.ref q2, .int (nI (n2 + k))])), (q2, .inl (cA 1, cap2, .inr (.inl (dc_unwN w se (sc + 1) w2 n2 k))))]) [0, 1, 2, 3, 4] rfl
          have hD9 := hD.sub (ws' := [(hs, .inr (6, [.int (dc_bI so), .long se, .long sm, .long (sc + 1)])), (h0, .inr (5, [.ref q, .int (nI n)])), (q, .inl (cA 1, cap, .inr (.inl w))), (h2, .inr (5, [.ref q2, .int (nI (n2 + k))])), (q2, .inl (cA 1, cap2, .inr (.inl (dc_unwN w se (sc + 1) w2 n2 k))))]) [0, 1, 2, 3, 4] (by decide) rfl
          have hE9 : ([(hs, .inr (6, [.int (dc_bI so), .long se, .long sm, .long (sc + 1)])), (h0, .inr (5, [.ref q, .int (nI n)])), (q, .inl (cA 1, cap, .inr (.inl w))), (h2, .inr (5, [.ref q2, .int (nI (n2 + k))])), (q2, .inl (cA 1, cap2, .inr (.inl (dc_unwN w se (sc + 1) w2 n2 k))))] : va_W) = [(hs, .inr (6, [.int (dc_bI so), .long se, .long sm, .long (sc + 1)])), (h0, .inr (5, [.ref q, .int (nI n)])), (q, .inl (cA 1, cap, .inr (.inl w))), (h2, .inr (5, [.ref q2, .int (nI (dc_sel (dc_unwOk w n k sm (sc + 1)) (n2 + k) n2))])), (q2, .inl (cA 1, cap2, .inr (.inl (dc_sel (dc_unwOk w n k sm (sc + 1)) (dc_unwN w se (sc + 1) w2 n2 k) w2))))] := by rw [hok]; rfl
          rw [hE9] at hP9 hD9
          exact W.zret (ty := .boolean) (v := 1) hx hb hr (rfl) (fun t ht hW => ⟨⟨_, (), rfl, (by rw [hok]; rfl), by rw [ht]; exact hP9, hD9⟩, hS.F ht⟩) hS.2.2 dn_d_Session_unwrap_88
        · -- 56: ¬ k ≤ i
          have h56 : ¬ k ≤ i := fun z => h56 ((nI_leI (a := k) (b := i) (by omega) (by omega)).2 z)
          refine lv_aload_n hx hb dn_d_Session_unwrap_59 rfl (lv_at hl 5 rfl) ?_
          refine lv_aload_n hx hb dn_d_Session_unwrap_60 rfl (lv_at hl 2 rfl) ?_
          refine va_get (D := G) (ci := 6) (v := .long se) (C := dn_R_Session) (T := dn_T_Session) (N := 4) hx hb hts (dn_u_Session) hown hK hP 0 rfl rfl 1 (by decide) (hts _ dn_w_71) (fun _ h9 => h9) rfl dn_d_Session_unwrap_61 ?_
          refine lv_aload_n hx hb dn_d_Session_unwrap_64 rfl (lv_at hl 3 rfl) ?_
          refine lv_iload hx hb dn_d_Session_unwrap_65 (lv_at hl 0 rfl) ?_
          refine vp_callSl (va_Run.run (va_runV (b := h0) (As := [.int (nI i)]) (rest := [.long se, .ref h2]) ⟨hx, hb, hml, hown, hts⟩ (cc_get l G cA w n cap h0 q (nI i) (by first | assumption | omega) (by first | assumption | omega)) ⟨(callB_of 1 hts (dc_good dn_w_338) rfl rfl rfl (hts _ dn_w_2) (hts _ dn_w_525) (by decide +kernel) ⟨Nat.le_of_ble_eq_true rfl, Nat.le_of_ble_eq_true rfl⟩), (hts _ dn_w_336), (hts _ dn_w_337)⟩ (dc_preVR (hP.sub [1, 2] rfl) hK0 (q0 := 0) rfl rfl) rfl rfl hl.1 rfl (lv_room (Nat.le_of_ble_eq_true rfl)) dn_d_Session_unwrap_67 ⟨Nat.le_of_ble_eq_true rfl, Nat.le_of_ble_eq_true rfl⟩)) (fun r9 hr9 => ?_)
          subst hr9
          rw [dc_getN (by omega) (by omega)]
          refine vp_callSl (va_Run.run (va_runS (As := [.long se, .long (w i)]) (rest := [.ref h2]) ⟨hx, hb, hml, hown, hts⟩ (cc_dec l se (w i) ) ⟨(callB_of 2 hts (dc_good dn_w_450) rfl rfl rfl (hts _ dn_w_8) (hts _ dn_w_501) (by decide +kernel) ⟨Nat.le_of_ble_eq_true rfl, Nat.le_of_ble_eq_true rfl⟩), (hts _ dn_w_449)⟩ preEq rfl rfl hl.1 rfl (lv_room (Nat.le_of_ble_eq_true rfl)) dn_d_Session_unwrap_70 ⟨Nat.le_of_ble_eq_true rfl, Nat.le_of_ble_eq_true rfl⟩)) (fun r9 hr9 => ?_)
          subst hr9
          refine lv_aload_n hx hb dn_d_Session_unwrap_73 rfl (lv_at hl 2 rfl) ?_
          refine va_get (D := G) (ci := 6) (v := .long (sc + 1)) (C := dn_R_Session) (T := dn_T_Session) (N := 4) hx hb hts (dn_u_Session) hown hK hP 0 rfl rfl 3 (by decide) (hts _ dn_w_73) (fun _ h9 => h9) rfl dn_d_Session_unwrap_74 ?_
          refine lv_lxor hx hb dn_d_Session_unwrap_77 ?_
          refine dc_wv (wr := [(hs, .inr (6, [.int (dc_bI so), .long se, .long sm, .long (sc + 1)])), (h0, .inr (5, [.ref q, .int (nI n)])), (q, .inl (cA 1, cap, .inr (.inl w)))]) (va_runV (b := h2) (As := [.long ((dc_dec se (w i)) ^^^ (sc + 1))]) (rest := []) ⟨hx, hb, hml, hown, hts⟩ (cc_add l G cA (dc_unwN w se (sc + 1) w2 n2 i) (n2 + i) cap2 h2 q2 ((dc_dec se (w i)) ^^^ (sc + 1)) (by first | assumption | omega) (by first | assumption | omega) H.size) ⟨(callB_of 1 hts (dc_good dn_w_346) rfl rfl rfl (hts _ dn_w_2) (hts _ dn_w_528) (by decide +kernel) ⟨Nat.le_of_ble_eq_true rfl, Nat.le_of_ble_eq_true rfl⟩), (hts _ dn_w_344), (hts _ dn_w_345)⟩ (dc_preVW (hP.sub [3, 4] rfl) hK0 (hD.sub [3, 4] (by decide) rfl) (q0 := 0) rfl rfl) rfl rfl hl.1 rfl (lv_room (Nat.le_of_ble_eq_true rfl)) dn_d_Session_unwrap_78 ⟨Nat.le_of_ble_eq_true rfl, Nat.le_of_ble_eq_true rfl⟩) hP hD hS hA [3, 4] [0, 1, 2] rfl rfl (by decide) (by decide) (fun u9 H locs hr9 hP hD hS => ?_)
          have hP : va_P G vwCl [(hs, .inr (6, [.int (dc_bI so), .long se, .long sm, .long (sc + 1)])), (h0, .inr (5, [.ref q, .int (nI n)])), (q, .inl (cA 1, cap, .inr (.inl w))), (h2, .inr (5, [.ref q2, .int (nI ((n2 + i) + 1))])), (q2, .inl (cA 1, cap2, .inr (.inl (vp_updL (dc_unwN w se (sc + 1) w2 n2 i) (n2 + i) ((dc_dec se (w i)) ^^^ (sc + 1))))))] H := hP
          have hD : va_D A [(hs, .inr (6, [.int (dc_bI so), .long se, .long sm, .long (sc + 1)])), (h0, .inr (5, [.ref q, .int (nI n)])), (q, .inl (cA 1, cap, .inr (.inl w))), (h2, .inr (5, [.ref q2, .int (nI ((n2 + i) + 1))])), (q2, .inl (cA 1, cap2, .inr (.inl (vp_updL (dc_unwN w se (sc + 1) w2 n2 i) (n2 + i) ((dc_dec se (w i)) ^^^ (sc + 1))))))] := hD
          refine lv_iinc (k := 0) (v := nI (i + 1)) hx hb dn_d_Session_unwrap_81 hl rfl (dc_inc1 _) (by decide) rfl (fun ls hl => ?_)
          have hl : lv_has ls 6 [(5, .int (nI (i + 1))), (4, .int (nI (k + 1))), (0, .ref hs), (1, .ref h0), (2, .int (nI k)), (3, .ref h2)] := hl
          refine lv_goto (tgt := 53) hx hb dn_d_Session_unwrap_84 (by decide) ?_
          exact ih53 (i + 1) _ _ _ (by first | omega | (dsimp only; omega)) ⟨lv_sub hl [0, 1, 2, 3, 4, 5] rfl, hP.sub [0, 1, 2, 3, 4] rfl, hD.sub [0, 1, 2, 3, 4] (by decide) rfl, hS, (by omega)⟩
      · -- 45: ¬ (dc_get w n (nI (k + 1))) = (dc_sealR sm (dc_enc sm (sc + 1)) w (k + 1))
        have h45 : ¬ (dc_get w n (nI (k + 1))) = (dc_sealR sm (dc_enc sm (sc + 1)) w (k + 1)) := fun z => h45 ((lg_cmp_eq (dc_get w n (nI (k + 1))) (dc_sealR sm (dc_enc sm (sc + 1)) w (k + 1))).2 z)
        refine lv_iconst (v := 0) hx hb dn_d_Session_unwrap_48 (by decide) ?_
        have hok : dc_unwOk w n k sm (sc + 1) = false := decide_eq_false (fun z => h45 z.2.2)
        have hP9 := hP.sub (ws' := [(hs, .inr (6, [.int (dc_bI so), .long se, .long sm, .long (sc + 1)])), (h0, .inr (5, [.ref q, .int (nI n)])), (q, .inl (cA 1, cap, .inr (.inl w))), (h2, .inr (5, [.ref q2, .int (nI n2)])), (q2, .inl (cA 1, cap2, .inr (.inl w2)))]) [4, 0, 1, 2, 3] rfl
        have hD9 := hD.sub (ws' := [(hs, .inr (6, [.int (dc_bI so), .long se, .long sm, .long (sc + 1)])), (h0, .inr (5, [.ref q, .int (nI n)])), (q, .inl (cA 1, cap, .inr (.inl w))), (h2, .inr (5, [.ref q2, .int (nI n2)])), (q2, .inl (cA 1, cap2, .inr (.inl w2)))]) [4, 0, 1, 2, 3] (by decide) rfl
        have hE9 : ([(hs, .inr (6, [.int (dc_bI so), .long se, .long sm, .long (sc + 1)])), (h0, .inr (5, [.ref q, .int (nI n)])), (q, .inl (cA 1, cap, .inr (.inl w))), (h2, .inr (5, [.ref q2, .int (nI n2)])), (q2, .inl (cA 1, cap2, .inr (.inl w2)))] : va_W) = [(hs, .inr (6, [.int (dc_bI so), .long se, .long sm, .long (sc + 1)])), (h0, .inr (5, [.ref q, .int (nI n)])), (q, .inl (cA 1, cap, .inr (.inl w))), (h2, .inr (5, [.ref q2, .int (nI (dc_sel (dc_unwOk w n k sm (sc + 1)) (n2 + k) n2))])), (q2, .inl (cA 1, cap2, .inr (.inl (dc_sel (dc_unwOk w n k sm (sc + 1)) (dc_unwN w se (sc + 1) w2 n2 k) w2))))] := by rw [hok]; rfl
        rw [hE9] at hP9 hD9
        exact W.zret (ty := .boolean) (v := 0) hx hb hr (rfl) (fun t ht hW => ⟨⟨_, (), rfl, (by rw [hok]; rfl), by rw [ht]; exact hP9, hD9⟩, hS.F ht⟩) hS.2.2 dn_d_Session_unwrap_49
