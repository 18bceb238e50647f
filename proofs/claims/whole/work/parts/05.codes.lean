set_option maxHeartbeats 4000000 in
set_option maxRecDepth 100000 in
theorem cc_mix (l : Launch) (h : Int64) (x : Int64)  : Met l dn_y_Codes_mix (.code dn_y_Codes_mix dn_c_Codes_mix 6 (some .long) :: dc_W) ({ frames := 0, cells := 0, slots := 0, locals := 0 }) (fun v _ => v = ([.long h, .long x] : List Value).toArray) (vp_Sl (fun r => r = dc_mix h x)) 0 0 (fun _ => False) := by
  refine Met.ofW (cc := dn_c_Codes_mix) (maxL := 6) (ret := (some .long)) (by decide) rfl ?_
  intro p9 en9 s m args9 below9 meth9 cd9 s9 B hml hv
  obtain rfl := hv
  have hx := B.exec
  have hb := B.bytes
  have hr := B.returns
  have hts : ∀ w ∈ dc_W, w.before _ s = true := fun w h => atoms_spec (ws := (.code dn_y_Codes_mix dn_c_Codes_mix 6 (some .long) :: dc_W)) B.pre w (List.mem_cons_of_mem _ h)
  have hown : s.vm.findClass dn_R_Codes = some m.cls := findClass_of_methodNamed B.named
  have hlocks := B.notSynchronized
  have hl := lv_entry ([.long h, .long x]) (n := 6) (Nat.le_of_ble_eq_true rfl)
  rw [lg_entry_eq]
  generalize (lg_sl ([.long h, .long x]) ++ List.replicate (6 - (lg_sl ([.long h, .long x])).length) Slot.unset).toArray = ls at hl ⊢
  have hl : lv_has ls 6 [(0, .long h), (2, .long x)] := hl
  refine lv_lload_n hx hb dn_d_Codes_mix_0 rfl (lv_at hl 0 rfl) ?_
  refine lv_lload_n hx hb dn_d_Codes_mix_1 rfl (lv_at hl 1 rfl) ?_
  refine lv_lxor hx hb dn_d_Codes_mix_2 ?_
  refine lv_ldc2 (v := (-7046029254386353131)) hx hb hown (hts _ dn_w_141) dn_d_Codes_mix_3 ?_
  refine lv_lmul hx hb dn_d_Codes_mix_6 ?_
  refine lv_lstore hx hb dn_d_Codes_mix_7 hl (by decide) rfl (fun ls hl => ?_)
  have hl : lv_has ls 6 [(4, .long ((h ^^^ x) * (-7046029254386353131 : Int64))), (0, .long h), (2, .long x)] := hl
  refine lv_lload hx hb dn_d_Codes_mix_9 (lv_at hl 0 rfl) ?_
  refine lv_lload hx hb dn_d_Codes_mix_11 (lv_at hl 0 rfl) ?_
  refine lv_bipush (v := 29) hx hb dn_d_Codes_mix_13 (by decide) ?_
  refine lv_lushr (v := dc_ju ((h ^^^ x) * (-7046029254386353131 : Int64)) (29 : Int32)) hx hb dn_d_Codes_mix_15 rfl ?_
  refine lv_lxor hx hb dn_d_Codes_mix_16 ?_
  exact W.lret (v := (((h ^^^ x) * (-7046029254386353131 : Int64)) ^^^ (dc_ju ((h ^^^ x) * (-7046029254386353131 : Int64)) (29 : Int32)))) hx hb hr (fun t ht hW => ⟨_, rfl, (rfl), ht⟩) (fun q h => by cases h) dn_d_Codes_mix_17

set_option maxHeartbeats 4000000 in
set_option maxRecDepth 100000 in
theorem cc_dig2 (l : Launch) (a : Int64) (b : Int64)  : Met l dn_y_Codes_digestOfTwo (.code dn_y_Codes_digestOfTwo dn_c_Codes_digestOfTwo 4 (some .long) :: dc_W) ({ frames := 1, cells := 0, slots := 0, locals := 25 }) (fun v _ => v = ([.long a, .long b] : List Value).toArray) (vp_Sl (fun r => r = dc_dig2 a b)) 0 0 (fun _ => False) := by
  refine Met.ofW (cc := dn_c_Codes_digestOfTwo) (maxL := 4) (ret := (some .long)) (by decide) rfl ?_
  intro p9 en9 s m args9 below9 meth9 cd9 s9 B hml hv
  obtain rfl := hv
  have hx := B.exec
  have hb := B.bytes
  have hr := B.returns
  have hts : ∀ w ∈ dc_W, w.before _ s = true := fun w h => atoms_spec (ws := (.code dn_y_Codes_digestOfTwo dn_c_Codes_digestOfTwo 4 (some .long) :: dc_W)) B.pre w (List.mem_cons_of_mem _ h)
  have hown : s.vm.findClass dn_R_Codes = some m.cls := findClass_of_methodNamed B.named
  have hlocks := B.notSynchronized
  have hl := lv_entry ([.long a, .long b]) (n := 4) (Nat.le_of_ble_eq_true rfl)
  rw [lg_entry_eq]
  generalize (lg_sl ([.long a, .long b]) ++ List.replicate (4 - (lg_sl ([.long a, .long b])).length) Slot.unset).toArray = ls at hl ⊢
  have hl : lv_has ls 4 [(0, .long a), (2, .long b)] := hl
  refine lv_ldc2 (v := 2611923443488327891) hx hb hown (hts _ dn_w_137) dn_d_Codes_digestOfTwo_0 ?_
  refine lv_lload_n hx hb dn_d_Codes_digestOfTwo_3 rfl (lv_at hl 0 rfl) ?_
  refine vp_callSl (va_Run.run (va_runS (As := [.long 2611923443488327891, .long a]) (rest := []) ⟨hx, hb, hml, hown, hts⟩ (cc_mix l 2611923443488327891 a ) ⟨(callB_of 2 hts (dc_good dn_w_140) rfl rfl rfl (hts _ dn_w_8) (hts _ dn_w_138) (by decide +kernel) ⟨Nat.le_of_ble_eq_true rfl, Nat.le_of_ble_eq_true rfl⟩), (hts _ dn_w_139)⟩ preEq rfl rfl hl.1 rfl (lv_room (Nat.le_of_ble_eq_true rfl)) dn_d_Codes_digestOfTwo_4 ⟨Nat.le_of_ble_eq_true rfl, Nat.le_of_ble_eq_true rfl⟩)) (fun r9 hr9 => ?_)
  subst hr9
  refine lv_lload_n hx hb dn_d_Codes_digestOfTwo_7 rfl (lv_at hl 1 rfl) ?_
  refine vp_callSl (va_Run.run (va_runS (As := [.long (dc_mix 2611923443488327891 a), .long b]) (rest := []) ⟨hx, hb, hml, hown, hts⟩ (cc_mix l (dc_mix 2611923443488327891 a) b ) ⟨(callB_of 2 hts (dc_good dn_w_140) rfl rfl rfl (hts _ dn_w_8) (hts _ dn_w_138) (by decide +kernel) ⟨Nat.le_of_ble_eq_true rfl, Nat.le_of_ble_eq_true rfl⟩), (hts _ dn_w_139)⟩ preEq rfl rfl hl.1 rfl (lv_room (Nat.le_of_ble_eq_true rfl)) dn_d_Codes_digestOfTwo_8 ⟨Nat.le_of_ble_eq_true rfl, Nat.le_of_ble_eq_true rfl⟩)) (fun r9 hr9 => ?_)
  subst hr9
  exact W.lret (v := (dc_mix (dc_mix 2611923443488327891 a) b)) hx hb hr (fun t ht hW => ⟨_, rfl, (rfl), ht⟩) (fun q h => by cases h) dn_d_Codes_digestOfTwo_11

set_option maxHeartbeats 4000000 in
set_option maxRecDepth 100000 in
theorem cc_dig3 (l : Launch) (a : Int64) (b : Int64) (c : Int64)  : Met l dn_y_Codes_digestOfThree (.code dn_y_Codes_digestOfThree dn_c_Codes_digestOfThree 6 (some .long) :: dc_W) ({ frames := 2, cells := 0, slots := 0, locals := 48 }) (fun v _ => v = ([.long a, .long b, .long c] : List Value).toArray) (vp_Sl (fun r => r = dc_dig3 a b c)) 0 0 (fun _ => False) := by
  refine Met.ofW (cc := dn_c_Codes_digestOfThree) (maxL := 6) (ret := (some .long)) (by decide) rfl ?_
  intro p9 en9 s m args9 below9 meth9 cd9 s9 B hml hv
  obtain rfl := hv
  have hx := B.exec
  have hb := B.bytes
  have hr := B.returns
  have hts : ∀ w ∈ dc_W, w.before _ s = true := fun w h => atoms_spec (ws := (.code dn_y_Codes_digestOfThree dn_c_Codes_digestOfThree 6 (some .long) :: dc_W)) B.pre w (List.mem_cons_of_mem _ h)
  have hown : s.vm.findClass dn_R_Codes = some m.cls := findClass_of_methodNamed B.named
  have hlocks := B.notSynchronized
  have hl := lv_entry ([.long a, .long b, .long c]) (n := 6) (Nat.le_of_ble_eq_true rfl)
  rw [lg_entry_eq]
  generalize (lg_sl ([.long a, .long b, .long c]) ++ List.replicate (6 - (lg_sl ([.long a, .long b, .long c])).length) Slot.unset).toArray = ls at hl ⊢
  have hl : lv_has ls 6 [(0, .long a), (2, .long b), (4, .long c)] := hl
  refine lv_lload_n hx hb dn_d_Codes_digestOfThree_0 rfl (lv_at hl 0 rfl) ?_
  refine lv_lload_n hx hb dn_d_Codes_digestOfThree_1 rfl (lv_at hl 1 rfl) ?_
  refine vp_callSl (va_Run.run (va_runS (As := [.long a, .long b]) (rest := []) ⟨hx, hb, hml, hown, hts⟩ (cc_dig2 l a b ) ⟨(callB_of 2 hts (dc_good dn_w_136) rfl rfl rfl (hts _ dn_w_8) (hts _ dn_w_134) (by decide +kernel) ⟨Nat.le_of_ble_eq_true rfl, Nat.le_of_ble_eq_true rfl⟩), (hts _ dn_w_135)⟩ preEq rfl rfl hl.1 rfl (lv_room (Nat.le_of_ble_eq_true rfl)) dn_d_Codes_digestOfThree_2 ⟨Nat.le_of_ble_eq_true rfl, Nat.le_of_ble_eq_true rfl⟩)) (fun r9 hr9 => ?_)
  subst hr9
  refine lv_lload hx hb dn_d_Codes_digestOfThree_5 (lv_at hl 2 rfl) ?_
  refine vp_callSl (va_Run.run (va_runS (As := [.long (dc_dig2 a b), .long c]) (rest := []) ⟨hx, hb, hml, hown, hts⟩ (cc_mix l (dc_dig2 a b) c ) ⟨(callB_of 2 hts (dc_good dn_w_140) rfl rfl rfl (hts _ dn_w_8) (hts _ dn_w_138) (by decide +kernel) ⟨Nat.le_of_ble_eq_true rfl, Nat.le_of_ble_eq_true rfl⟩), (hts _ dn_w_139)⟩ preEq rfl rfl hl.1 rfl (lv_room (Nat.le_of_ble_eq_true rfl)) dn_d_Codes_digestOfThree_7 ⟨Nat.le_of_ble_eq_true rfl, Nat.le_of_ble_eq_true rfl⟩)) (fun r9 hr9 => ?_)
  subst hr9
  exact W.lret (v := (dc_mix (dc_dig2 a b) c)) hx hb hr (fun t ht hW => ⟨_, rfl, (rfl), ht⟩) (fun q h => by cases h) dn_d_Codes_digestOfThree_10

set_option maxHeartbeats 4000000 in
set_option maxRecDepth 100000 in
theorem cc_scr (l : Launch) (k : Int64) (i : Int32) (x : Int32)  : Met l dn_y_Codes_scramble (.code dn_y_Codes_scramble dn_c_Codes_scramble 5 (some .int) :: dc_W) ({ frames := 0, cells := 0, slots := 0, locals := 0 }) (fun v _ => v = ([.long k, .int i, .int x] : List Value).toArray) (vp_Si (fun r => r = dc_scr k i x)) 0 0 (fun _ => False) := by
  refine Met.ofW (cc := dn_c_Codes_scramble) (maxL := 5) (ret := (some .int)) (by decide) rfl ?_
  intro p9 en9 s m args9 below9 meth9 cd9 s9 B hml hv
  obtain rfl := hv
  have hx := B.exec
  have hb := B.bytes
  have hr := B.returns
  have hts : ∀ w ∈ dc_W, w.before _ s = true := fun w h => atoms_spec (ws := (.code dn_y_Codes_scramble dn_c_Codes_scramble 5 (some .int) :: dc_W)) B.pre w (List.mem_cons_of_mem _ h)
  have hown : s.vm.findClass dn_R_Codes = some m.cls := findClass_of_methodNamed B.named
  have hlocks := B.notSynchronized
  have hl := lv_entry ([.long k, .int i, .int x]) (n := 5) (Nat.le_of_ble_eq_true rfl)
  rw [lg_entry_eq]
  generalize (lg_sl ([.long k, .int i, .int x]) ++ List.replicate (5 - (lg_sl ([.long k, .int i, .int x])).length) Slot.unset).toArray = ls at hl ⊢
  have hl : lv_has ls 5 [(0, .long k), (2, .int i), (3, .int x)] := hl
  refine lv_iload_n hx hb dn_d_Codes_scramble_0 rfl (lv_at hl 2 rfl) ?_
  refine lv_lload_n hx hb dn_d_Codes_scramble_1 rfl (lv_at hl 0 rfl) ?_
  refine lv_bipush (v := 8) hx hb dn_d_Codes_scramble_2 (by decide) ?_
  refine lv_iload_n hx hb dn_d_Codes_scramble_4 rfl (lv_at hl 1 rfl) ?_
  refine lv_imul hx hb dn_d_Codes_scramble_5 ?_
  refine lv_lushr (v := dc_ju k ((8 : Int32) * i)) hx hb dn_d_Codes_scramble_6 rfl ?_
  refine lv_lload_n hx hb dn_d_Codes_scramble_7 rfl (lv_at hl 0 rfl) ?_
  refine lv_bipush (v := 64) hx hb dn_d_Codes_scramble_8 (by decide) ?_
  refine lv_bipush (v := 8) hx hb dn_d_Codes_scramble_10 (by decide) ?_
  refine lv_iload_n hx hb dn_d_Codes_scramble_12 rfl (lv_at hl 1 rfl) ?_
  refine lv_imul hx hb dn_d_Codes_scramble_13 ?_
  refine lv_isub hx hb dn_d_Codes_scramble_14 ?_
  refine lv_lshl (v := dc_jl k ((64 : Int32) - ((8 : Int32) * i))) hx hb dn_d_Codes_scramble_15 rfl ?_
  refine lv_lor hx hb dn_d_Codes_scramble_16 ?_
  refine lv_l2i (v := ((dc_ju k ((8 : Int32) * i)) ||| (dc_jl k ((64 : Int32) - ((8 : Int32) * i)))).toInt32) hx hb dn_d_Codes_scramble_17 rfl ?_
  refine lv_iadd hx hb dn_d_Codes_scramble_18 ?_
  refine lv_istore hx hb dn_d_Codes_scramble_19 hl (by decide) rfl (fun ls hl => ?_)
  have hl : lv_has ls 5 [(4, .int (x + (((dc_ju k ((8 : Int32) * i)) ||| (dc_jl k ((64 : Int32) - ((8 : Int32) * i)))).toInt32))), (0, .long k), (2, .int i), (3, .int x)] := hl
  refine lv_iload hx hb dn_d_Codes_scramble_21 (lv_at hl 0 rfl) ?_
  refine lv_iconst (v := 4) hx hb dn_d_Codes_scramble_23 (by decide) ?_
  refine lv_ishl hx hb dn_d_Codes_scramble_24 ?_
  refine lv_iload hx hb dn_d_Codes_scramble_25 (lv_at hl 0 rfl) ?_
  refine lv_iconst (v := 5) hx hb dn_d_Codes_scramble_27 (by decide) ?_
  refine lv_iushr (v := dc_iu (x + (((dc_ju k ((8 : Int32) * i)) ||| (dc_jl k ((64 : Int32) - ((8 : Int32) * i)))).toInt32)) (5 : Int32)) hx hb dn_d_Codes_scramble_28 rfl ?_
  refine lv_ixor hx hb dn_d_Codes_scramble_29 ?_
  refine lv_iload hx hb dn_d_Codes_scramble_30 (lv_at hl 0 rfl) ?_
  refine lv_iadd hx hb dn_d_Codes_scramble_32 ?_
  refine lv_iload_n hx hb dn_d_Codes_scramble_33 rfl (lv_at hl 2 rfl) ?_
  refine lv_ldc (v := (-1640531527)) hx hb hown (hts _ dn_w_311) dn_d_Codes_scramble_34 ?_
  refine lv_imul hx hb dn_d_Codes_scramble_36 ?_
  refine lv_ixor hx hb dn_d_Codes_scramble_37 ?_
  exact W.iret (v := (((((x + (((dc_ju k ((8 : Int32) * i)) ||| (dc_jl k ((64 : Int32) - ((8 : Int32) * i)))).toInt32)) <<< ((4 : Int32) &&& 31)) ^^^ (dc_iu (x + (((dc_ju k ((8 : Int32) * i)) ||| (dc_jl k ((64 : Int32) - ((8 : Int32) * i)))).toInt32)) (5 : Int32))) + (x + (((dc_ju k ((8 : Int32) * i)) ||| (dc_jl k ((64 : Int32) - ((8 : Int32) * i)))).toInt32))) ^^^ (i * (-1640531527 : Int32)))) hx hb hr (fun t ht hW => ⟨_, rfl, (rfl), ht⟩) (fun q h => by cases h) dn_d_Codes_scramble_38

set_option maxHeartbeats 4000000 in
set_option maxRecDepth 100000 in
theorem cc_join (l : Launch) (a : Int64) (b : Int64)  : Met l dn_y_Codes_joined (.code dn_y_Codes_joined dn_c_Codes_joined 4 (some .long) :: dc_W) ({ frames := 0, cells := 0, slots := 0, locals := 0 }) (fun v _ => v = ([.long a, .long b] : List Value).toArray) (vp_Sl (fun r => r = dc_join a b)) 0 0 (fun _ => False) := by
  refine Met.ofW (cc := dn_c_Codes_joined) (maxL := 4) (ret := (some .long)) (by decide) rfl ?_
  intro p9 en9 s m args9 below9 meth9 cd9 s9 B hml hv
  obtain rfl := hv
  have hx := B.exec
  have hb := B.bytes
  have hr := B.returns
  have hts : ∀ w ∈ dc_W, w.before _ s = true := fun w h => atoms_spec (ws := (.code dn_y_Codes_joined dn_c_Codes_joined 4 (some .long) :: dc_W)) B.pre w (List.mem_cons_of_mem _ h)
  have hown : s.vm.findClass dn_R_Codes = some m.cls := findClass_of_methodNamed B.named
  have hlocks := B.notSynchronized
  have hl := lv_entry ([.long a, .long b]) (n := 4) (Nat.le_of_ble_eq_true rfl)
  rw [lg_entry_eq]
  generalize (lg_sl ([.long a, .long b]) ++ List.replicate (4 - (lg_sl ([.long a, .long b])).length) Slot.unset).toArray = ls at hl ⊢
  have hl : lv_has ls 4 [(0, .long a), (2, .long b)] := hl
  refine lv_lload_n hx hb dn_d_Codes_joined_0 rfl (lv_at hl 0 rfl) ?_
  refine lv_bipush (v := 32) hx hb dn_d_Codes_joined_1 (by decide) ?_
  refine lv_lshl (v := dc_jl a (32 : Int32)) hx hb dn_d_Codes_joined_3 rfl ?_
  refine lv_lload_n hx hb dn_d_Codes_joined_4 rfl (lv_at hl 1 rfl) ?_
  refine lv_ldc2 (v := 4294967295) hx hb hown (hts _ dn_w_315) dn_d_Codes_joined_5 ?_
  refine lv_land hx hb dn_d_Codes_joined_8 ?_
  refine lv_lor hx hb dn_d_Codes_joined_9 ?_
  exact W.lret (v := ((dc_jl a (32 : Int32)) ||| (b &&& (4294967295 : Int64)))) hx hb hr (fun t ht hW => ⟨_, rfl, (rfl), ht⟩) (fun q h => by cases h) dn_d_Codes_joined_10

set_option maxHeartbeats 4000000 in
set_option maxRecDepth 100000 in
theorem cc_enc (l : Launch) (k : Int64) (b : Int64)  : Met l dn_y_Codes_encipher (.code dn_y_Codes_encipher dn_c_Codes_encipher 8 (some .long) :: dc_W) ({ frames := 1, cells := 0, slots := 0, locals := 24 }) (fun v _ => v = ([.long k, .long b] : List Value).toArray) (vp_Sl (fun r => r = dc_enc k b)) 0 0 (fun _ => False) := by
  refine Met.ofW (cc := dn_c_Codes_encipher) (maxL := 8) (ret := (some .long)) (by decide) rfl ?_
  intro p9 en9 s m args9 below9 meth9 cd9 s9 B hml hv
  obtain rfl := hv
  have hx := B.exec
  have hb := B.bytes
  have hr := B.returns
  have hts : ∀ w ∈ dc_W, w.before _ s = true := fun w h => atoms_spec (ws := (.code dn_y_Codes_encipher dn_c_Codes_encipher 8 (some .long) :: dc_W)) B.pre w (List.mem_cons_of_mem _ h)
  have hown : s.vm.findClass dn_R_Codes = some m.cls := findClass_of_methodNamed B.named
  have hlocks := B.notSynchronized
  have hl := lv_entry ([.long k, .long b]) (n := 8) (Nat.le_of_ble_eq_true rfl)
  rw [lg_entry_eq]
  generalize (lg_sl ([.long k, .long b]) ++ List.replicate (8 - (lg_sl ([.long k, .long b])).length) Slot.unset).toArray = ls at hl ⊢
  have hl : lv_has ls 8 [(0, .long k), (2, .long b)] := hl
  refine lv_lload_n hx hb dn_d_Codes_encipher_0 rfl (lv_at hl 1 rfl) ?_
  refine lv_bipush (v := 32) hx hb dn_d_Codes_encipher_1 (by decide) ?_
  refine lv_lushr (v := dc_ju b (32 : Int32)) hx hb dn_d_Codes_encipher_3 rfl ?_
  refine lv_l2i (v := (dc_ju b (32 : Int32)).toInt32) hx hb dn_d_Codes_encipher_4 rfl ?_
  refine lv_istore hx hb dn_d_Codes_encipher_5 hl (by decide) rfl (fun ls hl => ?_)
  have hl : lv_has ls 8 [(4, .int ((dc_ju b (32 : Int32)).toInt32)), (0, .long k), (2, .long b)] := hl
  refine lv_lload_n hx hb dn_d_Codes_encipher_7 rfl (lv_at hl 2 rfl) ?_
  refine lv_l2i (v := b.toInt32) hx hb dn_d_Codes_encipher_8 rfl ?_
  refine lv_istore hx hb dn_d_Codes_encipher_9 hl (by decide) rfl (fun ls hl => ?_)
  have hl : lv_has ls 8 [(5, .int b.toInt32), (4, .int ((dc_ju b (32 : Int32)).toInt32)), (0, .long k), (2, .long b)] := hl
  refine lv_iconst (v := 0) hx hb dn_d_Codes_encipher_11 (by decide) ?_
  refine lv_istore hx hb dn_d_Codes_encipher_12 hl (by decide) rfl (fun ls hl => ?_)
  have hl : lv_has ls 8 [(6, .int 0), (5, .int b.toInt32), (4, .int ((dc_ju b (32 : Int32)).toInt32)), (0, .long k), (2, .long b)] := hl
  refine dc_loop (σ := Nat) 14 [] (fun (i : Nat) => 8 - i) (fun (i : Nat) (H : Heap) (locs : List Loc) (ls : Array Slot) => lv_has ls 8 [(6, .int (nI i)), (5, .int ((dc_encL k b i).2)), (4, .int ((dc_encL k b i).1)), (0, .long k), (2, .long b)] ∧ H = s.heap ∧ locs = [] ∧ (i ≤ 8)) ?_ 0 ⟨lv_sub hl [0, 1, 2, 3, 4] rfl, rfl, rfl, (by omega)⟩
  rintro i H locs ls ⟨hl, rfl, rfl, hi⟩ ih14
  have hl : lv_has ls 8 [(6, .int (nI i)), (5, .int ((dc_encL k b i).2)), (4, .int ((dc_encL k b i).1)), (0, .long k), (2, .long b)] := hl
  refine lv_iload hx hb dn_d_Codes_encipher_14 (lv_at hl 0 rfl) ?_
  refine lv_bipush (v := 8) hx hb dn_d_Codes_encipher_16 (by decide) ?_
  refine lv_icmp_ge (tgt := 48) hx hb dn_d_Codes_encipher_18 (by decide) (fun h18 => ?_) (fun h18 => ?_)
  · -- 18: 8 ≤ i
    have h18 : 8 ≤ i := (nI_leI (a := 8) (b := i) (by omega) (by omega)).1 h18
    refine lv_iload hx hb dn_d_Codes_encipher_48 (lv_at hl 2 rfl) ?_
    refine lv_i2l (v := ((dc_encL k b i).1).toInt64) hx hb dn_d_Codes_encipher_50 rfl ?_
    refine lv_iload hx hb dn_d_Codes_encipher_51 (lv_at hl 1 rfl) ?_
    refine lv_i2l (v := ((dc_encL k b i).2).toInt64) hx hb dn_d_Codes_encipher_53 rfl ?_
    refine vp_callSl (va_Run.run (va_runS (As := [.long (((dc_encL k b i).1).toInt64), .long (((dc_encL k b i).2).toInt64)]) (rest := []) ⟨hx, hb, hml, hown, hts⟩ (cc_join l (((dc_encL k b i).1).toInt64) (((dc_encL k b i).2).toInt64) ) ⟨(callB_of 2 hts (dc_good dn_w_314) rfl rfl rfl (hts _ dn_w_8) (hts _ dn_w_312) (by decide +kernel) ⟨Nat.le_of_ble_eq_true rfl, Nat.le_of_ble_eq_true rfl⟩), (hts _ dn_w_313)⟩ preEq rfl rfl hl.1 rfl (lv_room (Nat.le_of_ble_eq_true rfl)) dn_d_Codes_encipher_54 ⟨Nat.le_of_ble_eq_true rfl, Nat.le_of_ble_eq_true rfl⟩)) (fun r9 hr9 => ?_)
    subst hr9
    exact W.lret (v := (dc_join (((dc_encL k b i).1).toInt64) (((dc_encL k b i).2).toInt64))) hx hb hr (fun t ht hW => ⟨_, rfl, (by rw [show i = 8 by omega]; rfl), ht⟩) (fun q h => by cases h) dn_d_Codes_encipher_57
  · -- 18: ¬ 8 ≤ i
    have h18 : ¬ 8 ≤ i := fun z => h18 ((nI_leI (a := 8) (b := i) (by omega) (by omega)).2 z)
    refine lv_iload hx hb dn_d_Codes_encipher_21 (lv_at hl 2 rfl) ?_
    refine lv_lload_n hx hb dn_d_Codes_encipher_23 rfl (lv_at hl 3 rfl) ?_
    refine lv_iload hx hb dn_d_Codes_encipher_24 (lv_at hl 0 rfl) ?_
    refine lv_iload hx hb dn_d_Codes_encipher_26 (lv_at hl 1 rfl) ?_
    refine vp_callSi (va_Run.run (va_runS (As := [.long k, .int (nI i), .int ((dc_encL k b i).2)]) (rest := [.int ((dc_encL k b i).1)]) ⟨hx, hb, hml, hown, hts⟩ (cc_scr l k (nI i) ((dc_encL k b i).2) ) ⟨(callB_of 3 hts (dc_good dn_w_310) rfl rfl rfl (hts _ dn_w_8) (hts _ dn_w_308) (by decide +kernel) ⟨Nat.le_of_ble_eq_true rfl, Nat.le_of_ble_eq_true rfl⟩), (hts _ dn_w_309)⟩ preEq rfl rfl hl.1 rfl (lv_room (Nat.le_of_ble_eq_true rfl)) dn_d_Codes_encipher_28 ⟨Nat.le_of_ble_eq_true rfl, Nat.le_of_ble_eq_true rfl⟩)) (fun r9 hr9 => ?_)
    subst hr9
    refine lv_ixor hx hb dn_d_Codes_encipher_31 ?_
    refine lv_istore hx hb dn_d_Codes_encipher_32 hl (by decide) rfl (fun ls hl => ?_)
    have hl : lv_has ls 8 [(7, .int (((dc_encL k b i).1) ^^^ (dc_scr k (nI i) ((dc_encL k b i).2)))), (6, .int (nI i)), (5, .int ((dc_encL k b i).2)), (4, .int ((dc_encL k b i).1)), (0, .long k), (2, .long b)] := hl
    refine lv_iload hx hb dn_d_Codes_encipher_34 (lv_at hl 2 rfl) ?_
    refine lv_istore hx hb dn_d_Codes_encipher_36 hl (by decide) rfl (fun ls hl => ?_)
    have hl : lv_has ls 8 [(4, .int ((dc_encL k b i).2)), (7, .int (((dc_encL k b i).1) ^^^ (dc_scr k (nI i) ((dc_encL k b i).2)))), (6, .int (nI i)), (5, .int ((dc_encL k b i).2)), (0, .long k), (2, .long b)] := hl
    refine lv_iload hx hb dn_d_Codes_encipher_38 (lv_at hl 1 rfl) ?_
    refine lv_istore hx hb dn_d_Codes_encipher_40 hl (by decide) rfl (fun ls hl => ?_)
    have hl : lv_has ls 8 [(5, .int (((dc_encL k b i).1) ^^^ (dc_scr k (nI i) ((dc_encL k b i).2)))), (4, .int ((dc_encL k b i).2)), (7, .int (((dc_encL k b i).1) ^^^ (dc_scr k (nI i) ((dc_encL k b i).2)))), (6, .int (nI i)), (0, .long k), (2, .long b)] := hl
    refine lv_iinc (k := 3) (v := nI (i + 1)) hx hb dn_d_Codes_encipher_42 hl rfl (dc_inc1 _) (by decide) rfl (fun ls hl => ?_)
    have hl : lv_has ls 8 [(6, .int (nI (i + 1))), (5, .int (((dc_encL k b i).1) ^^^ (dc_scr k (nI i) ((dc_encL k b i).2)))), (4, .int ((dc_encL k b i).2)), (7, .int (((dc_encL k b i).1) ^^^ (dc_scr k (nI i) ((dc_encL k b i).2)))), (0, .long k), (2, .long b)] := hl
    refine lv_goto (tgt := 14) hx hb dn_d_Codes_encipher_45 (by decide) ?_
    exact ih14 (i + 1) _ _ _ (by first | omega | (dsimp only; omega)) ⟨lv_sub hl [0, 1, 2, 4, 5] rfl, rfl, rfl, (by omega)⟩

set_option maxHeartbeats 4000000 in
set_option maxRecDepth 100000 in
theorem cc_dec (l : Launch) (k : Int64) (b : Int64)  : Met l dn_y_Codes_decipher (.code dn_y_Codes_decipher dn_c_Codes_decipher 8 (some .long) :: dc_W) ({ frames := 1, cells := 0, slots := 0, locals := 24 }) (fun v _ => v = ([.long k, .long b] : List Value).toArray) (vp_Sl (fun r => r = dc_dec k b)) 0 0 (fun _ => False) := by
  refine Met.ofW (cc := dn_c_Codes_decipher) (maxL := 8) (ret := (some .long)) (by decide) rfl ?_
  intro p9 en9 s m args9 below9 meth9 cd9 s9 B hml hv
  obtain rfl := hv
  have hx := B.exec
  have hb := B.bytes
  have hr := B.returns
  have hts : ∀ w ∈ dc_W, w.before _ s = true := fun w h => atoms_spec (ws := (.code dn_y_Codes_decipher dn_c_Codes_decipher 8 (some .long) :: dc_W)) B.pre w (List.mem_cons_of_mem _ h)
  have hown : s.vm.findClass dn_R_Codes = some m.cls := findClass_of_methodNamed B.named
  have hlocks := B.notSynchronized
  have hl := lv_entry ([.long k, .long b]) (n := 8) (Nat.le_of_ble_eq_true rfl)
  rw [lg_entry_eq]
  generalize (lg_sl ([.long k, .long b]) ++ List.replicate (8 - (lg_sl ([.long k, .long b])).length) Slot.unset).toArray = ls at hl ⊢
  have hl : lv_has ls 8 [(0, .long k), (2, .long b)] := hl
  refine lv_lload_n hx hb dn_d_Codes_decipher_0 rfl (lv_at hl 1 rfl) ?_
  refine lv_bipush (v := 32) hx hb dn_d_Codes_decipher_1 (by decide) ?_
  refine lv_lushr (v := dc_ju b (32 : Int32)) hx hb dn_d_Codes_decipher_3 rfl ?_
  refine lv_l2i (v := (dc_ju b (32 : Int32)).toInt32) hx hb dn_d_Codes_decipher_4 rfl ?_
  refine lv_istore hx hb dn_d_Codes_decipher_5 hl (by decide) rfl (fun ls hl => ?_)
  have hl : lv_has ls 8 [(4, .int ((dc_ju b (32 : Int32)).toInt32)), (0, .long k), (2, .long b)] := hl
  refine lv_lload_n hx hb dn_d_Codes_decipher_7 rfl (lv_at hl 2 rfl) ?_
  refine lv_l2i (v := b.toInt32) hx hb dn_d_Codes_decipher_8 rfl ?_
  refine lv_istore hx hb dn_d_Codes_decipher_9 hl (by decide) rfl (fun ls hl => ?_)
  have hl : lv_has ls 8 [(5, .int b.toInt32), (4, .int ((dc_ju b (32 : Int32)).toInt32)), (0, .long k), (2, .long b)] := hl
  refine lv_bipush (v := 7) hx hb dn_d_Codes_decipher_11 (by decide) ?_
  refine lv_istore hx hb dn_d_Codes_decipher_13 hl (by decide) rfl (fun ls hl => ?_)
  have hl : lv_has ls 8 [(6, .int 7), (5, .int b.toInt32), (4, .int ((dc_ju b (32 : Int32)).toInt32)), (0, .long k), (2, .long b)] := hl
  refine dc_loop (σ := Nat × Int32 × Int32) 15 [] (fun (x9 : Nat × Int32 × Int32) => match x9 with | (j, lf, rt) => j) (fun (x9 : Nat × Int32 × Int32) (H : Heap) (locs : List Loc) (ls : Array Slot) => match x9 with | (j, lf, rt) => lv_has ls 8 [(6, .int (dc_dn j)), (5, .int rt), (4, .int lf), (0, .long k), (2, .long b)] ∧ H = s.heap ∧ locs = [] ∧ (j ≤ 8) ∧ (dc_decR k j lf rt = dc_dec k b)) ?_ (8, (dc_ju b (32 : Int32)).toInt32, b.toInt32) ⟨lv_sub hl [0, 1, 2, 3, 4] rfl, rfl, rfl, (by omega), (rfl)⟩
  rintro ⟨j, lf, rt⟩ H locs ls ⟨hl, rfl, rfl, hj, hi⟩ ih15
  have hl : lv_has ls 8 [(6, .int (dc_dn j)), (5, .int rt), (4, .int lf), (0, .long k), (2, .long b)] := hl
  rcases j with _ | j
  ·
    have hl : lv_has ls 8 [(6, .int (-1)), (5, .int rt), (4, .int lf), (0, .long k), (2, .long b)] := hl
    refine lv_iload hx hb dn_d_Codes_decipher_15 (lv_at hl 0 rfl) ?_
    refine lv_if_lt (tgt := 47) hx hb dn_d_Codes_decipher_17 (by decide) (fun h17 => ?_) (fun h17 => ?_)
    · -- 17: (-1) < 0
      refine lv_iload hx hb dn_d_Codes_decipher_47 (lv_at hl 2 rfl) ?_
      refine lv_i2l (v := lf.toInt64) hx hb dn_d_Codes_decipher_49 rfl ?_
      refine lv_iload hx hb dn_d_Codes_decipher_50 (lv_at hl 1 rfl) ?_
      refine lv_i2l (v := rt.toInt64) hx hb dn_d_Codes_decipher_52 rfl ?_
      refine vp_callSl (va_Run.run (va_runS (As := [.long lf.toInt64, .long rt.toInt64]) (rest := []) ⟨hx, hb, hml, hown, hts⟩ (cc_join l lf.toInt64 rt.toInt64 ) ⟨(callB_of 2 hts (dc_good dn_w_314) rfl rfl rfl (hts _ dn_w_8) (hts _ dn_w_312) (by decide +kernel) ⟨Nat.le_of_ble_eq_true rfl, Nat.le_of_ble_eq_true rfl⟩), (hts _ dn_w_313)⟩ preEq rfl rfl hl.1 rfl (lv_room (Nat.le_of_ble_eq_true rfl)) dn_d_Codes_decipher_53 ⟨Nat.le_of_ble_eq_true rfl, Nat.le_of_ble_eq_true rfl⟩)) (fun r9 hr9 => ?_)
      subst hr9
      exact W.lret (v := (dc_join lf.toInt64 rt.toInt64)) hx hb hr (fun t ht hW => ⟨_, rfl, (hi), ht⟩) (fun q h => by cases h) dn_d_Codes_decipher_56
    · exact absurd h17 (by decide)
  ·
    have hl : lv_has ls 8 [(6, .int (nI j)), (5, .int rt), (4, .int lf), (0, .long k), (2, .long b)] := hl
    refine lv_iload hx hb dn_d_Codes_decipher_15 (lv_at hl 0 rfl) ?_
    refine lv_if_lt (tgt := 47) hx hb dn_d_Codes_decipher_17 (by decide) (fun h17 => ?_) (fun h17 => ?_)
    · exact absurd (show j < 0 from (nI_ltI (a := j) (b := 0) (by omega) (by omega)).1 h17) (by omega)
    · -- 17: ¬ j < 0
      have h17 : ¬ j < 0 := fun z => h17 ((nI_ltI (a := j) (b := 0) (by omega) (by omega)).2 z)
      refine lv_iload hx hb dn_d_Codes_decipher_20 (lv_at hl 1 rfl) ?_
      refine lv_lload_n hx hb dn_d_Codes_decipher_22 rfl (lv_at hl 3 rfl) ?_
      refine lv_iload hx hb dn_d_Codes_decipher_23 (lv_at hl 0 rfl) ?_
      refine lv_iload hx hb dn_d_Codes_decipher_25 (lv_at hl 2 rfl) ?_
      refine vp_callSi (va_Run.run (va_runS (As := [.long k, .int (nI j), .int lf]) (rest := [.int rt]) ⟨hx, hb, hml, hown, hts⟩ (cc_scr l k (nI j) lf ) ⟨(callB_of 3 hts (dc_good dn_w_310) rfl rfl rfl (hts _ dn_w_8) (hts _ dn_w_308) (by decide +kernel) ⟨Nat.le_of_ble_eq_true rfl, Nat.le_of_ble_eq_true rfl⟩), (hts _ dn_w_309)⟩ preEq rfl rfl hl.1 rfl (lv_room (Nat.le_of_ble_eq_true rfl)) dn_d_Codes_decipher_27 ⟨Nat.le_of_ble_eq_true rfl, Nat.le_of_ble_eq_true rfl⟩)) (fun r9 hr9 => ?_)
      subst hr9
      refine lv_ixor hx hb dn_d_Codes_decipher_30 ?_
      refine lv_istore hx hb dn_d_Codes_decipher_31 hl (by decide) rfl (fun ls hl => ?_)
      have hl : lv_has ls 8 [(7, .int (rt ^^^ (dc_scr k (nI j) lf))), (6, .int (nI j)), (5, .int rt), (4, .int lf), (0, .long k), (2, .long b)] := hl
      refine lv_iload hx hb dn_d_Codes_decipher_33 (lv_at hl 3 rfl) ?_
      refine lv_istore hx hb dn_d_Codes_decipher_35 hl (by decide) rfl (fun ls hl => ?_)
      have hl : lv_has ls 8 [(5, .int lf), (7, .int (rt ^^^ (dc_scr k (nI j) lf))), (6, .int (nI j)), (4, .int lf), (0, .long k), (2, .long b)] := hl
      refine lv_iload hx hb dn_d_Codes_decipher_37 (lv_at hl 1 rfl) ?_
      refine lv_istore hx hb dn_d_Codes_decipher_39 hl (by decide) rfl (fun ls hl => ?_)
      have hl : lv_has ls 8 [(4, .int (rt ^^^ (dc_scr k (nI j) lf))), (5, .int lf), (7, .int (rt ^^^ (dc_scr k (nI j) lf))), (6, .int (nI j)), (0, .long k), (2, .long b)] := hl
      refine lv_iinc (k := 3) (v := dc_dn j) hx hb dn_d_Codes_decipher_41 hl rfl (dc_dnp _) (by decide) rfl (fun ls hl => ?_)
      have hl : lv_has ls 8 [(6, .int (dc_dn j)), (4, .int (rt ^^^ (dc_scr k (nI j) lf))), (5, .int lf), (7, .int (rt ^^^ (dc_scr k (nI j) lf))), (0, .long k), (2, .long b)] := hl
      refine lv_goto (tgt := 15) hx hb dn_d_Codes_decipher_44 (by decide) ?_
      exact ih15 (j, rt ^^^ (dc_scr k (nI j) lf), lf) _ _ _ (by first | omega | (dsimp only; omega)) ⟨lv_sub hl [0, 2, 1, 4, 5] rfl, rfl, rfl, (by omega), (hi)⟩

set_option maxHeartbeats 4000000 in
set_option maxRecDepth 100000 in
theorem cc_seal3 (l : Launch) (k : Int64) (a : Int64) (b : Int64) (c : Int64)  : Met l dn_y_Codes_sealOfThree (.code dn_y_Codes_sealOfThree dn_c_Codes_sealOfThree 8 (some .long) :: dc_W) ({ frames := 2, cells := 0, slots := 0, locals := 51 }) (fun v _ => v = ([.long k, .long a, .long b, .long c] : List Value).toArray) (vp_Sl (fun r => r = dc_seal3 k a b c)) 0 0 (fun _ => False) := by
  refine Met.ofW (cc := dn_c_Codes_sealOfThree) (maxL := 8) (ret := (some .long)) (by decide) rfl ?_
  intro p9 en9 s m args9 below9 meth9 cd9 s9 B hml hv
  obtain rfl := hv
  have hx := B.exec
  have hb := B.bytes
  have hr := B.returns
  have hts : ∀ w ∈ dc_W, w.before _ s = true := fun w h => atoms_spec (ws := (.code dn_y_Codes_sealOfThree dn_c_Codes_sealOfThree 8 (some .long) :: dc_W)) B.pre w (List.mem_cons_of_mem _ h)
  have hown : s.vm.findClass dn_R_Codes = some m.cls := findClass_of_methodNamed B.named
  have hlocks := B.notSynchronized
  have hl := lv_entry ([.long k, .long a, .long b, .long c]) (n := 8) (Nat.le_of_ble_eq_true rfl)
  rw [lg_entry_eq]
  generalize (lg_sl ([.long k, .long a, .long b, .long c]) ++ List.replicate (8 - (lg_sl ([.long k, .long a, .long b, .long c])).length) Slot.unset).toArray = ls at hl ⊢
  have hl : lv_has ls 8 [(0, .long k), (2, .long a), (4, .long b), (6, .long c)] := hl
  refine lv_lload_n hx hb dn_d_Codes_sealOfThree_0 rfl (lv_at hl 0 rfl) ?_
  refine lv_lload_n hx hb dn_d_Codes_sealOfThree_1 rfl (lv_at hl 0 rfl) ?_
  refine lv_lload_n hx hb dn_d_Codes_sealOfThree_2 rfl (lv_at hl 0 rfl) ?_
  refine lv_lload_n hx hb dn_d_Codes_sealOfThree_3 rfl (lv_at hl 1 rfl) ?_
  refine vp_callSl (va_Run.run (va_runS (As := [.long k, .long a]) (rest := [.long k, .long k]) ⟨hx, hb, hml, hown, hts⟩ (cc_enc l k a ) ⟨(callB_of 2 hts (dc_good dn_w_307) rfl rfl rfl (hts _ dn_w_8) (hts _ dn_w_434) (by decide +kernel) ⟨Nat.le_of_ble_eq_true rfl, Nat.le_of_ble_eq_true rfl⟩), (hts _ dn_w_306)⟩ preEq rfl rfl hl.1 rfl (lv_room (Nat.le_of_ble_eq_true rfl)) dn_d_Codes_sealOfThree_4 ⟨Nat.le_of_ble_eq_true rfl, Nat.le_of_ble_eq_true rfl⟩)) (fun r9 hr9 => ?_)
  subst hr9
  refine lv_lload hx hb dn_d_Codes_sealOfThree_7 (lv_at hl 2 rfl) ?_
  refine lv_lxor hx hb dn_d_Codes_sealOfThree_9 ?_
  refine vp_callSl (va_Run.run (va_runS (As := [.long k, .long ((dc_enc k a) ^^^ b)]) (rest := [.long k]) ⟨hx, hb, hml, hown, hts⟩ (cc_enc l k ((dc_enc k a) ^^^ b) ) ⟨(callB_of 2 hts (dc_good dn_w_307) rfl rfl rfl (hts _ dn_w_8) (hts _ dn_w_434) (by decide +kernel) ⟨Nat.le_of_ble_eq_true rfl, Nat.le_of_ble_eq_true rfl⟩), (hts _ dn_w_306)⟩ preEq rfl rfl hl.1 rfl (lv_room (Nat.le_of_ble_eq_true rfl)) dn_d_Codes_sealOfThree_10 ⟨Nat.le_of_ble_eq_true rfl, Nat.le_of_ble_eq_true rfl⟩)) (fun r9 hr9 => ?_)
  subst hr9
  refine lv_lload hx hb dn_d_Codes_sealOfThree_13 (lv_at hl 3 rfl) ?_
  refine lv_lxor hx hb dn_d_Codes_sealOfThree_15 ?_
  refine vp_callSl (va_Run.run (va_runS (As := [.long k, .long ((dc_enc k ((dc_enc k a) ^^^ b)) ^^^ c)]) (rest := []) ⟨hx, hb, hml, hown, hts⟩ (cc_enc l k ((dc_enc k ((dc_enc k a) ^^^ b)) ^^^ c) ) ⟨(callB_of 2 hts (dc_good dn_w_307) rfl rfl rfl (hts _ dn_w_8) (hts _ dn_w_434) (by decide +kernel) ⟨Nat.le_of_ble_eq_true rfl, Nat.le_of_ble_eq_true rfl⟩), (hts _ dn_w_306)⟩ preEq rfl rfl hl.1 rfl (lv_room (Nat.le_of_ble_eq_true rfl)) dn_d_Codes_sealOfThree_16 ⟨Nat.le_of_ble_eq_true rfl, Nat.le_of_ble_eq_true rfl⟩)) (fun r9 hr9 => ?_)
  subst hr9
  exact W.lret (v := (dc_enc k ((dc_enc k ((dc_enc k a) ^^^ b)) ^^^ c))) hx hb hr (fun t ht hW => ⟨_, rfl, (rfl), ht⟩) (fun q h => by cases h) dn_d_Codes_sealOfThree_19

set_option maxHeartbeats 4000000 in
set_option maxRecDepth 100000 in
theorem cc_isField (l : Launch) (i : Int32)  : Met l dn_y_Line_isField (.code dn_y_Line_isField dn_c_Line_isField 1 (some .boolean) :: dc_W) ({ frames := 0, cells := 0, slots := 0, locals := 0 }) (fun v _ => v = ([.int i] : List Value).toArray) (vp_Si (fun r => r = dc_bI (dc_has 3 i))) 0 0 (fun _ => False) := by
  refine Met.ofW (cc := dn_c_Line_isField) (maxL := 1) (ret := (some .boolean)) (by decide) rfl ?_
  intro p9 en9 s m args9 below9 meth9 cd9 s9 B hml hv
  obtain rfl := hv
  have hx := B.exec
  have hb := B.bytes
  have hr := B.returns
  have hts : ∀ w ∈ dc_W, w.before _ s = true := fun w h => atoms_spec (ws := (.code dn_y_Line_isField dn_c_Line_isField 1 (some .boolean) :: dc_W)) B.pre w (List.mem_cons_of_mem _ h)
  have hown : s.vm.findClass dn_R_Line = some m.cls := findClass_of_methodNamed B.named
  have hlocks := B.notSynchronized
  have hl := lv_entry ([.int i]) (n := 1) (Nat.le_of_ble_eq_true rfl)
  rw [lg_entry_eq]
  generalize (lg_sl ([.int i]) ++ List.replicate (1 - (lg_sl ([.int i])).length) Slot.unset).toArray = ls at hl ⊢
  have hl : lv_has ls 1 [(0, .int i)] := hl
  refine lv_iload_n hx hb dn_d_Line_isField_0 rfl (lv_at hl 0 rfl) ?_
  refine lv_if_lt (tgt := 13) hx hb dn_d_Line_isField_1 (by decide) (fun h1 => ?_) (fun h1 => ?_)
  · -- 1: i < 0
    refine lv_iconst (v := 0) hx hb dn_d_Line_isField_13 (by decide) ?_
    exact W.zret (ty := .boolean) (v := 0) hx hb hr (rfl) (fun t ht hW => ⟨_, rfl, (by rw [dc_has0 (n := 3) h1]; rfl), ht⟩) (fun q h => by cases h) dn_d_Line_isField_14
  · -- 1: ¬ i < 0
    refine lv_iload_n hx hb dn_d_Line_isField_4 rfl (lv_at hl 0 rfl) ?_
    refine lv_iconst (v := 3) hx hb dn_d_Line_isField_5 (by decide) ?_
    refine lv_icmp_ge (tgt := 13) hx hb dn_d_Line_isField_6 (by decide) (fun h6 => ?_) (fun h6 => ?_)
    · -- 6: 3 ≤ i
      refine lv_iconst (v := 0) hx hb dn_d_Line_isField_13 (by decide) ?_
      exact W.zret (ty := .boolean) (v := 0) hx hb hr (rfl) (fun t ht hW => ⟨_, rfl, (by rw [dc_has1 (n := 3) (by decide) h6]; rfl), ht⟩) (fun q h => by cases h) dn_d_Line_isField_14
    · -- 6: ¬ 3 ≤ i
      refine lv_iconst (v := 1) hx hb dn_d_Line_isField_9 (by decide) ?_
      refine lv_goto (tgt := 14) hx hb dn_d_Line_isField_10 (by decide) ?_
      exact W.zret (ty := .boolean) (v := 1) hx hb hr (rfl) (fun t ht hW => ⟨_, rfl, (by rw [dc_has2 (n := 3) (by decide) h1 h6]; rfl), ht⟩) (fun q h => by cases h) dn_d_Line_isField_14

set_option maxHeartbeats 4000000 in
set_option maxRecDepth 100000 in
theorem cc_isFile (l : Launch) (x : Int64)  : Met l dn_y_Doc_isFile (.code dn_y_Doc_isFile dn_c_Doc_isFile 2 (some .boolean) :: dc_W) ({ frames := 0, cells := 0, slots := 0, locals := 0 }) (fun v _ => v = ([.long x] : List Value).toArray) (vp_Si (fun r => r = dc_bI (dc_isFile x))) 0 0 (fun _ => False) := by
  refine Met.ofW (cc := dn_c_Doc_isFile) (maxL := 2) (ret := (some .boolean)) (by decide) rfl ?_
  intro p9 en9 s m args9 below9 meth9 cd9 s9 B hml hv
  obtain rfl := hv
  have hx := B.exec
  have hb := B.bytes
  have hr := B.returns
  have hts : ∀ w ∈ dc_W, w.before _ s = true := fun w h => atoms_spec (ws := (.code dn_y_Doc_isFile dn_c_Doc_isFile 2 (some .boolean) :: dc_W)) B.pre w (List.mem_cons_of_mem _ h)
  have hown : s.vm.findClass dn_R_Doc = some m.cls := findClass_of_methodNamed B.named
  have hlocks := B.notSynchronized
  have hl := lv_entry ([.long x]) (n := 2) (Nat.le_of_ble_eq_true rfl)
  rw [lg_entry_eq]
  generalize (lg_sl ([.long x]) ++ List.replicate (2 - (lg_sl ([.long x])).length) Slot.unset).toArray = ls at hl ⊢
  have hl : lv_has ls 2 [(0, .long x)] := hl
  refine lv_lload_n hx hb dn_d_Doc_isFile_0 rfl (lv_at hl 0 rfl) ?_
  refine lv_lconst (v := 0) hx hb dn_d_Doc_isFile_1 (by decide) ?_
  refine W.lcmp hx hb dn_d_Doc_isFile_2 ?_
  refine lv_if_lt (tgt := 18) hx hb dn_d_Doc_isFile_3 (by decide) (fun h3 => ?_) (fun h3 => ?_)
  · -- 3: x < 0
    have h3 : x < 0 := (lg_cmp_lt x 0).1 h3
    refine lv_iconst (v := 0) hx hb dn_d_Doc_isFile_18 (by decide) ?_
    exact W.zret (ty := .boolean) (v := 0) hx hb hr (rfl) (fun t ht hW => ⟨_, rfl, (by rw [show dc_isFile x = false from decide_eq_false (fun z9 => z9.1 h3)]; rfl), ht⟩) (fun q h => by cases h) dn_d_Doc_isFile_19
  · -- 3: ¬ x < 0
    have h3 : ¬ x < 0 := fun z => h3 ((lg_cmp_lt x 0).2 z)
    refine lv_lload_n hx hb dn_d_Doc_isFile_6 rfl (lv_at hl 0 rfl) ?_
    refine lv_ldc2 (v := 4) hx hb hown (hts _ dn_w_509) dn_d_Doc_isFile_7 ?_
    refine W.lcmp hx hb dn_d_Doc_isFile_10 ?_
    refine lv_if_ge (tgt := 18) hx hb dn_d_Doc_isFile_11 (by decide) (fun h11 => ?_) (fun h11 => ?_)
    · -- 11: 4 ≤ x
      have h11 : 4 ≤ x := (lg_cmp_ge x 4).1 h11
      refine lv_iconst (v := 0) hx hb dn_d_Doc_isFile_18 (by decide) ?_
      exact W.zret (ty := .boolean) (v := 0) hx hb hr (rfl) (fun t ht hW => ⟨_, rfl, (by rw [show dc_isFile x = false from decide_eq_false (fun z9 => Int64.not_le.mpr z9.2 h11)]; rfl), ht⟩) (fun q h => by cases h) dn_d_Doc_isFile_19
    · -- 11: ¬ 4 ≤ x
      have h11 : ¬ 4 ≤ x := fun z => h11 ((lg_cmp_ge x 4).2 z)
      refine lv_iconst (v := 1) hx hb dn_d_Doc_isFile_14 (by decide) ?_
      refine lv_goto (tgt := 19) hx hb dn_d_Doc_isFile_15 (by decide) ?_
      exact W.zret (ty := .boolean) (v := 1) hx hb hr (rfl) (fun t ht hW => ⟨_, rfl, (by rw [show dc_isFile x = true from decide_eq_true ⟨h3, Int64.not_le.mp h11⟩]; rfl), ht⟩) (fun q h => by cases h) dn_d_Doc_isFile_19

set_option maxHeartbeats 4000000 in
set_option maxRecDepth 100000 in
theorem cc_power (l : Launch) (b : Int64) (e9 : Int32) (mm : Int32) (hm : ¬ mm.toInt64 = 0) : Met l dn_y_Signers_power (.code dn_y_Signers_power dn_c_Signers_power 7 (some .long) :: dc_W) ({ frames := 0, cells := 0, slots := 0, locals := 0 }) (fun v _ => v = ([.long b, .int e9, .int mm] : List Value).toArray) (vp_Sl (fun r => r = dc_powR b e9 mm 17 1)) 0 0 (fun _ => False) := by
  refine Met.ofW (cc := dn_c_Signers_power) (maxL := 7) (ret := (some .long)) (by decide) rfl ?_
  intro p9 en9 s m args9 below9 meth9 cd9 s9 B hml hv
  obtain rfl := hv
  have hx := B.exec
  have hb := B.bytes
  have hr := B.returns
  have hts : ∀ w ∈ dc_W, w.before _ s = true := fun w h => atoms_spec (ws := (.code dn_y_Signers_power dn_c_Signers_power 7 (some .long) :: dc_W)) B.pre w (List.mem_cons_of_mem _ h)
  have hown : s.vm.findClass dn_R_Signers = some m.cls := findClass_of_methodNamed B.named
  have hlocks := B.notSynchronized
  have hl := lv_entry ([.long b, .int e9, .int mm]) (n := 7) (Nat.le_of_ble_eq_true rfl)
  rw [lg_entry_eq]
  generalize (lg_sl ([.long b, .int e9, .int mm]) ++ List.replicate (7 - (lg_sl ([.long b, .int e9, .int mm])).length) Slot.unset).toArray = ls at hl ⊢
  have hl : lv_has ls 7 [(0, .long b), (2, .int e9), (3, .int mm)] := hl
  refine lv_lconst (v := 1) hx hb dn_d_Signers_power_0 (by decide) ?_
  refine lv_lstore hx hb dn_d_Signers_power_1 hl (by decide) rfl (fun ls hl => ?_)
  have hl : lv_has ls 7 [(4, .long 1), (0, .long b), (2, .int e9), (3, .int mm)] := hl
  refine lv_bipush (v := 16) hx hb dn_d_Signers_power_3 (by decide) ?_
  refine lv_istore hx hb dn_d_Signers_power_5 hl (by decide) rfl (fun ls hl => ?_)
  have hl : lv_has ls 7 [(6, .int 16), (4, .long 1), (0, .long b), (2, .int e9), (3, .int mm)] := hl
  refine dc_loop (σ := Nat × Int64) 7 [] (fun (x9 : Nat × Int64) => match x9 with | (j, x) => j) (fun (x9 : Nat × Int64) (H : Heap) (locs : List Loc) (ls : Array Slot) => match x9 with | (j, x) => lv_has ls 7 [(6, .int (dc_dn j)), (4, .long x), (0, .long b), (2, .int e9), (3, .int mm)] ∧ H = s.heap ∧ locs = [] ∧ (j ≤ 17) ∧ (dc_powR b e9 mm j x = dc_powR b e9 mm 17 1)) ?_ (17, 1) ⟨lv_sub hl [0, 1, 2, 3, 4] rfl, rfl, rfl, (by omega), (rfl)⟩
  rintro ⟨j, x⟩ H locs ls ⟨hl, rfl, rfl, hj, hv⟩ ih7
  have hl : lv_has ls 7 [(6, .int (dc_dn j)), (4, .long x), (0, .long b), (2, .int e9), (3, .int mm)] := hl
  rcases j with _ | j
  ·
    have hl : lv_has ls 7 [(6, .int (-1)), (4, .long x), (0, .long b), (2, .int e9), (3, .int mm)] := hl
    refine lv_iload hx hb dn_d_Signers_power_7 (lv_at hl 0 rfl) ?_
    refine lv_if_lt (tgt := 47) hx hb dn_d_Signers_power_9 (by decide) (fun h9 => ?_) (fun h9 => ?_)
    · -- 9: (-1) < 0
      refine lv_lload hx hb dn_d_Signers_power_47 (lv_at hl 1 rfl) ?_
      exact W.lret (v := x) hx hb hr (fun t ht hW => ⟨_, rfl, (hv), ht⟩) (fun q h => by cases h) dn_d_Signers_power_49
    · exact absurd h9 (by decide)
  ·
    have hl : lv_has ls 7 [(6, .int (nI j)), (4, .long x), (0, .long b), (2, .int e9), (3, .int mm)] := hl
    refine lv_iload hx hb dn_d_Signers_power_7 (lv_at hl 0 rfl) ?_
    refine lv_if_lt (tgt := 47) hx hb dn_d_Signers_power_9 (by decide) (fun h9 => ?_) (fun h9 => ?_)
    · exact absurd (show j < 0 from (nI_ltI (a := j) (b := 0) (by omega) (by omega)).1 h9) (by omega)
    · -- 9: ¬ j < 0
      have h9 : ¬ j < 0 := fun z => h9 ((nI_ltI (a := j) (b := 0) (by omega) (by omega)).2 z)
      refine lv_lload hx hb dn_d_Signers_power_12 (lv_at hl 1 rfl) ?_
      refine lv_lload hx hb dn_d_Signers_power_14 (lv_at hl 1 rfl) ?_
      refine lv_lmul hx hb dn_d_Signers_power_16 ?_
      refine lv_iload_n hx hb dn_d_Signers_power_17 rfl (lv_at hl 4 rfl) ?_
      refine lv_i2l (v := mm.toInt64) hx hb dn_d_Signers_power_18 rfl ?_
      refine lv_lrem hx hb dn_d_Signers_power_19 (hm) ?_
      refine lv_lstore hx hb dn_d_Signers_power_20 hl (by decide) rfl (fun ls hl => ?_)
      have hl : lv_has ls 7 [(4, .long (dc_lrem (x * x) mm.toInt64)), (6, .int (nI j)), (0, .long b), (2, .int e9), (3, .int mm)] := hl
      refine lv_iload_n hx hb dn_d_Signers_power_22 rfl (lv_at hl 3 rfl) ?_
      refine lv_iload hx hb dn_d_Signers_power_23 (lv_at hl 1 rfl) ?_
      refine lv_ishr hx hb dn_d_Signers_power_25 ?_
      refine lv_iconst (v := 1) hx hb dn_d_Signers_power_26 (by decide) ?_
      refine lv_iand hx hb dn_d_Signers_power_27 ?_
      refine lv_iconst (v := 1) hx hb dn_d_Signers_power_28 (by decide) ?_
      refine lv_icmp_ne (tgt := 41) hx hb dn_d_Signers_power_29 (by decide) (fun h29 => ?_) (fun h29 => ?_)
      · -- 29: ¬ ((e9 >>> ((nI j) &&& 31)) &&& (1 : Int32)) = 1
        refine lv_iinc (k := 1) (v := dc_dn j) hx hb dn_d_Signers_power_41 hl rfl (dc_dnp _) (by decide) rfl (fun ls hl => ?_)
        have hl : lv_has ls 7 [(6, .int (dc_dn j)), (4, .long (dc_lrem (x * x) mm.toInt64)), (0, .long b), (2, .int e9), (3, .int mm)] := hl
        refine lv_goto (tgt := 7) hx hb dn_d_Signers_power_44 (by decide) ?_
        exact ih7 (j, dc_lrem (x * x) mm.toInt64) _ _ _ (by first | omega | (dsimp only; omega)) ⟨lv_sub hl [0, 1, 2, 3, 4] rfl, rfl, rfl, (by omega), (by first | (rw [← hv]; show _ = dc_powR b e9 mm j (if _ then _ else _); rw [if_pos h29]) | (rw [← hv]; show _ = dc_powR b e9 mm j (if _ then _ else _); rw [if_neg h29]))⟩
      · -- 29: ((e9 >>> ((nI j) &&& 31)) &&& (1 : Int32)) = 1
        refine lv_lload hx hb dn_d_Signers_power_32 (lv_at hl 0 rfl) ?_
        refine lv_lload_n hx hb dn_d_Signers_power_34 rfl (lv_at hl 2 rfl) ?_
        refine lv_lmul hx hb dn_d_Signers_power_35 ?_
        refine lv_iload_n hx hb dn_d_Signers_power_36 rfl (lv_at hl 4 rfl) ?_
        refine lv_i2l (v := mm.toInt64) hx hb dn_d_Signers_power_37 rfl ?_
        refine lv_lrem hx hb dn_d_Signers_power_38 (hm) ?_
        refine lv_lstore hx hb dn_d_Signers_power_39 hl (by decide) rfl (fun ls hl => ?_)
        have hl : lv_has ls 7 [(4, .long (dc_lrem ((dc_lrem (x * x) mm.toInt64) * b) mm.toInt64)), (6, .int (nI j)), (0, .long b), (2, .int e9), (3, .int mm)] := hl
        refine lv_iinc (k := 1) (v := dc_dn j) hx hb dn_d_Signers_power_41 hl rfl (dc_dnp _) (by decide) rfl (fun ls hl => ?_)
        have hl : lv_has ls 7 [(6, .int (dc_dn j)), (4, .long (dc_lrem ((dc_lrem (x * x) mm.toInt64) * b) mm.toInt64)), (0, .long b), (2, .int e9), (3, .int mm)] := hl
        refine lv_goto (tgt := 7) hx hb dn_d_Signers_power_44 (by decide) ?_
        exact ih7 (j, dc_lrem ((dc_lrem (x * x) mm.toInt64) * b) mm.toInt64) _ _ _ (by first | omega | (dsimp only; omega)) ⟨lv_sub hl [0, 1, 2, 3, 4] rfl, rfl, rfl, (by omega), (by first | (rw [← hv]; show _ = dc_powR b e9 mm j (if _ then _ else _); rw [if_pos h29]) | (rw [← hv]; show _ = dc_powR b e9 mm j (if _ then _ else _); rw [if_neg h29]))⟩
