set_option maxHeartbeats 4000000 in
set_option maxRecDepth 100000 in
theorem rr_thrown (l : Launch) (G : va_G) (cA : Nat → ClassId) (mo : Nat) (mf : Nat) (m1 : Nat) (m2 : Nat) (so : Bool) (se : Int64) (sm : Int64) (sc : Int64) (sv : Nat) (ak : Bool) (cw : Int64) (dn : Int32) (an : Nat) (m3 : Nat) (m4 : Nat) (m5 : Nat) (sk : Nat) (m6 : Nat) (m7 : Nat) (m8 : Nat) (m9 : Nat) (t : Nat) (ma : Nat) (mb : Nat) (mc : Nat) (ee : Int64) (em : Int64) (ec : Int64) (mg : Nat) (mz : Nat) (gn : Bool) (c : Int32) (mr : Nat) (mi : Nat) (th : Int32)  : Met l dn_y_Mod_thrown (.code dn_y_Mod_thrown dn_c_Mod_thrown 1 (some .int) :: dc_W) ({ frames := 0, cells := 0, slots := 0, locals := 0 }) (dc_pR G cA [(mo, .inr (9, [.ref mf, .ref m1, .ref m2, .int (dc_bI so), .long se, .long sm, .long sc, .int (dc_dn sv), .int (dc_bI ak), .long cw, .int dn, .int (nI an), .ref m3, .ref m4, .ref m5, .int (nI sk), .ref m6, .ref m7, .ref m8, .ref m9, .int (nI t), .ref ma, .ref mb, .ref mc, .long ee, .long em, .long ec, .ref mg, .ref mz, .int (dc_bI gn), .int c, .ref mr, .ref mi, .int th]))] [.ref mo]) (vp_Si (fun r => r = th)) 0 0 (fun _ => False) := by
  refine Met.ofW (cc := dn_c_Mod_thrown) (maxL := 1) (ret := (some .int)) (by decide) rfl ?_
  intro p9 en9 s m args9 below9 meth9 cd9 s9 B hml hv
  obtain ⟨rfl, hP, hK0⟩ := hv
  have hx := B.exec
  have hb := B.bytes
  have hr := B.returns
  have hts : ∀ w ∈ dc_W, w.before _ s = true := fun w h => atoms_spec (ws := (.code dn_y_Mod_thrown dn_c_Mod_thrown 1 (some .int) :: dc_W)) B.pre w (List.mem_cons_of_mem _ h)
  have hK := hK0.1
  have hN := hK0.2
  have hown : s.vm.findClass dn_R_Mod = some m.cls := findClass_of_methodNamed B.named
  have hlocks := B.notSynchronized
  have hl := lv_entry ([.ref mo]) (n := 1) (Nat.le_of_ble_eq_true rfl)
  rw [lg_entry_eq]
  generalize (lg_sl ([.ref mo]) ++ List.replicate (1 - (lg_sl ([.ref mo])).length) Slot.unset).toArray = ls at hl ⊢
  have hl : lv_has ls 1 [(0, .ref mo)] := hl
  refine lv_aload_n hx hb dn_d_Mod_thrown_0 rfl (lv_at hl 0 rfl) ?_
  refine va_get (D := G) (ci := 9) (v := .int th) (C := dn_R_Mod) (T := dn_T_Mod) (N := 34) hx hb hts (dn_u_Mod) hown hK hP 0 rfl rfl 33 (by decide) (hts _ dn_w_891) (fun _ h9 => h9) rfl dn_d_Mod_thrown_1 ?_
  exact W.iret (v := th) hx hb hr (fun t ht hW => ⟨_, rfl, (rfl), ht⟩) (fun q h => by cases h) dn_d_Mod_thrown_4

set_option maxHeartbeats 4000000 in
set_option maxRecDepth 100000 in
theorem rr_digRow (l : Launch) (G : va_G) (cA : Nat → ClassId) (mo : Nat) (mf : Nat) (m1 : Nat) (m2 : Nat) (so : Bool) (se : Int64) (sm : Int64) (sc : Int64) (sv : Nat) (ak : Bool) (cw : Int64) (dn : Int32) (an : Nat) (m3 : Nat) (m4 : Nat) (m5 : Nat) (sk : Nat) (m6 : Nat) (m7 : Nat) (m8 : Nat) (m9 : Nat) (t : Nat) (ma : Nat) (mb : Nat) (mc : Nat) (ee : Int64) (em : Int64) (ec : Int64) (mg : Nat) (mz : Nat) (gn : Bool) (c : Int32) (mr : Nat) (mi : Nat) (th : Int32) (rw : Nat → Int64) (k : Nat) (hk : k ≤ 24) : Met l dn_y_Mod_digestRow (.code dn_y_Mod_digestRow dn_c_Mod_digestRow 5 (some .long) :: dc_W) ({ frames := 0, cells := 0, slots := 0, locals := 0 }) (dc_pR G cA [(mo, .inr (9, [.ref mf, .ref m1, .ref m2, .int (dc_bI so), .long se, .long sm, .long sc, .int (dc_dn sv), .int (dc_bI ak), .long cw, .int dn, .int (nI an), .ref m3, .ref m4, .ref m5, .int (nI sk), .ref m6, .ref m7, .ref m8, .ref m9, .int (nI t), .ref ma, .ref mb, .ref mc, .long ee, .long em, .long ec, .ref mg, .ref mz, .int (dc_bI gn), .int c, .ref mr, .ref mi, .int th])), (mr, .inl (cA 1, 24, .inr (.inl rw)))] [.ref mo, .int (nI k)]) (vp_Sl (fun r => r = dc_digN rw k)) 0 0 (fun _ => False) := by
  refine Met.ofW (cc := dn_c_Mod_digestRow) (maxL := 5) (ret := (some .long)) (by decide) rfl ?_
  intro p9 en9 s m args9 below9 meth9 cd9 s9 B hml hv
  obtain ⟨rfl, hP, hK0⟩ := hv
  have hx := B.exec
  have hb := B.bytes
  have hr := B.returns
  have hts : ∀ w ∈ dc_W, w.before _ s = true := fun w h => atoms_spec (ws := (.code dn_y_Mod_digestRow dn_c_Mod_digestRow 5 (some .long) :: dc_W)) B.pre w (List.mem_cons_of_mem _ h)
  have hK := hK0.1
  have hN := hK0.2
  have hown : s.vm.findClass dn_R_Mod = some m.cls := findClass_of_methodNamed B.named
  have hlocks := B.notSynchronized
  have hl := lv_entry ([.ref mo, .int (nI k)]) (n := 5) (Nat.le_of_ble_eq_true rfl)
  rw [lg_entry_eq]
  generalize (lg_sl ([.ref mo, .int (nI k)]) ++ List.replicate (5 - (lg_sl ([.ref mo, .int (nI k)])).length) Slot.unset).toArray = ls at hl ⊢
  have hl : lv_has ls 5 [(0, .ref mo), (1, .int (nI k))] := hl
  refine lv_ldc2 (v := 2611923443488327891) hx hb hown (hts _ dn_w_977) dn_d_Mod_digestRow_0 ?_
  refine lv_lstore_n hx hb dn_d_Mod_digestRow_3 rfl hl (by decide) rfl (fun ls hl => ?_)
  have hl : lv_has ls 5 [(2, .long 2611923443488327891), (0, .ref mo), (1, .int (nI k))] := hl
  refine lv_iconst (v := 0) hx hb dn_d_Mod_digestRow_4 (by decide) ?_
  refine lv_istore hx hb dn_d_Mod_digestRow_5 hl (by decide) rfl (fun ls hl => ?_)
  have hl : lv_has ls 5 [(4, .int 0), (2, .long 2611923443488327891), (0, .ref mo), (1, .int (nI k))] := hl
  refine dc_loop (σ := Nat) 7 [] (fun (i : Nat) => k - i) (fun (i : Nat) (H : Heap) (locs : List Loc) (ls : Array Slot) => lv_has ls 5 [(4, .int (nI i)), (2, .long (dc_digN rw i)), (0, .ref mo), (1, .int (nI k))] ∧ H = s.heap ∧ locs = [] ∧ (i ≤ k)) ?_ 0 ⟨lv_sub hl [0, 1, 2, 3] rfl, rfl, rfl, (by omega)⟩
  rintro i H locs ls ⟨hl, rfl, rfl, hi⟩ ih7
  have hl : lv_has ls 5 [(4, .int (nI i)), (2, .long (dc_digN rw i)), (0, .ref mo), (1, .int (nI k))] := hl
  refine lv_iload hx hb dn_d_Mod_digestRow_7 (lv_at hl 0 rfl) ?_
  refine lv_iload_n hx hb dn_d_Mod_digestRow_9 rfl (lv_at hl 3 rfl) ?_
  refine lv_icmp_ge (tgt := 40) hx hb dn_d_Mod_digestRow_10 (by decide) (fun h10 => ?_) (fun h10 => ?_)
  · -- 10: k ≤ i
    have h10 : k ≤ i := (nI_leI (a := k) (b := i) (by omega) (by omega)).1 h10
    refine lv_lload_n hx hb dn_d_Mod_digestRow_40 rfl (lv_at hl 1 rfl) ?_
    exact W.lret (v := (dc_digN rw i)) hx hb hr (fun t ht hW => ⟨_, rfl, (by rw [show i = k by omega]), ht⟩) (fun q h => by cases h) dn_d_Mod_digestRow_41
  · -- 10: ¬ k ≤ i
    have h10 : ¬ k ≤ i := fun z => h10 ((nI_leI (a := k) (b := i) (by omega) (by omega)).2 z)
    refine lv_lload_n hx hb dn_d_Mod_digestRow_13 rfl (lv_at hl 1 rfl) ?_
    refine lv_aload_n hx hb dn_d_Mod_digestRow_14 rfl (lv_at hl 2 rfl) ?_
    refine va_get (D := G) (ci := 9) (v := .ref mr) (C := dn_R_Mod) (T := dn_T_Mod) (N := 34) hx hb hts (dn_u_Mod) hown hK hP 0 rfl rfl 31 (by decide) (hts _ dn_w_889) (fun _ h9 => h9) rfl dn_d_Mod_digestRow_15 ?_
    refine lv_iload hx hb dn_d_Mod_digestRow_18 (lv_at hl 0 rfl) ?_
    refine dc_lald (k := i) hx hb hK hP 1 rfl (by omega) (by omega) dn_d_Mod_digestRow_20 ?_
    refine lv_lxor hx hb dn_d_Mod_digestRow_21 ?_
    refine lv_ldc2 (v := (-7046029254386353131)) hx hb hown (hts _ dn_w_978) dn_d_Mod_digestRow_22 ?_
    refine lv_lmul hx hb dn_d_Mod_digestRow_25 ?_
    refine lv_lstore_n hx hb dn_d_Mod_digestRow_26 rfl hl (by decide) rfl (fun ls hl => ?_)
    have hl : lv_has ls 5 [(2, .long (((dc_digN rw i) ^^^ (rw i)) * (-7046029254386353131 : Int64))), (4, .int (nI i)), (0, .ref mo), (1, .int (nI k))] := hl
    refine lv_lload_n hx hb dn_d_Mod_digestRow_27 rfl (lv_at hl 0 rfl) ?_
    refine lv_lload_n hx hb dn_d_Mod_digestRow_28 rfl (lv_at hl 0 rfl) ?_
    refine lv_bipush (v := 29) hx hb dn_d_Mod_digestRow_29 (by decide) ?_
    refine lv_lushr (v := dc_ju (((dc_digN rw i) ^^^ (rw i)) * (-7046029254386353131 : Int64)) (29 : Int32)) hx hb dn_d_Mod_digestRow_31 rfl ?_
    refine lv_lxor hx hb dn_d_Mod_digestRow_32 ?_
    refine lv_lstore_n hx hb dn_d_Mod_digestRow_33 rfl hl (by decide) rfl (fun ls hl => ?_)
    have hl : lv_has ls 5 [(2, .long ((((dc_digN rw i) ^^^ (rw i)) * (-7046029254386353131 : Int64)) ^^^ (dc_ju (((dc_digN rw i) ^^^ (rw i)) * (-7046029254386353131 : Int64)) (29 : Int32)))), (4, .int (nI i)), (0, .ref mo), (1, .int (nI k))] := hl
    refine lv_iinc (k := 1) (v := nI (i + 1)) hx hb dn_d_Mod_digestRow_34 hl rfl (dc_inc1 _) (by decide) rfl (fun ls hl => ?_)
    have hl : lv_has ls 5 [(4, .int (nI (i + 1))), (2, .long ((((dc_digN rw i) ^^^ (rw i)) * (-7046029254386353131 : Int64)) ^^^ (dc_ju (((dc_digN rw i) ^^^ (rw i)) * (-7046029254386353131 : Int64)) (29 : Int32)))), (0, .ref mo), (1, .int (nI k))] := hl
    refine lv_goto (tgt := 7) hx hb dn_d_Mod_digestRow_37 (by decide) ?_
    exact ih7 (i + 1) _ _ _ (by first | omega | (dsimp only; omega)) ⟨lv_sub hl [0, 1, 2, 3] rfl, rfl, rfl, (by omega)⟩

set_option maxHeartbeats 4000000 in
set_option maxRecDepth 100000 in
theorem rr_both (l : Launch) (G : va_G) (cA : Nat → ClassId) (mo : Nat) (mf : Nat) (m1 : Nat) (m2 : Nat) (so : Bool) (se : Int64) (sm : Int64) (sc : Int64) (sv : Nat) (ak : Bool) (cw : Int64) (dn : Int32) (an : Nat) (m3 : Nat) (m4 : Nat) (m5 : Nat) (sk : Nat) (m6 : Nat) (m7 : Nat) (m8 : Nat) (m9 : Nat) (t : Nat) (ma : Nat) (mb : Nat) (mc : Nat) (ee : Int64) (em : Int64) (ec : Int64) (mg : Nat) (mz : Nat) (gn : Bool) (c : Int32) (mr : Nat) (mi : Nat) (th : Int32) (rw : Nat → Int64) (x : Int64) (y : Int64)  (sz : Nat) : Met l dn_y_Mod_both (.code dn_y_Mod_both dn_c_Mod_both 5 (some .long) :: dc_W) ({ frames := 1, cells := 0, slots := 0, locals := 24 }) (dc_pW G cA [(mo, .inr (9, [.ref mf, .ref m1, .ref m2, .int (dc_bI so), .long se, .long sm, .long sc, .int (dc_dn sv), .int (dc_bI ak), .long cw, .int dn, .int (nI an), .ref m3, .ref m4, .ref m5, .int (nI sk), .ref m6, .ref m7, .ref m8, .ref m9, .int (nI t), .ref ma, .ref mb, .ref mc, .long ee, .long em, .long ec, .ref mg, .ref mz, .int (dc_bI gn), .int c, .ref mr, .ref mi, .int th])), (mr, .inl (cA 1, 24, .inr (.inl rw)))] sz [.ref mo, .long x, .long y]) (dc_ql G (fun (r : Int64) (_ : Unit) => r = dc_dig2 x y) (fun (_ : Unit) => [(mo, .inr (9, [.ref mf, .ref m1, .ref m2, .int (dc_bI so), .long se, .long sm, .long sc, .int (dc_dn sv), .int (dc_bI ak), .long cw, .int dn, .int (nI an), .ref m3, .ref m4, .ref m5, .int (nI sk), .ref m6, .ref m7, .ref m8, .ref m9, .int (nI t), .ref ma, .ref mb, .ref mc, .long ee, .long em, .long ec, .ref mg, .ref mz, .int (dc_bI gn), .int c, .ref mr, .ref mi, .int th])), (mr, .inl (cA 1, 24, .inr (.inl (vp_updL (vp_updL rw 0 x) 1 y))))]) sz [(mo, .inr (9, [.ref mf, .ref m1, .ref m2, .int (dc_bI so), .long se, .long sm, .long sc, .int (dc_dn sv), .int (dc_bI ak), .long cw, .int dn, .int (nI an), .ref m3, .ref m4, .ref m5, .int (nI sk), .ref m6, .ref m7, .ref m8, .ref m9, .int (nI t), .ref ma, .ref mb, .ref mc, .long ee, .long em, .long ec, .ref mg, .ref mz, .int (dc_bI gn), .int c, .ref mr, .ref mi, .int th])), (mr, .inl (cA 1, 24, .inr (.inl rw)))]) 0 0 (va_A [(mo, .inr (9, [.ref mf, .ref m1, .ref m2, .int (dc_bI so), .long se, .long sm, .long sc, .int (dc_dn sv), .int (dc_bI ak), .long cw, .int dn, .int (nI an), .ref m3, .ref m4, .ref m5, .int (nI sk), .ref m6, .ref m7, .ref m8, .ref m9, .int (nI t), .ref ma, .ref mb, .ref mc, .long ee, .long em, .long ec, .ref mg, .ref mz, .int (dc_bI gn), .int c, .ref mr, .ref mi, .int th])), (mr, .inl (cA 1, 24, .inr (.inl rw)))] sz) := by
  refine Met.ofW (cc := dn_c_Mod_both) (maxL := 5) (ret := (some .long)) (by decide) rfl ?_
  intro p9 en9 s m args9 below9 meth9 cd9 s9 B hml hv
  obtain ⟨rfl, hsz, hP, hK0, hD0⟩ := hv
  have hx := B.exec
  have hb := B.bytes
  have hr := B.returns
  have hts : ∀ w ∈ dc_W, w.before _ s = true := fun w h => atoms_spec (ws := (.code dn_y_Mod_both dn_c_Mod_both 5 (some .long) :: dc_W)) B.pre w (List.mem_cons_of_mem _ h)
  have hK := hK0.1
  have hN := hK0.2
  have hown : s.vm.findClass dn_R_Mod = some m.cls := findClass_of_methodNamed B.named
  have hlocks := B.notSynchronized
  subst hsz
  have hD := hD0.self (sz := s.heap.size)
  unfold dc_ql
  generalize hAe : va_A [(mo, .inr (9, [.ref mf, .ref m1, .ref m2, .int (dc_bI so), .long se, .long sm, .long sc, .int (dc_dn sv), .int (dc_bI ak), .long cw, .int dn, .int (nI an), .ref m3, .ref m4, .ref m5, .int (nI sk), .ref m6, .ref m7, .ref m8, .ref m9, .int (nI t), .ref ma, .ref mb, .ref mc, .long ee, .long em, .long ec, .ref mg, .ref mz, .int (dc_bI gn), .int c, .ref mr, .ref mi, .int th])), (mr, .inl (cA 1, 24, .inr (.inl rw)))] s.heap.size = A at hD ⊢
  have hA : ∀ q : Nat, s.heap.size ≤ q → A q := fun q h => by rw [← hAe]; exact Or.inr h
  have hS : va_S A s.heap s.heap [] := va_S.rf
  have hl := lv_entry ([.ref mo, .long x, .long y]) (n := 5) (Nat.le_of_ble_eq_true rfl)
  rw [lg_entry_eq]
  generalize (lg_sl ([.ref mo, .long x, .long y]) ++ List.replicate (5 - (lg_sl ([.ref mo, .long x, .long y])).length) Slot.unset).toArray = ls at hl ⊢
  have hl : lv_has ls 5 [(0, .ref mo), (1, .long x), (3, .long y)] := hl
  refine lv_aload_n hx hb dn_d_Mod_both_0 rfl (lv_at hl 0 rfl) ?_
  refine va_get (D := G) (ci := 9) (v := .ref mr) (C := dn_R_Mod) (T := dn_T_Mod) (N := 34) hx hb hts (dn_u_Mod) hown hK hP 0 rfl rfl 31 (by decide) (hts _ dn_w_889) (fun _ h9 => h9) rfl dn_d_Mod_both_1 ?_
  refine lv_iconst (v := 0) hx hb dn_d_Mod_both_4 (by decide) ?_
  refine lv_lload_n hx hb dn_d_Mod_both_5 rfl (lv_at hl 1 rfl) ?_
  refine dc_last (k := 0) hx hb hK hP hD hS 1 rfl (by omega) (by omega) dn_d_Mod_both_6 (fun H locs hP hD hS => ?_)
  have hP : va_P G vwCl [(mo, .inr (9, [.ref mf, .ref m1, .ref m2, .int (dc_bI so), .long se, .long sm, .long sc, .int (dc_dn sv), .int (dc_bI ak), .long cw, .int dn, .int (nI an), .ref m3, .ref m4, .ref m5, .int (nI sk), .ref m6, .ref m7, .ref m8, .ref m9, .int (nI t), .ref ma, .ref mb, .ref mc, .long ee, .long em, .long ec, .ref mg, .ref mz, .int (dc_bI gn), .int c, .ref mr, .ref mi, .int th])), (mr, .inl (cA 1, 24, .inr (.inl (vp_updL rw 0 x))))] H := hP
  have hD : va_D A [(mo, .inr (9, [.ref mf, .ref m1, .ref m2, .int (dc_bI so), .long se, .long sm, .long sc, .int (dc_dn sv), .int (dc_bI ak), .long cw, .int dn, .int (nI an), .ref m3, .ref m4, .ref m5, .int (nI sk), .ref m6, .ref m7, .ref m8, .ref m9, .int (nI t), .ref ma, .ref mb, .ref mc, .long ee, .long em, .long ec, .ref mg, .ref mz, .int (dc_bI gn), .int c, .ref mr, .ref mi, .int th])), (mr, .inl (cA 1, 24, .inr (.inl (vp_updL rw 0 x))))] := hD
  refine lv_aload_n hx hb dn_d_Mod_both_7 rfl (lv_at hl 0 rfl) ?_
  refine va_get (D := G) (ci := 9) (v := .ref mr) (C := dn_R_Mod) (T := dn_T_Mod) (N := 34) hx hb hts (dn_u_Mod) hown hK hP 0 rfl rfl 31 (by decide) (hts _ dn_w_889) (fun _ h9 => h9) rfl dn_d_Mod_both_8 ?_
  refine lv_iconst (v := 1) hx hb dn_d_Mod_both_11 (by decide) ?_
  refine lv_lload_n hx hb dn_d_Mod_both_12 rfl (lv_at hl 2 rfl) ?_
  refine dc_last (k := 1) hx hb hK hP hD hS 1 rfl (by omega) (by omega) dn_d_Mod_both_13 (fun H locs hP hD hS => ?_)
  have hP : va_P G vwCl [(mo, .inr (9, [.ref mf, .ref m1, .ref m2, .int (dc_bI so), .long se, .long sm, .long sc, .int (dc_dn sv), .int (dc_bI ak), .long cw, .int dn, .int (nI an), .ref m3, .ref m4, .ref m5, .int (nI sk), .ref m6, .ref m7, .ref m8, .ref m9, .int (nI t), .ref ma, .ref mb, .ref mc, .long ee, .long em, .long ec, .ref mg, .ref mz, .int (dc_bI gn), .int c, .ref mr, .ref mi, .int th])), (mr, .inl (cA 1, 24, .inr (.inl (vp_updL (vp_updL rw 0 x) 1 y))))] H := hP
  have hD : va_D A [(mo, .inr (9, [.ref mf, .ref m1, .ref m2, .int (dc_bI so), .long se, .long sm, .long sc, .int (dc_dn sv), .int (dc_bI ak), .long cw, .int dn, .int (nI an), .ref m3, .ref m4, .ref m5, .int (nI sk), .ref m6, .ref m7, .ref m8, .ref m9, .int (nI t), .ref ma, .ref mb, .ref mc, .long ee, .long em, .long ec, .ref mg, .ref mz, .int (dc_bI gn), .int c, .ref mr, .ref mi, .int th])), (mr, .inl (cA 1, 24, .inr (.inl (vp_updL (vp_updL rw 0 x) 1 y))))] := hD
  refine lv_aload_n hx hb dn_d_Mod_both_14 rfl (lv_at hl 0 rfl) ?_
  refine lv_iconst (v := 2) hx hb dn_d_Mod_both_15 (by decide) ?_
  refine vp_callSl (va_Run.run (va_runV (b := mo) (As := [.int 2]) (rest := []) ⟨hx, hb, hml, hown, hts⟩ (rr_digRow l G cA mo mf m1 m2 so se sm sc sv ak cw dn an m3 m4 m5 sk m6 m7 m8 m9 t ma mb mc ee em ec mg mz gn c mr mi th (vp_updL (vp_updL rw 0 x) 1 y) 2 (by first | assumption | omega)) ⟨(callB_of 1 hts (dc_good dn_w_976) rfl rfl rfl (hts _ dn_w_12) (hts _ dn_w_973) (by decide +kernel) ⟨Nat.le_of_ble_eq_true rfl, Nat.le_of_ble_eq_true rfl⟩), (hts _ dn_w_975), (hts _ dn_s_Mod_digestRow)⟩ (dc_preVR (hP.sub [0, 1] rfl) hK0 (q0 := 0) rfl rfl) rfl rfl hl.1 rfl (lv_room (Nat.le_of_ble_eq_true rfl)) dn_d_Mod_both_16 ⟨Nat.le_of_ble_eq_true rfl, Nat.le_of_ble_eq_true rfl⟩)) (fun r9 hr9 => ?_)
  subst hr9
  have hP9 := hP.sub (ws' := [(mo, .inr (9, [.ref mf, .ref m1, .ref m2, .int (dc_bI so), .long se, .long sm, .long sc, .int (dc_dn sv), .int (dc_bI ak), .long cw, .int dn, .int (nI an), .ref m3, .ref m4, .ref m5, .int (nI sk), .ref m6, .ref m7, .ref m8, .ref m9, .int (nI t), .ref ma, .ref mb, .ref mc, .long ee, .long em, .long ec, .ref mg, .ref mz, .int (dc_bI gn), .int c, .ref mr, .ref mi, .int th])), (mr, .inl (cA 1, 24, .inr (.inl (vp_updL (vp_updL rw 0 x) 1 y))))]) [0, 1] rfl
  have hD9 := hD.sub (ws' := [(mo, .inr (9, [.ref mf, .ref m1, .ref m2, .int (dc_bI so), .long se, .long sm, .long sc, .int (dc_dn sv), .int (dc_bI ak), .long cw, .int dn, .int (nI an), .ref m3, .ref m4, .ref m5, .int (nI sk), .ref m6, .ref m7, .ref m8, .ref m9, .int (nI t), .ref ma, .ref mb, .ref mc, .long ee, .long em, .long ec, .ref mg, .ref mz, .int (dc_bI gn), .int c, .ref mr, .ref mi, .int th])), (mr, .inl (cA 1, 24, .inr (.inl (vp_updL (vp_updL rw 0 x) 1 y))))]) [0, 1] (by decide) rfl
  exact W.lret (v := (dc_digN (vp_updL (vp_updL rw 0 x) 1 y) 2)) hx hb hr (fun t ht hW => ⟨⟨_, (), rfl, (rfl), by rw [ht]; exact hP9, hD9⟩, hS.F ht⟩) hS.2.2 dn_d_Mod_both_19

set_option maxHeartbeats 4000000 in
set_option maxRecDepth 100000 in
theorem rr_digest (l : Launch) (G : va_G) (cA : Nat → ClassId) (mo : Nat) (mf : Nat) (m1 : Nat) (m2 : Nat) (so : Bool) (se : Int64) (sm : Int64) (sc : Int64) (sv : Nat) (ak : Bool) (cw : Int64) (dn : Int32) (an : Nat) (m3 : Nat) (m4 : Nat) (m5 : Nat) (sk : Nat) (m6 : Nat) (m7 : Nat) (m8 : Nat) (m9 : Nat) (t : Nat) (ma : Nat) (mb : Nat) (mc : Nat) (ee : Int64) (em : Int64) (ec : Int64) (mg : Nat) (mz : Nat) (gn : Bool) (c : Int32) (mr : Nat) (mi : Nat) (th : Int32) (rw : Nat → Int64) (x : Int64) (y : Int64)  (sz : Nat) : Met l dn_y_Mod_digest (.code dn_y_Mod_digest dn_c_Mod_digest 5 (some .long) :: dc_W) ({ frames := 2, cells := 0, slots := 0, locals := 48 }) (dc_pW G cA [(mo, .inr (9, [.ref mf, .ref m1, .ref m2, .int (dc_bI so), .long se, .long sm, .long sc, .int (dc_dn sv), .int (dc_bI ak), .long cw, .int dn, .int (nI an), .ref m3, .ref m4, .ref m5, .int (nI sk), .ref m6, .ref m7, .ref m8, .ref m9, .int (nI t), .ref ma, .ref mb, .ref mc, .long ee, .long em, .long ec, .ref mg, .ref mz, .int (dc_bI gn), .int c, .ref mr, .ref mi, .int th])), (mr, .inl (cA 1, 24, .inr (.inl rw)))] sz [.ref mo, .long x, .long y]) (dc_ql G (fun (r : Int64) (_ : Unit) => r = dc_dig2 x y) (fun (_ : Unit) => [(mo, .inr (9, [.ref mf, .ref m1, .ref m2, .int (dc_bI so), .long se, .long sm, .long sc, .int (dc_dn sv), .int (dc_bI ak), .long cw, .int dn, .int (nI an), .ref m3, .ref m4, .ref m5, .int (nI sk), .ref m6, .ref m7, .ref m8, .ref m9, .int (nI t), .ref ma, .ref mb, .ref mc, .long ee, .long em, .long ec, .ref mg, .ref mz, .int (dc_bI gn), .int c, .ref mr, .ref mi, .int 0])), (mr, .inl (cA 1, 24, .inr (.inl (vp_updL (vp_updL rw 0 x) 1 y))))]) sz [(mo, .inr (9, [.ref mf, .ref m1, .ref m2, .int (dc_bI so), .long se, .long sm, .long sc, .int (dc_dn sv), .int (dc_bI ak), .long cw, .int dn, .int (nI an), .ref m3, .ref m4, .ref m5, .int (nI sk), .ref m6, .ref m7, .ref m8, .ref m9, .int (nI t), .ref ma, .ref mb, .ref mc, .long ee, .long em, .long ec, .ref mg, .ref mz, .int (dc_bI gn), .int c, .ref mr, .ref mi, .int th])), (mr, .inl (cA 1, 24, .inr (.inl rw)))]) 0 0 (va_A [(mo, .inr (9, [.ref mf, .ref m1, .ref m2, .int (dc_bI so), .long se, .long sm, .long sc, .int (dc_dn sv), .int (dc_bI ak), .long cw, .int dn, .int (nI an), .ref m3, .ref m4, .ref m5, .int (nI sk), .ref m6, .ref m7, .ref m8, .ref m9, .int (nI t), .ref ma, .ref mb, .ref mc, .long ee, .long em, .long ec, .ref mg, .ref mz, .int (dc_bI gn), .int c, .ref mr, .ref mi, .int th])), (mr, .inl (cA 1, 24, .inr (.inl rw)))] sz) := by
  refine Met.ofW (cc := dn_c_Mod_digest) (maxL := 5) (ret := (some .long)) (by decide) rfl ?_
  intro p9 en9 s m args9 below9 meth9 cd9 s9 B hml hv
  obtain ⟨rfl, hsz, hP, hK0, hD0⟩ := hv
  have hx := B.exec
  have hb := B.bytes
  have hr := B.returns
  have hts : ∀ w ∈ dc_W, w.before _ s = true := fun w h => atoms_spec (ws := (.code dn_y_Mod_digest dn_c_Mod_digest 5 (some .long) :: dc_W)) B.pre w (List.mem_cons_of_mem _ h)
  have hK := hK0.1
  have hN := hK0.2
  have hown : s.vm.findClass dn_R_Mod = some m.cls := findClass_of_methodNamed B.named
  have hlocks := B.notSynchronized
  subst hsz
  have hD := hD0.self (sz := s.heap.size)
  unfold dc_ql
  generalize hAe : va_A [(mo, .inr (9, [.ref mf, .ref m1, .ref m2, .int (dc_bI so), .long se, .long sm, .long sc, .int (dc_dn sv), .int (dc_bI ak), .long cw, .int dn, .int (nI an), .ref m3, .ref m4, .ref m5, .int (nI sk), .ref m6, .ref m7, .ref m8, .ref m9, .int (nI t), .ref ma, .ref mb, .ref mc, .long ee, .long em, .long ec, .ref mg, .ref mz, .int (dc_bI gn), .int c, .ref mr, .ref mi, .int th])), (mr, .inl (cA 1, 24, .inr (.inl rw)))] s.heap.size = A at hD ⊢
  have hA : ∀ q : Nat, s.heap.size ≤ q → A q := fun q h => by rw [← hAe]; exact Or.inr h
  have hS : va_S A s.heap s.heap [] := va_S.rf
  have hl := lv_entry ([.ref mo, .long x, .long y]) (n := 5) (Nat.le_of_ble_eq_true rfl)
  rw [lg_entry_eq]
  generalize (lg_sl ([.ref mo, .long x, .long y]) ++ List.replicate (5 - (lg_sl ([.ref mo, .long x, .long y])).length) Slot.unset).toArray = ls at hl ⊢
  have hl : lv_has ls 5 [(0, .ref mo), (1, .long x), (3, .long y)] := hl
  refine lv_aload_n hx hb dn_d_Mod_digest_0 rfl (lv_at hl 0 rfl) ?_
  refine lv_iconst (v := 0) hx hb dn_d_Mod_digest_1 (by decide) ?_
  refine va_put (D := G) (ci := 9) (v := .int 0) (ty := (.int)) (C := dn_R_Mod) (T := dn_T_Mod) (N := 34) hx hb hts (dn_u_Mod) dn_t_Mod dn_o_Mod dn_n_Mod hown hK hP hD hS 0 rfl rfl 33 (by decide) (hts _ dn_w_891) (fun _ h9 => h9) rfl (by decide +kernel) rfl rfl (Nat.le_of_ble_eq_true rfl) dn_d_Mod_digest_2 (fun H locs hP hD hS => ?_)
  have hP : va_P G vwCl [(mo, .inr (9, [.ref mf, .ref m1, .ref m2, .int (dc_bI so), .long se, .long sm, .long sc, .int (dc_dn sv), .int (dc_bI ak), .long cw, .int dn, .int (nI an), .ref m3, .ref m4, .ref m5, .int (nI sk), .ref m6, .ref m7, .ref m8, .ref m9, .int (nI t), .ref ma, .ref mb, .ref mc, .long ee, .long em, .long ec, .ref mg, .ref mz, .int (dc_bI gn), .int c, .ref mr, .ref mi, .int 0])), (mr, .inl (cA 1, 24, .inr (.inl rw)))] H := hP
  have hD : va_D A [(mo, .inr (9, [.ref mf, .ref m1, .ref m2, .int (dc_bI so), .long se, .long sm, .long sc, .int (dc_dn sv), .int (dc_bI ak), .long cw, .int dn, .int (nI an), .ref m3, .ref m4, .ref m5, .int (nI sk), .ref m6, .ref m7, .ref m8, .ref m9, .int (nI t), .ref ma, .ref mb, .ref mc, .long ee, .long em, .long ec, .ref mg, .ref mz, .int (dc_bI gn), .int c, .ref mr, .ref mi, .int 0])), (mr, .inl (cA 1, 24, .inr (.inl rw)))] := hD
  refine lv_aload_n hx hb dn_d_Mod_digest_5 rfl (lv_at hl 0 rfl) ?_
  refine lv_lload_n hx hb dn_d_Mod_digest_6 rfl (lv_at hl 1 rfl) ?_
  refine lv_lload_n hx hb dn_d_Mod_digest_7 rfl (lv_at hl 2 rfl) ?_
  refine dc_wl (wr := []) (va_runV (b := mo) (As := [.long x, .long y]) (rest := []) ⟨hx, hb, hml, hown, hts⟩ (rr_both l G cA mo mf m1 m2 so se sm sc sv ak cw dn an m3 m4 m5 sk m6 m7 m8 m9 t ma mb mc ee em ec mg mz gn c mr mi 0 rw x y  H.size) ⟨(callB_of 2 hts (dc_good dn_w_972) rfl rfl rfl (hts _ dn_w_12) (hts _ dn_w_969) (by decide +kernel) ⟨Nat.le_of_ble_eq_true rfl, Nat.le_of_ble_eq_true rfl⟩), (hts _ dn_w_971), (hts _ dn_s_Mod_both)⟩ (dc_preVW (hP.sub [0, 1] rfl) hK0 (hD.sub [0, 1] (by decide) rfl) (q0 := 0) rfl rfl) rfl rfl hl.1 rfl (lv_room (Nat.le_of_ble_eq_true rfl)) dn_d_Mod_digest_8 ⟨Nat.le_of_ble_eq_true rfl, Nat.le_of_ble_eq_true rfl⟩) hP hD hS hA [0, 1] [] rfl rfl (by decide) (by decide) (fun r9 u9 H locs hr9 hP hD hS => ?_)
  subst hr9
  have hP : va_P G vwCl [(mo, .inr (9, [.ref mf, .ref m1, .ref m2, .int (dc_bI so), .long se, .long sm, .long sc, .int (dc_dn sv), .int (dc_bI ak), .long cw, .int dn, .int (nI an), .ref m3, .ref m4, .ref m5, .int (nI sk), .ref m6, .ref m7, .ref m8, .ref m9, .int (nI t), .ref ma, .ref mb, .ref mc, .long ee, .long em, .long ec, .ref mg, .ref mz, .int (dc_bI gn), .int c, .ref mr, .ref mi, .int 0])), (mr, .inl (cA 1, 24, .inr (.inl (vp_updL (vp_updL rw 0 x) 1 y))))] H := hP
  have hD : va_D A [(mo, .inr (9, [.ref mf, .ref m1, .ref m2, .int (dc_bI so), .long se, .long sm, .long sc, .int (dc_dn sv), .int (dc_bI ak), .long cw, .int dn, .int (nI an), .ref m3, .ref m4, .ref m5, .int (nI sk), .ref m6, .ref m7, .ref m8, .ref m9, .int (nI t), .ref ma, .ref mb, .ref mc, .long ee, .long em, .long ec, .ref mg, .ref mz, .int (dc_bI gn), .int c, .ref mr, .ref mi, .int 0])), (mr, .inl (cA 1, 24, .inr (.inl (vp_updL (vp_updL rw 0 x) 1 y))))] := hD
  have hP9 := hP.sub (ws' := [(mo, .inr (9, [.ref mf, .ref m1, .ref m2, .int (dc_bI so), .long se, .long sm, .long sc, .int (dc_dn sv), .int (dc_bI ak), .long cw, .int dn, .int (nI an), .ref m3, .ref m4, .ref m5, .int (nI sk), .ref m6, .ref m7, .ref m8, .ref m9, .int (nI t), .ref ma, .ref mb, .ref mc, .long ee, .long em, .long ec, .ref mg, .ref mz, .int (dc_bI gn), .int c, .ref mr, .ref mi, .int 0])), (mr, .inl (cA 1, 24, .inr (.inl (vp_updL (vp_updL rw 0 x) 1 y))))]) [0, 1] rfl
  have hD9 := hD.sub (ws' := [(mo, .inr (9, [.ref mf, .ref m1, .ref m2, .int (dc_bI so), .long se, .long sm, .long sc, .int (dc_dn sv), .int (dc_bI ak), .long cw, .int dn, .int (nI an), .ref m3, .ref m4, .ref m5, .int (nI sk), .ref m6, .ref m7, .ref m8, .ref m9, .int (nI t), .ref ma, .ref mb, .ref mc, .long ee, .long em, .long ec, .ref mg, .ref mz, .int (dc_bI gn), .int c, .ref mr, .ref mi, .int 0])), (mr, .inl (cA 1, 24, .inr (.inl (vp_updL (vp_updL rw 0 x) 1 y))))]) [0, 1] (by decide) rfl
  exact W.lret (v := (dc_dig2 x y)) hx hb hr (fun t ht hW => ⟨⟨_, (), rfl, (rfl), by rw [ht]; exact hP9, hD9⟩, hS.F ht⟩) hS.2.2 dn_d_Mod_digest_11

set_option maxHeartbeats 4000000 in
set_option maxRecDepth 100000 in
theorem rr_mixed (l : Launch) (k : Int64) (x : Int32) (i : Int32)  : Met l dn_y_Mod_mixed (.code dn_y_Mod_mixed dn_c_Mod_mixed 7 (some .int) :: dc_W) ({ frames := 0, cells := 0, slots := 0, locals := 0 }) (fun v _ => v = ([.long k, .int x, .int i] : List Value).toArray) (vp_Si (fun r => r = dc_scr k i x)) 0 0 (fun _ => False) := by
  refine Met.ofW (cc := dn_c_Mod_mixed) (maxL := 7) (ret := (some .int)) (by decide) rfl ?_
  intro p9 en9 s m args9 below9 meth9 cd9 s9 B hml hv
  obtain rfl := hv
  have hx := B.exec
  have hb := B.bytes
  have hr := B.returns
  have hts : ∀ w ∈ dc_W, w.before _ s = true := fun w h => atoms_spec (ws := (.code dn_y_Mod_mixed dn_c_Mod_mixed 7 (some .int) :: dc_W)) B.pre w (List.mem_cons_of_mem _ h)
  have hown : s.vm.findClass dn_R_Mod = some m.cls := findClass_of_methodNamed B.named
  have hlocks := B.notSynchronized
  have hl := lv_entry ([.long k, .int x, .int i]) (n := 7) (Nat.le_of_ble_eq_true rfl)
  rw [lg_entry_eq]
  generalize (lg_sl ([.long k, .int x, .int i]) ++ List.replicate (7 - (lg_sl ([.long k, .int x, .int i])).length) Slot.unset).toArray = ls at hl ⊢
  have hl : lv_has ls 7 [(0, .long k), (2, .int x), (3, .int i)] := hl
  refine lv_iload_n hx hb dn_d_Mod_mixed_0 rfl (lv_at hl 2 rfl) ?_
  refine lv_if_ne (tgt := 8) hx hb dn_d_Mod_mixed_1 (by decide) (fun h1 => ?_) (fun h1 => ?_)
  · -- 1: ¬ i = 0
    refine lv_lload_n hx hb dn_d_Mod_mixed_8 rfl (lv_at hl 0 rfl) ?_
    refine lv_bipush (v := 8) hx hb dn_d_Mod_mixed_9 (by decide) ?_
    refine lv_iload_n hx hb dn_d_Mod_mixed_11 rfl (lv_at hl 2 rfl) ?_
    refine lv_imul hx hb dn_d_Mod_mixed_12 ?_
    refine lv_lushr (v := dc_ju k ((8 : Int32) * i)) hx hb dn_d_Mod_mixed_13 rfl ?_
    refine lv_lload_n hx hb dn_d_Mod_mixed_14 rfl (lv_at hl 0 rfl) ?_
    refine lv_bipush (v := 64) hx hb dn_d_Mod_mixed_15 (by decide) ?_
    refine lv_bipush (v := 8) hx hb dn_d_Mod_mixed_17 (by decide) ?_
    refine lv_iload_n hx hb dn_d_Mod_mixed_19 rfl (lv_at hl 2 rfl) ?_
    refine lv_imul hx hb dn_d_Mod_mixed_20 ?_
    refine lv_isub hx hb dn_d_Mod_mixed_21 ?_
    refine lv_lshl (v := dc_jl k ((64 : Int32) - ((8 : Int32) * i))) hx hb dn_d_Mod_mixed_22 rfl ?_
    refine lv_lor hx hb dn_d_Mod_mixed_23 ?_
    refine lv_lstore hx hb dn_d_Mod_mixed_24 hl (by decide) rfl (fun ls hl => ?_)
    have hl : lv_has ls 7 [(4, .long ((dc_ju k ((8 : Int32) * i)) ||| (dc_jl k ((64 : Int32) - ((8 : Int32) * i))))), (0, .long k), (2, .int x), (3, .int i)] := hl
    refine lv_iload_n hx hb dn_d_Mod_mixed_26 rfl (lv_at hl 2 rfl) ?_
    refine lv_lload hx hb dn_d_Mod_mixed_27 (lv_at hl 0 rfl) ?_
    refine lv_l2i (v := ((dc_ju k ((8 : Int32) * i)) ||| (dc_jl k ((64 : Int32) - ((8 : Int32) * i)))).toInt32) hx hb dn_d_Mod_mixed_29 rfl ?_
    refine lv_iadd hx hb dn_d_Mod_mixed_30 ?_
    refine lv_istore hx hb dn_d_Mod_mixed_31 hl (by decide) rfl (fun ls hl => ?_)
    have hl : lv_has ls 7 [(6, .int (x + (((dc_ju k ((8 : Int32) * i)) ||| (dc_jl k ((64 : Int32) - ((8 : Int32) * i)))).toInt32))), (4, .long ((dc_ju k ((8 : Int32) * i)) ||| (dc_jl k ((64 : Int32) - ((8 : Int32) * i))))), (0, .long k), (2, .int x), (3, .int i)] := hl
    refine lv_iload hx hb dn_d_Mod_mixed_33 (lv_at hl 0 rfl) ?_
    refine lv_iconst (v := 4) hx hb dn_d_Mod_mixed_35 (by decide) ?_
    refine lv_ishl hx hb dn_d_Mod_mixed_36 ?_
    refine lv_iload hx hb dn_d_Mod_mixed_37 (lv_at hl 0 rfl) ?_
    refine lv_iconst (v := 5) hx hb dn_d_Mod_mixed_39 (by decide) ?_
    refine lv_iushr (v := dc_iu (x + (((dc_ju k ((8 : Int32) * i)) ||| (dc_jl k ((64 : Int32) - ((8 : Int32) * i)))).toInt32)) (5 : Int32)) hx hb dn_d_Mod_mixed_40 rfl ?_
    refine lv_ixor hx hb dn_d_Mod_mixed_41 ?_
    refine lv_iload hx hb dn_d_Mod_mixed_42 (lv_at hl 0 rfl) ?_
    refine lv_iadd hx hb dn_d_Mod_mixed_44 ?_
    refine lv_iload_n hx hb dn_d_Mod_mixed_45 rfl (lv_at hl 4 rfl) ?_
    refine lv_ldc (v := (-1640531527)) hx hb hown (hts _ dn_w_989) dn_d_Mod_mixed_46 ?_
    refine lv_imul hx hb dn_d_Mod_mixed_48 ?_
    refine lv_ixor hx hb dn_d_Mod_mixed_49 ?_
    exact W.iret (v := (((((x + (((dc_ju k ((8 : Int32) * i)) ||| (dc_jl k ((64 : Int32) - ((8 : Int32) * i)))).toInt32)) <<< ((4 : Int32) &&& 31)) ^^^ (dc_iu (x + (((dc_ju k ((8 : Int32) * i)) ||| (dc_jl k ((64 : Int32) - ((8 : Int32) * i)))).toInt32)) (5 : Int32))) + (x + (((dc_ju k ((8 : Int32) * i)) ||| (dc_jl k ((64 : Int32) - ((8 : Int32) * i)))).toInt32))) ^^^ (i * (-1640531527 : Int32)))) hx hb hr (fun t ht hW => ⟨_, rfl, (rfl), ht⟩) (fun q h => by cases h) dn_d_Mod_mixed_50
  · -- 1: i = 0
    refine lv_lload_n hx hb dn_d_Mod_mixed_4 rfl (lv_at hl 0 rfl) ?_
    refine lv_goto (tgt := 24) hx hb dn_d_Mod_mixed_5 (by decide) ?_
    refine lv_lstore hx hb dn_d_Mod_mixed_24 hl (by decide) rfl (fun ls hl => ?_)
    have hl : lv_has ls 7 [(4, .long k), (0, .long k), (2, .int x), (3, .int i)] := hl
    refine lv_iload_n hx hb dn_d_Mod_mixed_26 rfl (lv_at hl 2 rfl) ?_
    refine lv_lload hx hb dn_d_Mod_mixed_27 (lv_at hl 0 rfl) ?_
    refine lv_l2i (v := k.toInt32) hx hb dn_d_Mod_mixed_29 rfl ?_
    refine lv_iadd hx hb dn_d_Mod_mixed_30 ?_
    refine lv_istore hx hb dn_d_Mod_mixed_31 hl (by decide) rfl (fun ls hl => ?_)
    have hl : lv_has ls 7 [(6, .int (x + k.toInt32)), (4, .long k), (0, .long k), (2, .int x), (3, .int i)] := hl
    refine lv_iload hx hb dn_d_Mod_mixed_33 (lv_at hl 0 rfl) ?_
    refine lv_iconst (v := 4) hx hb dn_d_Mod_mixed_35 (by decide) ?_
    refine lv_ishl hx hb dn_d_Mod_mixed_36 ?_
    refine lv_iload hx hb dn_d_Mod_mixed_37 (lv_at hl 0 rfl) ?_
    refine lv_iconst (v := 5) hx hb dn_d_Mod_mixed_39 (by decide) ?_
    refine lv_iushr (v := dc_iu (x + k.toInt32) (5 : Int32)) hx hb dn_d_Mod_mixed_40 rfl ?_
    refine lv_ixor hx hb dn_d_Mod_mixed_41 ?_
    refine lv_iload hx hb dn_d_Mod_mixed_42 (lv_at hl 0 rfl) ?_
    refine lv_iadd hx hb dn_d_Mod_mixed_44 ?_
    refine lv_iload_n hx hb dn_d_Mod_mixed_45 rfl (lv_at hl 4 rfl) ?_
    refine lv_ldc (v := (-1640531527)) hx hb hown (hts _ dn_w_989) dn_d_Mod_mixed_46 ?_
    refine lv_imul hx hb dn_d_Mod_mixed_48 ?_
    refine lv_ixor hx hb dn_d_Mod_mixed_49 ?_
    exact W.iret (v := (((((x + k.toInt32) <<< ((4 : Int32) &&& 31)) ^^^ (dc_iu (x + k.toInt32) (5 : Int32))) + (x + k.toInt32)) ^^^ (i * (-1640531527 : Int32)))) hx hb hr (fun t ht hW => ⟨_, rfl, (by rw [h1]; exact dc_scr0 k x), ht⟩) (fun q h => by cases h) dn_d_Mod_mixed_50

set_option maxHeartbeats 4000000 in
set_option maxRecDepth 100000 in
theorem rr_joined (l : Launch) (x : Int32) (y : Int32)  : Met l dn_y_Mod_joined (.code dn_y_Mod_joined dn_c_Mod_joined 2 (some .long) :: dc_W) ({ frames := 0, cells := 0, slots := 0, locals := 0 }) (fun v _ => v = ([.int x, .int y] : List Value).toArray) (vp_Sl (fun r => r = dc_join x.toInt64 y.toInt64)) 0 0 (fun _ => False) := by
  refine Met.ofW (cc := dn_c_Mod_joined) (maxL := 2) (ret := (some .long)) (by decide) rfl ?_
  intro p9 en9 s m args9 below9 meth9 cd9 s9 B hml hv
  obtain rfl := hv
  have hx := B.exec
  have hb := B.bytes
  have hr := B.returns
  have hts : ∀ w ∈ dc_W, w.before _ s = true := fun w h => atoms_spec (ws := (.code dn_y_Mod_joined dn_c_Mod_joined 2 (some .long) :: dc_W)) B.pre w (List.mem_cons_of_mem _ h)
  have hown : s.vm.findClass dn_R_Mod = some m.cls := findClass_of_methodNamed B.named
  have hlocks := B.notSynchronized
  have hl := lv_entry ([.int x, .int y]) (n := 2) (Nat.le_of_ble_eq_true rfl)
  rw [lg_entry_eq]
  generalize (lg_sl ([.int x, .int y]) ++ List.replicate (2 - (lg_sl ([.int x, .int y])).length) Slot.unset).toArray = ls at hl ⊢
  have hl : lv_has ls 2 [(0, .int x), (1, .int y)] := hl
  refine lv_iload_n hx hb dn_d_Mod_joined_0 rfl (lv_at hl 0 rfl) ?_
  refine lv_i2l (v := x.toInt64) hx hb dn_d_Mod_joined_1 rfl ?_
  refine lv_bipush (v := 32) hx hb dn_d_Mod_joined_2 (by decide) ?_
  refine lv_lshl (v := dc_jl x.toInt64 (32 : Int32)) hx hb dn_d_Mod_joined_4 rfl ?_
  refine lv_iload_n hx hb dn_d_Mod_joined_5 rfl (lv_at hl 1 rfl) ?_
  refine lv_i2l (v := y.toInt64) hx hb dn_d_Mod_joined_6 rfl ?_
  refine lv_ldc2 (v := 4294967295) hx hb hown (hts _ dn_w_993) dn_d_Mod_joined_7 ?_
  refine lv_land hx hb dn_d_Mod_joined_10 ?_
  refine lv_lor hx hb dn_d_Mod_joined_11 ?_
  exact W.lret (v := ((dc_jl x.toInt64 (32 : Int32)) ||| (y.toInt64 &&& (4294967295 : Int64)))) hx hb hr (fun t ht hW => ⟨_, rfl, (rfl), ht⟩) (fun q h => by cases h) dn_d_Mod_joined_12

set_option maxHeartbeats 4000000 in
set_option maxRecDepth 100000 in
theorem rr_hide (l : Launch) (k : Int64) (b : Int64)  : Met l dn_y_Mod_hide (.code dn_y_Mod_hide dn_c_Mod_hide 8 (some .long) :: dc_W) ({ frames := 1, cells := 0, slots := 0, locals := 26 }) (fun v _ => v = ([.long k, .long b] : List Value).toArray) (vp_Sl (fun r => r = dc_enc k b)) 0 0 (fun _ => False) := by
  refine Met.ofW (cc := dn_c_Mod_hide) (maxL := 8) (ret := (some .long)) (by decide) rfl ?_
  intro p9 en9 s m args9 below9 meth9 cd9 s9 B hml hv
  obtain rfl := hv
  have hx := B.exec
  have hb := B.bytes
  have hr := B.returns
  have hts : ∀ w ∈ dc_W, w.before _ s = true := fun w h => atoms_spec (ws := (.code dn_y_Mod_hide dn_c_Mod_hide 8 (some .long) :: dc_W)) B.pre w (List.mem_cons_of_mem _ h)
  have hown : s.vm.findClass dn_R_Mod = some m.cls := findClass_of_methodNamed B.named
  have hlocks := B.notSynchronized
  have hl := lv_entry ([.long k, .long b]) (n := 8) (Nat.le_of_ble_eq_true rfl)
  rw [lg_entry_eq]
  generalize (lg_sl ([.long k, .long b]) ++ List.replicate (8 - (lg_sl ([.long k, .long b])).length) Slot.unset).toArray = ls at hl ⊢
  have hl : lv_has ls 8 [(0, .long k), (2, .long b)] := hl
  refine lv_lload_n hx hb dn_d_Mod_hide_0 rfl (lv_at hl 1 rfl) ?_
  refine lv_bipush (v := 32) hx hb dn_d_Mod_hide_1 (by decide) ?_
  refine lv_lshr (v := dc_jr b (32 : Int32)) hx hb dn_d_Mod_hide_3 rfl ?_
  refine lv_l2i (v := (dc_jr b (32 : Int32)).toInt32) hx hb dn_d_Mod_hide_4 rfl ?_
  rw [show (dc_jr b (32 : Int32)).toInt32 = (dc_ju b 32).toInt32 from dc_hi b]
  refine lv_istore hx hb dn_d_Mod_hide_5 hl (by decide) rfl (fun ls hl => ?_)
  have hl : lv_has ls 8 [(4, .int ((dc_ju b 32).toInt32)), (0, .long k), (2, .long b)] := hl
  refine lv_lload_n hx hb dn_d_Mod_hide_7 rfl (lv_at hl 2 rfl) ?_
  refine lv_l2i (v := b.toInt32) hx hb dn_d_Mod_hide_8 rfl ?_
  refine lv_istore hx hb dn_d_Mod_hide_9 hl (by decide) rfl (fun ls hl => ?_)
  have hl : lv_has ls 8 [(5, .int b.toInt32), (4, .int ((dc_ju b 32).toInt32)), (0, .long k), (2, .long b)] := hl
  refine lv_iconst (v := 0) hx hb dn_d_Mod_hide_11 (by decide) ?_
  refine lv_istore hx hb dn_d_Mod_hide_12 hl (by decide) rfl (fun ls hl => ?_)
  have hl : lv_has ls 8 [(6, .int 0), (5, .int b.toInt32), (4, .int ((dc_ju b 32).toInt32)), (0, .long k), (2, .long b)] := hl
  refine dc_loop (σ := Nat) 14 [] (fun (i : Nat) => 8 - i) (fun (i : Nat) (H : Heap) (locs : List Loc) (ls : Array Slot) => lv_has ls 8 [(6, .int (nI i)), (5, .int ((dc_encL k b i).2)), (4, .int ((dc_encL k b i).1)), (0, .long k), (2, .long b)] ∧ H = s.heap ∧ locs = [] ∧ (i ≤ 8)) ?_ 0 ⟨lv_sub hl [0, 1, 2, 3, 4] rfl, rfl, rfl, (by omega)⟩
  rintro i H locs ls ⟨hl, rfl, rfl, hi⟩ ih14
  have hl : lv_has ls 8 [(6, .int (nI i)), (5, .int ((dc_encL k b i).2)), (4, .int ((dc_encL k b i).1)), (0, .long k), (2, .long b)] := hl
  refine lv_iload hx hb dn_d_Mod_hide_14 (lv_at hl 0 rfl) ?_
  refine lv_bipush (v := 8) hx hb dn_d_Mod_hide_16 (by decide) ?_
  refine lv_icmp_ge (tgt := 48) hx hb dn_d_Mod_hide_18 (by decide) (fun h18 => ?_) (fun h18 => ?_)
  · -- 18: 8 ≤ i
    have h18 : 8 ≤ i := (nI_leI (a := 8) (b := i) (by omega) (by omega)).1 h18
    refine lv_iload hx hb dn_d_Mod_hide_48 (lv_at hl 2 rfl) ?_
    refine lv_iload hx hb dn_d_Mod_hide_50 (lv_at hl 1 rfl) ?_
    refine vp_callSl (va_Run.run (va_runS (As := [.int ((dc_encL k b i).1), .int ((dc_encL k b i).2)]) (rest := []) ⟨hx, hb, hml, hown, hts⟩ (rr_joined l ((dc_encL k b i).1) ((dc_encL k b i).2) ) ⟨(callB_of 2 hts (dc_good dn_w_992) rfl rfl rfl (hts _ dn_w_12) (hts _ dn_w_990) (by decide +kernel) ⟨Nat.le_of_ble_eq_true rfl, Nat.le_of_ble_eq_true rfl⟩), (hts _ dn_w_991)⟩ preEq rfl rfl hl.1 rfl (lv_room (Nat.le_of_ble_eq_true rfl)) dn_d_Mod_hide_52 ⟨Nat.le_of_ble_eq_true rfl, Nat.le_of_ble_eq_true rfl⟩)) (fun r9 hr9 => ?_)
    subst hr9
    exact W.lret (v := (dc_join ((dc_encL k b i).1).toInt64 ((dc_encL k b i).2).toInt64)) hx hb hr (fun t ht hW => ⟨_, rfl, (by rw [show i = 8 by omega]; rfl), ht⟩) (fun q h => by cases h) dn_d_Mod_hide_55
  · -- 18: ¬ 8 ≤ i
    have h18 : ¬ 8 ≤ i := fun z => h18 ((nI_leI (a := 8) (b := i) (by omega) (by omega)).2 z)
    refine lv_iload hx hb dn_d_Mod_hide_21 (lv_at hl 2 rfl) ?_
    refine lv_lload_n hx hb dn_d_Mod_hide_23 rfl (lv_at hl 3 rfl) ?_
    refine lv_iload hx hb dn_d_Mod_hide_24 (lv_at hl 1 rfl) ?_
    refine lv_iload hx hb dn_d_Mod_hide_26 (lv_at hl 0 rfl) ?_
    refine vp_callSi (va_Run.run (va_runS (As := [.long k, .int ((dc_encL k b i).2), .int (nI i)]) (rest := [.int ((dc_encL k b i).1)]) ⟨hx, hb, hml, hown, hts⟩ (rr_mixed l k ((dc_encL k b i).2) (nI i) ) ⟨(callB_of 3 hts (dc_good dn_w_988) rfl rfl rfl (hts _ dn_w_12) (hts _ dn_w_986) (by decide +kernel) ⟨Nat.le_of_ble_eq_true rfl, Nat.le_of_ble_eq_true rfl⟩), (hts _ dn_w_987)⟩ preEq rfl rfl hl.1 rfl (lv_room (Nat.le_of_ble_eq_true rfl)) dn_d_Mod_hide_28 ⟨Nat.le_of_ble_eq_true rfl, Nat.le_of_ble_eq_true rfl⟩)) (fun r9 hr9 => ?_)
    subst hr9
    refine lv_ixor hx hb dn_d_Mod_hide_31 ?_
    refine lv_istore hx hb dn_d_Mod_hide_32 hl (by decide) rfl (fun ls hl => ?_)
    have hl : lv_has ls 8 [(7, .int (((dc_encL k b i).1) ^^^ (dc_scr k (nI i) ((dc_encL k b i).2)))), (6, .int (nI i)), (5, .int ((dc_encL k b i).2)), (4, .int ((dc_encL k b i).1)), (0, .long k), (2, .long b)] := hl
    refine lv_iload hx hb dn_d_Mod_hide_34 (lv_at hl 2 rfl) ?_
    refine lv_istore hx hb dn_d_Mod_hide_36 hl (by decide) rfl (fun ls hl => ?_)
    have hl : lv_has ls 8 [(4, .int ((dc_encL k b i).2)), (7, .int (((dc_encL k b i).1) ^^^ (dc_scr k (nI i) ((dc_encL k b i).2)))), (6, .int (nI i)), (5, .int ((dc_encL k b i).2)), (0, .long k), (2, .long b)] := hl
    refine lv_iload hx hb dn_d_Mod_hide_38 (lv_at hl 1 rfl) ?_
    refine lv_istore hx hb dn_d_Mod_hide_40 hl (by decide) rfl (fun ls hl => ?_)
    have hl : lv_has ls 8 [(5, .int (((dc_encL k b i).1) ^^^ (dc_scr k (nI i) ((dc_encL k b i).2)))), (4, .int ((dc_encL k b i).2)), (7, .int (((dc_encL k b i).1) ^^^ (dc_scr k (nI i) ((dc_encL k b i).2)))), (6, .int (nI i)), (0, .long k), (2, .long b)] := hl
    refine lv_iinc (k := 3) (v := nI (i + 1)) hx hb dn_d_Mod_hide_42 hl rfl (dc_inc1 _) (by decide) rfl (fun ls hl => ?_)
    have hl : lv_has ls 8 [(6, .int (nI (i + 1))), (5, .int (((dc_encL k b i).1) ^^^ (dc_scr k (nI i) ((dc_encL k b i).2)))), (4, .int ((dc_encL k b i).2)), (7, .int (((dc_encL k b i).1) ^^^ (dc_scr k (nI i) ((dc_encL k b i).2)))), (0, .long k), (2, .long b)] := hl
    refine lv_goto (tgt := 14) hx hb dn_d_Mod_hide_45 (by decide) ?_
    exact ih14 (i + 1) _ _ _ (by first | omega | (dsimp only; omega)) ⟨lv_sub hl [0, 1, 2, 4, 5] rfl, rfl, rfl, (by omega)⟩

set_option maxHeartbeats 4000000 in
set_option maxRecDepth 100000 in
theorem rr_show (l : Launch) (k : Int64) (b : Int64)  : Met l dn_y_Mod_show (.code dn_y_Mod_show dn_c_Mod_show 8 (some .long) :: dc_W) ({ frames := 1, cells := 0, slots := 0, locals := 26 }) (fun v _ => v = ([.long k, .long b] : List Value).toArray) (vp_Sl (fun r => r = dc_dec k b)) 0 0 (fun _ => False) := by
  refine Met.ofW (cc := dn_c_Mod_show) (maxL := 8) (ret := (some .long)) (by decide) rfl ?_
  intro p9 en9 s m args9 below9 meth9 cd9 s9 B hml hv
  obtain rfl := hv
  have hx := B.exec
  have hb := B.bytes
  have hr := B.returns
  have hts : ∀ w ∈ dc_W, w.before _ s = true := fun w h => atoms_spec (ws := (.code dn_y_Mod_show dn_c_Mod_show 8 (some .long) :: dc_W)) B.pre w (List.mem_cons_of_mem _ h)
  have hown : s.vm.findClass dn_R_Mod = some m.cls := findClass_of_methodNamed B.named
  have hlocks := B.notSynchronized
  have hl := lv_entry ([.long k, .long b]) (n := 8) (Nat.le_of_ble_eq_true rfl)
  rw [lg_entry_eq]
  generalize (lg_sl ([.long k, .long b]) ++ List.replicate (8 - (lg_sl ([.long k, .long b])).length) Slot.unset).toArray = ls at hl ⊢
  have hl : lv_has ls 8 [(0, .long k), (2, .long b)] := hl
  refine lv_lload_n hx hb dn_d_Mod_show_0 rfl (lv_at hl 1 rfl) ?_
  refine lv_bipush (v := 32) hx hb dn_d_Mod_show_1 (by decide) ?_
  refine lv_lshr (v := dc_jr b (32 : Int32)) hx hb dn_d_Mod_show_3 rfl ?_
  refine lv_l2i (v := (dc_jr b (32 : Int32)).toInt32) hx hb dn_d_Mod_show_4 rfl ?_
  rw [show (dc_jr b (32 : Int32)).toInt32 = (dc_ju b 32).toInt32 from dc_hi b]
  refine lv_istore hx hb dn_d_Mod_show_5 hl (by decide) rfl (fun ls hl => ?_)
  have hl : lv_has ls 8 [(4, .int ((dc_ju b 32).toInt32)), (0, .long k), (2, .long b)] := hl
  refine lv_lload_n hx hb dn_d_Mod_show_7 rfl (lv_at hl 2 rfl) ?_
  refine lv_l2i (v := b.toInt32) hx hb dn_d_Mod_show_8 rfl ?_
  refine lv_istore hx hb dn_d_Mod_show_9 hl (by decide) rfl (fun ls hl => ?_)
  have hl : lv_has ls 8 [(5, .int b.toInt32), (4, .int ((dc_ju b 32).toInt32)), (0, .long k), (2, .long b)] := hl
  refine lv_bipush (v := 7) hx hb dn_d_Mod_show_11 (by decide) ?_
  refine lv_istore hx hb dn_d_Mod_show_13 hl (by decide) rfl (fun ls hl => ?_)
  have hl : lv_has ls 8 [(6, .int 7), (5, .int b.toInt32), (4, .int ((dc_ju b 32).toInt32)), (0, .long k), (2, .long b)] := hl
  refine dc_loop (σ := Nat × Int32 × Int32) 15 [] (fun (x9 : Nat × Int32 × Int32) => match x9 with | (j, lf, rt) => j) (fun (x9 : Nat × Int32 × Int32) (H : Heap) (locs : List Loc) (ls : Array Slot) => match x9 with | (j, lf, rt) => lv_has ls 8 [(6, .int (dc_dn j)), (5, .int rt), (4, .int lf), (0, .long k), (2, .long b)] ∧ H = s.heap ∧ locs = [] ∧ (j ≤ 8) ∧ (dc_decR k j lf rt = dc_dec k b)) ?_ (8, (dc_ju b 32).toInt32, b.toInt32) ⟨lv_sub hl [0, 1, 2, 3, 4] rfl, rfl, rfl, (by omega), (rfl)⟩
  rintro ⟨j, lf, rt⟩ H locs ls ⟨hl, rfl, rfl, hj, hi⟩ ih15
  have hl : lv_has ls 8 [(6, .int (dc_dn j)), (5, .int rt), (4, .int lf), (0, .long k), (2, .long b)] := hl
  rcases j with _ | j
  ·
    have hl : lv_has ls 8 [(6, .int (-1)), (5, .int rt), (4, .int lf), (0, .long k), (2, .long b)] := hl
    refine lv_iload hx hb dn_d_Mod_show_15 (lv_at hl 0 rfl) ?_
    refine lv_if_lt (tgt := 47) hx hb dn_d_Mod_show_17 (by decide) (fun h17 => ?_) (fun h17 => ?_)
    · -- 17: (-1) < 0
      refine lv_iload hx hb dn_d_Mod_show_47 (lv_at hl 2 rfl) ?_
      refine lv_iload hx hb dn_d_Mod_show_49 (lv_at hl 1 rfl) ?_
      refine vp_callSl (va_Run.run (va_runS (As := [.int lf, .int rt]) (rest := []) ⟨hx, hb, hml, hown, hts⟩ (rr_joined l lf rt ) ⟨(callB_of 2 hts (dc_good dn_w_992) rfl rfl rfl (hts _ dn_w_12) (hts _ dn_w_990) (by decide +kernel) ⟨Nat.le_of_ble_eq_true rfl, Nat.le_of_ble_eq_true rfl⟩), (hts _ dn_w_991)⟩ preEq rfl rfl hl.1 rfl (lv_room (Nat.le_of_ble_eq_true rfl)) dn_d_Mod_show_51 ⟨Nat.le_of_ble_eq_true rfl, Nat.le_of_ble_eq_true rfl⟩)) (fun r9 hr9 => ?_)
      subst hr9
      exact W.lret (v := (dc_join lf.toInt64 rt.toInt64)) hx hb hr (fun t ht hW => ⟨_, rfl, (hi), ht⟩) (fun q h => by cases h) dn_d_Mod_show_54
    · exact absurd h17 (by decide)
  ·
    have hl : lv_has ls 8 [(6, .int (nI j)), (5, .int rt), (4, .int lf), (0, .long k), (2, .long b)] := hl
    refine lv_iload hx hb dn_d_Mod_show_15 (lv_at hl 0 rfl) ?_
    refine lv_if_lt (tgt := 47) hx hb dn_d_Mod_show_17 (by decide) (fun h17 => ?_) (fun h17 => ?_)
    · exact absurd (show j < 0 from (nI_ltI (a := j) (b := 0) (by omega) (by omega)).1 h17) (by omega)
    · -- 17: ¬ j < 0
      have h17 : ¬ j < 0 := fun z => h17 ((nI_ltI (a := j) (b := 0) (by omega) (by omega)).2 z)
      refine lv_iload hx hb dn_d_Mod_show_20 (lv_at hl 1 rfl) ?_
      refine lv_lload_n hx hb dn_d_Mod_show_22 rfl (lv_at hl 3 rfl) ?_
      refine lv_iload hx hb dn_d_Mod_show_23 (lv_at hl 2 rfl) ?_
      refine lv_iload hx hb dn_d_Mod_show_25 (lv_at hl 0 rfl) ?_
      refine vp_callSi (va_Run.run (va_runS (As := [.long k, .int lf, .int (nI j)]) (rest := [.int rt]) ⟨hx, hb, hml, hown, hts⟩ (rr_mixed l k lf (nI j) ) ⟨(callB_of 3 hts (dc_good dn_w_988) rfl rfl rfl (hts _ dn_w_12) (hts _ dn_w_986) (by decide +kernel) ⟨Nat.le_of_ble_eq_true rfl, Nat.le_of_ble_eq_true rfl⟩), (hts _ dn_w_987)⟩ preEq rfl rfl hl.1 rfl (lv_room (Nat.le_of_ble_eq_true rfl)) dn_d_Mod_show_27 ⟨Nat.le_of_ble_eq_true rfl, Nat.le_of_ble_eq_true rfl⟩)) (fun r9 hr9 => ?_)
      subst hr9
      refine lv_ixor hx hb dn_d_Mod_show_30 ?_
      refine lv_istore hx hb dn_d_Mod_show_31 hl (by decide) rfl (fun ls hl => ?_)
      have hl : lv_has ls 8 [(7, .int (rt ^^^ (dc_scr k (nI j) lf))), (6, .int (nI j)), (5, .int rt), (4, .int lf), (0, .long k), (2, .long b)] := hl
      refine lv_iload hx hb dn_d_Mod_show_33 (lv_at hl 3 rfl) ?_
      refine lv_istore hx hb dn_d_Mod_show_35 hl (by decide) rfl (fun ls hl => ?_)
      have hl : lv_has ls 8 [(5, .int lf), (7, .int (rt ^^^ (dc_scr k (nI j) lf))), (6, .int (nI j)), (4, .int lf), (0, .long k), (2, .long b)] := hl
      refine lv_iload hx hb dn_d_Mod_show_37 (lv_at hl 1 rfl) ?_
      refine lv_istore hx hb dn_d_Mod_show_39 hl (by decide) rfl (fun ls hl => ?_)
      have hl : lv_has ls 8 [(4, .int (rt ^^^ (dc_scr k (nI j) lf))), (5, .int lf), (7, .int (rt ^^^ (dc_scr k (nI j) lf))), (6, .int (nI j)), (0, .long k), (2, .long b)] := hl
      refine lv_iinc (k := 3) (v := dc_dn j) hx hb dn_d_Mod_show_41 hl rfl (dc_dnp _) (by decide) rfl (fun ls hl => ?_)
      have hl : lv_has ls 8 [(6, .int (dc_dn j)), (4, .int (rt ^^^ (dc_scr k (nI j) lf))), (5, .int lf), (7, .int (rt ^^^ (dc_scr k (nI j) lf))), (0, .long k), (2, .long b)] := hl
      refine lv_goto (tgt := 15) hx hb dn_d_Mod_show_44 (by decide) ?_
      exact ih15 (j, rt ^^^ (dc_scr k (nI j) lf), lf) _ _ _ (by first | omega | (dsimp only; omega)) ⟨lv_sub hl [0, 2, 1, 4, 5] rfl, rfl, rfl, (by omega), (hi)⟩

set_option maxHeartbeats 4000000 in
set_option maxRecDepth 100000 in
theorem rr_cipher (l : Launch) (G : va_G) (cA : Nat → ClassId) (mo : Nat) (mf : Nat) (m1 : Nat) (m2 : Nat) (so : Bool) (se : Int64) (sm : Int64) (sc : Int64) (sv : Nat) (ak : Bool) (cw : Int64) (dn : Int32) (an : Nat) (m3 : Nat) (m4 : Nat) (m5 : Nat) (sk : Nat) (m6 : Nat) (m7 : Nat) (m8 : Nat) (m9 : Nat) (t : Nat) (ma : Nat) (mb : Nat) (mc : Nat) (ee : Int64) (em : Int64) (ec : Int64) (mg : Nat) (mz : Nat) (gn : Bool) (c : Int32) (mr : Nat) (mi : Nat) (th : Int32) (x : Int64) (y : Int64)  (sz : Nat) : Met l dn_y_Mod_cipher (.code dn_y_Mod_cipher dn_c_Mod_cipher 5 (some .long) :: dc_W) ({ frames := 2, cells := 0, slots := 0, locals := 53 }) (dc_pW G cA [(mo, .inr (9, [.ref mf, .ref m1, .ref m2, .int (dc_bI so), .long se, .long sm, .long sc, .int (dc_dn sv), .int (dc_bI ak), .long cw, .int dn, .int (nI an), .ref m3, .ref m4, .ref m5, .int (nI sk), .ref m6, .ref m7, .ref m8, .ref m9, .int (nI t), .ref ma, .ref mb, .ref mc, .long ee, .long em, .long ec, .ref mg, .ref mz, .int (dc_bI gn), .int c, .ref mr, .ref mi, .int th]))] sz [.ref mo, .long x, .long y]) (dc_ql G (fun (r : Int64) (_ : Unit) => r = dc_enc x y) (fun (_ : Unit) => [(mo, .inr (9, [.ref mf, .ref m1, .ref m2, .int (dc_bI so), .long se, .long sm, .long sc, .int (dc_dn sv), .int (dc_bI ak), .long cw, .int dn, .int (nI an), .ref m3, .ref m4, .ref m5, .int (nI sk), .ref m6, .ref m7, .ref m8, .ref m9, .int (nI t), .ref ma, .ref mb, .ref mc, .long ee, .long em, .long ec, .ref mg, .ref mz, .int (dc_bI gn), .int c, .ref mr, .ref mi, .int 0]))]) sz [(mo, .inr (9, [.ref mf, .ref m1, .ref m2, .int (dc_bI so), .long se, .long sm, .long sc, .int (dc_dn sv), .int (dc_bI ak), .long cw, .int dn, .int (nI an), .ref m3, .ref m4, .ref m5, .int (nI sk), .ref m6, .ref m7, .ref m8, .ref m9, .int (nI t), .ref ma, .ref mb, .ref mc, .long ee, .long em, .long ec, .ref mg, .ref mz, .int (dc_bI gn), .int c, .ref mr, .ref mi, .int th]))]) 0 0 (va_A [(mo, .inr (9, [.ref mf, .ref m1, .ref m2, .int (dc_bI so), .long se, .long sm, .long sc, .int (dc_dn sv), .int (dc_bI ak), .long cw, .int dn, .int (nI an), .ref m3, .ref m4, .ref m5, .int (nI sk), .ref m6, .ref m7, .ref m8, .ref m9, .int (nI t), .ref ma, .ref mb, .ref mc, .long ee, .long em, .long ec, .ref mg, .ref mz, .int (dc_bI gn), .int c, .ref mr, .ref mi, .int th]))] sz) := by
  refine Met.ofW (cc := dn_c_Mod_cipher) (maxL := 5) (ret := (some .long)) (by decide) rfl ?_
  intro p9 en9 s m args9 below9 meth9 cd9 s9 B hml hv
  obtain ⟨rfl, hsz, hP, hK0, hD0⟩ := hv
  have hx := B.exec
  have hb := B.bytes
  have hr := B.returns
  have hts : ∀ w ∈ dc_W, w.before _ s = true := fun w h => atoms_spec (ws := (.code dn_y_Mod_cipher dn_c_Mod_cipher 5 (some .long) :: dc_W)) B.pre w (List.mem_cons_of_mem _ h)
  have hK := hK0.1
  have hN := hK0.2
  have hown : s.vm.findClass dn_R_Mod = some m.cls := findClass_of_methodNamed B.named
  have hlocks := B.notSynchronized
  subst hsz
  have hD := hD0.self (sz := s.heap.size)
  unfold dc_ql
  generalize hAe : va_A [(mo, .inr (9, [.ref mf, .ref m1, .ref m2, .int (dc_bI so), .long se, .long sm, .long sc, .int (dc_dn sv), .int (dc_bI ak), .long cw, .int dn, .int (nI an), .ref m3, .ref m4, .ref m5, .int (nI sk), .ref m6, .ref m7, .ref m8, .ref m9, .int (nI t), .ref ma, .ref mb, .ref mc, .long ee, .long em, .long ec, .ref mg, .ref mz, .int (dc_bI gn), .int c, .ref mr, .ref mi, .int th]))] s.heap.size = A at hD ⊢
  have hA : ∀ q : Nat, s.heap.size ≤ q → A q := fun q h => by rw [← hAe]; exact Or.inr h
  have hS : va_S A s.heap s.heap [] := va_S.rf
  have hl := lv_entry ([.ref mo, .long x, .long y]) (n := 5) (Nat.le_of_ble_eq_true rfl)
  rw [lg_entry_eq]
  generalize (lg_sl ([.ref mo, .long x, .long y]) ++ List.replicate (5 - (lg_sl ([.ref mo, .long x, .long y])).length) Slot.unset).toArray = ls at hl ⊢
  have hl : lv_has ls 5 [(0, .ref mo), (1, .long x), (3, .long y)] := hl
  refine lv_aload_n hx hb dn_d_Mod_cipher_0 rfl (lv_at hl 0 rfl) ?_
  refine lv_iconst (v := 0) hx hb dn_d_Mod_cipher_1 (by decide) ?_
  refine va_put (D := G) (ci := 9) (v := .int 0) (ty := (.int)) (C := dn_R_Mod) (T := dn_T_Mod) (N := 34) hx hb hts (dn_u_Mod) dn_t_Mod dn_o_Mod dn_n_Mod hown hK hP hD hS 0 rfl rfl 33 (by decide) (hts _ dn_w_891) (fun _ h9 => h9) rfl (by decide +kernel) rfl rfl (Nat.le_of_ble_eq_true rfl) dn_d_Mod_cipher_2 (fun H locs hP hD hS => ?_)
  have hP : va_P G vwCl [(mo, .inr (9, [.ref mf, .ref m1, .ref m2, .int (dc_bI so), .long se, .long sm, .long sc, .int (dc_dn sv), .int (dc_bI ak), .long cw, .int dn, .int (nI an), .ref m3, .ref m4, .ref m5, .int (nI sk), .ref m6, .ref m7, .ref m8, .ref m9, .int (nI t), .ref ma, .ref mb, .ref mc, .long ee, .long em, .long ec, .ref mg, .ref mz, .int (dc_bI gn), .int c, .ref mr, .ref mi, .int 0]))] H := hP
  have hD : va_D A [(mo, .inr (9, [.ref mf, .ref m1, .ref m2, .int (dc_bI so), .long se, .long sm, .long sc, .int (dc_dn sv), .int (dc_bI ak), .long cw, .int dn, .int (nI an), .ref m3, .ref m4, .ref m5, .int (nI sk), .ref m6, .ref m7, .ref m8, .ref m9, .int (nI t), .ref ma, .ref mb, .ref mc, .long ee, .long em, .long ec, .ref mg, .ref mz, .int (dc_bI gn), .int c, .ref mr, .ref mi, .int 0]))] := hD
  refine lv_lload_n hx hb dn_d_Mod_cipher_5 rfl (lv_at hl 1 rfl) ?_
  refine lv_lload_n hx hb dn_d_Mod_cipher_6 rfl (lv_at hl 2 rfl) ?_
  refine vp_callSl (va_Run.run (va_runS (As := [.long x, .long y]) (rest := []) ⟨hx, hb, hml, hown, hts⟩ (rr_hide l x y ) ⟨(callB_of 2 hts (dc_good dn_w_985) rfl rfl rfl (hts _ dn_w_12) (hts _ dn_w_983) (by decide +kernel) ⟨Nat.le_of_ble_eq_true rfl, Nat.le_of_ble_eq_true rfl⟩), (hts _ dn_w_984)⟩ preEq rfl rfl hl.1 rfl (lv_room (Nat.le_of_ble_eq_true rfl)) dn_d_Mod_cipher_7 ⟨Nat.le_of_ble_eq_true rfl, Nat.le_of_ble_eq_true rfl⟩)) (fun r9 hr9 => ?_)
  subst hr9
  have hP9 := hP.sub (ws' := [(mo, .inr (9, [.ref mf, .ref m1, .ref m2, .int (dc_bI so), .long se, .long sm, .long sc, .int (dc_dn sv), .int (dc_bI ak), .long cw, .int dn, .int (nI an), .ref m3, .ref m4, .ref m5, .int (nI sk), .ref m6, .ref m7, .ref m8, .ref m9, .int (nI t), .ref ma, .ref mb, .ref mc, .long ee, .long em, .long ec, .ref mg, .ref mz, .int (dc_bI gn), .int c, .ref mr, .ref mi, .int 0]))]) [0] rfl
  have hD9 := hD.sub (ws' := [(mo, .inr (9, [.ref mf, .ref m1, .ref m2, .int (dc_bI so), .long se, .long sm, .long sc, .int (dc_dn sv), .int (dc_bI ak), .long cw, .int dn, .int (nI an), .ref m3, .ref m4, .ref m5, .int (nI sk), .ref m6, .ref m7, .ref m8, .ref m9, .int (nI t), .ref ma, .ref mb, .ref mc, .long ee, .long em, .long ec, .ref mg, .ref mz, .int (dc_bI gn), .int c, .ref mr, .ref mi, .int 0]))]) [0] (by decide) rfl
  exact W.lret (v := (dc_enc x y)) hx hb hr (fun t ht hW => ⟨⟨_, (), rfl, (rfl), by rw [ht]; exact hP9, hD9⟩, hS.F ht⟩) hS.2.2 dn_d_Mod_cipher_10

set_option maxHeartbeats 4000000 in
set_option maxRecDepth 100000 in
theorem rr_seal (l : Launch) (G : va_G) (cA : Nat → ClassId) (mo : Nat) (mf : Nat) (m1 : Nat) (m2 : Nat) (so : Bool) (se : Int64) (sm : Int64) (sc : Int64) (sv : Nat) (ak : Bool) (cw : Int64) (dn : Int32) (an : Nat) (m3 : Nat) (m4 : Nat) (m5 : Nat) (sk : Nat) (m6 : Nat) (m7 : Nat) (m8 : Nat) (m9 : Nat) (t : Nat) (ma : Nat) (mb : Nat) (mc : Nat) (ee : Int64) (em : Int64) (ec : Int64) (mg : Nat) (mz : Nat) (gn : Bool) (c : Int32) (mr : Nat) (mi : Nat) (th : Int32) (rw : Nat → Int64) (x : Int64) (k : Nat) (hk : k ≤ 24) : Met l dn_y_Mod_seal (.code dn_y_Mod_seal dn_c_Mod_seal 7 (some .long) :: dc_W) ({ frames := 2, cells := 0, slots := 0, locals := 53 }) (dc_pR G cA [(mo, .inr (9, [.ref mf, .ref m1, .ref m2, .int (dc_bI so), .long se, .long sm, .long sc, .int (dc_dn sv), .int (dc_bI ak), .long cw, .int dn, .int (nI an), .ref m3, .ref m4, .ref m5, .int (nI sk), .ref m6, .ref m7, .ref m8, .ref m9, .int (nI t), .ref ma, .ref mb, .ref mc, .long ee, .long em, .long ec, .ref mg, .ref mz, .int (dc_bI gn), .int c, .ref mr, .ref mi, .int th])), (mr, .inl (cA 1, 24, .inr (.inl rw)))] [.ref mo, .long x, .int (nI k)]) (vp_Sl (fun r => r = dc_sealM x rw k)) 0 0 (fun _ => False) := by
  refine Met.ofW (cc := dn_c_Mod_seal) (maxL := 7) (ret := (some .long)) (by decide) rfl ?_
  intro p9 en9 s m args9 below9 meth9 cd9 s9 B hml hv
  obtain ⟨rfl, hP, hK0⟩ := hv
  have hx := B.exec
  have hb := B.bytes
  have hr := B.returns
  have hts : ∀ w ∈ dc_W, w.before _ s = true := fun w h => atoms_spec (ws := (.code dn_y_Mod_seal dn_c_Mod_seal 7 (some .long) :: dc_W)) B.pre w (List.mem_cons_of_mem _ h)
  have hK := hK0.1
  have hN := hK0.2
  have hown : s.vm.findClass dn_R_Mod = some m.cls := findClass_of_methodNamed B.named
  have hlocks := B.notSynchronized
  have hl := lv_entry ([.ref mo, .long x, .int (nI k)]) (n := 7) (Nat.le_of_ble_eq_true rfl)
  rw [lg_entry_eq]
  generalize (lg_sl ([.ref mo, .long x, .int (nI k)]) ++ List.replicate (7 - (lg_sl ([.ref mo, .long x, .int (nI k)])).length) Slot.unset).toArray = ls at hl ⊢
  have hl : lv_has ls 7 [(0, .ref mo), (1, .long x), (3, .int (nI k))] := hl
  refine lv_lconst (v := 0) hx hb dn_d_Mod_seal_0 (by decide) ?_
  refine lv_lstore hx hb dn_d_Mod_seal_1 hl (by decide) rfl (fun ls hl => ?_)
  have hl : lv_has ls 7 [(4, .long 0), (0, .ref mo), (1, .long x), (3, .int (nI k))] := hl
  refine lv_iconst (v := 0) hx hb dn_d_Mod_seal_3 (by decide) ?_
  refine lv_istore hx hb dn_d_Mod_seal_4 hl (by decide) rfl (fun ls hl => ?_)
  have hl : lv_has ls 7 [(6, .int 0), (4, .long 0), (0, .ref mo), (1, .long x), (3, .int (nI k))] := hl
  refine dc_loop (σ := Nat) 6 [] (fun (i : Nat) => k - i) (fun (i : Nat) (H : Heap) (locs : List Loc) (ls : Array Slot) => lv_has ls 7 [(6, .int (nI i)), (4, .long (dc_sealM x rw i)), (0, .ref mo), (1, .long x), (3, .int (nI k))] ∧ H = s.heap ∧ locs = [] ∧ (i ≤ k)) ?_ 0 ⟨lv_sub hl [0, 1, 2, 3, 4] rfl, rfl, rfl, (by omega)⟩
  rintro i H locs ls ⟨hl, rfl, rfl, hi⟩ ih6
  have hl : lv_has ls 7 [(6, .int (nI i)), (4, .long (dc_sealM x rw i)), (0, .ref mo), (1, .long x), (3, .int (nI k))] := hl
  refine lv_iload hx hb dn_d_Mod_seal_6 (lv_at hl 0 rfl) ?_
  refine lv_iload_n hx hb dn_d_Mod_seal_8 rfl (lv_at hl 4 rfl) ?_
  refine lv_icmp_ge (tgt := 34) hx hb dn_d_Mod_seal_9 (by decide) (fun h9 => ?_) (fun h9 => ?_)
  · -- 9: k ≤ i
    have h9 : k ≤ i := (nI_leI (a := k) (b := i) (by omega) (by omega)).1 h9
    refine lv_lload hx hb dn_d_Mod_seal_34 (lv_at hl 1 rfl) ?_
    exact W.lret (v := (dc_sealM x rw i)) hx hb hr (fun t ht hW => ⟨_, rfl, (by rw [show i = k by omega]), ht⟩) (fun q h => by cases h) dn_d_Mod_seal_36
  · -- 9: ¬ k ≤ i
    have h9 : ¬ k ≤ i := fun z => h9 ((nI_leI (a := k) (b := i) (by omega) (by omega)).2 z)
    refine lv_lload_n hx hb dn_d_Mod_seal_12 rfl (lv_at hl 3 rfl) ?_
    refine lv_aload_n hx hb dn_d_Mod_seal_13 rfl (lv_at hl 2 rfl) ?_
    refine va_get (D := G) (ci := 9) (v := .ref mr) (C := dn_R_Mod) (T := dn_T_Mod) (N := 34) hx hb hts (dn_u_Mod) hown hK hP 0 rfl rfl 31 (by decide) (hts _ dn_w_889) (fun _ h9 => h9) rfl dn_d_Mod_seal_14 ?_
    refine lv_iload hx hb dn_d_Mod_seal_17 (lv_at hl 0 rfl) ?_
    refine dc_lald (k := i) hx hb hK hP 1 rfl (by omega) (by omega) dn_d_Mod_seal_19 ?_
    refine lv_lload hx hb dn_d_Mod_seal_20 (lv_at hl 1 rfl) ?_
    refine lv_lxor hx hb dn_d_Mod_seal_22 ?_
    refine vp_callSl (va_Run.run (va_runS (As := [.long x, .long ((rw i) ^^^ (dc_sealM x rw i))]) (rest := []) ⟨hx, hb, hml, hown, hts⟩ (rr_hide l x ((rw i) ^^^ (dc_sealM x rw i)) ) ⟨(callB_of 2 hts (dc_good dn_w_985) rfl rfl rfl (hts _ dn_w_12) (hts _ dn_w_983) (by decide +kernel) ⟨Nat.le_of_ble_eq_true rfl, Nat.le_of_ble_eq_true rfl⟩), (hts _ dn_w_984)⟩ preEq rfl rfl hl.1 rfl (lv_room (Nat.le_of_ble_eq_true rfl)) dn_d_Mod_seal_23 ⟨Nat.le_of_ble_eq_true rfl, Nat.le_of_ble_eq_true rfl⟩)) (fun r9 hr9 => ?_)
    subst hr9
    refine lv_lstore hx hb dn_d_Mod_seal_26 hl (by decide) rfl (fun ls hl => ?_)
    have hl : lv_has ls 7 [(4, .long (dc_enc x ((rw i) ^^^ (dc_sealM x rw i)))), (6, .int (nI i)), (0, .ref mo), (1, .long x), (3, .int (nI k))] := hl
    refine lv_iinc (k := 1) (v := nI (i + 1)) hx hb dn_d_Mod_seal_28 hl rfl (dc_inc1 _) (by decide) rfl (fun ls hl => ?_)
    have hl : lv_has ls 7 [(6, .int (nI (i + 1))), (4, .long (dc_enc x ((rw i) ^^^ (dc_sealM x rw i)))), (0, .ref mo), (1, .long x), (3, .int (nI k))] := hl
    refine lv_goto (tgt := 6) hx hb dn_d_Mod_seal_31 (by decide) ?_
    exact ih6 (i + 1) _ _ _ (by first | omega | (dsimp only; omega)) ⟨lv_sub hl [0, 1, 2, 3, 4] rfl, rfl, rfl, (by omega)⟩

set_option maxHeartbeats 4000000 in
set_option maxRecDepth 100000 in
theorem rr_sealOf (l : Launch) (G : va_G) (cA : Nat → ClassId) (mo : Nat) (mf : Nat) (m1 : Nat) (m2 : Nat) (so : Bool) (se : Int64) (sm : Int64) (sc : Int64) (sv : Nat) (ak : Bool) (cw : Int64) (dn : Int32) (an : Nat) (m3 : Nat) (m4 : Nat) (m5 : Nat) (sk : Nat) (m6 : Nat) (m7 : Nat) (m8 : Nat) (m9 : Nat) (t : Nat) (ma : Nat) (mb : Nat) (mc : Nat) (ee : Int64) (em : Int64) (ec : Int64) (mg : Nat) (mz : Nat) (gn : Bool) (c : Int32) (mr : Nat) (mi : Nat) (th : Int32) (rw : Nat → Int64) (k : Int64) (x : Int64) (y : Int64) (u : Int64)  (sz : Nat) : Met l dn_y_Mod_sealOf (.code dn_y_Mod_sealOf dn_c_Mod_sealOf 9 (some .long) :: dc_W) ({ frames := 3, cells := 0, slots := 0, locals := 79 }) (dc_pW G cA [(mo, .inr (9, [.ref mf, .ref m1, .ref m2, .int (dc_bI so), .long se, .long sm, .long sc, .int (dc_dn sv), .int (dc_bI ak), .long cw, .int dn, .int (nI an), .ref m3, .ref m4, .ref m5, .int (nI sk), .ref m6, .ref m7, .ref m8, .ref m9, .int (nI t), .ref ma, .ref mb, .ref mc, .long ee, .long em, .long ec, .ref mg, .ref mz, .int (dc_bI gn), .int c, .ref mr, .ref mi, .int th])), (mr, .inl (cA 1, 24, .inr (.inl rw)))] sz [.ref mo, .long k, .long x, .long y, .long u]) (dc_ql G (fun (r : Int64) (_ : Unit) => r = dc_seal3 k x y u) (fun (_ : Unit) => [(mo, .inr (9, [.ref mf, .ref m1, .ref m2, .int (dc_bI so), .long se, .long sm, .long sc, .int (dc_dn sv), .int (dc_bI ak), .long cw, .int dn, .int (nI an), .ref m3, .ref m4, .ref m5, .int (nI sk), .ref m6, .ref m7, .ref m8, .ref m9, .int (nI t), .ref ma, .ref mb, .ref mc, .long ee, .long em, .long ec, .ref mg, .ref mz, .int (dc_bI gn), .int c, .ref mr, .ref mi, .int th])), (mr, .inl (cA 1, 24, .inr (.inl (dc_sgW rw x y u))))]) sz [(mo, .inr (9, [.ref mf, .ref m1, .ref m2, .int (dc_bI so), .long se, .long sm, .long sc, .int (dc_dn sv), .int (dc_bI ak), .long cw, .int dn, .int (nI an), .ref m3, .ref m4, .ref m5, .int (nI sk), .ref m6, .ref m7, .ref m8, .ref m9, .int (nI t), .ref ma, .ref mb, .ref mc, .long ee, .long em, .long ec, .ref mg, .ref mz, .int (dc_bI gn), .int c, .ref mr, .ref mi, .int th])), (mr, .inl (cA 1, 24, .inr (.inl rw)))]) 0 0 (va_A [(mo, .inr (9, [.ref mf, .ref m1, .ref m2, .int (dc_bI so), .long se, .long sm, .long sc, .int (dc_dn sv), .int (dc_bI ak), .long cw, .int dn, .int (nI an), .ref m3, .ref m4, .ref m5, .int (nI sk), .ref m6, .ref m7, .ref m8, .ref m9, .int (nI t), .ref ma, .ref mb, .ref mc, .long ee, .long em, .long ec, .ref mg, .ref mz, .int (dc_bI gn), .int c, .ref mr, .ref mi, .int th])), (mr, .inl (cA 1, 24, .inr (.inl rw)))] sz) := by
  refine Met.ofW (cc := dn_c_Mod_sealOf) (maxL := 9) (ret := (some .long)) (by decide) rfl ?_
  intro p9 en9 s m args9 below9 meth9 cd9 s9 B hml hv
  obtain ⟨rfl, hsz, hP, hK0, hD0⟩ := hv
  have hx := B.exec
  have hb := B.bytes
  have hr := B.returns
  have hts : ∀ w ∈ dc_W, w.before _ s = true := fun w h => atoms_spec (ws := (.code dn_y_Mod_sealOf dn_c_Mod_sealOf 9 (some .long) :: dc_W)) B.pre w (List.mem_cons_of_mem _ h)
  have hK := hK0.1
  have hN := hK0.2
  have hown : s.vm.findClass dn_R_Mod = some m.cls := findClass_of_methodNamed B.named
  have hlocks := B.notSynchronized
  subst hsz
  have hD := hD0.self (sz := s.heap.size)
  unfold dc_ql
  generalize hAe : va_A [(mo, .inr (9, [.ref mf, .ref m1, .ref m2, .int (dc_bI so), .long se, .long sm, .long sc, .int (dc_dn sv), .int (dc_bI ak), .long cw, .int dn, .int (nI an), .ref m3, .ref m4, .ref m5, .int (nI sk), .ref m6, .ref m7, .ref m8, .ref m9, .int (nI t), .ref ma, .ref mb, .ref mc, .long ee, .long em, .long ec, .ref mg, .ref mz, .int (dc_bI gn), .int c, .ref mr, .ref mi, .int th])), (mr, .inl (cA 1, 24, .inr (.inl rw)))] s.heap.size = A at hD ⊢
  have hA : ∀ q : Nat, s.heap.size ≤ q → A q := fun q h => by rw [← hAe]; exact Or.inr h
  have hS : va_S A s.heap s.heap [] := va_S.rf
  have hl := lv_entry ([.ref mo, .long k, .long x, .long y, .long u]) (n := 9) (Nat.le_of_ble_eq_true rfl)
  rw [lg_entry_eq]
  generalize (lg_sl ([.ref mo, .long k, .long x, .long y, .long u]) ++ List.replicate (9 - (lg_sl ([.ref mo, .long k, .long x, .long y, .long u])).length) Slot.unset).toArray = ls at hl ⊢
  have hl : lv_has ls 9 [(0, .ref mo), (1, .long k), (3, .long x), (5, .long y), (7, .long u)] := hl
  refine lv_aload_n hx hb dn_d_Mod_sealOf_0 rfl (lv_at hl 0 rfl) ?_
  refine va_get (D := G) (ci := 9) (v := .ref mr) (C := dn_R_Mod) (T := dn_T_Mod) (N := 34) hx hb hts (dn_u_Mod) hown hK hP 0 rfl rfl 31 (by decide) (hts _ dn_w_889) (fun _ h9 => h9) rfl dn_d_Mod_sealOf_1 ?_
  refine lv_iconst (v := 0) hx hb dn_d_Mod_sealOf_4 (by decide) ?_
  refine lv_lload_n hx hb dn_d_Mod_sealOf_5 rfl (lv_at hl 2 rfl) ?_
  refine dc_last (k := 0) hx hb hK hP hD hS 1 rfl (by omega) (by omega) dn_d_Mod_sealOf_6 (fun H locs hP hD hS => ?_)
  have hP : va_P G vwCl [(mo, .inr (9, [.ref mf, .ref m1, .ref m2, .int (dc_bI so), .long se, .long sm, .long sc, .int (dc_dn sv), .int (dc_bI ak), .long cw, .int dn, .int (nI an), .ref m3, .ref m4, .ref m5, .int (nI sk), .ref m6, .ref m7, .ref m8, .ref m9, .int (nI t), .ref ma, .ref mb, .ref mc, .long ee, .long em, .long ec, .ref mg, .ref mz, .int (dc_bI gn), .int c, .ref mr, .ref mi, .int th])), (mr, .inl (cA 1, 24, .inr (.inl (vp_updL rw 0 x))))] H := hP
  have hD : va_D A [(mo, .inr (9, [.ref mf, .ref m1, .ref m2, .int (dc_bI so), .long se, .long sm, .long sc, .int (dc_dn sv), .int (dc_bI ak), .long cw, .int dn, .int (nI an), .ref m3, .ref m4, .ref m5, .int (nI sk), .ref m6, .ref m7, .ref m8, .ref m9, .int (nI t), .ref ma, .ref mb, .ref mc, .long ee, .long em, .long ec, .ref mg, .ref mz, .int (dc_bI gn), .int c, .ref mr, .ref mi, .int th])), (mr, .inl (cA 1, 24, .inr (.inl (vp_updL rw 0 x))))] := hD
  refine lv_aload_n hx hb dn_d_Mod_sealOf_7 rfl (lv_at hl 0 rfl) ?_
  refine va_get (D := G) (ci := 9) (v := .ref mr) (C := dn_R_Mod) (T := dn_T_Mod) (N := 34) hx hb hts (dn_u_Mod) hown hK hP 0 rfl rfl 31 (by decide) (hts _ dn_w_889) (fun _ h9 => h9) rfl dn_d_Mod_sealOf_8 ?_
  refine lv_iconst (v := 1) hx hb dn_d_Mod_sealOf_11 (by decide) ?_
  refine lv_lload hx hb dn_d_Mod_sealOf_12 (lv_at hl 3 rfl) ?_
  refine dc_last (k := 1) hx hb hK hP hD hS 1 rfl (by omega) (by omega) dn_d_Mod_sealOf_14 (fun H locs hP hD hS => ?_)
  have hP : va_P G vwCl [(mo, .inr (9, [.ref mf, .ref m1, .ref m2, .int (dc_bI so), .long se, .long sm, .long sc, .int (dc_dn sv), .int (dc_bI ak), .long cw, .int dn, .int (nI an), .ref m3, .ref m4, .ref m5, .int (nI sk), .ref m6, .ref m7, .ref m8, .ref m9, .int (nI t), .ref ma, .ref mb, .ref mc, .long ee, .long em, .long ec, .ref mg, .ref mz, .int (dc_bI gn), .int c, .ref mr, .ref mi, .int th])), (mr, .inl (cA 1, 24, .inr (.inl (vp_updL (vp_updL rw 0 x) 1 y))))] H := hP
  have hD : va_D A [(mo, .inr (9, [.ref mf, .ref m1, .ref m2, .int (dc_bI so), .long se, .long sm, .long sc, .int (dc_dn sv), .int (dc_bI ak), .long cw, .int dn, .int (nI an), .ref m3, .ref m4, .ref m5, .int (nI sk), .ref m6, .ref m7, .ref m8, .ref m9, .int (nI t), .ref ma, .ref mb, .ref mc, .long ee, .long em, .long ec, .ref mg, .ref mz, .int (dc_bI gn), .int c, .ref mr, .ref mi, .int th])), (mr, .inl (cA 1, 24, .inr (.inl (vp_updL (vp_updL rw 0 x) 1 y))))] := hD
  refine lv_aload_n hx hb dn_d_Mod_sealOf_15 rfl (lv_at hl 0 rfl) ?_
  refine va_get (D := G) (ci := 9) (v := .ref mr) (C := dn_R_Mod) (T := dn_T_Mod) (N := 34) hx hb hts (dn_u_Mod) hown hK hP 0 rfl rfl 31 (by decide) (hts _ dn_w_889) (fun _ h9 => h9) rfl dn_d_Mod_sealOf_16 ?_
  refine lv_iconst (v := 2) hx hb dn_d_Mod_sealOf_19 (by decide) ?_
  refine lv_lload hx hb dn_d_Mod_sealOf_20 (lv_at hl 4 rfl) ?_
  refine dc_last (k := 2) hx hb hK hP hD hS 1 rfl (by omega) (by omega) dn_d_Mod_sealOf_22 (fun H locs hP hD hS => ?_)
  have hP : va_P G vwCl [(mo, .inr (9, [.ref mf, .ref m1, .ref m2, .int (dc_bI so), .long se, .long sm, .long sc, .int (dc_dn sv), .int (dc_bI ak), .long cw, .int dn, .int (nI an), .ref m3, .ref m4, .ref m5, .int (nI sk), .ref m6, .ref m7, .ref m8, .ref m9, .int (nI t), .ref ma, .ref mb, .ref mc, .long ee, .long em, .long ec, .ref mg, .ref mz, .int (dc_bI gn), .int c, .ref mr, .ref mi, .int th])), (mr, .inl (cA 1, 24, .inr (.inl (vp_updL (vp_updL (vp_updL rw 0 x) 1 y) 2 u))))] H := hP
  have hD : va_D A [(mo, .inr (9, [.ref mf, .ref m1, .ref m2, .int (dc_bI so), .long se, .long sm, .long sc, .int (dc_dn sv), .int (dc_bI ak), .long cw, .int dn, .int (nI an), .ref m3, .ref m4, .ref m5, .int (nI sk), .ref m6, .ref m7, .ref m8, .ref m9, .int (nI t), .ref ma, .ref mb, .ref mc, .long ee, .long em, .long ec, .ref mg, .ref mz, .int (dc_bI gn), .int c, .ref mr, .ref mi, .int th])), (mr, .inl (cA 1, 24, .inr (.inl (vp_updL (vp_updL (vp_updL rw 0 x) 1 y) 2 u))))] := hD
  refine lv_aload_n hx hb dn_d_Mod_sealOf_23 rfl (lv_at hl 0 rfl) ?_
  refine lv_lload_n hx hb dn_d_Mod_sealOf_24 rfl (lv_at hl 1 rfl) ?_
  refine lv_iconst (v := 3) hx hb dn_d_Mod_sealOf_25 (by decide) ?_
  refine vp_callSl (va_Run.run (va_runV (b := mo) (As := [.long k, .int 3]) (rest := []) ⟨hx, hb, hml, hown, hts⟩ (rr_seal l G cA mo mf m1 m2 so se sm sc sv ak cw dn an m3 m4 m5 sk m6 m7 m8 m9 t ma mb mc ee em ec mg mz gn c mr mi th (vp_updL (vp_updL (vp_updL rw 0 x) 1 y) 2 u) k 3 (by first | assumption | omega)) ⟨(callB_of 2 hts (dc_good dn_w_1068) rfl rfl rfl (hts _ dn_w_12) (hts _ dn_w_1065) (by decide +kernel) ⟨Nat.le_of_ble_eq_true rfl, Nat.le_of_ble_eq_true rfl⟩), (hts _ dn_w_1067), (hts _ dn_s_Mod_seal)⟩ (dc_preVR (hP.sub [0, 1] rfl) hK0 (q0 := 0) rfl rfl) rfl rfl hl.1 rfl (lv_room (Nat.le_of_ble_eq_true rfl)) dn_d_Mod_sealOf_26 ⟨Nat.le_of_ble_eq_true rfl, Nat.le_of_ble_eq_true rfl⟩)) (fun r9 hr9 => ?_)
  subst hr9
  have hP9 := hP.sub (ws' := [(mo, .inr (9, [.ref mf, .ref m1, .ref m2, .int (dc_bI so), .long se, .long sm, .long sc, .int (dc_dn sv), .int (dc_bI ak), .long cw, .int dn, .int (nI an), .ref m3, .ref m4, .ref m5, .int (nI sk), .ref m6, .ref m7, .ref m8, .ref m9, .int (nI t), .ref ma, .ref mb, .ref mc, .long ee, .long em, .long ec, .ref mg, .ref mz, .int (dc_bI gn), .int c, .ref mr, .ref mi, .int th])), (mr, .inl (cA 1, 24, .inr (.inl (vp_updL (vp_updL (vp_updL rw 0 x) 1 y) 2 u))))]) [0, 1] rfl
  have hD9 := hD.sub (ws' := [(mo, .inr (9, [.ref mf, .ref m1, .ref m2, .int (dc_bI so), .long se, .long sm, .long sc, .int (dc_dn sv), .int (dc_bI ak), .long cw, .int dn, .int (nI an), .ref m3, .ref m4, .ref m5, .int (nI sk), .ref m6, .ref m7, .ref m8, .ref m9, .int (nI t), .ref ma, .ref mb, .ref mc, .long ee, .long em, .long ec, .ref mg, .ref mz, .int (dc_bI gn), .int c, .ref mr, .ref mi, .int th])), (mr, .inl (cA 1, 24, .inr (.inl (vp_updL (vp_updL (vp_updL rw 0 x) 1 y) 2 u))))]) [0, 1] (by decide) rfl
  have hE9 : ([(mo, .inr (9, [.ref mf, .ref m1, .ref m2, .int (dc_bI so), .long se, .long sm, .long sc, .int (dc_dn sv), .int (dc_bI ak), .long cw, .int dn, .int (nI an), .ref m3, .ref m4, .ref m5, .int (nI sk), .ref m6, .ref m7, .ref m8, .ref m9, .int (nI t), .ref ma, .ref mb, .ref mc, .long ee, .long em, .long ec, .ref mg, .ref mz, .int (dc_bI gn), .int c, .ref mr, .ref mi, .int th])), (mr, .inl (cA 1, 24, .inr (.inl (vp_updL (vp_updL (vp_updL rw 0 x) 1 y) 2 u))))] : va_W) = [(mo, .inr (9, [.ref mf, .ref m1, .ref m2, .int (dc_bI so), .long se, .long sm, .long sc, .int (dc_dn sv), .int (dc_bI ak), .long cw, .int dn, .int (nI an), .ref m3, .ref m4, .ref m5, .int (nI sk), .ref m6, .ref m7, .ref m8, .ref m9, .int (nI t), .ref ma, .ref mb, .ref mc, .long ee, .long em, .long ec, .ref mg, .ref mz, .int (dc_bI gn), .int c, .ref mr, .ref mi, .int th])), (mr, .inl (cA 1, 24, .inr (.inl (dc_sgW rw x y u))))] := rfl
  rw [hE9] at hP9 hD9
  exact W.lret (v := (dc_sealM k (vp_updL (vp_updL (vp_updL rw 0 x) 1 y) 2 u) 3)) hx hb hr (fun t ht hW => ⟨⟨_, (), rfl, (dc_sealM3 k rw x y u), by rw [ht]; exact hP9, hD9⟩, hS.F ht⟩) hS.2.2 dn_d_Mod_sealOf_29

set_option maxHeartbeats 4000000 in
set_option maxRecDepth 100000 in
theorem rr_digitsOf (l : Launch) (j : Nat) (hj : j < 3) : Met l dn_y_Mod_digitsOf (.code dn_y_Mod_digitsOf dn_c_Mod_digitsOf 1 (some .int) :: dc_W) ({ frames := 0, cells := 0, slots := 0, locals := 0 }) (fun v _ => v = ([.int (nI j)] : List Value).toArray) (vp_Si (fun r => r = nI (dc_wd j))) 0 0 (fun _ => False) := by
  refine Met.ofW (cc := dn_c_Mod_digitsOf) (maxL := 1) (ret := (some .int)) (by decide) rfl ?_
  intro p9 en9 s m args9 below9 meth9 cd9 s9 B hml hv
  obtain rfl := hv
  have hx := B.exec
  have hb := B.bytes
  have hr := B.returns
  have hts : ∀ w ∈ dc_W, w.before _ s = true := fun w h => atoms_spec (ws := (.code dn_y_Mod_digitsOf dn_c_Mod_digitsOf 1 (some .int) :: dc_W)) B.pre w (List.mem_cons_of_mem _ h)
  have hown : s.vm.findClass dn_R_Mod = some m.cls := findClass_of_methodNamed B.named
  have hlocks := B.notSynchronized
  have hl := lv_entry ([.int (nI j)]) (n := 1) (Nat.le_of_ble_eq_true rfl)
  rw [lg_entry_eq]
  generalize (lg_sl ([.int (nI j)]) ++ List.replicate (1 - (lg_sl ([.int (nI j)])).length) Slot.unset).toArray = ls at hl ⊢
  have hl : lv_has ls 1 [(0, .int (nI j))] := hl
  refine lv_iload_n hx hb dn_d_Mod_digitsOf_0 rfl (lv_at hl 0 rfl) ?_
  refine lv_if_ne (tgt := 9) hx hb dn_d_Mod_digitsOf_1 (by decide) (fun h1 => ?_) (fun h1 => ?_)
  · -- 1: ¬ j = 0
    have h1 : ¬ j = 0 := fun z => h1 ((nI_eq (a := j) (b := 0) (by omega) (by omega)).2 z)
    refine lv_bipush (v := 6) hx hb dn_d_Mod_digitsOf_9 (by decide) ?_
    exact W.iret (v := 6) hx hb hr (fun t ht hW => ⟨_, rfl, (by cases j with
          | zero => exact absurd rfl h1
          | succ j => rfl), ht⟩) (fun q h => by cases h) dn_d_Mod_digitsOf_11
  · -- 1: j = 0
    have h1 : j = 0 := (nI_eq (a := j) (b := 0) (by omega) (by omega)).1 h1
    refine lv_bipush (v := 9) hx hb dn_d_Mod_digitsOf_4 (by decide) ?_
    refine lv_goto (tgt := 11) hx hb dn_d_Mod_digitsOf_6 (by decide) ?_
    exact W.iret (v := 9) hx hb hr (fun t ht hW => ⟨_, rfl, (by rw [h1]; rfl), ht⟩) (fun q h => by cases h) dn_d_Mod_digitsOf_11

set_option maxHeartbeats 4000000 in
set_option maxRecDepth 100000 in
theorem rr_printed (l : Launch) (G : va_G) (cA : Nat → ClassId) (mo : Nat) (mf : Nat) (m1 : Nat) (m2 : Nat) (so : Bool) (se : Int64) (sm : Int64) (sc : Int64) (sv : Nat) (ak : Bool) (cw : Int64) (dn : Int32) (an : Nat) (m3 : Nat) (m4 : Nat) (m5 : Nat) (sk : Nat) (m6 : Nat) (m7 : Nat) (m8 : Nat) (m9 : Nat) (t : Nat) (ma : Nat) (mb : Nat) (mc : Nat) (ee : Int64) (em : Int64) (ec : Int64) (mg : Nat) (mz : Nat) (gn : Bool) (c : Int32) (mr : Nat) (mi : Nat) (th : Int32) (fv : Nat → Int32) (fd : Nat → Int32) (j : Nat) (hj : j < 3) : Met l dn_y_Mod_printed (.code dn_y_Mod_printed dn_c_Mod_printed 2 (some .long) :: dc_W) ({ frames := 0, cells := 0, slots := 0, locals := 0 }) (dc_pR G cA [(mo, .inr (9, [.ref mf, .ref m1, .ref m2, .int (dc_bI so), .long se, .long sm, .long sc, .int (dc_dn sv), .int (dc_bI ak), .long cw, .int dn, .int (nI an), .ref m3, .ref m4, .ref m5, .int (nI sk), .ref m6, .ref m7, .ref m8, .ref m9, .int (nI t), .ref ma, .ref mb, .ref mc, .long ee, .long em, .long ec, .ref mg, .ref mz, .int (dc_bI gn), .int c, .ref mr, .ref mi, .int th])), (m4, .inl (cA 0, 3, .inl fv)), (m5, .inl (cA 0, 3, .inl fd))] [.ref mo, .int (nI j)]) (vp_Sl (fun r => r = dc_word fv fd j)) 0 0 (fun _ => False) := by
  refine Met.ofW (cc := dn_c_Mod_printed) (maxL := 2) (ret := (some .long)) (by decide) rfl ?_
  intro p9 en9 s m args9 below9 meth9 cd9 s9 B hml hv
  obtain ⟨rfl, hP, hK0⟩ := hv
  have hx := B.exec
  have hb := B.bytes
  have hr := B.returns
  have hts : ∀ w ∈ dc_W, w.before _ s = true := fun w h => atoms_spec (ws := (.code dn_y_Mod_printed dn_c_Mod_printed 2 (some .long) :: dc_W)) B.pre w (List.mem_cons_of_mem _ h)
  have hK := hK0.1
  have hN := hK0.2
  have hown : s.vm.findClass dn_R_Mod = some m.cls := findClass_of_methodNamed B.named
  have hlocks := B.notSynchronized
  have hl := lv_entry ([.ref mo, .int (nI j)]) (n := 2) (Nat.le_of_ble_eq_true rfl)
  rw [lg_entry_eq]
  generalize (lg_sl ([.ref mo, .int (nI j)]) ++ List.replicate (2 - (lg_sl ([.ref mo, .int (nI j)])).length) Slot.unset).toArray = ls at hl ⊢
  have hl : lv_has ls 2 [(0, .ref mo), (1, .int (nI j))] := hl
  refine lv_ldc2 (v := 10) hx hb hown (hts _ dn_w_1059) dn_d_Mod_printed_0 ?_
  refine lv_aload_n hx hb dn_d_Mod_printed_3 rfl (lv_at hl 0 rfl) ?_
  refine va_get (D := G) (ci := 9) (v := .ref m4) (C := dn_R_Mod) (T := dn_T_Mod) (N := 34) hx hb hts (dn_u_Mod) hown hK hP 0 rfl rfl 13 (by decide) (hts _ dn_w_871) (fun _ h9 => h9) rfl dn_d_Mod_printed_4 ?_
  refine lv_iload_n hx hb dn_d_Mod_printed_7 rfl (lv_at hl 1 rfl) ?_
  refine dc_iald (k := j) hx hb hK hP 1 rfl (by omega) (by omega) dn_d_Mod_printed_8 ?_
  refine lv_i2l (v := (fv j).toInt64) hx hb dn_d_Mod_printed_9 rfl ?_
  refine lv_lmul hx hb dn_d_Mod_printed_10 ?_
  refine lv_aload_n hx hb dn_d_Mod_printed_11 rfl (lv_at hl 0 rfl) ?_
  refine va_get (D := G) (ci := 9) (v := .ref m5) (C := dn_R_Mod) (T := dn_T_Mod) (N := 34) hx hb hts (dn_u_Mod) hown hK hP 0 rfl rfl 14 (by decide) (hts _ dn_w_872) (fun _ h9 => h9) rfl dn_d_Mod_printed_12 ?_
  refine lv_iload_n hx hb dn_d_Mod_printed_15 rfl (lv_at hl 1 rfl) ?_
  refine dc_iald (k := j) hx hb hK hP 2 rfl (by omega) (by omega) dn_d_Mod_printed_16 ?_
  refine lv_i2l (v := (fd j).toInt64) hx hb dn_d_Mod_printed_17 rfl ?_
  refine lv_ladd hx hb dn_d_Mod_printed_18 ?_
  exact W.lret (v := (((10 : Int64) * ((fv j).toInt64)) + ((fd j).toInt64))) hx hb hr (fun t ht hW => ⟨_, rfl, (by unfold dc_word; rw [Int64.mul_comm]), ht⟩) (fun q h => by cases h) dn_d_Mod_printed_19

set_option maxHeartbeats 4000000 in
set_option maxRecDepth 100000 in
theorem rr_noSession (l : Launch) (G : va_G) (cA : Nat → ClassId) (mo : Nat) (mf : Nat) (m1 : Nat) (m2 : Nat) (so : Bool) (se : Int64) (sm : Int64) (sc : Int64) (sv : Nat) (ak : Bool) (cw : Int64) (dn : Int32) (an : Nat) (m3 : Nat) (m4 : Nat) (m5 : Nat) (sk : Nat) (m6 : Nat) (m7 : Nat) (m8 : Nat) (m9 : Nat) (t : Nat) (ma : Nat) (mb : Nat) (mc : Nat) (ee : Int64) (em : Int64) (ec : Int64) (mg : Nat) (mz : Nat) (gn : Bool) (c : Int32) (mr : Nat) (mi : Nat) (th : Int32)  (sz : Nat) : Met l dn_y_Mod_noSession (.code dn_y_Mod_noSession dn_c_Mod_noSession 1 none :: dc_W) ({ frames := 0, cells := 0, slots := 0, locals := 0 }) (dc_pW G cA [(mo, .inr (9, [.ref mf, .ref m1, .ref m2, .int (dc_bI so), .long se, .long sm, .long sc, .int (dc_dn sv), .int (dc_bI ak), .long cw, .int dn, .int (nI an), .ref m3, .ref m4, .ref m5, .int (nI sk), .ref m6, .ref m7, .ref m8, .ref m9, .int (nI t), .ref ma, .ref mb, .ref mc, .long ee, .long em, .long ec, .ref mg, .ref mz, .int (dc_bI gn), .int c, .ref mr, .ref mi, .int th]))] sz [.ref mo]) (dc_qv G (fun (_ : Unit) => True) (fun (_ : Unit) => [(mo, .inr (9, [.ref mf, .ref m1, .ref m2, .int (dc_bI false), .long se, .long sm, .long sc, .int (dc_dn 0), .int (dc_bI ak), .long cw, .int dn, .int (nI an), .ref m3, .ref m4, .ref m5, .int (nI sk), .ref m6, .ref m7, .ref m8, .ref m9, .int (nI t), .ref ma, .ref mb, .ref mc, .long ee, .long em, .long ec, .ref mg, .ref mz, .int (dc_bI gn), .int c, .ref mr, .ref mi, .int th]))]) sz [(mo, .inr (9, [.ref mf, .ref m1, .ref m2, .int (dc_bI so), .long se, .long sm, .long sc, .int (dc_dn sv), .int (dc_bI ak), .long cw, .int dn, .int (nI an), .ref m3, .ref m4, .ref m5, .int (nI sk), .ref m6, .ref m7, .ref m8, .ref m9, .int (nI t), .ref ma, .ref mb, .ref mc, .long ee, .long em, .long ec, .ref mg, .ref mz, .int (dc_bI gn), .int c, .ref mr, .ref mi, .int th]))]) 0 0 (va_A [(mo, .inr (9, [.ref mf, .ref m1, .ref m2, .int (dc_bI so), .long se, .long sm, .long sc, .int (dc_dn sv), .int (dc_bI ak), .long cw, .int dn, .int (nI an), .ref m3, .ref m4, .ref m5, .int (nI sk), .ref m6, .ref m7, .ref m8, .ref m9, .int (nI t), .ref ma, .ref mb, .ref mc, .long ee, .long em, .long ec, .ref mg, .ref mz, .int (dc_bI gn), .int c, .ref mr, .ref mi, .int th]))] sz) := by
  refine Met.ofW (cc := dn_c_Mod_noSession) (maxL := 1) (ret := none) (by decide) rfl ?_
  intro p9 en9 s m args9 below9 meth9 cd9 s9 B hml hv
  obtain ⟨rfl, hsz, hP, hK0, hD0⟩ := hv
  have hx := B.exec
  have hb := B.bytes
  have hr := B.returns
  have hts : ∀ w ∈ dc_W, w.before _ s = true := fun w h => atoms_spec (ws := (.code dn_y_Mod_noSession dn_c_Mod_noSession 1 none :: dc_W)) B.pre w (List.mem_cons_of_mem _ h)
  have hK := hK0.1
  have hN := hK0.2
  have hown : s.vm.findClass dn_R_Mod = some m.cls := findClass_of_methodNamed B.named
  have hlocks := B.notSynchronized
  subst hsz
  have hD := hD0.self (sz := s.heap.size)
  unfold dc_qv
  generalize hAe : va_A [(mo, .inr (9, [.ref mf, .ref m1, .ref m2, .int (dc_bI so), .long se, .long sm, .long sc, .int (dc_dn sv), .int (dc_bI ak), .long cw, .int dn, .int (nI an), .ref m3, .ref m4, .ref m5, .int (nI sk), .ref m6, .ref m7, .ref m8, .ref m9, .int (nI t), .ref ma, .ref mb, .ref mc, .long ee, .long em, .long ec, .ref mg, .ref mz, .int (dc_bI gn), .int c, .ref mr, .ref mi, .int th]))] s.heap.size = A at hD ⊢
  have hA : ∀ q : Nat, s.heap.size ≤ q → A q := fun q h => by rw [← hAe]; exact Or.inr h
  have hS : va_S A s.heap s.heap [] := va_S.rf
  have hl := lv_entry ([.ref mo]) (n := 1) (Nat.le_of_ble_eq_true rfl)
  rw [lg_entry_eq]
  generalize (lg_sl ([.ref mo]) ++ List.replicate (1 - (lg_sl ([.ref mo])).length) Slot.unset).toArray = ls at hl ⊢
  have hl : lv_has ls 1 [(0, .ref mo)] := hl
  refine lv_aload_n hx hb dn_d_Mod_noSession_0 rfl (lv_at hl 0 rfl) ?_
  refine lv_iconst (v := 0) hx hb dn_d_Mod_noSession_1 (by decide) ?_
  refine va_put (D := G) (ci := 9) (v := .int 0) (ty := (.boolean)) (C := dn_R_Mod) (T := dn_T_Mod) (N := 34) hx hb hts (dn_u_Mod) dn_t_Mod dn_o_Mod dn_n_Mod hown hK hP hD hS 0 rfl rfl 3 (by decide) (hts _ dn_w_861) (fun _ h9 => h9) rfl (by decide +kernel) rfl rfl (Nat.le_of_ble_eq_true rfl) dn_d_Mod_noSession_2 (fun H locs hP hD hS => ?_)
  have hP : va_P G vwCl [(mo, .inr (9, [.ref mf, .ref m1, .ref m2, .int 0, .long se, .long sm, .long sc, .int (dc_dn sv), .int (dc_bI ak), .long cw, .int dn, .int (nI an), .ref m3, .ref m4, .ref m5, .int (nI sk), .ref m6, .ref m7, .ref m8, .ref m9, .int (nI t), .ref ma, .ref mb, .ref mc, .long ee, .long em, .long ec, .ref mg, .ref mz, .int (dc_bI gn), .int c, .ref mr, .ref mi, .int th]))] H := hP
  have hD : va_D A [(mo, .inr (9, [.ref mf, .ref m1, .ref m2, .int 0, .long se, .long sm, .long sc, .int (dc_dn sv), .int (dc_bI ak), .long cw, .int dn, .int (nI an), .ref m3, .ref m4, .ref m5, .int (nI sk), .ref m6, .ref m7, .ref m8, .ref m9, .int (nI t), .ref ma, .ref mb, .ref mc, .long ee, .long em, .long ec, .ref mg, .ref mz, .int (dc_bI gn), .int c, .ref mr, .ref mi, .int th]))] := hD
  refine lv_aload_n hx hb dn_d_Mod_noSession_5 rfl (lv_at hl 0 rfl) ?_
  refine lv_iconst (v := (-1)) hx hb dn_d_Mod_noSession_6 (by decide) ?_
  refine va_put (D := G) (ci := 9) (v := .int (-1)) (ty := (.int)) (C := dn_R_Mod) (T := dn_T_Mod) (N := 34) hx hb hts (dn_u_Mod) dn_t_Mod dn_o_Mod dn_n_Mod hown hK hP hD hS 0 rfl rfl 7 (by decide) (hts _ dn_w_865) (fun _ h9 => h9) rfl (by decide +kernel) rfl rfl (Nat.le_of_ble_eq_true rfl) dn_d_Mod_noSession_7 (fun H locs hP hD hS => ?_)
  have hP : va_P G vwCl [(mo, .inr (9, [.ref mf, .ref m1, .ref m2, .int 0, .long se, .long sm, .long sc, .int (-1), .int (dc_bI ak), .long cw, .int dn, .int (nI an), .ref m3, .ref m4, .ref m5, .int (nI sk), .ref m6, .ref m7, .ref m8, .ref m9, .int (nI t), .ref ma, .ref mb, .ref mc, .long ee, .long em, .long ec, .ref mg, .ref mz, .int (dc_bI gn), .int c, .ref mr, .ref mi, .int th]))] H := hP
  have hD : va_D A [(mo, .inr (9, [.ref mf, .ref m1, .ref m2, .int 0, .long se, .long sm, .long sc, .int (-1), .int (dc_bI ak), .long cw, .int dn, .int (nI an), .ref m3, .ref m4, .ref m5, .int (nI sk), .ref m6, .ref m7, .ref m8, .ref m9, .int (nI t), .ref ma, .ref mb, .ref mc, .long ee, .long em, .long ec, .ref mg, .ref mz, .int (dc_bI gn), .int c, .ref mr, .ref mi, .int th]))] := hD
  have hP9 := hP.sub (ws' := [(mo, .inr (9, [.ref mf, .ref m1, .ref m2, .int 0, .long se, .long sm, .long sc, .int (-1), .int (dc_bI ak), .long cw, .int dn, .int (nI an), .ref m3, .ref m4, .ref m5, .int (nI sk), .ref m6, .ref m7, .ref m8, .ref m9, .int (nI t), .ref ma, .ref mb, .ref mc, .long ee, .long em, .long ec, .ref mg, .ref mz, .int (dc_bI gn), .int c, .ref mr, .ref mi, .int th]))]) [0] rfl
  have hD9 := hD.sub (ws' := [(mo, .inr (9, [.ref mf, .ref m1, .ref m2, .int 0, .long se, .long sm, .long sc, .int (-1), .int (dc_bI ak), .long cw, .int dn, .int (nI an), .ref m3, .ref m4, .ref m5, .int (nI sk), .ref m6, .ref m7, .ref m8, .ref m9, .int (nI t), .ref ma, .ref mb, .ref mc, .long ee, .long em, .long ec, .ref mg, .ref mz, .int (dc_bI gn), .int c, .ref mr, .ref mi, .int th]))]) [0] (by decide) rfl
  have hE9 : ([(mo, .inr (9, [.ref mf, .ref m1, .ref m2, .int 0, .long se, .long sm, .long sc, .int (-1), .int (dc_bI ak), .long cw, .int dn, .int (nI an), .ref m3, .ref m4, .ref m5, .int (nI sk), .ref m6, .ref m7, .ref m8, .ref m9, .int (nI t), .ref ma, .ref mb, .ref mc, .long ee, .long em, .long ec, .ref mg, .ref mz, .int (dc_bI gn), .int c, .ref mr, .ref mi, .int th]))] : va_W) = [(mo, .inr (9, [.ref mf, .ref m1, .ref m2, .int (dc_bI false), .long se, .long sm, .long sc, .int (dc_dn 0), .int (dc_bI ak), .long cw, .int dn, .int (nI an), .ref m3, .ref m4, .ref m5, .int (nI sk), .ref m6, .ref m7, .ref m8, .ref m9, .int (nI t), .ref ma, .ref mb, .ref mc, .long ee, .long em, .long ec, .ref mg, .ref mz, .int (dc_bI gn), .int c, .ref mr, .ref mi, .int th]))] := rfl
  rw [hE9] at hP9 hD9
  exact W.vret hx hb hr (fun t ht hW => ⟨⟨(), rfl, (trivial), by rw [ht]; exact hP9, hD9⟩, hS.F ht⟩) hS.2.2 dn_d_Mod_noSession_10

set_option maxHeartbeats 4000000 in
set_option maxRecDepth 100000 in
theorem rr_give (l : Launch) (G : va_G) (cA : Nat → ClassId) (mo : Nat) (mf : Nat) (m1 : Nat) (m2 : Nat) (so : Bool) (se : Int64) (sm : Int64) (sc : Int64) (sv : Nat) (ak : Bool) (cw : Int64) (dn : Int32) (an : Nat) (m3 : Nat) (m4 : Nat) (m5 : Nat) (sk : Nat) (m6 : Nat) (m7 : Nat) (m8 : Nat) (m9 : Nat) (t : Nat) (ma : Nat) (mb : Nat) (mc : Nat) (ee : Int64) (em : Int64) (ec : Int64) (mg : Nat) (mz : Nat) (gn : Bool) (c : Int32) (mr : Nat) (mi : Nat) (th : Int32) (dr : Nat → Int64)  (sz : Nat) : Met l dn_y_Mod_give (.code dn_y_Mod_give dn_c_Mod_give 1 none :: dc_W) ({ frames := 1, cells := 0, slots := 0, locals := 20 }) (dc_pW G cA [(mo, .inr (9, [.ref mf, .ref m1, .ref m2, .int (dc_bI so), .long se, .long sm, .long sc, .int (dc_dn sv), .int (dc_bI ak), .long cw, .int dn, .int (nI an), .ref m3, .ref m4, .ref m5, .int (nI sk), .ref m6, .ref m7, .ref m8, .ref m9, .int (nI t), .ref ma, .ref mb, .ref mc, .long ee, .long em, .long ec, .ref mg, .ref mz, .int (dc_bI gn), .int c, .ref mr, .ref mi, .int th])), (m9, .inl (cA 1, 4, .inr (.inl dr)))] sz [.ref mo]) (dc_qv G (fun (_ : Unit) => True) (fun (_ : Unit) => [(mo, .inr (9, [.ref mf, .ref m1, .ref m2, .int (dc_bI false), .long se, .long sm, .long sc, .int (dc_dn 0), .int (dc_bI true), .long (dr 2), .int dn, .int (nI an), .ref m3, .ref m4, .ref m5, .int (nI sk), .ref m6, .ref m7, .ref m8, .ref m9, .int (nI t), .ref ma, .ref mb, .ref mc, .long ee, .long em, .long ec, .ref mg, .ref mz, .int (dc_bI gn), .int c, .ref mr, .ref mi, .int th])), (m9, .inl (cA 1, 4, .inr (.inl dr)))]) sz [(mo, .inr (9, [.ref mf, .ref m1, .ref m2, .int (dc_bI so), .long se, .long sm, .long sc, .int (dc_dn sv), .int (dc_bI ak), .long cw, .int dn, .int (nI an), .ref m3, .ref m4, .ref m5, .int (nI sk), .ref m6, .ref m7, .ref m8, .ref m9, .int (nI t), .ref ma, .ref mb, .ref mc, .long ee, .long em, .long ec, .ref mg, .ref mz, .int (dc_bI gn), .int c, .ref mr, .ref mi, .int th])), (m9, .inl (cA 1, 4, .inr (.inl dr)))]) 0 0 (va_A [(mo, .inr (9, [.ref mf, .ref m1, .ref m2, .int (dc_bI so), .long se, .long sm, .long sc, .int (dc_dn sv), .int (dc_bI ak), .long cw, .int dn, .int (nI an), .ref m3, .ref m4, .ref m5, .int (nI sk), .ref m6, .ref m7, .ref m8, .ref m9, .int (nI t), .ref ma, .ref mb, .ref mc, .long ee, .long em, .long ec, .ref mg, .ref mz, .int (dc_bI gn), .int c, .ref mr, .ref mi, .int th])), (m9, .inl (cA 1, 4, .inr (.inl dr)))] sz) := by
  refine Met.ofW (cc := dn_c_Mod_give) (maxL := 1) (ret := none) (by decide) rfl ?_
  intro p9 en9 s m args9 below9 meth9 cd9 s9 B hml hv
  obtain ⟨rfl, hsz, hP, hK0, hD0⟩ := hv
  have hx := B.exec
  have hb := B.bytes
  have hr := B.returns
  have hts : ∀ w ∈ dc_W, w.before _ s = true := fun w h => atoms_spec (ws := (.code dn_y_Mod_give dn_c_Mod_give 1 none :: dc_W)) B.pre w (List.mem_cons_of_mem _ h)
  have hK := hK0.1
  have hN := hK0.2
  have hown : s.vm.findClass dn_R_Mod = some m.cls := findClass_of_methodNamed B.named
  have hlocks := B.notSynchronized
  subst hsz
  have hD := hD0.self (sz := s.heap.size)
  unfold dc_qv
  generalize hAe : va_A [(mo, .inr (9, [.ref mf, .ref m1, .ref m2, .int (dc_bI so), .long se, .long sm, .long sc, .int (dc_dn sv), .int (dc_bI ak), .long cw, .int dn, .int (nI an), .ref m3, .ref m4, .ref m5, .int (nI sk), .ref m6, .ref m7, .ref m8, .ref m9, .int (nI t), .ref ma, .ref mb, .ref mc, .long ee, .long em, .long ec, .ref mg, .ref mz, .int (dc_bI gn), .int c, .ref mr, .ref mi, .int th])), (m9, .inl (cA 1, 4, .inr (.inl dr)))] s.heap.size = A at hD ⊢
  have hA : ∀ q : Nat, s.heap.size ≤ q → A q := fun q h => by rw [← hAe]; exact Or.inr h
  have hS : va_S A s.heap s.heap [] := va_S.rf
  have hl := lv_entry ([.ref mo]) (n := 1) (Nat.le_of_ble_eq_true rfl)
  rw [lg_entry_eq]
  generalize (lg_sl ([.ref mo]) ++ List.replicate (1 - (lg_sl ([.ref mo])).length) Slot.unset).toArray = ls at hl ⊢
  have hl : lv_has ls 1 [(0, .ref mo)] := hl
  refine lv_aload_n hx hb dn_d_Mod_give_0 rfl (lv_at hl 0 rfl) ?_
  refine dc_wv (wr := [(m9, .inl (cA 1, 4, .inr (.inl dr)))]) (va_runV (b := mo) (As := []) (rest := []) ⟨hx, hb, hml, hown, hts⟩ (rr_noSession l G cA mo mf m1 m2 so se sm sc sv ak cw dn an m3 m4 m5 sk m6 m7 m8 m9 t ma mb mc ee em ec mg mz gn c mr mi th  s.heap.size) ⟨(callB_of 0 hts (dc_good dn_w_1046) rfl rfl rfl (hts _ dn_w_12) (hts _ dn_w_1043) (by decide +kernel) ⟨Nat.le_of_ble_eq_true rfl, Nat.le_of_ble_eq_true rfl⟩), (hts _ dn_w_1045), (hts _ dn_s_Mod_noSession)⟩ (dc_preVW (hP.sub [0] rfl) hK0 (hD.sub [0] (by decide) rfl) (q0 := 0) rfl rfl) rfl rfl hl.1 rfl (lv_room (Nat.le_of_ble_eq_true rfl)) dn_d_Mod_give_1 ⟨Nat.le_of_ble_eq_true rfl, Nat.le_of_ble_eq_true rfl⟩) hP hD hS hA [0] [1] rfl rfl (by decide) (by decide) (fun u9 H locs hr9 hP hD hS => ?_)
  have hP : va_P G vwCl [(m9, .inl (cA 1, 4, .inr (.inl dr))), (mo, .inr (9, [.ref mf, .ref m1, .ref m2, .int (dc_bI false), .long se, .long sm, .long sc, .int (dc_dn 0), .int (dc_bI ak), .long cw, .int dn, .int (nI an), .ref m3, .ref m4, .ref m5, .int (nI sk), .ref m6, .ref m7, .ref m8, .ref m9, .int (nI t), .ref ma, .ref mb, .ref mc, .long ee, .long em, .long ec, .ref mg, .ref mz, .int (dc_bI gn), .int c, .ref mr, .ref mi, .int th]))] H := hP
  have hD : va_D A [(m9, .inl (cA 1, 4, .inr (.inl dr))), (mo, .inr (9, [.ref mf, .ref m1, .ref m2, .int (dc_bI false), .long se, .long sm, .long sc, .int (dc_dn 0), .int (dc_bI ak), .long cw, .int dn, .int (nI an), .ref m3, .ref m4, .ref m5, .int (nI sk), .ref m6, .ref m7, .ref m8, .ref m9, .int (nI t), .ref ma, .ref mb, .ref mc, .long ee, .long em, .long ec, .ref mg, .ref mz, .int (dc_bI gn), .int c, .ref mr, .ref mi, .int th]))] := hD
  refine lv_aload_n hx hb dn_d_Mod_give_4 rfl (lv_at hl 0 rfl) ?_
  refine lv_iconst (v := 1) hx hb dn_d_Mod_give_5 (by decide) ?_
  refine va_put (D := G) (ci := 9) (v := .int 1) (ty := (.boolean)) (C := dn_R_Mod) (T := dn_T_Mod) (N := 34) hx hb hts (dn_u_Mod) dn_t_Mod dn_o_Mod dn_n_Mod hown hK hP hD hS 1 rfl rfl 8 (by decide) (hts _ dn_w_866) (fun _ h9 => h9) rfl (by decide +kernel) rfl rfl (Nat.le_of_ble_eq_true rfl) dn_d_Mod_give_6 (fun H locs hP hD hS => ?_)
  have hP : va_P G vwCl [(m9, .inl (cA 1, 4, .inr (.inl dr))), (mo, .inr (9, [.ref mf, .ref m1, .ref m2, .int (dc_bI false), .long se, .long sm, .long sc, .int (dc_dn 0), .int 1, .long cw, .int dn, .int (nI an), .ref m3, .ref m4, .ref m5, .int (nI sk), .ref m6, .ref m7, .ref m8, .ref m9, .int (nI t), .ref ma, .ref mb, .ref mc, .long ee, .long em, .long ec, .ref mg, .ref mz, .int (dc_bI gn), .int c, .ref mr, .ref mi, .int th]))] H := hP
  have hD : va_D A [(m9, .inl (cA 1, 4, .inr (.inl dr))), (mo, .inr (9, [.ref mf, .ref m1, .ref m2, .int (dc_bI false), .long se, .long sm, .long sc, .int (dc_dn 0), .int 1, .long cw, .int dn, .int (nI an), .ref m3, .ref m4, .ref m5, .int (nI sk), .ref m6, .ref m7, .ref m8, .ref m9, .int (nI t), .ref ma, .ref mb, .ref mc, .long ee, .long em, .long ec, .ref mg, .ref mz, .int (dc_bI gn), .int c, .ref mr, .ref mi, .int th]))] := hD
  refine lv_aload_n hx hb dn_d_Mod_give_9 rfl (lv_at hl 0 rfl) ?_
  refine lv_aload_n hx hb dn_d_Mod_give_10 rfl (lv_at hl 0 rfl) ?_
  refine va_get (D := G) (ci := 9) (v := .ref m9) (C := dn_R_Mod) (T := dn_T_Mod) (N := 34) hx hb hts (dn_u_Mod) hown hK hP 1 rfl rfl 19 (by decide) (hts _ dn_w_877) (fun _ h9 => h9) rfl dn_d_Mod_give_11 ?_
  refine lv_iconst (v := 2) hx hb dn_d_Mod_give_14 (by decide) ?_
  refine dc_lald (k := 2) hx hb hK hP 0 rfl (by omega) (by omega) dn_d_Mod_give_15 ?_
  refine va_put (D := G) (ci := 9) (v := .long (dr 2)) (ty := (.long)) (C := dn_R_Mod) (T := dn_T_Mod) (N := 34) hx hb hts (dn_u_Mod) dn_t_Mod dn_o_Mod dn_n_Mod hown hK hP hD hS 1 rfl rfl 9 (by decide) (hts _ dn_w_867) (fun _ h9 => h9) rfl (by decide +kernel) rfl rfl (Nat.le_of_ble_eq_true rfl) dn_d_Mod_give_16 (fun H locs hP hD hS => ?_)
  have hP : va_P G vwCl [(m9, .inl (cA 1, 4, .inr (.inl dr))), (mo, .inr (9, [.ref mf, .ref m1, .ref m2, .int (dc_bI false), .long se, .long sm, .long sc, .int (dc_dn 0), .int 1, .long (dr 2), .int dn, .int (nI an), .ref m3, .ref m4, .ref m5, .int (nI sk), .ref m6, .ref m7, .ref m8, .ref m9, .int (nI t), .ref ma, .ref mb, .ref mc, .long ee, .long em, .long ec, .ref mg, .ref mz, .int (dc_bI gn), .int c, .ref mr, .ref mi, .int th]))] H := hP
  have hD : va_D A [(m9, .inl (cA 1, 4, .inr (.inl dr))), (mo, .inr (9, [.ref mf, .ref m1, .ref m2, .int (dc_bI false), .long se, .long sm, .long sc, .int (dc_dn 0), .int 1, .long (dr 2), .int dn, .int (nI an), .ref m3, .ref m4, .ref m5, .int (nI sk), .ref m6, .ref m7, .ref m8, .ref m9, .int (nI t), .ref ma, .ref mb, .ref mc, .long ee, .long em, .long ec, .ref mg, .ref mz, .int (dc_bI gn), .int c, .ref mr, .ref mi, .int th]))] := hD
  have hP9 := hP.sub (ws' := [(mo, .inr (9, [.ref mf, .ref m1, .ref m2, .int (dc_bI false), .long se, .long sm, .long sc, .int (dc_dn 0), .int 1, .long (dr 2), .int dn, .int (nI an), .ref m3, .ref m4, .ref m5, .int (nI sk), .ref m6, .ref m7, .ref m8, .ref m9, .int (nI t), .ref ma, .ref mb, .ref mc, .long ee, .long em, .long ec, .ref mg, .ref mz, .int (dc_bI gn), .int c, .ref mr, .ref mi, .int th])), (m9, .inl (cA 1, 4, .inr (.inl dr)))]) [1, 0] rfl
  have hD9 := hD.sub (ws' := [(mo, .inr (9, [.ref mf, .ref m1, .ref m2, .int (dc_bI false), .long se, .long sm, .long sc, .int (dc_dn 0), .int 1, .long (dr 2), .int dn, .int (nI an), .ref m3, .ref m4, .ref m5, .int (nI sk), .ref m6, .ref m7, .ref m8, .ref m9, .int (nI t), .ref ma, .ref mb, .ref mc, .long ee, .long em, .long ec, .ref mg, .ref mz, .int (dc_bI gn), .int c, .ref mr, .ref mi, .int th])), (m9, .inl (cA 1, 4, .inr (.inl dr)))]) [1, 0] (by decide) rfl
  have hE9 : ([(mo, .inr (9, [.ref mf, .ref m1, .ref m2, .int (dc_bI false), .long se, .long sm, .long sc, .int (dc_dn 0), .int 1, .long (dr 2), .int dn, .int (nI an), .ref m3, .ref m4, .ref m5, .int (nI sk), .ref m6, .ref m7, .ref m8, .ref m9, .int (nI t), .ref ma, .ref mb, .ref mc, .long ee, .long em, .long ec, .ref mg, .ref mz, .int (dc_bI gn), .int c, .ref mr, .ref mi, .int th])), (m9, .inl (cA 1, 4, .inr (.inl dr)))] : va_W) = [(mo, .inr (9, [.ref mf, .ref m1, .ref m2, .int (dc_bI false), .long se, .long sm, .long sc, .int (dc_dn 0), .int (dc_bI true), .long (dr 2), .int dn, .int (nI an), .ref m3, .ref m4, .ref m5, .int (nI sk), .ref m6, .ref m7, .ref m8, .ref m9, .int (nI t), .ref ma, .ref mb, .ref mc, .long ee, .long em, .long ec, .ref mg, .ref mz, .int (dc_bI gn), .int c, .ref mr, .ref mi, .int th])), (m9, .inl (cA 1, 4, .inr (.inl dr)))] := rfl
  rw [hE9] at hP9 hD9
  exact W.vret hx hb hr (fun t ht hW => ⟨⟨(), rfl, (trivial), by rw [ht]; exact hP9, hD9⟩, hS.F ht⟩) hS.2.2 dn_d_Mod_give_19
