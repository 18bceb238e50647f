set_option maxHeartbeats 4000000 in
set_option maxRecDepth 100000 in
theorem rr_digestFile (l : Launch) (G : va_G) (cA : Nat → ClassId) (mo : Nat) (mf : Nat) (m1 : Nat) (m2 : Nat) (so : Bool) (se : Int64) (sm : Int64) (sc : Int64) (sv : Nat) (ak : Bool) (cw : Int64) (dn : Int32) (an : Nat) (m3 : Nat) (m4 : Nat) (m5 : Nat) (sk : Nat) (m6 : Nat) (m7 : Nat) (m8 : Nat) (m9 : Nat) (t : Nat) (ma : Nat) (mb : Nat) (mc : Nat) (ee : Int64) (em : Int64) (ec : Int64) (mg : Nat) (mz : Nat) (gn : Bool) (c : Int32) (mr : Nat) (mi : Nat) (th : Int32) (rw : Nat → Int64) (F : Nat → Int64) (zs : Nat → Int32) (j : Nat) (wj : Nat → Int64) (nj : Nat) (hj : j < 4) (hz : zs j = nI nj) (hnj : nj ≤ 20) (hF : ∀ p : Nat, p < nj → F (20 * j + p) = wj p) (sz : Nat) : Met l dn_y_Mod_digestFile (.code dn_y_Mod_digestFile dn_c_Mod_digestFile 3 (some .long) :: dc_W) ({ frames := 1, cells := 0, slots := 0, locals := 24 }) (dc_pW G cA [(mo, .inr (9, [.ref mf, .ref m1, .ref m2, .int (dc_bI so), .long se, .long sm, .long sc, .int (dc_dn sv), .int (dc_bI ak), .long cw, .int dn, .int (nI an), .ref m3, .ref m4, .ref m5, .int (nI sk), .ref m6, .ref m7, .ref m8, .ref m9, .int (nI t), .ref ma, .ref mb, .ref mc, .long ee, .long em, .long ec, .ref mg, .ref mz, .int (dc_bI gn), .int c, .ref mr, .ref mi, .int th])), (m1, .inl (cA 1, 80, .inr (.inl F))), (m2, .inl (cA 0, 4, .inl zs)), (mr, .inl (cA 1, 24, .inr (.inl rw)))] sz [.ref mo, .int (nI j)]) (dc_ql G (fun (r : Int64) (_ : Unit) => r = dc_digN wj nj) (fun (_ : Unit) => [(mo, .inr (9, [.ref mf, .ref m1, .ref m2, .int (dc_bI so), .long se, .long sm, .long sc, .int (dc_dn sv), .int (dc_bI ak), .long cw, .int dn, .int (nI an), .ref m3, .ref m4, .ref m5, .int (nI sk), .ref m6, .ref m7, .ref m8, .ref m9, .int (nI t), .ref ma, .ref mb, .ref mc, .long ee, .long em, .long ec, .ref mg, .ref mz, .int (dc_bI gn), .int c, .ref mr, .ref mi, .int th])), (m1, .inl (cA 1, 80, .inr (.inl F))), (m2, .inl (cA 0, 4, .inl zs)), (mr, .inl (cA 1, 24, .inr (.inl (dc_cpN rw (fun p => F (20 * j + p)) nj))))]) sz [(mo, .inr (9, [.ref mf, .ref m1, .ref m2, .int (dc_bI so), .long se, .long sm, .long sc, .int (dc_dn sv), .int (dc_bI ak), .long cw, .int dn, .int (nI an), .ref m3, .ref m4, .ref m5, .int (nI sk), .ref m6, .ref m7, .ref m8, .ref m9, .int (nI t), .ref ma, .ref mb, .ref mc, .long ee, .long em, .long ec, .ref mg, .ref mz, .int (dc_bI gn), .int c, .ref mr, .ref mi, .int th])), (m1, .inl (cA 1, 80, .inr (.inl F))), (m2, .inl (cA 0, 4, .inl zs)), (mr, .inl (cA 1, 24, .inr (.inl rw)))]) 0 0 (va_A [(mo, .inr (9, [.ref mf, .ref m1, .ref m2, .int (dc_bI so), .long se, .long sm, .long sc, .int (dc_dn sv), .int (dc_bI ak), .long cw, .int dn, .int (nI an), .ref m3, .ref m4, .ref m5, .int (nI sk), .ref m6, .ref m7, .ref m8, .ref m9, .int (nI t), .ref ma, .ref mb, .ref mc, .long ee, .long em, .long ec, .ref mg, .ref mz, .int (dc_bI gn), .int c, .ref mr, .ref mi, .int th])), (m1, .inl (cA 1, 80, .inr (.inl F))), (m2, .inl (cA 0, 4, .inl zs)), (mr, .inl (cA 1, 24, .inr (.inl rw)))] sz) := by
  refine Met.ofW (cc := dn_c_Mod_digestFile) (maxL := 3) (ret := (some .long)) (by decide) rfl ?_
  intro p9 en9 s m args9 below9 meth9 cd9 s9 B hml hv
  obtain ⟨rfl, hsz, hP, hK0, hD0⟩ := hv
  have hx := B.exec
  have hb := B.bytes
  have hr := B.returns
  have hts : ∀ w ∈ dc_W, w.before _ s = true := fun w h => atoms_spec (ws := (.code dn_y_Mod_digestFile dn_c_Mod_digestFile 3 (some .long) :: dc_W)) B.pre w (List.mem_cons_of_mem _ h)
  have hK := hK0.1
  have hN := hK0.2
  have hown : s.vm.findClass dn_R_Mod = some m.cls := findClass_of_methodNamed B.named
  have hlocks := B.notSynchronized
  subst hsz
  have hD := hD0.self (sz := s.heap.size)
  unfold dc_ql
  generalize hAe : va_A [(mo, .inr (9, [.ref mf, .ref m1, .ref m2, .int (dc_bI so), .long se, .long sm, .long sc, .int (dc_dn sv), .int (dc_bI ak), .long cw, .int dn, .int (nI an), .ref m3, .ref m4, .ref m5, .int (nI sk), .ref m6, .ref m7, .ref m8, .ref m9, .int (nI t), .ref ma, .ref mb, .ref mc, .long ee, .long em, .long ec, .ref mg, .ref mz, .int (dc_bI gn), .int c, .ref mr, .ref mi, .int th])), (m1, .inl (cA 1, 80, .inr (.inl F))), (m2, .inl (cA 0, 4, .inl zs)), (mr, .inl (cA 1, 24, .inr (.inl rw)))] s.heap.size = A at hD ⊢
  have hA : ∀ q : Nat, s.heap.size ≤ q → A q := fun q h => by rw [← hAe]; exact Or.inr h
  have hS : va_S A s.heap s.heap [] := va_S.rf
  have hl := lv_entry ([.ref mo, .int (nI j)]) (n := 3) (Nat.le_of_ble_eq_true rfl)
  rw [lg_entry_eq]
  generalize (lg_sl ([.ref mo, .int (nI j)]) ++ List.replicate (3 - (lg_sl ([.ref mo, .int (nI j)])).length) Slot.unset).toArray = ls at hl ⊢
  have hl : lv_has ls 3 [(0, .ref mo), (1, .int (nI j))] := hl
  refine lv_iconst (v := 0) hx hb dn_d_Mod_digestFile_0 (by decide) ?_
  refine lv_istore_n hx hb dn_d_Mod_digestFile_1 rfl hl (by decide) rfl (fun ls hl => ?_)
  have hl : lv_has ls 3 [(2, .int 0), (0, .ref mo), (1, .int (nI j))] := hl
  refine dc_loop (σ := Nat) 2 [] (fun (i : Nat) => nj - i) (fun (i : Nat) (H : Heap) (locs : List Loc) (ls : Array Slot) => lv_has ls 3 [(2, .int (nI i)), (0, .ref mo), (1, .int (nI j))] ∧ va_P G vwCl [(mo, .inr (9, [.ref mf, .ref m1, .ref m2, .int (dc_bI so), .long se, .long sm, .long sc, .int (dc_dn sv), .int (dc_bI ak), .long cw, .int dn, .int (nI an), .ref m3, .ref m4, .ref m5, .int (nI sk), .ref m6, .ref m7, .ref m8, .ref m9, .int (nI t), .ref ma, .ref mb, .ref mc, .long ee, .long em, .long ec, .ref mg, .ref mz, .int (dc_bI gn), .int c, .ref mr, .ref mi, .int th])), (m1, .inl (cA 1, 80, .inr (.inl F))), (m2, .inl (cA 0, 4, .inl zs)), (mr, .inl (cA 1, 24, .inr (.inl (dc_cpN rw (fun p => F (20 * j + p)) i))))] H ∧ va_D A [(mo, .inr (9, [.ref mf, .ref m1, .ref m2, .int (dc_bI so), .long se, .long sm, .long sc, .int (dc_dn sv), .int (dc_bI ak), .long cw, .int dn, .int (nI an), .ref m3, .ref m4, .ref m5, .int (nI sk), .ref m6, .ref m7, .ref m8, .ref m9, .int (nI t), .ref ma, .ref mb, .ref mc, .long ee, .long em, .long ec, .ref mg, .ref mz, .int (dc_bI gn), .int c, .ref mr, .ref mi, .int th])), (m1, .inl (cA 1, 80, .inr (.inl F))), (m2, .inl (cA 0, 4, .inl zs)), (mr, .inl (cA 1, 24, .inr (.inl (dc_cpN rw (fun p => F (20 * j + p)) i))))] ∧ va_S A s.heap H locs ∧ (i ≤ nj)) ?_ 0 ⟨lv_sub hl [0, 1, 2] rfl, hP.sub [0, 1, 2, 3] rfl, hD.sub [0, 1, 2, 3] (by decide) rfl, hS, (by omega)⟩
  rintro i H locs ls ⟨hl, hP, hD, hS, hi⟩ ih2
  have hl : lv_has ls 3 [(2, .int (nI i)), (0, .ref mo), (1, .int (nI j))] := hl
  have hP : va_P G vwCl [(mo, .inr (9, [.ref mf, .ref m1, .ref m2, .int (dc_bI so), .long se, .long sm, .long sc, .int (dc_dn sv), .int (dc_bI ak), .long cw, .int dn, .int (nI an), .ref m3, .ref m4, .ref m5, .int (nI sk), .ref m6, .ref m7, .ref m8, .ref m9, .int (nI t), .ref ma, .ref mb, .ref mc, .long ee, .long em, .long ec, .ref mg, .ref mz, .int (dc_bI gn), .int c, .ref mr, .ref mi, .int th])), (m1, .inl (cA 1, 80, .inr (.inl F))), (m2, .inl (cA 0, 4, .inl zs)), (mr, .inl (cA 1, 24, .inr (.inl (dc_cpN rw (fun p => F (20 * j + p)) i))))] H := hP
  have hD : va_D A [(mo, .inr (9, [.ref mf, .ref m1, .ref m2, .int (dc_bI so), .long se, .long sm, .long sc, .int (dc_dn sv), .int (dc_bI ak), .long cw, .int dn, .int (nI an), .ref m3, .ref m4, .ref m5, .int (nI sk), .ref m6, .ref m7, .ref m8, .ref m9, .int (nI t), .ref ma, .ref mb, .ref mc, .long ee, .long em, .long ec, .ref mg, .ref mz, .int (dc_bI gn), .int c, .ref mr, .ref mi, .int th])), (m1, .inl (cA 1, 80, .inr (.inl F))), (m2, .inl (cA 0, 4, .inl zs)), (mr, .inl (cA 1, 24, .inr (.inl (dc_cpN rw (fun p => F (20 * j + p)) i))))] := hD
  refine lv_iload_n hx hb dn_d_Mod_digestFile_2 rfl (lv_at hl 0 rfl) ?_
  refine lv_aload_n hx hb dn_d_Mod_digestFile_3 rfl (lv_at hl 1 rfl) ?_
  refine va_get (D := G) (ci := 9) (v := .ref m2) (C := dn_R_Mod) (T := dn_T_Mod) (N := 34) hx hb hts (dn_u_Mod) hown hK hP 0 rfl rfl 2 (by decide) (hts _ dn_w_860) (fun _ h9 => h9) rfl dn_d_Mod_digestFile_4 ?_
  refine lv_iload_n hx hb dn_d_Mod_digestFile_7 rfl (lv_at hl 2 rfl) ?_
  refine dc_iald (k := j) hx hb hK hP 2 rfl (by omega) (by omega) dn_d_Mod_digestFile_8 ?_
  rw [hz]
  refine lv_icmp_ge (tgt := 35) hx hb dn_d_Mod_digestFile_9 (by decide) (fun h9 => ?_) (fun h9 => ?_)
  · -- 9: nj ≤ i
    have h9 : nj ≤ i := (nI_leI (a := nj) (b := i) (by omega) (by omega)).1 h9
    have e9 : i = nj := by omega
    rw [e9] at hP hD
    refine lv_aload_n hx hb dn_d_Mod_digestFile_35 rfl (lv_at hl 1 rfl) ?_
    refine lv_aload_n hx hb dn_d_Mod_digestFile_36 rfl (lv_at hl 1 rfl) ?_
    refine va_get (D := G) (ci := 9) (v := .ref m2) (C := dn_R_Mod) (T := dn_T_Mod) (N := 34) hx hb hts (dn_u_Mod) hown hK hP 0 rfl rfl 2 (by decide) (hts _ dn_w_860) (fun _ h9 => h9) rfl dn_d_Mod_digestFile_37 ?_
    refine lv_iload_n hx hb dn_d_Mod_digestFile_40 rfl (lv_at hl 2 rfl) ?_
    refine dc_iald (k := j) hx hb hK hP 2 rfl (by omega) (by omega) dn_d_Mod_digestFile_41 ?_
    rw [hz]
    refine vp_callSl (va_Run.run (va_runV (b := mo) (As := [.int (nI nj)]) (rest := []) ⟨hx, hb, hml, hown, hts⟩ (rr_digRow l G cA mo mf m1 m2 so se sm sc sv ak cw dn an m3 m4 m5 sk m6 m7 m8 m9 t ma mb mc ee em ec mg mz gn c mr mi th (dc_cpN rw (fun p => F (20 * j + p)) nj) nj (by first | assumption | omega)) ⟨(callB_of 1 hts (dc_good dn_w_976) rfl rfl rfl (hts _ dn_w_12) (hts _ dn_w_973) (by decide +kernel) ⟨Nat.le_of_ble_eq_true rfl, Nat.le_of_ble_eq_true rfl⟩), (hts _ dn_w_975), (hts _ dn_s_Mod_digestRow)⟩ (dc_preVR (hP.sub [0, 3] rfl) hK0 (q0 := 0) rfl rfl) rfl rfl hl.1 rfl (lv_room (Nat.le_of_ble_eq_true rfl)) dn_d_Mod_digestFile_42 ⟨Nat.le_of_ble_eq_true rfl, Nat.le_of_ble_eq_true rfl⟩)) (fun r9 hr9 => ?_)
    subst hr9
    have hP9 := hP.sub (ws' := [(mo, .inr (9, [.ref mf, .ref m1, .ref m2, .int (dc_bI so), .long se, .long sm, .long sc, .int (dc_dn sv), .int (dc_bI ak), .long cw, .int dn, .int (nI an), .ref m3, .ref m4, .ref m5, .int (nI sk), .ref m6, .ref m7, .ref m8, .ref m9, .int (nI t), .ref ma, .ref mb, .ref mc, .long ee, .long em, .long ec, .ref mg, .ref mz, .int (dc_bI gn), .int c, .ref mr, .ref mi, .int th])), (m1, .inl (cA 1, 80, .inr (.inl F))), (m2, .inl (cA 0, 4, .inl zs)), (mr, .inl (cA 1, 24, .inr (.inl (dc_cpN rw (fun p => F (20 * j + p)) nj))))]) [0, 1, 2, 3] rfl
    have hD9 := hD.sub (ws' := [(mo, .inr (9, [.ref mf, .ref m1, .ref m2, .int (dc_bI so), .long se, .long sm, .long sc, .int (dc_dn sv), .int (dc_bI ak), .long cw, .int dn, .int (nI an), .ref m3, .ref m4, .ref m5, .int (nI sk), .ref m6, .ref m7, .ref m8, .ref m9, .int (nI t), .ref ma, .ref mb, .ref mc, .long ee, .long em, .long ec, .ref mg, .ref mz, .int (dc_bI gn), .int c, .ref mr, .ref mi, .int th])), (m1, .inl (cA 1, 80, .inr (.inl F))), (m2, .inl (cA 0, 4, .inl zs)), (mr, .inl (cA 1, 24, .inr (.inl (dc_cpN rw (fun p => F (20 * j + p)) nj))))]) [0, 1, 2, 3] (by decide) rfl
    exact W.lret (v := (dc_digN (dc_cpN rw (fun p => F (20 * j + p)) nj) nj)) hx hb hr (fun t ht hW => ⟨⟨_, (), rfl, (dc_digN_cp hF), by rw [ht]; exact hP9, hD9⟩, hS.F ht⟩) hS.2.2 dn_d_Mod_digestFile_45
  · -- 9: ¬ nj ≤ i
    have h9 : ¬ nj ≤ i := fun z => h9 ((nI_leI (a := nj) (b := i) (by omega) (by omega)).2 z)
    refine lv_aload_n hx hb dn_d_Mod_digestFile_12 rfl (lv_at hl 1 rfl) ?_
    refine va_get (D := G) (ci := 9) (v := .ref mr) (C := dn_R_Mod) (T := dn_T_Mod) (N := 34) hx hb hts (dn_u_Mod) hown hK hP 0 rfl rfl 31 (by decide) (hts _ dn_w_889) (fun _ h9 => h9) rfl dn_d_Mod_digestFile_13 ?_
    refine lv_iload_n hx hb dn_d_Mod_digestFile_16 rfl (lv_at hl 0 rfl) ?_
    refine lv_aload_n hx hb dn_d_Mod_digestFile_17 rfl (lv_at hl 1 rfl) ?_
    refine va_get (D := G) (ci := 9) (v := .ref m1) (C := dn_R_Mod) (T := dn_T_Mod) (N := 34) hx hb hts (dn_u_Mod) hown hK hP 0 rfl rfl 1 (by decide) (hts _ dn_w_859) (fun _ h9 => h9) rfl dn_d_Mod_digestFile_18 ?_
    refine lv_bipush (v := 20) hx hb dn_d_Mod_digestFile_21 (by decide) ?_
    refine lv_iload_n hx hb dn_d_Mod_digestFile_23 rfl (lv_at hl 2 rfl) ?_
    refine lv_imul hx hb dn_d_Mod_digestFile_24 ?_
    rw [show (20 : Int32) * (nI j) = nI (20 * j) from pk_mul 20 j]
    refine lv_iload_n hx hb dn_d_Mod_digestFile_25 rfl (lv_at hl 0 rfl) ?_
    refine lv_iadd hx hb dn_d_Mod_digestFile_26 ?_
    rw [show (nI (20 * j)) + (nI i) = nI ((20 * j) + i) from nI_add (20 * j) i]
    refine dc_lald (k := (20 * j) + i) hx hb hK hP 1 rfl (by omega) (by omega) dn_d_Mod_digestFile_27 ?_
    refine dc_last (k := i) hx hb hK hP hD hS 3 rfl (by omega) (by omega) dn_d_Mod_digestFile_28 (fun H locs hP hD hS => ?_)
    have hP : va_P G vwCl [(mo, .inr (9, [.ref mf, .ref m1, .ref m2, .int (dc_bI so), .long se, .long sm, .long sc, .int (dc_dn sv), .int (dc_bI ak), .long cw, .int dn, .int (nI an), .ref m3, .ref m4, .ref m5, .int (nI sk), .ref m6, .ref m7, .ref m8, .ref m9, .int (nI t), .ref ma, .ref mb, .ref mc, .long ee, .long em, .long ec, .ref mg, .ref mz, .int (dc_bI gn), .int c, .ref mr, .ref mi, .int th])), (m1, .inl (cA 1, 80, .inr (.inl F))), (m2, .inl (cA 0, 4, .inl zs)), (mr, .inl (cA 1, 24, .inr (.inl (vp_updL (dc_cpN rw (fun p => F (20 * j + p)) i) i (F ((20 * j) + i))))))] H := hP
    have hD : va_D A [(mo, .inr (9, [.ref mf, .ref m1, .ref m2, .int (dc_bI so), .long se, .long sm, .long sc, .int (dc_dn sv), .int (dc_bI ak), .long cw, .int dn, .int (nI an), .ref m3, .ref m4, .ref m5, .int (nI sk), .ref m6, .ref m7, .ref m8, .ref m9, .int (nI t), .ref ma, .ref mb, .ref mc, .long ee, .long em, .long ec, .ref mg, .ref mz, .int (dc_bI gn), .int c, .ref mr, .ref mi, .int th])), (m1, .inl (cA 1, 80, .inr (.inl F))), (m2, .inl (cA 0, 4, .inl zs)), (mr, .inl (cA 1, 24, .inr (.inl (vp_updL (dc_cpN rw (fun p => F (20 * j + p)) i) i (F ((20 * j) + i))))))] := hD
    refine lv_iinc (k := 0) (v := nI (i + 1)) hx hb dn_d_Mod_digestFile_29 hl rfl (dc_inc1 _) (by decide) rfl (fun ls hl => ?_)
    have hl : lv_has ls 3 [(2, .int (nI (i + 1))), (0, .ref mo), (1, .int (nI j))] := hl
    refine lv_goto (tgt := 2) hx hb dn_d_Mod_digestFile_32 (by decide) ?_
    exact ih2 (i + 1) _ _ _ (by first | omega | (dsimp only; omega)) ⟨lv_sub hl [0, 1, 2] rfl, hP.sub [0, 1, 2, 3] rfl, hD.sub [0, 1, 2, 3] (by decide) rfl, hS, (by omega)⟩

set_option maxHeartbeats 4000000 in
set_option maxRecDepth 100000 in
theorem rr_sign (l : Launch) (G : va_G) (cA : Nat → ClassId) (mo : Nat) (mf : Nat) (m1 : Nat) (m2 : Nat) (so : Bool) (se : Int64) (sm : Int64) (sc : Int64) (sv : Nat) (ak : Bool) (cw : Int64) (dn : Int32) (an : Nat) (m3 : Nat) (m4 : Nat) (m5 : Nat) (sk : Nat) (m6 : Nat) (m7 : Nat) (m8 : Nat) (m9 : Nat) (t : Nat) (ma : Nat) (mb : Nat) (mc : Nat) (ee : Int64) (em : Int64) (ec : Int64) (mg : Nat) (mz : Nat) (gn : Bool) (c : Int32) (mr : Nat) (mi : Nat) (th : Int32) (rw : Nat → Int64) (F : Nat → Int64) (zs : Nat → Int32) (w1 : Nat → Int64) (n1 : Nat) (w2 : Nat → Int64) (n2 : Nat) (w3 : Nat → Int64) (n3 : Nat) (x : Int64) (hz1 : zs 1 = nI n1) (hz2 : zs 2 = nI n2) (hn1 : n1 ≤ 20) (hn2 : n2 ≤ 20) (hF1 : ∀ p : Nat, p < n1 → F (20 * 1 + p) = w1 p) (hF2 : ∀ p : Nat, p < n2 → F (20 * 2 + p) = w2 p) (sz : Nat) : Met l dn_y_Mod_sign (.code dn_y_Mod_sign dn_c_Mod_sign 3 (some .long) :: dc_W) ({ frames := 2, cells := 0, slots := 0, locals := 46 }) (dc_pW G cA [(mo, .inr (9, [.ref mf, .ref m1, .ref m2, .int (dc_bI so), .long se, .long sm, .long sc, .int (dc_dn sv), .int (dc_bI ak), .long cw, .int dn, .int (nI an), .ref m3, .ref m4, .ref m5, .int (nI sk), .ref m6, .ref m7, .ref m8, .ref m9, .int (nI t), .ref ma, .ref mb, .ref mc, .long ee, .long em, .long ec, .ref mg, .ref mz, .int (dc_bI gn), .int c, .ref mr, .ref mi, .int th])), (m1, .inl (cA 1, 80, .inr (.inl F))), (m2, .inl (cA 0, 4, .inl zs)), (mr, .inl (cA 1, 24, .inr (.inl rw)))] sz [.ref mo, .long x]) (dc_ql G (fun (r : Int64) (_ : Unit) => r = dc_ju (dc_dig3 (dc_digN w1 n1) (dc_digN w2 n2) x) 1) (fun (_ : Unit) => [(mo, .inr (9, [.ref mf, .ref m1, .ref m2, .int (dc_bI so), .long se, .long sm, .long sc, .int (dc_dn sv), .int (dc_bI ak), .long cw, .int dn, .int (nI an), .ref m3, .ref m4, .ref m5, .int (nI sk), .ref m6, .ref m7, .ref m8, .ref m9, .int (nI t), .ref ma, .ref mb, .ref mc, .long ee, .long em, .long ec, .ref mg, .ref mz, .int (dc_bI gn), .int c, .ref mr, .ref mi, .int 0])), (m1, .inl (cA 1, 80, .inr (.inl (vp_updL (vp_updL (vp_updL F 60 (dc_digN w1 n1)) 61 (dc_digN w2 n2)) 62 x)))), (m2, .inl (cA 0, 4, .inl (upd zs 3 3))), (mr, .inl (cA 1, 24, .inr (.inl (dc_sgR rw F n1 n2 (vp_updL (vp_updL (vp_updL F 60 (dc_digN w1 n1)) 61 (dc_digN w2 n2)) 62 x)))))]) sz [(mo, .inr (9, [.ref mf, .ref m1, .ref m2, .int (dc_bI so), .long se, .long sm, .long sc, .int (dc_dn sv), .int (dc_bI ak), .long cw, .int dn, .int (nI an), .ref m3, .ref m4, .ref m5, .int (nI sk), .ref m6, .ref m7, .ref m8, .ref m9, .int (nI t), .ref ma, .ref mb, .ref mc, .long ee, .long em, .long ec, .ref mg, .ref mz, .int (dc_bI gn), .int c, .ref mr, .ref mi, .int th])), (m1, .inl (cA 1, 80, .inr (.inl F))), (m2, .inl (cA 0, 4, .inl zs)), (mr, .inl (cA 1, 24, .inr (.inl rw)))]) 0 0 (va_A [(mo, .inr (9, [.ref mf, .ref m1, .ref m2, .int (dc_bI so), .long se, .long sm, .long sc, .int (dc_dn sv), .int (dc_bI ak), .long cw, .int dn, .int (nI an), .ref m3, .ref m4, .ref m5, .int (nI sk), .ref m6, .ref m7, .ref m8, .ref m9, .int (nI t), .ref ma, .ref mb, .ref mc, .long ee, .long em, .long ec, .ref mg, .ref mz, .int (dc_bI gn), .int c, .ref mr, .ref mi, .int th])), (m1, .inl (cA 1, 80, .inr (.inl F))), (m2, .inl (cA 0, 4, .inl zs)), (mr, .inl (cA 1, 24, .inr (.inl rw)))] sz) := by
  refine Met.ofW (cc := dn_c_Mod_sign) (maxL := 3) (ret := (some .long)) (by decide) rfl ?_
  intro p9 en9 s m args9 below9 meth9 cd9 s9 B hml hv
  obtain ⟨rfl, hsz, hP, hK0, hD0⟩ := hv
  have hx := B.exec
  have hb := B.bytes
  have hr := B.returns
  have hts : ∀ w ∈ dc_W, w.before _ s = true := fun w h => atoms_spec (ws := (.code dn_y_Mod_sign dn_c_Mod_sign 3 (some .long) :: dc_W)) B.pre w (List.mem_cons_of_mem _ h)
  have hK := hK0.1
  have hN := hK0.2
  have hown : s.vm.findClass dn_R_Mod = some m.cls := findClass_of_methodNamed B.named
  have hlocks := B.notSynchronized
  subst hsz
  have hD := hD0.self (sz := s.heap.size)
  unfold dc_ql
  generalize hAe : va_A [(mo, .inr (9, [.ref mf, .ref m1, .ref m2, .int (dc_bI so), .long se, .long sm, .long sc, .int (dc_dn sv), .int (dc_bI ak), .long cw, .int dn, .int (nI an), .ref m3, .ref m4, .ref m5, .int (nI sk), .ref m6, .ref m7, .ref m8, .ref m9, .int (nI t), .ref ma, .ref mb, .ref mc, .long ee, .long em, .long ec, .ref mg, .ref mz, .int (dc_bI gn), .int c, .ref mr, .ref mi, .int th])), (m1, .inl (cA 1, 80, .inr (.inl F))), (m2, .inl (cA 0, 4, .inl zs)), (mr, .inl (cA 1, 24, .inr (.inl rw)))] s.heap.size = A at hD ⊢
  have hA : ∀ q : Nat, s.heap.size ≤ q → A q := fun q h => by rw [← hAe]; exact Or.inr h
  have hS : va_S A s.heap s.heap [] := va_S.rf
  have hl := lv_entry ([.ref mo, .long x]) (n := 3) (Nat.le_of_ble_eq_true rfl)
  rw [lg_entry_eq]
  generalize (lg_sl ([.ref mo, .long x]) ++ List.replicate (3 - (lg_sl ([.ref mo, .long x])).length) Slot.unset).toArray = ls at hl ⊢
  have hl : lv_has ls 3 [(0, .ref mo), (1, .long x)] := hl
  refine lv_aload_n hx hb dn_d_Mod_sign_0 rfl (lv_at hl 0 rfl) ?_
  refine lv_iconst (v := 0) hx hb dn_d_Mod_sign_1 (by decide) ?_
  refine va_put (D := G) (ci := 9) (v := .int 0) (ty := (.int)) (C := dn_R_Mod) (T := dn_T_Mod) (N := 34) hx hb hts (dn_u_Mod) dn_t_Mod dn_o_Mod dn_n_Mod hown hK hP hD hS 0 rfl rfl 33 (by decide) (hts _ dn_w_891) (fun _ h9 => h9) rfl (by decide +kernel) rfl rfl (Nat.le_of_ble_eq_true rfl) dn_d_Mod_sign_2 (fun H locs hP hD hS => ?_)
  have hP : va_P G vwCl [(mo, .inr (9, [.ref mf, .ref m1, .ref m2, .int (dc_bI so), .long se, .long sm, .long sc, .int (dc_dn sv), .int (dc_bI ak), .long cw, .int dn, .int (nI an), .ref m3, .ref m4, .ref m5, .int (nI sk), .ref m6, .ref m7, .ref m8, .ref m9, .int (nI t), .ref ma, .ref mb, .ref mc, .long ee, .long em, .long ec, .ref mg, .ref mz, .int (dc_bI gn), .int c, .ref mr, .ref mi, .int 0])), (m1, .inl (cA 1, 80, .inr (.inl F))), (m2, .inl (cA 0, 4, .inl zs)), (mr, .inl (cA 1, 24, .inr (.inl rw)))] H := hP
  have hD : va_D A [(mo, .inr (9, [.ref mf, .ref m1, .ref m2, .int (dc_bI so), .long se, .long sm, .long sc, .int (dc_dn sv), .int (dc_bI ak), .long cw, .int dn, .int (nI an), .ref m3, .ref m4, .ref m5, .int (nI sk), .ref m6, .ref m7, .ref m8, .ref m9, .int (nI t), .ref ma, .ref mb, .ref mc, .long ee, .long em, .long ec, .ref mg, .ref mz, .int (dc_bI gn), .int c, .ref mr, .ref mi, .int 0])), (m1, .inl (cA 1, 80, .inr (.inl F))), (m2, .inl (cA 0, 4, .inl zs)), (mr, .inl (cA 1, 24, .inr (.inl rw)))] := hD
  refine lv_aload_n hx hb dn_d_Mod_sign_5 rfl (lv_at hl 0 rfl) ?_
  refine va_get (D := G) (ci := 9) (v := .ref m1) (C := dn_R_Mod) (T := dn_T_Mod) (N := 34) hx hb hts (dn_u_Mod) hown hK hP 0 rfl rfl 1 (by decide) (hts _ dn_w_859) (fun _ h9 => h9) rfl dn_d_Mod_sign_6 ?_
  refine lv_bipush (v := 60) hx hb dn_d_Mod_sign_9 (by decide) ?_
  refine lv_aload_n hx hb dn_d_Mod_sign_11 rfl (lv_at hl 0 rfl) ?_
  refine lv_iconst (v := 1) hx hb dn_d_Mod_sign_12 (by decide) ?_
  refine dc_wl (wr := []) (va_runV (b := mo) (As := [.int 1]) (rest := [.int 60, .ref m1]) ⟨hx, hb, hml, hown, hts⟩ (rr_digestFile l G cA mo mf m1 m2 so se sm sc sv ak cw dn an m3 m4 m5 sk m6 m7 m8 m9 t ma mb mc ee em ec mg mz gn c mr mi 0 rw F zs 1 w1 n1 (by decide) (hz1) (by first | assumption | omega) (hF1) H.size) ⟨(callB_of 1 hts (dc_good dn_w_1012) rfl rfl rfl (hts _ dn_w_12) (hts _ dn_w_1009) (by decide +kernel) ⟨Nat.le_of_ble_eq_true rfl, Nat.le_of_ble_eq_true rfl⟩), (hts _ dn_w_1011), (hts _ dn_s_Mod_digestFile)⟩ (dc_preVW (hP.sub [0, 1, 2, 3] rfl) hK0 (hD.sub [0, 1, 2, 3] (by decide) rfl) (q0 := 0) rfl rfl) rfl rfl hl.1 rfl (lv_room (Nat.le_of_ble_eq_true rfl)) dn_d_Mod_sign_13 ⟨Nat.le_of_ble_eq_true rfl, Nat.le_of_ble_eq_true rfl⟩) hP hD hS hA [0, 1, 2, 3] [] rfl rfl (by decide) (by decide) (fun r9 u9 H locs hr9 hP hD hS => ?_)
  subst hr9
  have hP : va_P G vwCl [(mo, .inr (9, [.ref mf, .ref m1, .ref m2, .int (dc_bI so), .long se, .long sm, .long sc, .int (dc_dn sv), .int (dc_bI ak), .long cw, .int dn, .int (nI an), .ref m3, .ref m4, .ref m5, .int (nI sk), .ref m6, .ref m7, .ref m8, .ref m9, .int (nI t), .ref ma, .ref mb, .ref mc, .long ee, .long em, .long ec, .ref mg, .ref mz, .int (dc_bI gn), .int c, .ref mr, .ref mi, .int 0])), (m1, .inl (cA 1, 80, .inr (.inl F))), (m2, .inl (cA 0, 4, .inl zs)), (mr, .inl (cA 1, 24, .inr (.inl (dc_cpN rw (fun p => F (20 * 1 + p)) n1))))] H := hP
  have hD : va_D A [(mo, .inr (9, [.ref mf, .ref m1, .ref m2, .int (dc_bI so), .long se, .long sm, .long sc, .int (dc_dn sv), .int (dc_bI ak), .long cw, .int dn, .int (nI an), .ref m3, .ref m4, .ref m5, .int (nI sk), .ref m6, .ref m7, .ref m8, .ref m9, .int (nI t), .ref ma, .ref mb, .ref mc, .long ee, .long em, .long ec, .ref mg, .ref mz, .int (dc_bI gn), .int c, .ref mr, .ref mi, .int 0])), (m1, .inl (cA 1, 80, .inr (.inl F))), (m2, .inl (cA 0, 4, .inl zs)), (mr, .inl (cA 1, 24, .inr (.inl (dc_cpN rw (fun p => F (20 * 1 + p)) n1))))] := hD
  refine dc_last (k := 60) hx hb hK hP hD hS 1 rfl (by omega) (by omega) dn_d_Mod_sign_16 (fun H locs hP hD hS => ?_)
  have hP : va_P G vwCl [(mo, .inr (9, [.ref mf, .ref m1, .ref m2, .int (dc_bI so), .long se, .long sm, .long sc, .int (dc_dn sv), .int (dc_bI ak), .long cw, .int dn, .int (nI an), .ref m3, .ref m4, .ref m5, .int (nI sk), .ref m6, .ref m7, .ref m8, .ref m9, .int (nI t), .ref ma, .ref mb, .ref mc, .long ee, .long em, .long ec, .ref mg, .ref mz, .int (dc_bI gn), .int c, .ref mr, .ref mi, .int 0])), (m1, .inl (cA 1, 80, .inr (.inl (vp_updL F 60 (dc_digN w1 n1))))), (m2, .inl (cA 0, 4, .inl zs)), (mr, .inl (cA 1, 24, .inr (.inl (dc_cpN rw (fun p => F (20 * 1 + p)) n1))))] H := hP
  have hD : va_D A [(mo, .inr (9, [.ref mf, .ref m1, .ref m2, .int (dc_bI so), .long se, .long sm, .long sc, .int (dc_dn sv), .int (dc_bI ak), .long cw, .int dn, .int (nI an), .ref m3, .ref m4, .ref m5, .int (nI sk), .ref m6, .ref m7, .ref m8, .ref m9, .int (nI t), .ref ma, .ref mb, .ref mc, .long ee, .long em, .long ec, .ref mg, .ref mz, .int (dc_bI gn), .int c, .ref mr, .ref mi, .int 0])), (m1, .inl (cA 1, 80, .inr (.inl (vp_updL F 60 (dc_digN w1 n1))))), (m2, .inl (cA 0, 4, .inl zs)), (mr, .inl (cA 1, 24, .inr (.inl (dc_cpN rw (fun p => F (20 * 1 + p)) n1))))] := hD
  refine lv_aload_n hx hb dn_d_Mod_sign_17 rfl (lv_at hl 0 rfl) ?_
  refine va_get (D := G) (ci := 9) (v := .ref m1) (C := dn_R_Mod) (T := dn_T_Mod) (N := 34) hx hb hts (dn_u_Mod) hown hK hP 0 rfl rfl 1 (by decide) (hts _ dn_w_859) (fun _ h9 => h9) rfl dn_d_Mod_sign_18 ?_
  refine lv_bipush (v := 61) hx hb dn_d_Mod_sign_21 (by decide) ?_
  refine lv_aload_n hx hb dn_d_Mod_sign_23 rfl (lv_at hl 0 rfl) ?_
  refine lv_iconst (v := 2) hx hb dn_d_Mod_sign_24 (by decide) ?_
  refine dc_wl (wr := []) (va_runV (b := mo) (As := [.int 2]) (rest := [.int 61, .ref m1]) ⟨hx, hb, hml, hown, hts⟩ (rr_digestFile l G cA mo mf m1 m2 so se sm sc sv ak cw dn an m3 m4 m5 sk m6 m7 m8 m9 t ma mb mc ee em ec mg mz gn c mr mi 0 (dc_cpN rw (fun p => F (20 * 1 + p)) n1) (vp_updL F 60 (dc_digN w1 n1)) zs 2 w2 n2 (by decide) (hz2) (by first | assumption | omega) (fun p hp => (pk_uLn (by omega)).trans (hF2 p hp)) H.size) ⟨(callB_of 1 hts (dc_good dn_w_1012) rfl rfl rfl (hts _ dn_w_12) (hts _ dn_w_1009) (by decide +kernel) ⟨Nat.le_of_ble_eq_true rfl, Nat.le_of_ble_eq_true rfl⟩), (hts _ dn_w_1011), (hts _ dn_s_Mod_digestFile)⟩ (dc_preVW (hP.sub [0, 1, 2, 3] rfl) hK0 (hD.sub [0, 1, 2, 3] (by decide) rfl) (q0 := 0) rfl rfl) rfl rfl hl.1 rfl (lv_room (Nat.le_of_ble_eq_true rfl)) dn_d_Mod_sign_25 ⟨Nat.le_of_ble_eq_true rfl, Nat.le_of_ble_eq_true rfl⟩) hP hD hS hA [0, 1, 2, 3] [] rfl rfl (by decide) (by decide) (fun r9 u9 H locs hr9 hP hD hS => ?_)
  subst hr9
  have hP : va_P G vwCl [(mo, .inr (9, [.ref mf, .ref m1, .ref m2, .int (dc_bI so), .long se, .long sm, .long sc, .int (dc_dn sv), .int (dc_bI ak), .long cw, .int dn, .int (nI an), .ref m3, .ref m4, .ref m5, .int (nI sk), .ref m6, .ref m7, .ref m8, .ref m9, .int (nI t), .ref ma, .ref mb, .ref mc, .long ee, .long em, .long ec, .ref mg, .ref mz, .int (dc_bI gn), .int c, .ref mr, .ref mi, .int 0])), (m1, .inl (cA 1, 80, .inr (.inl (vp_updL F 60 (dc_digN w1 n1))))), (m2, .inl (cA 0, 4, .inl zs)), (mr, .inl (cA 1, 24, .inr (.inl (dc_cpN (dc_cpN rw (fun p => F (20 * 1 + p)) n1) (fun p => (vp_updL F 60 (dc_digN w1 n1)) (20 * 2 + p)) n2))))] H := hP
  have hD : va_D A [(mo, .inr (9, [.ref mf, .ref m1, .ref m2, .int (dc_bI so), .long se, .long sm, .long sc, .int (dc_dn sv), .int (dc_bI ak), .long cw, .int dn, .int (nI an), .ref m3, .ref m4, .ref m5, .int (nI sk), .ref m6, .ref m7, .ref m8, .ref m9, .int (nI t), .ref ma, .ref mb, .ref mc, .long ee, .long em, .long ec, .ref mg, .ref mz, .int (dc_bI gn), .int c, .ref mr, .ref mi, .int 0])), (m1, .inl (cA 1, 80, .inr (.inl (vp_updL F 60 (dc_digN w1 n1))))), (m2, .inl (cA 0, 4, .inl zs)), (mr, .inl (cA 1, 24, .inr (.inl (dc_cpN (dc_cpN rw (fun p => F (20 * 1 + p)) n1) (fun p => (vp_updL F 60 (dc_digN w1 n1)) (20 * 2 + p)) n2))))] := hD
  refine dc_last (k := 61) hx hb hK hP hD hS 1 rfl (by omega) (by omega) dn_d_Mod_sign_28 (fun H locs hP hD hS => ?_)
  have hP : va_P G vwCl [(mo, .inr (9, [.ref mf, .ref m1, .ref m2, .int (dc_bI so), .long se, .long sm, .long sc, .int (dc_dn sv), .int (dc_bI ak), .long cw, .int dn, .int (nI an), .ref m3, .ref m4, .ref m5, .int (nI sk), .ref m6, .ref m7, .ref m8, .ref m9, .int (nI t), .ref ma, .ref mb, .ref mc, .long ee, .long em, .long ec, .ref mg, .ref mz, .int (dc_bI gn), .int c, .ref mr, .ref mi, .int 0])), (m1, .inl (cA 1, 80, .inr (.inl (vp_updL (vp_updL F 60 (dc_digN w1 n1)) 61 (dc_digN w2 n2))))), (m2, .inl (cA 0, 4, .inl zs)), (mr, .inl (cA 1, 24, .inr (.inl (dc_cpN (dc_cpN rw (fun p => F (20 * 1 + p)) n1) (fun p => (vp_updL F 60 (dc_digN w1 n1)) (20 * 2 + p)) n2))))] H := hP
  have hD : va_D A [(mo, .inr (9, [.ref mf, .ref m1, .ref m2, .int (dc_bI so), .long se, .long sm, .long sc, .int (dc_dn sv), .int (dc_bI ak), .long cw, .int dn, .int (nI an), .ref m3, .ref m4, .ref m5, .int (nI sk), .ref m6, .ref m7, .ref m8, .ref m9, .int (nI t), .ref ma, .ref mb, .ref mc, .long ee, .long em, .long ec, .ref mg, .ref mz, .int (dc_bI gn), .int c, .ref mr, .ref mi, .int 0])), (m1, .inl (cA 1, 80, .inr (.inl (vp_updL (vp_updL F 60 (dc_digN w1 n1)) 61 (dc_digN w2 n2))))), (m2, .inl (cA 0, 4, .inl zs)), (mr, .inl (cA 1, 24, .inr (.inl (dc_cpN (dc_cpN rw (fun p => F (20 * 1 + p)) n1) (fun p => (vp_updL F 60 (dc_digN w1 n1)) (20 * 2 + p)) n2))))] := hD
  refine lv_aload_n hx hb dn_d_Mod_sign_29 rfl (lv_at hl 0 rfl) ?_
  refine va_get (D := G) (ci := 9) (v := .ref m1) (C := dn_R_Mod) (T := dn_T_Mod) (N := 34) hx hb hts (dn_u_Mod) hown hK hP 0 rfl rfl 1 (by decide) (hts _ dn_w_859) (fun _ h9 => h9) rfl dn_d_Mod_sign_30 ?_
  refine lv_bipush (v := 62) hx hb dn_d_Mod_sign_33 (by decide) ?_
  refine lv_lload_n hx hb dn_d_Mod_sign_35 rfl (lv_at hl 1 rfl) ?_
  refine dc_last (k := 62) hx hb hK hP hD hS 1 rfl (by omega) (by omega) dn_d_Mod_sign_36 (fun H locs hP hD hS => ?_)
  have hP : va_P G vwCl [(mo, .inr (9, [.ref mf, .ref m1, .ref m2, .int (dc_bI so), .long se, .long sm, .long sc, .int (dc_dn sv), .int (dc_bI ak), .long cw, .int dn, .int (nI an), .ref m3, .ref m4, .ref m5, .int (nI sk), .ref m6, .ref m7, .ref m8, .ref m9, .int (nI t), .ref ma, .ref mb, .ref mc, .long ee, .long em, .long ec, .ref mg, .ref mz, .int (dc_bI gn), .int c, .ref mr, .ref mi, .int 0])), (m1, .inl (cA 1, 80, .inr (.inl (vp_updL (vp_updL (vp_updL F 60 (dc_digN w1 n1)) 61 (dc_digN w2 n2)) 62 x)))), (m2, .inl (cA 0, 4, .inl zs)), (mr, .inl (cA 1, 24, .inr (.inl (dc_cpN (dc_cpN rw (fun p => F (20 * 1 + p)) n1) (fun p => (vp_updL F 60 (dc_digN w1 n1)) (20 * 2 + p)) n2))))] H := hP
  have hD : va_D A [(mo, .inr (9, [.ref mf, .ref m1, .ref m2, .int (dc_bI so), .long se, .long sm, .long sc, .int (dc_dn sv), .int (dc_bI ak), .long cw, .int dn, .int (nI an), .ref m3, .ref m4, .ref m5, .int (nI sk), .ref m6, .ref m7, .ref m8, .ref m9, .int (nI t), .ref ma, .ref mb, .ref mc, .long ee, .long em, .long ec, .ref mg, .ref mz, .int (dc_bI gn), .int c, .ref mr, .ref mi, .int 0])), (m1, .inl (cA 1, 80, .inr (.inl (vp_updL (vp_updL (vp_updL F 60 (dc_digN w1 n1)) 61 (dc_digN w2 n2)) 62 x)))), (m2, .inl (cA 0, 4, .inl zs)), (mr, .inl (cA 1, 24, .inr (.inl (dc_cpN (dc_cpN rw (fun p => F (20 * 1 + p)) n1) (fun p => (vp_updL F 60 (dc_digN w1 n1)) (20 * 2 + p)) n2))))] := hD
  refine lv_aload_n hx hb dn_d_Mod_sign_37 rfl (lv_at hl 0 rfl) ?_
  refine va_get (D := G) (ci := 9) (v := .ref m2) (C := dn_R_Mod) (T := dn_T_Mod) (N := 34) hx hb hts (dn_u_Mod) hown hK hP 0 rfl rfl 2 (by decide) (hts _ dn_w_860) (fun _ h9 => h9) rfl dn_d_Mod_sign_38 ?_
  refine lv_iconst (v := 3) hx hb dn_d_Mod_sign_41 (by decide) ?_
  refine lv_iconst (v := 3) hx hb dn_d_Mod_sign_42 (by decide) ?_
  refine dc_iast (k := 3) hx hb hK hP hD hS 2 rfl (by omega) (by omega) dn_d_Mod_sign_43 (fun H locs hP hD hS => ?_)
  have hP : va_P G vwCl [(mo, .inr (9, [.ref mf, .ref m1, .ref m2, .int (dc_bI so), .long se, .long sm, .long sc, .int (dc_dn sv), .int (dc_bI ak), .long cw, .int dn, .int (nI an), .ref m3, .ref m4, .ref m5, .int (nI sk), .ref m6, .ref m7, .ref m8, .ref m9, .int (nI t), .ref ma, .ref mb, .ref mc, .long ee, .long em, .long ec, .ref mg, .ref mz, .int (dc_bI gn), .int c, .ref mr, .ref mi, .int 0])), (m1, .inl (cA 1, 80, .inr (.inl (vp_updL (vp_updL (vp_updL F 60 (dc_digN w1 n1)) 61 (dc_digN w2 n2)) 62 x)))), (m2, .inl (cA 0, 4, .inl (upd zs 3 3))), (mr, .inl (cA 1, 24, .inr (.inl (dc_cpN (dc_cpN rw (fun p => F (20 * 1 + p)) n1) (fun p => (vp_updL F 60 (dc_digN w1 n1)) (20 * 2 + p)) n2))))] H := hP
  have hD : va_D A [(mo, .inr (9, [.ref mf, .ref m1, .ref m2, .int (dc_bI so), .long se, .long sm, .long sc, .int (dc_dn sv), .int (dc_bI ak), .long cw, .int dn, .int (nI an), .ref m3, .ref m4, .ref m5, .int (nI sk), .ref m6, .ref m7, .ref m8, .ref m9, .int (nI t), .ref ma, .ref mb, .ref mc, .long ee, .long em, .long ec, .ref mg, .ref mz, .int (dc_bI gn), .int c, .ref mr, .ref mi, .int 0])), (m1, .inl (cA 1, 80, .inr (.inl (vp_updL (vp_updL (vp_updL F 60 (dc_digN w1 n1)) 61 (dc_digN w2 n2)) 62 x)))), (m2, .inl (cA 0, 4, .inl (upd zs 3 3))), (mr, .inl (cA 1, 24, .inr (.inl (dc_cpN (dc_cpN rw (fun p => F (20 * 1 + p)) n1) (fun p => (vp_updL F 60 (dc_digN w1 n1)) (20 * 2 + p)) n2))))] := hD
  refine lv_aload_n hx hb dn_d_Mod_sign_44 rfl (lv_at hl 0 rfl) ?_
  refine lv_iconst (v := 3) hx hb dn_d_Mod_sign_45 (by decide) ?_
  refine dc_wl (wr := []) (va_runV (b := mo) (As := [.int 3]) (rest := []) ⟨hx, hb, hml, hown, hts⟩ (rr_digestFile l G cA mo mf m1 m2 so se sm sc sv ak cw dn an m3 m4 m5 sk m6 m7 m8 m9 t ma mb mc ee em ec mg mz gn c mr mi 0 (dc_cpN (dc_cpN rw (fun p => F (20 * 1 + p)) n1) (fun p => (vp_updL F 60 (dc_digN w1 n1)) (20 * 2 + p)) n2) (vp_updL (vp_updL (vp_updL F 60 (dc_digN w1 n1)) 61 (dc_digN w2 n2)) 62 x) (upd zs 3 3) 3 (dc_sgW w3 (dc_digN w1 n1) (dc_digN w2 n2) x) 3 (by decide) (rfl) (by first | assumption | omega) (dc_sgF) H.size) ⟨(callB_of 1 hts (dc_good dn_w_1012) rfl rfl rfl (hts _ dn_w_12) (hts _ dn_w_1009) (by decide +kernel) ⟨Nat.le_of_ble_eq_true rfl, Nat.le_of_ble_eq_true rfl⟩), (hts _ dn_w_1011), (hts _ dn_s_Mod_digestFile)⟩ (dc_preVW (hP.sub [0, 1, 2, 3] rfl) hK0 (hD.sub [0, 1, 2, 3] (by decide) rfl) (q0 := 0) rfl rfl) rfl rfl hl.1 rfl (lv_room (Nat.le_of_ble_eq_true rfl)) dn_d_Mod_sign_46 ⟨Nat.le_of_ble_eq_true rfl, Nat.le_of_ble_eq_true rfl⟩) hP hD hS hA [0, 1, 2, 3] [] rfl rfl (by decide) (by decide) (fun r9 u9 H locs hr9 hP hD hS => ?_)
  subst hr9
  have hP : va_P G vwCl [(mo, .inr (9, [.ref mf, .ref m1, .ref m2, .int (dc_bI so), .long se, .long sm, .long sc, .int (dc_dn sv), .int (dc_bI ak), .long cw, .int dn, .int (nI an), .ref m3, .ref m4, .ref m5, .int (nI sk), .ref m6, .ref m7, .ref m8, .ref m9, .int (nI t), .ref ma, .ref mb, .ref mc, .long ee, .long em, .long ec, .ref mg, .ref mz, .int (dc_bI gn), .int c, .ref mr, .ref mi, .int 0])), (m1, .inl (cA 1, 80, .inr (.inl (vp_updL (vp_updL (vp_updL F 60 (dc_digN w1 n1)) 61 (dc_digN w2 n2)) 62 x)))), (m2, .inl (cA 0, 4, .inl (upd zs 3 3))), (mr, .inl (cA 1, 24, .inr (.inl (dc_cpN (dc_cpN (dc_cpN rw (fun p => F (20 * 1 + p)) n1) (fun p => (vp_updL F 60 (dc_digN w1 n1)) (20 * 2 + p)) n2) (fun p => (vp_updL (vp_updL (vp_updL F 60 (dc_digN w1 n1)) 61 (dc_digN w2 n2)) 62 x) (20 * 3 + p)) 3))))] H := hP
  have hD : va_D A [(mo, .inr (9, [.ref mf, .ref m1, .ref m2, .int (dc_bI so), .long se, .long sm, .long sc, .int (dc_dn sv), .int (dc_bI ak), .long cw, .int dn, .int (nI an), .ref m3, .ref m4, .ref m5, .int (nI sk), .ref m6, .ref m7, .ref m8, .ref m9, .int (nI t), .ref ma, .ref mb, .ref mc, .long ee, .long em, .long ec, .ref mg, .ref mz, .int (dc_bI gn), .int c, .ref mr, .ref mi, .int 0])), (m1, .inl (cA 1, 80, .inr (.inl (vp_updL (vp_updL (vp_updL F 60 (dc_digN w1 n1)) 61 (dc_digN w2 n2)) 62 x)))), (m2, .inl (cA 0, 4, .inl (upd zs 3 3))), (mr, .inl (cA 1, 24, .inr (.inl (dc_cpN (dc_cpN (dc_cpN rw (fun p => F (20 * 1 + p)) n1) (fun p => (vp_updL F 60 (dc_digN w1 n1)) (20 * 2 + p)) n2) (fun p => (vp_updL (vp_updL (vp_updL F 60 (dc_digN w1 n1)) 61 (dc_digN w2 n2)) 62 x) (20 * 3 + p)) 3))))] := hD
  refine lv_iconst (v := 1) hx hb dn_d_Mod_sign_49 (by decide) ?_
  refine lv_lushr (v := dc_ju (dc_digN (dc_sgW w3 (dc_digN w1 n1) (dc_digN w2 n2) x) 3) (1 : Int32)) hx hb dn_d_Mod_sign_50 rfl ?_
  have hP9 := hP.sub (ws' := [(mo, .inr (9, [.ref mf, .ref m1, .ref m2, .int (dc_bI so), .long se, .long sm, .long sc, .int (dc_dn sv), .int (dc_bI ak), .long cw, .int dn, .int (nI an), .ref m3, .ref m4, .ref m5, .int (nI sk), .ref m6, .ref m7, .ref m8, .ref m9, .int (nI t), .ref ma, .ref mb, .ref mc, .long ee, .long em, .long ec, .ref mg, .ref mz, .int (dc_bI gn), .int c, .ref mr, .ref mi, .int 0])), (m1, .inl (cA 1, 80, .inr (.inl (vp_updL (vp_updL (vp_updL F 60 (dc_digN w1 n1)) 61 (dc_digN w2 n2)) 62 x)))), (m2, .inl (cA 0, 4, .inl (upd zs 3 3))), (mr, .inl (cA 1, 24, .inr (.inl (dc_cpN (dc_cpN (dc_cpN rw (fun p => F (20 * 1 + p)) n1) (fun p => (vp_updL F 60 (dc_digN w1 n1)) (20 * 2 + p)) n2) (fun p => (vp_updL (vp_updL (vp_updL F 60 (dc_digN w1 n1)) 61 (dc_digN w2 n2)) 62 x) (20 * 3 + p)) 3))))]) [0, 1, 2, 3] rfl
  have hD9 := hD.sub (ws' := [(mo, .inr (9, [.ref mf, .ref m1, .ref m2, .int (dc_bI so), .long se, .long sm, .long sc, .int (dc_dn sv), .int (dc_bI ak), .long cw, .int dn, .int (nI an), .ref m3, .ref m4, .ref m5, .int (nI sk), .ref m6, .ref m7, .ref m8, .ref m9, .int (nI t), .ref ma, .ref mb, .ref mc, .long ee, .long em, .long ec, .ref mg, .ref mz, .int (dc_bI gn), .int c, .ref mr, .ref mi, .int 0])), (m1, .inl (cA 1, 80, .inr (.inl (vp_updL (vp_updL (vp_updL F 60 (dc_digN w1 n1)) 61 (dc_digN w2 n2)) 62 x)))), (m2, .inl (cA 0, 4, .inl (upd zs 3 3))), (mr, .inl (cA 1, 24, .inr (.inl (dc_cpN (dc_cpN (dc_cpN rw (fun p => F (20 * 1 + p)) n1) (fun p => (vp_updL F 60 (dc_digN w1 n1)) (20 * 2 + p)) n2) (fun p => (vp_updL (vp_updL (vp_updL F 60 (dc_digN w1 n1)) 61 (dc_digN w2 n2)) 62 x) (20 * 3 + p)) 3))))]) [0, 1, 2, 3] (by decide) rfl
  have hE9 : ([(mo, .inr (9, [.ref mf, .ref m1, .ref m2, .int (dc_bI so), .long se, .long sm, .long sc, .int (dc_dn sv), .int (dc_bI ak), .long cw, .int dn, .int (nI an), .ref m3, .ref m4, .ref m5, .int (nI sk), .ref m6, .ref m7, .ref m8, .ref m9, .int (nI t), .ref ma, .ref mb, .ref mc, .long ee, .long em, .long ec, .ref mg, .ref mz, .int (dc_bI gn), .int c, .ref mr, .ref mi, .int 0])), (m1, .inl (cA 1, 80, .inr (.inl (vp_updL (vp_updL (vp_updL F 60 (dc_digN w1 n1)) 61 (dc_digN w2 n2)) 62 x)))), (m2, .inl (cA 0, 4, .inl (upd zs 3 3))), (mr, .inl (cA 1, 24, .inr (.inl (dc_cpN (dc_cpN (dc_cpN rw (fun p => F (20 * 1 + p)) n1) (fun p => (vp_updL F 60 (dc_digN w1 n1)) (20 * 2 + p)) n2) (fun p => (vp_updL (vp_updL (vp_updL F 60 (dc_digN w1 n1)) 61 (dc_digN w2 n2)) 62 x) (20 * 3 + p)) 3))))] : va_W) = [(mo, .inr (9, [.ref mf, .ref m1, .ref m2, .int (dc_bI so), .long se, .long sm, .long sc, .int (dc_dn sv), .int (dc_bI ak), .long cw, .int dn, .int (nI an), .ref m3, .ref m4, .ref m5, .int (nI sk), .ref m6, .ref m7, .ref m8, .ref m9, .int (nI t), .ref ma, .ref mb, .ref mc, .long ee, .long em, .long ec, .ref mg, .ref mz, .int (dc_bI gn), .int c, .ref mr, .ref mi, .int 0])), (m1, .inl (cA 1, 80, .inr (.inl (vp_updL (vp_updL (vp_updL F 60 (dc_digN w1 n1)) 61 (dc_digN w2 n2)) 62 x)))), (m2, .inl (cA 0, 4, .inl (upd zs 3 3))), (mr, .inl (cA 1, 24, .inr (.inl (dc_sgR rw F n1 n2 (vp_updL (vp_updL (vp_updL F 60 (dc_digN w1 n1)) 61 (dc_digN w2 n2)) 62 x)))))] := by rw [dc_sgRe hn2]
  rw [hE9] at hP9 hD9
  exact W.lret (v := (dc_ju (dc_digN (dc_sgW w3 (dc_digN w1 n1) (dc_digN w2 n2) x) 3) (1 : Int32))) hx hb hr (fun t ht hW => ⟨⟨_, (), rfl, (rfl), by rw [ht]; exact hP9, hD9⟩, hS.F ht⟩) hS.2.2 dn_d_Mod_sign_51

set_option maxHeartbeats 4000000 in
set_option maxRecDepth 100000 in
theorem rr_digitOf (l : Launch) (x : Int32) (k : Nat) (hv : ¬ x < 0) (hk1 : 1 ≤ k) (hk : k ≤ 9) : Met l dn_y_Mod_digitOf (.code dn_y_Mod_digitOf dn_c_Mod_digitOf 6 (some .int) :: dc_W) ({ frames := 0, cells := 0, slots := 0, locals := 0 }) (fun v _ => v = ([.int x, .int (nI k)] : List Value).toArray) (vp_Si (fun r => r = dc_rd x k)) 0 0 (fun _ => False) := by
  refine Met.ofW (cc := dn_c_Mod_digitOf) (maxL := 6) (ret := (some .int)) (by decide) rfl ?_
  intro p9 en9 s m args9 below9 meth9 cd9 s9 B hml hv
  obtain rfl := hv
  have hx := B.exec
  have hb := B.bytes
  have hr := B.returns
  have hts : ∀ w ∈ dc_W, w.before _ s = true := fun w h => atoms_spec (ws := (.code dn_y_Mod_digitOf dn_c_Mod_digitOf 6 (some .int) :: dc_W)) B.pre w (List.mem_cons_of_mem _ h)
  have hown : s.vm.findClass dn_R_Mod = some m.cls := findClass_of_methodNamed B.named
  have hlocks := B.notSynchronized
  have hl := lv_entry ([.int x, .int (nI k)]) (n := 6) (Nat.le_of_ble_eq_true rfl)
  rw [lg_entry_eq]
  generalize (lg_sl ([.int x, .int (nI k)]) ++ List.replicate (6 - (lg_sl ([.int x, .int (nI k)])).length) Slot.unset).toArray = ls at hl ⊢
  have hl : lv_has ls 6 [(0, .int x), (1, .int (nI k))] := hl
  refine lv_iconst (v := 1) hx hb dn_d_Mod_digitOf_0 (by decide) ?_
  refine lv_istore_n hx hb dn_d_Mod_digitOf_1 rfl hl (by decide) rfl (fun ls hl => ?_)
  have hl : lv_has ls 6 [(2, .int 1), (0, .int x), (1, .int (nI k))] := hl
  refine lv_iconst (v := 1) hx hb dn_d_Mod_digitOf_2 (by decide) ?_
  refine lv_istore_n hx hb dn_d_Mod_digitOf_3 rfl hl (by decide) rfl (fun ls hl => ?_)
  have hl : lv_has ls 6 [(3, .int 1), (2, .int 1), (0, .int x), (1, .int (nI k))] := hl
  refine dc_loop (σ := Nat × Nat) 4 [] (fun (x9 : Nat × Nat) => match x9 with | (i, T) => k - i) (fun (x9 : Nat × Nat) (H : Heap) (locs : List Loc) (ls : Array Slot) => match x9 with | (i, T) => lv_has ls 6 [(3, .int (nI i)), (2, .int (nI T)), (0, .int x), (1, .int (nI k))] ∧ H = s.heap ∧ locs = [] ∧ (1 ≤ i) ∧ (i ≤ k) ∧ (T = 10 ^ (i - 1))) ?_ (1, 1) ⟨lv_sub hl [0, 1, 2, 3] rfl, rfl, rfl, (by omega), (by omega), (rfl)⟩
  rintro ⟨i, T⟩ H locs ls ⟨hl, rfl, rfl, hi1, hi, hT⟩ ih4
  have hl : lv_has ls 6 [(3, .int (nI i)), (2, .int (nI T)), (0, .int x), (1, .int (nI k))] := hl
  refine lv_iload_n hx hb dn_d_Mod_digitOf_4 rfl (lv_at hl 0 rfl) ?_
  refine lv_iload_n hx hb dn_d_Mod_digitOf_5 rfl (lv_at hl 3 rfl) ?_
  refine lv_icmp_ge (tgt := 20) hx hb dn_d_Mod_digitOf_6 (by decide) (fun h6 => ?_) (fun h6 => ?_)
  · -- 6: k ≤ i
    have h6 : k ≤ i := (nI_leI (a := k) (b := i) (by omega) (by omega)).1 h6
    refine lv_iconst (v := 0) hx hb dn_d_Mod_digitOf_20 (by decide) ?_
    refine lv_istore_n hx hb dn_d_Mod_digitOf_21 rfl hl (by decide) rfl (fun ls hl => ?_)
    have hl : lv_has ls 6 [(3, .int 0), (2, .int (nI T)), (0, .int x), (1, .int (nI k))] := hl
    refine lv_iconst (v := 0) hx hb dn_d_Mod_digitOf_22 (by decide) ?_
    refine lv_istore hx hb dn_d_Mod_digitOf_23 hl (by decide) rfl (fun ls hl => ?_)
    have hl : lv_has ls 6 [(4, .int 0), (3, .int 0), (2, .int (nI T)), (0, .int x), (1, .int (nI k))] := hl
    refine dc_loop (σ := Nat × Nat × Int32) 25 [] (fun (x9 : Nat × Nat × Int32) => match x9 with | (i2, T2, u) => k - i2) (fun (x9 : Nat × Nat × Int32) (H : Heap) (locs : List Loc) (ls : Array Slot) => match x9 with | (i2, T2, u) => lv_has ls 6 [(4, .int (nI i2)), (3, .int u), (2, .int (nI T2)), (0, .int x), (1, .int (nI k))] ∧ H = s.heap ∧ locs = [] ∧ (i2 ≤ k) ∧ (i2 < k → T2 = 10 ^ (k - 1 - i2)) ∧ (u = dc_dgS x k i2) ∧ (T2 < 2147483648)) ?_ (0, T, 0) ⟨lv_sub hl [0, 1, 2, 3, 4] rfl, rfl, rfl, (by omega), (fun _ => by rw [hT]; congr 1; omega), (rfl), (dc_p9 hT hi hk)⟩
    rintro ⟨i2, T2, u⟩ H locs ls ⟨hl, rfl, rfl, hi2, hT2, hu, hTb⟩ ih25
    have hl : lv_has ls 6 [(4, .int (nI i2)), (3, .int u), (2, .int (nI T2)), (0, .int x), (1, .int (nI k))] := hl
    refine lv_iload hx hb dn_d_Mod_digitOf_25 (lv_at hl 0 rfl) ?_
    refine lv_iload_n hx hb dn_d_Mod_digitOf_27 rfl (lv_at hl 4 rfl) ?_
    refine lv_icmp_ge (tgt := 81) hx hb dn_d_Mod_digitOf_28 (by decide) (fun h28 => ?_) (fun h28 => ?_)
    · -- 28: k ≤ i2
      have h28 : k ≤ i2 := (nI_leI (a := k) (b := i2) (by omega) (by omega)).1 h28
      refine lv_iload_n hx hb dn_d_Mod_digitOf_81 rfl (lv_at hl 1 rfl) ?_
      refine lv_bipush (v := 10) hx hb dn_d_Mod_digitOf_82 (by decide) ?_
      refine lv_irem hx hb dn_d_Mod_digitOf_84 (by decide) ?_
      exact W.iret (v := (dc_irem u (10 : Int32))) hx hb hr (fun t ht hW => ⟨_, rfl, (by rw [hu, show i2 = k by omega]; exact dc_dgRd hv hk1 hk), ht⟩) (fun q h => by cases h) dn_d_Mod_digitOf_85
    · -- 28: ¬ k ≤ i2
      have h28 : ¬ k ≤ i2 := fun z => h28 ((nI_leI (a := k) (b := i2) (by omega) (by omega)).2 z)
      refine lv_iload hx hb dn_d_Mod_digitOf_31 (lv_at hl 0 rfl) ?_
      refine lv_iconst (v := 3) hx hb dn_d_Mod_digitOf_33 (by decide) ?_
      refine lv_irem hx hb dn_d_Mod_digitOf_34 (by decide) ?_
      rw [show (nI i2) - (nI i2) / (3 : Int32) * (3 : Int32) = nI (i2 % 3) from pk_rem (by omega) (by decide) (by decide)]
      refine lv_if_ne (tgt := 43) hx hb dn_d_Mod_digitOf_35 (by decide) (fun h35 => ?_) (fun h35 => ?_)
      · -- 35: ¬ (i2 % 3) = 0
        have h35 : ¬ (i2 % 3) = 0 := fun z => h35 ((nI_eq (a := i2 % 3) (b := 0) (by omega) (by omega)).2 z)
        refine lv_iload hx hb dn_d_Mod_digitOf_43 (lv_at hl 0 rfl) ?_
        refine lv_iconst (v := 3) hx hb dn_d_Mod_digitOf_45 (by decide) ?_
        refine lv_irem hx hb dn_d_Mod_digitOf_46 (by decide) ?_
        rw [show (nI i2) - (nI i2) / (3 : Int32) * (3 : Int32) = nI (i2 % 3) from pk_rem (by omega) (by decide) (by decide)]
        refine lv_iconst (v := 1) hx hb dn_d_Mod_digitOf_47 (by decide) ?_
        refine lv_icmp_ne (tgt := 55) hx hb dn_d_Mod_digitOf_48 (by decide) (fun h48 => ?_) (fun h48 => ?_)
        · -- 48: ¬ (i2 % 3) = 1
          have h48 : ¬ (i2 % 3) = 1 := fun z => h48 ((nI_eq (a := i2 % 3) (b := 1) (by omega) (by omega)).2 z)
          refine lv_iconst (v := 1) hx hb dn_d_Mod_digitOf_55 (by decide) ?_
          refine lv_istore hx hb dn_d_Mod_digitOf_56 hl (by decide) rfl (fun ls hl => ?_)
          have hl : lv_has ls 6 [(5, .int 1), (4, .int (nI i2)), (3, .int u), (2, .int (nI T2)), (0, .int x), (1, .int (nI k))] := hl
          refine lv_iload_n hx hb dn_d_Mod_digitOf_58 rfl (lv_at hl 2 rfl) ?_
          refine lv_iload_n hx hb dn_d_Mod_digitOf_59 rfl (lv_at hl 4 rfl) ?_
          refine lv_iload_n hx hb dn_d_Mod_digitOf_60 rfl (lv_at hl 3 rfl) ?_
          refine lv_idiv hx hb dn_d_Mod_digitOf_61 (nI_ne0 (dc_p0 (hT2 (by omega))) (by omega)) ?_
          refine lv_bipush (v := 10) hx hb dn_d_Mod_digitOf_62 (by decide) ?_
          refine lv_irem hx hb dn_d_Mod_digitOf_64 (by decide) ?_
          refine lv_iload hx hb dn_d_Mod_digitOf_65 (lv_at hl 0 rfl) ?_
          refine lv_imul hx hb dn_d_Mod_digitOf_67 ?_
          refine lv_iadd hx hb dn_d_Mod_digitOf_68 ?_
          refine lv_istore_n hx hb dn_d_Mod_digitOf_69 rfl hl (by decide) rfl (fun ls hl => ?_)
          have hl : lv_has ls 6 [(3, .int (u + ((dc_irem (x / (nI T2)) (10 : Int32)) * (1 : Int32)))), (5, .int 1), (4, .int (nI i2)), (2, .int (nI T2)), (0, .int x), (1, .int (nI k))] := hl
          refine lv_iload_n hx hb dn_d_Mod_digitOf_70 rfl (lv_at hl 3 rfl) ?_
          refine lv_bipush (v := 10) hx hb dn_d_Mod_digitOf_71 (by decide) ?_
          refine lv_idiv hx hb dn_d_Mod_digitOf_73 (by decide) ?_
          rw [show (nI T2) / (10 : Int32) = nI (T2 / 10) from pk_div (by omega) (by decide) (by decide)]
          refine lv_istore_n hx hb dn_d_Mod_digitOf_74 rfl hl (by decide) rfl (fun ls hl => ?_)
          have hl : lv_has ls 6 [(2, .int (nI (T2 / 10))), (3, .int (u + ((dc_irem (x / (nI T2)) (10 : Int32)) * (1 : Int32)))), (5, .int 1), (4, .int (nI i2)), (0, .int x), (1, .int (nI k))] := hl
          refine lv_iinc (k := 3) (v := nI (i2 + 1)) hx hb dn_d_Mod_digitOf_75 hl rfl (dc_inc1 _) (by decide) rfl (fun ls hl => ?_)
          have hl : lv_has ls 6 [(4, .int (nI (i2 + 1))), (2, .int (nI (T2 / 10))), (3, .int (u + ((dc_irem (x / (nI T2)) (10 : Int32)) * (1 : Int32)))), (5, .int 1), (0, .int x), (1, .int (nI k))] := hl
          refine lv_goto (tgt := 25) hx hb dn_d_Mod_digitOf_78 (by decide) ?_
          exact ih25 (i2 + 1, T2 / 10, u + ((dc_irem (x / (nI T2)) (10 : Int32)) * (1 : Int32))) _ _ _ (by first | omega | (dsimp only; omega)) ⟨lv_sub hl [0, 2, 1, 4, 5] rfl, rfl, rfl, (by omega), (fun z9 => by rw [hT2 (by omega), show k - 1 - i2 = (k - 1 - (i2 + 1)) + 1 by omega, Nat.pow_succ, Nat.mul_div_cancel _ (by decide)]), (dc_dgStep hu (hT2 (by omega)) (by first | exact dc_we0 h35 | exact dc_we1 h48 | exact dc_we2 h35 h48)), (by omega)⟩
        · -- 48: (i2 % 3) = 1
          have h48 : (i2 % 3) = 1 := (nI_eq (a := i2 % 3) (b := 1) (by omega) (by omega)).1 h48
          refine lv_iconst (v := 3) hx hb dn_d_Mod_digitOf_51 (by decide) ?_
          refine lv_goto (tgt := 56) hx hb dn_d_Mod_digitOf_52 (by decide) ?_
          refine lv_istore hx hb dn_d_Mod_digitOf_56 hl (by decide) rfl (fun ls hl => ?_)
          have hl : lv_has ls 6 [(5, .int 3), (4, .int (nI i2)), (3, .int u), (2, .int (nI T2)), (0, .int x), (1, .int (nI k))] := hl
          refine lv_iload_n hx hb dn_d_Mod_digitOf_58 rfl (lv_at hl 2 rfl) ?_
          refine lv_iload_n hx hb dn_d_Mod_digitOf_59 rfl (lv_at hl 4 rfl) ?_
          refine lv_iload_n hx hb dn_d_Mod_digitOf_60 rfl (lv_at hl 3 rfl) ?_
          refine lv_idiv hx hb dn_d_Mod_digitOf_61 (nI_ne0 (dc_p0 (hT2 (by omega))) (by omega)) ?_
          refine lv_bipush (v := 10) hx hb dn_d_Mod_digitOf_62 (by decide) ?_
          refine lv_irem hx hb dn_d_Mod_digitOf_64 (by decide) ?_
          refine lv_iload hx hb dn_d_Mod_digitOf_65 (lv_at hl 0 rfl) ?_
          refine lv_imul hx hb dn_d_Mod_digitOf_67 ?_
          refine lv_iadd hx hb dn_d_Mod_digitOf_68 ?_
          refine lv_istore_n hx hb dn_d_Mod_digitOf_69 rfl hl (by decide) rfl (fun ls hl => ?_)
          have hl : lv_has ls 6 [(3, .int (u + ((dc_irem (x / (nI T2)) (10 : Int32)) * (3 : Int32)))), (5, .int 3), (4, .int (nI i2)), (2, .int (nI T2)), (0, .int x), (1, .int (nI k))] := hl
          refine lv_iload_n hx hb dn_d_Mod_digitOf_70 rfl (lv_at hl 3 rfl) ?_
          refine lv_bipush (v := 10) hx hb dn_d_Mod_digitOf_71 (by decide) ?_
          refine lv_idiv hx hb dn_d_Mod_digitOf_73 (by decide) ?_
          rw [show (nI T2) / (10 : Int32) = nI (T2 / 10) from pk_div (by omega) (by decide) (by decide)]
          refine lv_istore_n hx hb dn_d_Mod_digitOf_74 rfl hl (by decide) rfl (fun ls hl => ?_)
          have hl : lv_has ls 6 [(2, .int (nI (T2 / 10))), (3, .int (u + ((dc_irem (x / (nI T2)) (10 : Int32)) * (3 : Int32)))), (5, .int 3), (4, .int (nI i2)), (0, .int x), (1, .int (nI k))] := hl
          refine lv_iinc (k := 3) (v := nI (i2 + 1)) hx hb dn_d_Mod_digitOf_75 hl rfl (dc_inc1 _) (by decide) rfl (fun ls hl => ?_)
          have hl : lv_has ls 6 [(4, .int (nI (i2 + 1))), (2, .int (nI (T2 / 10))), (3, .int (u + ((dc_irem (x / (nI T2)) (10 : Int32)) * (3 : Int32)))), (5, .int 3), (0, .int x), (1, .int (nI k))] := hl
          refine lv_goto (tgt := 25) hx hb dn_d_Mod_digitOf_78 (by decide) ?_
          exact ih25 (i2 + 1, T2 / 10, u + ((dc_irem (x / (nI T2)) (10 : Int32)) * (3 : Int32))) _ _ _ (by first | omega | (dsimp only; omega)) ⟨lv_sub hl [0, 2, 1, 4, 5] rfl, rfl, rfl, (by omega), (fun z9 => by rw [hT2 (by omega), show k - 1 - i2 = (k - 1 - (i2 + 1)) + 1 by omega, Nat.pow_succ, Nat.mul_div_cancel _ (by decide)]), (dc_dgStep hu (hT2 (by omega)) (by first | exact dc_we0 h35 | exact dc_we1 h48 | exact dc_we2 h35 h48)), (by omega)⟩
      · -- 35: (i2 % 3) = 0
        have h35 : (i2 % 3) = 0 := (nI_eq (a := i2 % 3) (b := 0) (by omega) (by omega)).1 h35
        refine lv_bipush (v := 7) hx hb dn_d_Mod_digitOf_38 (by decide) ?_
        refine lv_goto (tgt := 56) hx hb dn_d_Mod_digitOf_40 (by decide) ?_
        refine lv_istore hx hb dn_d_Mod_digitOf_56 hl (by decide) rfl (fun ls hl => ?_)
        have hl : lv_has ls 6 [(5, .int 7), (4, .int (nI i2)), (3, .int u), (2, .int (nI T2)), (0, .int x), (1, .int (nI k))] := hl
        refine lv_iload_n hx hb dn_d_Mod_digitOf_58 rfl (lv_at hl 2 rfl) ?_
        refine lv_iload_n hx hb dn_d_Mod_digitOf_59 rfl (lv_at hl 4 rfl) ?_
        refine lv_iload_n hx hb dn_d_Mod_digitOf_60 rfl (lv_at hl 3 rfl) ?_
        refine lv_idiv hx hb dn_d_Mod_digitOf_61 (nI_ne0 (dc_p0 (hT2 (by omega))) (by omega)) ?_
        refine lv_bipush (v := 10) hx hb dn_d_Mod_digitOf_62 (by decide) ?_
        refine lv_irem hx hb dn_d_Mod_digitOf_64 (by decide) ?_
        refine lv_iload hx hb dn_d_Mod_digitOf_65 (lv_at hl 0 rfl) ?_
        refine lv_imul hx hb dn_d_Mod_digitOf_67 ?_
        refine lv_iadd hx hb dn_d_Mod_digitOf_68 ?_
        refine lv_istore_n hx hb dn_d_Mod_digitOf_69 rfl hl (by decide) rfl (fun ls hl => ?_)
        have hl : lv_has ls 6 [(3, .int (u + ((dc_irem (x / (nI T2)) (10 : Int32)) * (7 : Int32)))), (5, .int 7), (4, .int (nI i2)), (2, .int (nI T2)), (0, .int x), (1, .int (nI k))] := hl
        refine lv_iload_n hx hb dn_d_Mod_digitOf_70 rfl (lv_at hl 3 rfl) ?_
        refine lv_bipush (v := 10) hx hb dn_d_Mod_digitOf_71 (by decide) ?_
        refine lv_idiv hx hb dn_d_Mod_digitOf_73 (by decide) ?_
        rw [show (nI T2) / (10 : Int32) = nI (T2 / 10) from pk_div (by omega) (by decide) (by decide)]
        refine lv_istore_n hx hb dn_d_Mod_digitOf_74 rfl hl (by decide) rfl (fun ls hl => ?_)
        have hl : lv_has ls 6 [(2, .int (nI (T2 / 10))), (3, .int (u + ((dc_irem (x / (nI T2)) (10 : Int32)) * (7 : Int32)))), (5, .int 7), (4, .int (nI i2)), (0, .int x), (1, .int (nI k))] := hl
        refine lv_iinc (k := 3) (v := nI (i2 + 1)) hx hb dn_d_Mod_digitOf_75 hl rfl (dc_inc1 _) (by decide) rfl (fun ls hl => ?_)
        have hl : lv_has ls 6 [(4, .int (nI (i2 + 1))), (2, .int (nI (T2 / 10))), (3, .int (u + ((dc_irem (x / (nI T2)) (10 : Int32)) * (7 : Int32)))), (5, .int 7), (0, .int x), (1, .int (nI k))] := hl
        refine lv_goto (tgt := 25) hx hb dn_d_Mod_digitOf_78 (by decide) ?_
        exact ih25 (i2 + 1, T2 / 10, u + ((dc_irem (x / (nI T2)) (10 : Int32)) * (7 : Int32))) _ _ _ (by first | omega | (dsimp only; omega)) ⟨lv_sub hl [0, 2, 1, 4, 5] rfl, rfl, rfl, (by omega), (fun z9 => by rw [hT2 (by omega), show k - 1 - i2 = (k - 1 - (i2 + 1)) + 1 by omega, Nat.pow_succ, Nat.mul_div_cancel _ (by decide)]), (dc_dgStep hu (hT2 (by omega)) (by first | exact dc_we0 h35 | exact dc_we1 h48 | exact dc_we2 h35 h48)), (by omega)⟩
  · -- 6: ¬ k ≤ i
    have h6 : ¬ k ≤ i := fun z => h6 ((nI_leI (a := k) (b := i) (by omega) (by omega)).2 z)
    refine lv_iload_n hx hb dn_d_Mod_digitOf_9 rfl (lv_at hl 1 rfl) ?_
    refine lv_bipush (v := 10) hx hb dn_d_Mod_digitOf_10 (by decide) ?_
    refine lv_imul hx hb dn_d_Mod_digitOf_12 ?_
    rw [show (nI T) * (10 : Int32) = nI (T * 10) from pk_mul T 10]
    refine lv_istore_n hx hb dn_d_Mod_digitOf_13 rfl hl (by decide) rfl (fun ls hl => ?_)
    have hl : lv_has ls 6 [(2, .int (nI (T * 10))), (3, .int (nI i)), (0, .int x), (1, .int (nI k))] := hl
    refine lv_iinc (k := 1) (v := nI (i + 1)) hx hb dn_d_Mod_digitOf_14 hl rfl (dc_inc1 _) (by decide) rfl (fun ls hl => ?_)
    have hl : lv_has ls 6 [(3, .int (nI (i + 1))), (2, .int (nI (T * 10))), (0, .int x), (1, .int (nI k))] := hl
    refine lv_goto (tgt := 4) hx hb dn_d_Mod_digitOf_17 (by decide) ?_
    exact ih4 (i + 1, T * 10) _ _ _ (by first | omega | (dsimp only; omega)) ⟨lv_sub hl [0, 1, 2, 3] rfl, rfl, rfl, (by omega), (by omega), (by rw [hT, show i + 1 - 1 = (i - 1) + 1 by omega, Nat.pow_succ])⟩
