set_option maxHeartbeats 4000000 in
set_option maxRecDepth 100000 in
theorem rr_judged (l : Launch) (G : va_G) (cA : Nat → ClassId) (mo : Nat) (mf : Nat) (m1 : Nat) (m2 : Nat) (so : Bool) (se : Int64) (sm : Int64) (sc : Int64) (sv : Nat) (ak : Bool) (cw : Int64) (dn : Int32) (an : Nat) (m3 : Nat) (m4 : Nat) (m5 : Nat) (sk : Nat) (m6 : Nat) (m7 : Nat) (m8 : Nat) (m9 : Nat) (t : Nat) (ma : Nat) (mb : Nat) (mc : Nat) (ee : Int64) (em : Int64) (ec : Int64) (mg : Nat) (mz : Nat) (gn : Bool) (c : Int32) (mr : Nat) (mi : Nat) (th : Int32) (fv : Nat → Int32) (fd : Nat → Int32) (fn : Nat → Int64) (fo : Nat → Int32) (fe : Nat → Int32) (rw : Nat → Int64) (GF : Nat → Int64) (gz : Nat → Int32) (w0d : Nat → Int64) (y0 : Nat) (w1d : Nat → Int64) (y1 : Nat) (w2d : Nat → Int64) (y2 : Nat) (w3d : Nat → Int64) (y3 : Nat) (hz : dc_szR gz y0 y1 y2 y3) (hF : dc_fiR GF w0d y0 w1d y1 w2d y2 w3d y3) (hsk : sk ≤ 4) (hmod : ∀ i : Nat, i < sk → ¬ fo i < 2) (hm0 : y0 ≤ 20) (hm1 : y1 ≤ 20) (hm2 : y2 ≤ 20) (hm3 : y3 ≤ 20) (sz : Nat) : Met l dn_y_Mod_judged (.code dn_y_Mod_judged dn_c_Mod_judged 4 (some .int) :: dc_W) ({ frames := 3, cells := 0, slots := 0, locals := 72 }) (dc_pW G cA [(mo, .inr (9, [.ref mf, .ref m1, .ref m2, .int (dc_bI so), .long se, .long sm, .long sc, .int (dc_dn sv), .int (dc_bI ak), .long cw, .int dn, .int (nI an), .ref m3, .ref m4, .ref m5, .int (nI sk), .ref m6, .ref m7, .ref m8, .ref m9, .int (nI t), .ref ma, .ref mb, .ref mc, .long ee, .long em, .long ec, .ref mg, .ref mz, .int (dc_bI gn), .int c, .ref mr, .ref mi, .int th])), (m4, .inl (cA 0, 3, .inl fv)), (m5, .inl (cA 0, 3, .inl fd)), (m6, .inl (cA 1, 4, .inr (.inl fn))), (m7, .inl (cA 0, 4, .inl fo)), (m8, .inl (cA 0, 4, .inl fe)), (mg, .inl (cA 1, 80, .inr (.inl GF))), (mz, .inl (cA 0, 4, .inl gz)), (mr, .inl (cA 1, 24, .inr (.inl rw)))] sz [.ref mo]) (dc_qi G (fun (r : Int32) (_ : (Nat → Int64)) => r = dc_judge fv fd fn fo fe sk w0d y0 w1d y1 w2d y2 w3d y3) (fun (rw_ : (Nat → Int64)) => [(mo, .inr (9, [.ref mf, .ref m1, .ref m2, .int (dc_bI so), .long se, .long sm, .long sc, .int (dc_dn sv), .int (dc_bI ak), .long cw, .int dn, .int (nI an), .ref m3, .ref m4, .ref m5, .int (nI sk), .ref m6, .ref m7, .ref m8, .ref m9, .int (nI t), .ref ma, .ref mb, .ref mc, .long ee, .long em, .long ec, .ref mg, .ref mz, .int (dc_bI gn), .int c, .ref mr, .ref mi, .int th])), (m4, .inl (cA 0, 3, .inl fv)), (m5, .inl (cA 0, 3, .inl fd)), (m6, .inl (cA 1, 4, .inr (.inl fn))), (m7, .inl (cA 0, 4, .inl fo)), (m8, .inl (cA 0, 4, .inl fe)), (mg, .inl (cA 1, 80, .inr (.inl GF))), (mz, .inl (cA 0, 4, .inl gz)), (mr, .inl (cA 1, 24, .inr (.inl rw_)))]) sz [(mo, .inr (9, [.ref mf, .ref m1, .ref m2, .int (dc_bI so), .long se, .long sm, .long sc, .int (dc_dn sv), .int (dc_bI ak), .long cw, .int dn, .int (nI an), .ref m3, .ref m4, .ref m5, .int (nI sk), .ref m6, .ref m7, .ref m8, .ref m9, .int (nI t), .ref ma, .ref mb, .ref mc, .long ee, .long em, .long ec, .ref mg, .ref mz, .int (dc_bI gn), .int c, .ref mr, .ref mi, .int th])), (m4, .inl (cA 0, 3, .inl fv)), (m5, .inl (cA 0, 3, .inl fd)), (m6, .inl (cA 1, 4, .inr (.inl fn))), (m7, .inl (cA 0, 4, .inl fo)), (m8, .inl (cA 0, 4, .inl fe)), (mg, .inl (cA 1, 80, .inr (.inl GF))), (mz, .inl (cA 0, 4, .inl gz)), (mr, .inl (cA 1, 24, .inr (.inl rw)))]) 0 0 (va_A [(mo, .inr (9, [.ref mf, .ref m1, .ref m2, .int (dc_bI so), .long se, .long sm, .long sc, .int (dc_dn sv), .int (dc_bI ak), .long cw, .int dn, .int (nI an), .ref m3, .ref m4, .ref m5, .int (nI sk), .ref m6, .ref m7, .ref m8, .ref m9, .int (nI t), .ref ma, .ref mb, .ref mc, .long ee, .long em, .long ec, .ref mg, .ref mz, .int (dc_bI gn), .int c, .ref mr, .ref mi, .int th])), (m4, .inl (cA 0, 3, .inl fv)), (m5, .inl (cA 0, 3, .inl fd)), (m6, .inl (cA 1, 4, .inr (.inl fn))), (m7, .inl (cA 0, 4, .inl fo)), (m8, .inl (cA 0, 4, .inl fe)), (mg, .inl (cA 1, 80, .inr (.inl GF))), (mz, .inl (cA 0, 4, .inl gz)), (mr, .inl (cA 1, 24, .inr (.inl rw)))] sz) := by
  refine Met.ofW (cc := dn_c_Mod_judged) (maxL := 4) (ret := (some .int)) (by decide) rfl ?_
  intro p9 en9 s m args9 below9 meth9 cd9 s9 B hml hv
  obtain ⟨rfl, hsz, hP, hK0, hD0⟩ := hv
  have hx := B.exec
  have hb := B.bytes
  have hr := B.returns
  have hts : ∀ w ∈ dc_W, w.before _ s = true := fun w h => atoms_spec (ws := (.code dn_y_Mod_judged dn_c_Mod_judged 4 (some .int) :: dc_W)) B.pre w (List.mem_cons_of_mem _ h)
  have hK := hK0.1
  have hN := hK0.2
  have hown : s.vm.findClass dn_R_Mod = some m.cls := findClass_of_methodNamed B.named
  have hlocks := B.notSynchronized
  subst hsz
  have hD := hD0.self (sz := s.heap.size)
  unfold dc_qi
  generalize hAe : va_A [(mo, .inr (9, [.ref mf, .ref m1, .ref m2, .int (dc_bI so), .long se, .long sm, .long sc, .int (dc_dn sv), .int (dc_bI ak), .long cw, .int dn, .int (nI an), .ref m3, .ref m4, .ref m5, .int (nI sk), .ref m6, .ref m7, .ref m8, .ref m9, .int (nI t), .ref ma, .ref mb, .ref mc, .long ee, .long em, .long ec, .ref mg, .ref mz, .int (dc_bI gn), .int c, .ref mr, .ref mi, .int th])), (m4, .inl (cA 0, 3, .inl fv)), (m5, .inl (cA 0, 3, .inl fd)), (m6, .inl (cA 1, 4, .inr (.inl fn))), (m7, .inl (cA 0, 4, .inl fo)), (m8, .inl (cA 0, 4, .inl fe)), (mg, .inl (cA 1, 80, .inr (.inl GF))), (mz, .inl (cA 0, 4, .inl gz)), (mr, .inl (cA 1, 24, .inr (.inl rw)))] s.heap.size = A at hD ⊢
  have hA : ∀ q : Nat, s.heap.size ≤ q → A q := fun q h => by rw [← hAe]; exact Or.inr h
  have hS : va_S A s.heap s.heap [] := va_S.rf
  have hl := lv_entry ([.ref mo]) (n := 4) (Nat.le_of_ble_eq_true rfl)
  rw [lg_entry_eq]
  generalize (lg_sl ([.ref mo]) ++ List.replicate (4 - (lg_sl ([.ref mo])).length) Slot.unset).toArray = ls at hl ⊢
  have hl : lv_has ls 4 [(0, .ref mo)] := hl
  refine lv_aload_n hx hb dn_d_Mod_judged_0 rfl (lv_at hl 0 rfl) ?_
  refine va_get (D := G) (ci := 9) (v := .ref mz) (C := dn_R_Mod) (T := dn_T_Mod) (N := 34) hx hb hts (dn_u_Mod) hown hK hP 0 rfl rfl 28 (by decide) (hts _ dn_w_886) (fun _ h9 => h9) rfl dn_d_Mod_judged_1 ?_
  refine lv_iconst (v := 0) hx hb dn_d_Mod_judged_4 (by decide) ?_
  refine dc_iald (k := 0) hx hb hK hP 7 rfl (by omega) (by omega) dn_d_Mod_judged_5 ?_
  rw [hz.1]
  refine lv_iconst (v := 1) hx hb dn_d_Mod_judged_6 (by decide) ?_
  refine lv_icmp_ne (tgt := 33) hx hb dn_d_Mod_judged_7 (by decide) (fun h7 => ?_) (fun h7 => ?_)
  · -- 7: ¬ y0 = 1
    have h7 : ¬ y0 = 1 := fun z => h7 ((nI_eq (a := y0) (b := 1) (by omega) (by omega)).2 z)
    refine lv_bipush (v := 6) hx hb dn_d_Mod_judged_33 (by decide) ?_
    have hP9 := hP.sub (ws' := [(mo, .inr (9, [.ref mf, .ref m1, .ref m2, .int (dc_bI so), .long se, .long sm, .long sc, .int (dc_dn sv), .int (dc_bI ak), .long cw, .int dn, .int (nI an), .ref m3, .ref m4, .ref m5, .int (nI sk), .ref m6, .ref m7, .ref m8, .ref m9, .int (nI t), .ref ma, .ref mb, .ref mc, .long ee, .long em, .long ec, .ref mg, .ref mz, .int (dc_bI gn), .int c, .ref mr, .ref mi, .int th])), (m4, .inl (cA 0, 3, .inl fv)), (m5, .inl (cA 0, 3, .inl fd)), (m6, .inl (cA 1, 4, .inr (.inl fn))), (m7, .inl (cA 0, 4, .inl fo)), (m8, .inl (cA 0, 4, .inl fe)), (mg, .inl (cA 1, 80, .inr (.inl GF))), (mz, .inl (cA 0, 4, .inl gz)), (mr, .inl (cA 1, 24, .inr (.inl rw)))]) [0, 1, 2, 3, 4, 5, 6, 7, 8] rfl
    have hD9 := hD.sub (ws' := [(mo, .inr (9, [.ref mf, .ref m1, .ref m2, .int (dc_bI so), .long se, .long sm, .long sc, .int (dc_dn sv), .int (dc_bI ak), .long cw, .int dn, .int (nI an), .ref m3, .ref m4, .ref m5, .int (nI sk), .ref m6, .ref m7, .ref m8, .ref m9, .int (nI t), .ref ma, .ref mb, .ref mc, .long ee, .long em, .long ec, .ref mg, .ref mz, .int (dc_bI gn), .int c, .ref mr, .ref mi, .int th])), (m4, .inl (cA 0, 3, .inl fv)), (m5, .inl (cA 0, 3, .inl fd)), (m6, .inl (cA 1, 4, .inr (.inl fn))), (m7, .inl (cA 0, 4, .inl fo)), (m8, .inl (cA 0, 4, .inl fe)), (mg, .inl (cA 1, 80, .inr (.inl GF))), (mz, .inl (cA 0, 4, .inl gz)), (mr, .inl (cA 1, 24, .inr (.inl rw)))]) [0, 1, 2, 3, 4, 5, 6, 7, 8] (by decide) rfl
    exact W.iret (v := 6) hx hb hr (fun t ht hW => ⟨⟨_, rw, rfl, (by rw [dc_jdE hF]; unfold dc_jd; rw [if_neg (fun z9 => h7 z9.1)]), by rw [ht]; exact hP9, hD9⟩, hS.F ht⟩) hS.2.2 dn_d_Mod_judged_35
  · -- 7: y0 = 1
    have h7 : y0 = 1 := (nI_eq (a := y0) (b := 1) (by omega) (by omega)).1 h7
    refine lv_aload_n hx hb dn_d_Mod_judged_10 rfl (lv_at hl 0 rfl) ?_
    refine va_get (D := G) (ci := 9) (v := .ref mg) (C := dn_R_Mod) (T := dn_T_Mod) (N := 34) hx hb hts (dn_u_Mod) hown hK hP 0 rfl rfl 27 (by decide) (hts _ dn_w_885) (fun _ h9 => h9) rfl dn_d_Mod_judged_11 ?_
    refine lv_iconst (v := 0) hx hb dn_d_Mod_judged_14 (by decide) ?_
    refine dc_lald (k := 0) hx hb hK hP 6 rfl (by omega) (by omega) dn_d_Mod_judged_15 ?_
    refine lv_ldc2 (v := 19) hx hb hown (hts _ dn_w_1140) dn_d_Mod_judged_16 ?_
    refine W.lcmp hx hb dn_d_Mod_judged_19 ?_
    refine lv_if_ne (tgt := 33) hx hb dn_d_Mod_judged_20 (by decide) (fun h20 => ?_) (fun h20 => ?_)
    · -- 20: ¬ (GF 0) = 19
      have h20 : ¬ (GF 0) = 19 := fun z => h20 ((lg_cmp_eq (GF 0) 19).2 z)
      refine lv_bipush (v := 6) hx hb dn_d_Mod_judged_33 (by decide) ?_
      have hP9 := hP.sub (ws' := [(mo, .inr (9, [.ref mf, .ref m1, .ref m2, .int (dc_bI so), .long se, .long sm, .long sc, .int (dc_dn sv), .int (dc_bI ak), .long cw, .int dn, .int (nI an), .ref m3, .ref m4, .ref m5, .int (nI sk), .ref m6, .ref m7, .ref m8, .ref m9, .int (nI t), .ref ma, .ref mb, .ref mc, .long ee, .long em, .long ec, .ref mg, .ref mz, .int (dc_bI gn), .int c, .ref mr, .ref mi, .int th])), (m4, .inl (cA 0, 3, .inl fv)), (m5, .inl (cA 0, 3, .inl fd)), (m6, .inl (cA 1, 4, .inr (.inl fn))), (m7, .inl (cA 0, 4, .inl fo)), (m8, .inl (cA 0, 4, .inl fe)), (mg, .inl (cA 1, 80, .inr (.inl GF))), (mz, .inl (cA 0, 4, .inl gz)), (mr, .inl (cA 1, 24, .inr (.inl rw)))]) [0, 1, 2, 3, 4, 5, 6, 7, 8] rfl
      have hD9 := hD.sub (ws' := [(mo, .inr (9, [.ref mf, .ref m1, .ref m2, .int (dc_bI so), .long se, .long sm, .long sc, .int (dc_dn sv), .int (dc_bI ak), .long cw, .int dn, .int (nI an), .ref m3, .ref m4, .ref m5, .int (nI sk), .ref m6, .ref m7, .ref m8, .ref m9, .int (nI t), .ref ma, .ref mb, .ref mc, .long ee, .long em, .long ec, .ref mg, .ref mz, .int (dc_bI gn), .int c, .ref mr, .ref mi, .int th])), (m4, .inl (cA 0, 3, .inl fv)), (m5, .inl (cA 0, 3, .inl fd)), (m6, .inl (cA 1, 4, .inr (.inl fn))), (m7, .inl (cA 0, 4, .inl fo)), (m8, .inl (cA 0, 4, .inl fe)), (mg, .inl (cA 1, 80, .inr (.inl GF))), (mz, .inl (cA 0, 4, .inl gz)), (mr, .inl (cA 1, 24, .inr (.inl rw)))]) [0, 1, 2, 3, 4, 5, 6, 7, 8] (by decide) rfl
      exact W.iret (v := 6) hx hb hr (fun t ht hW => ⟨⟨_, rw, rfl, (by rw [dc_jdE hF]; unfold dc_jd; rw [if_neg (fun z9 => h20 z9.2.1)]), by rw [ht]; exact hP9, hD9⟩, hS.F ht⟩) hS.2.2 dn_d_Mod_judged_35
    · -- 20: (GF 0) = 19
      have h20 : (GF 0) = 19 := (lg_cmp_eq (GF 0) 19).1 h20
      refine lv_aload_n hx hb dn_d_Mod_judged_23 rfl (lv_at hl 0 rfl) ?_
      refine va_get (D := G) (ci := 9) (v := .ref mz) (C := dn_R_Mod) (T := dn_T_Mod) (N := 34) hx hb hts (dn_u_Mod) hown hK hP 0 rfl rfl 28 (by decide) (hts _ dn_w_886) (fun _ h9 => h9) rfl dn_d_Mod_judged_24 ?_
      refine lv_iconst (v := 3) hx hb dn_d_Mod_judged_27 (by decide) ?_
      refine dc_iald (k := 3) hx hb hK hP 7 rfl (by omega) (by omega) dn_d_Mod_judged_28 ?_
      rw [hz.2.2.2]
      refine lv_iconst (v := 4) hx hb dn_d_Mod_judged_29 (by decide) ?_
      refine lv_icmp_eq (tgt := 36) hx hb dn_d_Mod_judged_30 (by decide) (fun h30 => ?_) (fun h30 => ?_)
      · -- 30: y3 = 4
        have h30 : y3 = 4 := (nI_eq (a := y3) (b := 4) (by omega) (by omega)).1 h30
        refine lv_aload_n hx hb dn_d_Mod_judged_36 rfl (lv_at hl 0 rfl) ?_
        refine lv_iconst (v := 1) hx hb dn_d_Mod_judged_37 (by decide) ?_
        refine lv_aload_n hx hb dn_d_Mod_judged_38 rfl (lv_at hl 0 rfl) ?_
        refine va_get (D := G) (ci := 9) (v := .ref mz) (C := dn_R_Mod) (T := dn_T_Mod) (N := 34) hx hb hts (dn_u_Mod) hown hK hP 0 rfl rfl 28 (by decide) (hts _ dn_w_886) (fun _ h9 => h9) rfl dn_d_Mod_judged_39 ?_
        refine lv_iconst (v := 1) hx hb dn_d_Mod_judged_42 (by decide) ?_
        refine dc_iald (k := 1) hx hb hK hP 7 rfl (by omega) (by omega) dn_d_Mod_judged_43 ?_
        rw [hz.2.1]
        refine dc_wl (wr := [(m4, .inl (cA 0, 3, .inl fv)), (m5, .inl (cA 0, 3, .inl fd)), (m6, .inl (cA 1, 4, .inr (.inl fn))), (m7, .inl (cA 0, 4, .inl fo)), (m8, .inl (cA 0, 4, .inl fe)), (mz, .inl (cA 0, 4, .inl gz))]) (va_runV (b := mo) (As := [.int 1, .int (nI y1)]) (rest := []) ⟨hx, hb, hml, hown, hts⟩ (rr_digestGot l G cA mo mf m1 m2 so se sm sc sv ak cw dn an m3 m4 m5 sk m6 m7 m8 m9 t ma mb mc ee em ec mg mz gn c mr mi th rw GF 1 y1 (by decide) (by first | assumption | omega) s.heap.size) ⟨(callB_of 2 hts (dc_good dn_w_1144) rfl rfl rfl (hts _ dn_w_12) (hts _ dn_w_1141) (by decide +kernel) ⟨Nat.le_of_ble_eq_true rfl, Nat.le_of_ble_eq_true rfl⟩), (hts _ dn_w_1143), (hts _ dn_s_Mod_digestGot)⟩ (dc_preVW (hP.sub [0, 6, 8] rfl) hK0 (hD.sub [0, 6, 8] (by decide) rfl) (q0 := 0) rfl rfl) rfl rfl hl.1 rfl (lv_room (Nat.le_of_ble_eq_true rfl)) dn_d_Mod_judged_44 ⟨Nat.le_of_ble_eq_true rfl, Nat.le_of_ble_eq_true rfl⟩) hP hD hS hA [0, 6, 8] [1, 2, 3, 4, 5, 7] rfl rfl (by decide) (by decide) (fun r9 u9 H locs hr9 hP hD hS => ?_)
        subst hr9
        obtain ⟨q1, rfl⟩ : ∃ z, z = u9 := ⟨_, rfl⟩
        have hP : va_P G vwCl [(m4, .inl (cA 0, 3, .inl fv)), (m5, .inl (cA 0, 3, .inl fd)), (m6, .inl (cA 1, 4, .inr (.inl fn))), (m7, .inl (cA 0, 4, .inl fo)), (m8, .inl (cA 0, 4, .inl fe)), (mz, .inl (cA 0, 4, .inl gz)), (mo, .inr (9, [.ref mf, .ref m1, .ref m2, .int (dc_bI so), .long se, .long sm, .long sc, .int (dc_dn sv), .int (dc_bI ak), .long cw, .int dn, .int (nI an), .ref m3, .ref m4, .ref m5, .int (nI sk), .ref m6, .ref m7, .ref m8, .ref m9, .int (nI t), .ref ma, .ref mb, .ref mc, .long ee, .long em, .long ec, .ref mg, .ref mz, .int (dc_bI gn), .int c, .ref mr, .ref mi, .int th])), (mg, .inl (cA 1, 80, .inr (.inl GF))), (mr, .inl (cA 1, 24, .inr (.inl q1)))] H := hP
        have hD : va_D A [(m4, .inl (cA 0, 3, .inl fv)), (m5, .inl (cA 0, 3, .inl fd)), (m6, .inl (cA 1, 4, .inr (.inl fn))), (m7, .inl (cA 0, 4, .inl fo)), (m8, .inl (cA 0, 4, .inl fe)), (mz, .inl (cA 0, 4, .inl gz)), (mo, .inr (9, [.ref mf, .ref m1, .ref m2, .int (dc_bI so), .long se, .long sm, .long sc, .int (dc_dn sv), .int (dc_bI ak), .long cw, .int dn, .int (nI an), .ref m3, .ref m4, .ref m5, .int (nI sk), .ref m6, .ref m7, .ref m8, .ref m9, .int (nI t), .ref ma, .ref mb, .ref mc, .long ee, .long em, .long ec, .ref mg, .ref mz, .int (dc_bI gn), .int c, .ref mr, .ref mi, .int th])), (mg, .inl (cA 1, 80, .inr (.inl GF))), (mr, .inl (cA 1, 24, .inr (.inl q1)))] := hD
        refine lv_aload_n hx hb dn_d_Mod_judged_47 rfl (lv_at hl 0 rfl) ?_
        refine va_get (D := G) (ci := 9) (v := .ref mg) (C := dn_R_Mod) (T := dn_T_Mod) (N := 34) hx hb hts (dn_u_Mod) hown hK hP 6 rfl rfl 27 (by decide) (hts _ dn_w_885) (fun _ h9 => h9) rfl dn_d_Mod_judged_48 ?_
        refine lv_bipush (v := 60) hx hb dn_d_Mod_judged_51 (by decide) ?_
        refine dc_lald (k := 60) hx hb hK hP 7 rfl (by omega) (by omega) dn_d_Mod_judged_53 ?_
        refine W.lcmp hx hb dn_d_Mod_judged_54 ?_
        refine lv_if_ne (tgt := 80) hx hb dn_d_Mod_judged_55 (by decide) (fun h55 => ?_) (fun h55 => ?_)
        · -- 55: ¬ (dc_digN (fun p => GF (20 * 1 + p)) y1) = (GF 60)
          have h55 : ¬ (dc_digN (fun p => GF (20 * 1 + p)) y1) = (GF 60) := fun z => h55 ((lg_cmp_eq (dc_digN (fun p => GF (20 * 1 + p)) y1) (GF 60)).2 z)
          refine lv_bipush (v := 7) hx hb dn_d_Mod_judged_80 (by decide) ?_
          have hP9 := hP.sub (ws' := [(mo, .inr (9, [.ref mf, .ref m1, .ref m2, .int (dc_bI so), .long se, .long sm, .long sc, .int (dc_dn sv), .int (dc_bI ak), .long cw, .int dn, .int (nI an), .ref m3, .ref m4, .ref m5, .int (nI sk), .ref m6, .ref m7, .ref m8, .ref m9, .int (nI t), .ref ma, .ref mb, .ref mc, .long ee, .long em, .long ec, .ref mg, .ref mz, .int (dc_bI gn), .int c, .ref mr, .ref mi, .int th])), (m4, .inl (cA 0, 3, .inl fv)), (m5, .inl (cA 0, 3, .inl fd)), (m6, .inl (cA 1, 4, .inr (.inl fn))), (m7, .inl (cA 0, 4, .inl fo)), (m8, .inl (cA 0, 4, .inl fe)), (mg, .inl (cA 1, 80, .inr (.inl GF))), (mz, .inl (cA 0, 4, .inl gz)), (mr, .inl (cA 1, 24, .inr (.inl q1)))]) [6, 0, 1, 2, 3, 4, 7, 5, 8] rfl
          have hD9 := hD.sub (ws' := [(mo, .inr (9, [.ref mf, .ref m1, .ref m2, .int (dc_bI so), .long se, .long sm, .long sc, .int (dc_dn sv), .int (dc_bI ak), .long cw, .int dn, .int (nI an), .ref m3, .ref m4, .ref m5, .int (nI sk), .ref m6, .ref m7, .ref m8, .ref m9, .int (nI t), .ref ma, .ref mb, .ref mc, .long ee, .long em, .long ec, .ref mg, .ref mz, .int (dc_bI gn), .int c, .ref mr, .ref mi, .int th])), (m4, .inl (cA 0, 3, .inl fv)), (m5, .inl (cA 0, 3, .inl fd)), (m6, .inl (cA 1, 4, .inr (.inl fn))), (m7, .inl (cA 0, 4, .inl fo)), (m8, .inl (cA 0, 4, .inl fe)), (mg, .inl (cA 1, 80, .inr (.inl GF))), (mz, .inl (cA 0, 4, .inl gz)), (mr, .inl (cA 1, 24, .inr (.inl q1)))]) [6, 0, 1, 2, 3, 4, 7, 5, 8] (by decide) rfl
          exact W.iret (v := 7) hx hb hr (fun t ht hW => ⟨⟨_, q1, rfl, (by rw [dc_jdE hF]; unfold dc_jd; rw [if_pos ⟨h7, h20, h30⟩, if_neg (fun z9 => h55 z9.1)]), by rw [ht]; exact hP9, hD9⟩, hS.F ht⟩) hS.2.2 dn_d_Mod_judged_82
        · -- 55: (dc_digN (fun p => GF (20 * 1 + p)) y1) = (GF 60)
          have h55 : (dc_digN (fun p => GF (20 * 1 + p)) y1) = (GF 60) := (lg_cmp_eq (dc_digN (fun p => GF (20 * 1 + p)) y1) (GF 60)).1 h55
          refine lv_aload_n hx hb dn_d_Mod_judged_58 rfl (lv_at hl 0 rfl) ?_
          refine lv_iconst (v := 2) hx hb dn_d_Mod_judged_59 (by decide) ?_
          refine lv_aload_n hx hb dn_d_Mod_judged_60 rfl (lv_at hl 0 rfl) ?_
          refine va_get (D := G) (ci := 9) (v := .ref mz) (C := dn_R_Mod) (T := dn_T_Mod) (N := 34) hx hb hts (dn_u_Mod) hown hK hP 6 rfl rfl 28 (by decide) (hts _ dn_w_886) (fun _ h9 => h9) rfl dn_d_Mod_judged_61 ?_
          refine lv_iconst (v := 2) hx hb dn_d_Mod_judged_64 (by decide) ?_
          refine dc_iald (k := 2) hx hb hK hP 5 rfl (by omega) (by omega) dn_d_Mod_judged_65 ?_
          rw [hz.2.2.1]
          refine dc_wl (wr := [(m4, .inl (cA 0, 3, .inl fv)), (m5, .inl (cA 0, 3, .inl fd)), (m6, .inl (cA 1, 4, .inr (.inl fn))), (m7, .inl (cA 0, 4, .inl fo)), (m8, .inl (cA 0, 4, .inl fe)), (mz, .inl (cA 0, 4, .inl gz))]) (va_runV (b := mo) (As := [.int 2, .int (nI y2)]) (rest := []) ⟨hx, hb, hml, hown, hts⟩ (rr_digestGot l G cA mo mf m1 m2 so se sm sc sv ak cw dn an m3 m4 m5 sk m6 m7 m8 m9 t ma mb mc ee em ec mg mz gn c mr mi th q1 GF 2 y2 (by decide) (by first | assumption | omega) H.size) ⟨(callB_of 2 hts (dc_good dn_w_1144) rfl rfl rfl (hts _ dn_w_12) (hts _ dn_w_1141) (by decide +kernel) ⟨Nat.le_of_ble_eq_true rfl, Nat.le_of_ble_eq_true rfl⟩), (hts _ dn_w_1143), (hts _ dn_s_Mod_digestGot)⟩ (dc_preVW (hP.sub [6, 7, 8] rfl) hK0 (hD.sub [6, 7, 8] (by decide) rfl) (q0 := 0) rfl rfl) rfl rfl hl.1 rfl (lv_room (Nat.le_of_ble_eq_true rfl)) dn_d_Mod_judged_66 ⟨Nat.le_of_ble_eq_true rfl, Nat.le_of_ble_eq_true rfl⟩) hP hD hS hA [6, 7, 8] [0, 1, 2, 3, 4, 5] rfl rfl (by decide) (by decide) (fun r9 u9 H locs hr9 hP hD hS => ?_)
          subst hr9
          obtain ⟨q2, rfl⟩ : ∃ z, z = u9 := ⟨_, rfl⟩
          have hP : va_P G vwCl [(m4, .inl (cA 0, 3, .inl fv)), (m5, .inl (cA 0, 3, .inl fd)), (m6, .inl (cA 1, 4, .inr (.inl fn))), (m7, .inl (cA 0, 4, .inl fo)), (m8, .inl (cA 0, 4, .inl fe)), (mz, .inl (cA 0, 4, .inl gz)), (mo, .inr (9, [.ref mf, .ref m1, .ref m2, .int (dc_bI so), .long se, .long sm, .long sc, .int (dc_dn sv), .int (dc_bI ak), .long cw, .int dn, .int (nI an), .ref m3, .ref m4, .ref m5, .int (nI sk), .ref m6, .ref m7, .ref m8, .ref m9, .int (nI t), .ref ma, .ref mb, .ref mc, .long ee, .long em, .long ec, .ref mg, .ref mz, .int (dc_bI gn), .int c, .ref mr, .ref mi, .int th])), (mg, .inl (cA 1, 80, .inr (.inl GF))), (mr, .inl (cA 1, 24, .inr (.inl q2)))] H := hP
          have hD : va_D A [(m4, .inl (cA 0, 3, .inl fv)), (m5, .inl (cA 0, 3, .inl fd)), (m6, .inl (cA 1, 4, .inr (.inl fn))), (m7, .inl (cA 0, 4, .inl fo)), (m8, .inl (cA 0, 4, .inl fe)), (mz, .inl (cA 0, 4, .inl gz)), (mo, .inr (9, [.ref mf, .ref m1, .ref m2, .int (dc_bI so), .long se, .long sm, .long sc, .int (dc_dn sv), .int (dc_bI ak), .long cw, .int dn, .int (nI an), .ref m3, .ref m4, .ref m5, .int (nI sk), .ref m6, .ref m7, .ref m8, .ref m9, .int (nI t), .ref ma, .ref mb, .ref mc, .long ee, .long em, .long ec, .ref mg, .ref mz, .int (dc_bI gn), .int c, .ref mr, .ref mi, .int th])), (mg, .inl (cA 1, 80, .inr (.inl GF))), (mr, .inl (cA 1, 24, .inr (.inl q2)))] := hD
          refine lv_aload_n hx hb dn_d_Mod_judged_69 rfl (lv_at hl 0 rfl) ?_
          refine va_get (D := G) (ci := 9) (v := .ref mg) (C := dn_R_Mod) (T := dn_T_Mod) (N := 34) hx hb hts (dn_u_Mod) hown hK hP 6 rfl rfl 27 (by decide) (hts _ dn_w_885) (fun _ h9 => h9) rfl dn_d_Mod_judged_70 ?_
          refine lv_bipush (v := 61) hx hb dn_d_Mod_judged_73 (by decide) ?_
          refine dc_lald (k := 61) hx hb hK hP 7 rfl (by omega) (by omega) dn_d_Mod_judged_75 ?_
          refine W.lcmp hx hb dn_d_Mod_judged_76 ?_
          refine lv_if_eq (tgt := 83) hx hb dn_d_Mod_judged_77 (by decide) (fun h77 => ?_) (fun h77 => ?_)
          · -- 77: (dc_digN (fun p => GF (20 * 2 + p)) y2) = (GF 61)
            have h77 : (dc_digN (fun p => GF (20 * 2 + p)) y2) = (GF 61) := (lg_cmp_eq (dc_digN (fun p => GF (20 * 2 + p)) y2) (GF 61)).1 h77
            refine lv_aload_n hx hb dn_d_Mod_judged_83 rfl (lv_at hl 0 rfl) ?_
            refine dc_wi (wr := [(m4, .inl (cA 0, 3, .inl fv)), (m5, .inl (cA 0, 3, .inl fd)), (mz, .inl (cA 0, 4, .inl gz))]) (va_runV (b := mo) (As := []) (rest := []) ⟨hx, hb, hml, hown, hts⟩ (rr_signature l G cA mo mf m1 m2 so se sm sc sv ak cw dn an m3 m4 m5 sk m6 m7 m8 m9 t ma mb mc ee em ec mg mz gn c mr mi th fn fo fe q2 GF (by first | assumption | omega) (by first | assumption | omega) H.size) ⟨(callB_of 0 hts (dc_good dn_w_1148) rfl rfl rfl (hts _ dn_w_12) (hts _ dn_w_1145) (by decide +kernel) ⟨Nat.le_of_ble_eq_true rfl, Nat.le_of_ble_eq_true rfl⟩), (hts _ dn_w_1147), (hts _ dn_s_Mod_signature)⟩ (dc_preVW (hP.sub [6, 2, 3, 4, 7, 8] rfl) hK0 (hD.sub [6, 2, 3, 4, 7, 8] (by decide) rfl) (q0 := 0) rfl rfl) rfl rfl hl.1 rfl (lv_room (Nat.le_of_ble_eq_true rfl)) dn_d_Mod_judged_84 ⟨Nat.le_of_ble_eq_true rfl, Nat.le_of_ble_eq_true rfl⟩) hP hD hS hA [6, 2, 3, 4, 7, 8] [0, 1, 5] rfl rfl (by decide) (by decide) (fun r9 u9 H locs hr9 hP hD hS => ?_)
            subst hr9
            obtain ⟨q3, rfl⟩ : ∃ z, z = u9 := ⟨_, rfl⟩
            have hP : va_P G vwCl [(m4, .inl (cA 0, 3, .inl fv)), (m5, .inl (cA 0, 3, .inl fd)), (mz, .inl (cA 0, 4, .inl gz)), (mo, .inr (9, [.ref mf, .ref m1, .ref m2, .int (dc_bI so), .long se, .long sm, .long sc, .int (dc_dn sv), .int (dc_bI ak), .long cw, .int dn, .int (nI an), .ref m3, .ref m4, .ref m5, .int (nI sk), .ref m6, .ref m7, .ref m8, .ref m9, .int (nI t), .ref ma, .ref mb, .ref mc, .long ee, .long em, .long ec, .ref mg, .ref mz, .int (dc_bI gn), .int c, .ref mr, .ref mi, .int th])), (m6, .inl (cA 1, 4, .inr (.inl fn))), (m7, .inl (cA 0, 4, .inl fo)), (m8, .inl (cA 0, 4, .inl fe)), (mg, .inl (cA 1, 80, .inr (.inl GF))), (mr, .inl (cA 1, 24, .inr (.inl q3)))] H := hP
            have hD : va_D A [(m4, .inl (cA 0, 3, .inl fv)), (m5, .inl (cA 0, 3, .inl fd)), (mz, .inl (cA 0, 4, .inl gz)), (mo, .inr (9, [.ref mf, .ref m1, .ref m2, .int (dc_bI so), .long se, .long sm, .long sc, .int (dc_dn sv), .int (dc_bI ak), .long cw, .int dn, .int (nI an), .ref m3, .ref m4, .ref m5, .int (nI sk), .ref m6, .ref m7, .ref m8, .ref m9, .int (nI t), .ref ma, .ref mb, .ref mc, .long ee, .long em, .long ec, .ref mg, .ref mz, .int (dc_bI gn), .int c, .ref mr, .ref mi, .int th])), (m6, .inl (cA 1, 4, .inr (.inl fn))), (m7, .inl (cA 0, 4, .inl fo)), (m8, .inl (cA 0, 4, .inl fe)), (mg, .inl (cA 1, 80, .inr (.inl GF))), (mr, .inl (cA 1, 24, .inr (.inl q3)))] := hD
            refine lv_istore_n hx hb dn_d_Mod_judged_87 rfl hl (by decide) rfl (fun ls hl => ?_)
            have hl : lv_has ls 4 [(1, .int (dc_sgn GF fn fo fe sk)), (0, .ref mo)] := hl
            refine lv_iload_n hx hb dn_d_Mod_judged_88 rfl (lv_at hl 0 rfl) ?_
            refine lv_if_eq (tgt := 94) hx hb dn_d_Mod_judged_89 (by decide) (fun h89 => ?_) (fun h89 => ?_)
            · -- 89: (dc_sgn GF fn fo fe sk) = 0
              refine lv_aload_n hx hb dn_d_Mod_judged_94 rfl (lv_at hl 1 rfl) ?_
              refine va_get (D := G) (ci := 9) (v := .ref mz) (C := dn_R_Mod) (T := dn_T_Mod) (N := 34) hx hb hts (dn_u_Mod) hown hK hP 3 rfl rfl 28 (by decide) (hts _ dn_w_886) (fun _ h9 => h9) rfl dn_d_Mod_judged_95 ?_
              refine lv_iconst (v := 1) hx hb dn_d_Mod_judged_98 (by decide) ?_
              refine dc_iald (k := 1) hx hb hK hP 2 rfl (by omega) (by omega) dn_d_Mod_judged_99 ?_
              rw [hz.2.1]
              refine lv_iconst (v := 3) hx hb dn_d_Mod_judged_100 (by decide) ?_
              refine lv_icmp_ne (tgt := 108) hx hb dn_d_Mod_judged_101 (by decide) (fun h101 => ?_) (fun h101 => ?_)
              · -- 101: ¬ y1 = 3
                have h101 : ¬ y1 = 3 := fun z => h101 ((nI_eq (a := y1) (b := 3) (by omega) (by omega)).2 z)
                refine lv_iconst (v := 0) hx hb dn_d_Mod_judged_108 (by decide) ?_
                refine lv_istore_n hx hb dn_d_Mod_judged_109 rfl hl (by decide) rfl (fun ls hl => ?_)
                have hl : lv_has ls 4 [(2, .int 0), (1, .int (dc_sgn GF fn fo fe sk)), (0, .ref mo)] := hl
                refine lv_iconst (v := 0) hx hb dn_d_Mod_judged_110 (by decide) ?_
                refine lv_istore_n hx hb dn_d_Mod_judged_111 rfl hl (by decide) rfl (fun ls hl => ?_)
                have hl : lv_has ls 4 [(3, .int 0), (2, .int 0), (1, .int (dc_sgn GF fn fo fe sk)), (0, .ref mo)] := hl
                refine lv_iload_n hx hb dn_d_Mod_judged_112 rfl (lv_at hl 0 rfl) ?_
                refine lv_iconst (v := 3) hx hb dn_d_Mod_judged_113 (by decide) ?_
                refine lv_icmp_ge (tgt := 151) hx hb dn_d_Mod_judged_114 (by decide) (fun h114 => ?_) (fun h114 => ?_)
                · exact absurd h114 (by decide)
                · -- 114: ¬ 3 ≤ 0
                  refine lv_iload_n hx hb dn_d_Mod_judged_117 rfl (lv_at hl 1 rfl) ?_
                  refine lv_if_eq (tgt := 143) hx hb dn_d_Mod_judged_118 (by decide) (fun h118 => ?_) (fun h118 => ?_)
                  · -- 118: 0 = 0
                    refine lv_iconst (v := 0) hx hb dn_d_Mod_judged_143 (by decide) ?_
                    refine lv_istore_n hx hb dn_d_Mod_judged_144 rfl hl (by decide) rfl (fun ls hl => ?_)
                    have hl : lv_has ls 4 [(2, .int 0), (3, .int 0), (1, .int (dc_sgn GF fn fo fe sk)), (0, .ref mo)] := hl
                    refine lv_iinc (k := 1) (v := 1) hx hb dn_d_Mod_judged_145 hl rfl rfl (by decide) rfl (fun ls hl => ?_)
                    have hl : lv_has ls 4 [(3, .int 1), (2, .int 0), (1, .int (dc_sgn GF fn fo fe sk)), (0, .ref mo)] := hl
                    refine lv_goto (tgt := 112) hx hb dn_d_Mod_judged_148 (by decide) ?_
                    refine lv_iload_n hx hb dn_d_Mod_judged_112 rfl (lv_at hl 0 rfl) ?_
                    refine lv_iconst (v := 3) hx hb dn_d_Mod_judged_113 (by decide) ?_
                    refine lv_icmp_ge (tgt := 151) hx hb dn_d_Mod_judged_114 (by decide) (fun h114_2 => ?_) (fun h114_2 => ?_)
                    · exact absurd h114_2 (by decide)
                    · -- 114: ¬ 3 ≤ 1
                      refine lv_iload_n hx hb dn_d_Mod_judged_117 rfl (lv_at hl 1 rfl) ?_
                      refine lv_if_eq (tgt := 143) hx hb dn_d_Mod_judged_118 (by decide) (fun h118_2 => ?_) (fun h118_2 => ?_)
                      · -- 118: 0 = 0
                        refine lv_iconst (v := 0) hx hb dn_d_Mod_judged_143 (by decide) ?_
                        refine lv_istore_n hx hb dn_d_Mod_judged_144 rfl hl (by decide) rfl (fun ls hl => ?_)
                        have hl : lv_has ls 4 [(2, .int 0), (3, .int 1), (1, .int (dc_sgn GF fn fo fe sk)), (0, .ref mo)] := hl
                        refine lv_iinc (k := 1) (v := 2) hx hb dn_d_Mod_judged_145 hl rfl rfl (by decide) rfl (fun ls hl => ?_)
                        have hl : lv_has ls 4 [(3, .int 2), (2, .int 0), (1, .int (dc_sgn GF fn fo fe sk)), (0, .ref mo)] := hl
                        refine lv_goto (tgt := 112) hx hb dn_d_Mod_judged_148 (by decide) ?_
                        refine lv_iload_n hx hb dn_d_Mod_judged_112 rfl (lv_at hl 0 rfl) ?_
                        refine lv_iconst (v := 3) hx hb dn_d_Mod_judged_113 (by decide) ?_
                        refine lv_icmp_ge (tgt := 151) hx hb dn_d_Mod_judged_114 (by decide) (fun h114_3 => ?_) (fun h114_3 => ?_)
                        · exact absurd h114_3 (by decide)
                        · -- 114: ¬ 3 ≤ 2
                          refine lv_iload_n hx hb dn_d_Mod_judged_117 rfl (lv_at hl 1 rfl) ?_
                          refine lv_if_eq (tgt := 143) hx hb dn_d_Mod_judged_118 (by decide) (fun h118_3 => ?_) (fun h118_3 => ?_)
                          · -- 118: 0 = 0
                            refine lv_iconst (v := 0) hx hb dn_d_Mod_judged_143 (by decide) ?_
                            refine lv_istore_n hx hb dn_d_Mod_judged_144 rfl hl (by decide) rfl (fun ls hl => ?_)
                            have hl : lv_has ls 4 [(2, .int 0), (3, .int 2), (1, .int (dc_sgn GF fn fo fe sk)), (0, .ref mo)] := hl
                            refine lv_iinc (k := 1) (v := 3) hx hb dn_d_Mod_judged_145 hl rfl rfl (by decide) rfl (fun ls hl => ?_)
                            have hl : lv_has ls 4 [(3, .int 3), (2, .int 0), (1, .int (dc_sgn GF fn fo fe sk)), (0, .ref mo)] := hl
                            refine lv_goto (tgt := 112) hx hb dn_d_Mod_judged_148 (by decide) ?_
                            refine lv_iload_n hx hb dn_d_Mod_judged_112 rfl (lv_at hl 0 rfl) ?_
                            refine lv_iconst (v := 3) hx hb dn_d_Mod_judged_113 (by decide) ?_
                            refine lv_icmp_ge (tgt := 151) hx hb dn_d_Mod_judged_114 (by decide) (fun h114_4 => ?_) (fun h114_4 => ?_)
                            · -- 114: 3 ≤ 3
                              refine lv_iload_n hx hb dn_d_Mod_judged_151 rfl (lv_at hl 1 rfl) ?_
                              refine lv_if_eq (tgt := 159) hx hb dn_d_Mod_judged_152 (by decide) (fun h152 => ?_) (fun h152 => ?_)
                              · -- 152: 0 = 0
                                refine lv_bipush (v := 10) hx hb dn_d_Mod_judged_159 (by decide) ?_
                                have hP9 := hP.sub (ws' := [(mo, .inr (9, [.ref mf, .ref m1, .ref m2, .int (dc_bI so), .long se, .long sm, .long sc, .int (dc_dn sv), .int (dc_bI ak), .long cw, .int dn, .int (nI an), .ref m3, .ref m4, .ref m5, .int (nI sk), .ref m6, .ref m7, .ref m8, .ref m9, .int (nI t), .ref ma, .ref mb, .ref mc, .long ee, .long em, .long ec, .ref mg, .ref mz, .int (dc_bI gn), .int c, .ref mr, .ref mi, .int th])), (m4, .inl (cA 0, 3, .inl fv)), (m5, .inl (cA 0, 3, .inl fd)), (m6, .inl (cA 1, 4, .inr (.inl fn))), (m7, .inl (cA 0, 4, .inl fo)), (m8, .inl (cA 0, 4, .inl fe)), (mg, .inl (cA 1, 80, .inr (.inl GF))), (mz, .inl (cA 0, 4, .inl gz)), (mr, .inl (cA 1, 24, .inr (.inl q3)))]) [3, 0, 1, 4, 5, 6, 7, 2, 8] rfl
                                have hD9 := hD.sub (ws' := [(mo, .inr (9, [.ref mf, .ref m1, .ref m2, .int (dc_bI so), .long se, .long sm, .long sc, .int (dc_dn sv), .int (dc_bI ak), .long cw, .int dn, .int (nI an), .ref m3, .ref m4, .ref m5, .int (nI sk), .ref m6, .ref m7, .ref m8, .ref m9, .int (nI t), .ref ma, .ref mb, .ref mc, .long ee, .long em, .long ec, .ref mg, .ref mz, .int (dc_bI gn), .int c, .ref mr, .ref mi, .int th])), (m4, .inl (cA 0, 3, .inl fv)), (m5, .inl (cA 0, 3, .inl fd)), (m6, .inl (cA 1, 4, .inr (.inl fn))), (m7, .inl (cA 0, 4, .inl fo)), (m8, .inl (cA 0, 4, .inl fe)), (mg, .inl (cA 1, 80, .inr (.inl GF))), (mz, .inl (cA 0, 4, .inl gz)), (mr, .inl (cA 1, 24, .inr (.inl q3)))]) [3, 0, 1, 4, 5, 6, 7, 2, 8] (by decide) rfl
                                exact W.iret (v := 10) hx hb hr (fun t ht hW => ⟨⟨_, q3, rfl, (by rw [dc_jdE hF]; unfold dc_jd; rw [if_pos ⟨h7, h20, h30⟩, if_pos ⟨h55, h77⟩, if_pos h89, if_neg (fun z9 => h101 z9.1)]), by rw [ht]; exact hP9, hD9⟩, hS.F ht⟩) hS.2.2 dn_d_Mod_judged_161
                              · exact absurd h152 (by decide)
                            · exact absurd h114_4 (by decide)
                          · exact absurd h118_3 (by decide)
                      · exact absurd h118_2 (by decide)
                  · exact absurd h118 (by decide)
              · -- 101: y1 = 3
                have h101 : y1 = 3 := (nI_eq (a := y1) (b := 3) (by omega) (by omega)).1 h101
                refine lv_iconst (v := 1) hx hb dn_d_Mod_judged_104 (by decide) ?_
                refine lv_goto (tgt := 109) hx hb dn_d_Mod_judged_105 (by decide) ?_
                refine lv_istore_n hx hb dn_d_Mod_judged_109 rfl hl (by decide) rfl (fun ls hl => ?_)
                have hl : lv_has ls 4 [(2, .int 1), (1, .int (dc_sgn GF fn fo fe sk)), (0, .ref mo)] := hl
                refine lv_iconst (v := 0) hx hb dn_d_Mod_judged_110 (by decide) ?_
                refine lv_istore_n hx hb dn_d_Mod_judged_111 rfl hl (by decide) rfl (fun ls hl => ?_)
                have hl : lv_has ls 4 [(3, .int 0), (2, .int 1), (1, .int (dc_sgn GF fn fo fe sk)), (0, .ref mo)] := hl
                refine lv_iload_n hx hb dn_d_Mod_judged_112 rfl (lv_at hl 0 rfl) ?_
                refine lv_iconst (v := 3) hx hb dn_d_Mod_judged_113 (by decide) ?_
                refine lv_icmp_ge (tgt := 151) hx hb dn_d_Mod_judged_114 (by decide) (fun h114 => ?_) (fun h114 => ?_)
                · exact absurd h114 (by decide)
                · -- 114: ¬ 3 ≤ 0
                  refine lv_iload_n hx hb dn_d_Mod_judged_117 rfl (lv_at hl 1 rfl) ?_
                  refine lv_if_eq (tgt := 143) hx hb dn_d_Mod_judged_118 (by decide) (fun h118 => ?_) (fun h118 => ?_)
                  · exact absurd h118 (by decide)
                  · -- 118: ¬ 1 = 0
                    refine lv_aload_n hx hb dn_d_Mod_judged_121 rfl (lv_at hl 3 rfl) ?_
                    refine va_get (D := G) (ci := 9) (v := .ref mg) (C := dn_R_Mod) (T := dn_T_Mod) (N := 34) hx hb hts (dn_u_Mod) hown hK hP 3 rfl rfl 27 (by decide) (hts _ dn_w_885) (fun _ h9 => h9) rfl dn_d_Mod_judged_122 ?_
                    refine lv_bipush (v := 20) hx hb dn_d_Mod_judged_125 (by decide) ?_
                    refine lv_iload_n hx hb dn_d_Mod_judged_127 rfl (lv_at hl 0 rfl) ?_
                    refine lv_iadd hx hb dn_d_Mod_judged_128 ?_
                    rw [show (20 : Int32) + (0 : Int32) = (20 : Int32) from rfl]
                    refine dc_lald (k := 20) hx hb hK hP 7 rfl (by omega) (by omega) dn_d_Mod_judged_129 ?_
                    refine lv_aload_n hx hb dn_d_Mod_judged_130 rfl (lv_at hl 3 rfl) ?_
                    refine lv_iload_n hx hb dn_d_Mod_judged_131 rfl (lv_at hl 0 rfl) ?_
                    refine vp_callSl (va_Run.run (va_runV (b := mo) (As := [.int 0]) (rest := [.long (GF 20)]) ⟨hx, hb, hml, hown, hts⟩ (rr_printed l G cA mo mf m1 m2 so se sm sc sv ak cw dn an m3 m4 m5 sk m6 m7 m8 m9 t ma mb mc ee em ec mg mz gn c mr mi th fv fd 0 (by first | assumption | omega)) ⟨(callB_of 1 hts (dc_good dn_w_1123) rfl rfl rfl (hts _ dn_w_12) (hts _ dn_w_1120) (by decide +kernel) ⟨Nat.le_of_ble_eq_true rfl, Nat.le_of_ble_eq_true rfl⟩), (hts _ dn_w_1122), (hts _ dn_s_Mod_printed)⟩ (dc_preVR (hP.sub [3, 0, 1] rfl) hK0 (q0 := 0) rfl rfl) rfl rfl hl.1 rfl (lv_room (Nat.le_of_ble_eq_true rfl)) dn_d_Mod_judged_132 ⟨Nat.le_of_ble_eq_true rfl, Nat.le_of_ble_eq_true rfl⟩)) (fun r9 hr9 => ?_)
                    subst hr9
                    refine W.lcmp hx hb dn_d_Mod_judged_135 ?_
                    refine lv_if_ne (tgt := 143) hx hb dn_d_Mod_judged_136 (by decide) (fun h136 => ?_) (fun h136 => ?_)
                    · -- 136: ¬ (GF 20) = (dc_word fv fd 0)
                      have h136 : ¬ (GF 20) = (dc_word fv fd 0) := fun z => h136 ((lg_cmp_eq (GF 20) (dc_word fv fd 0)).2 z)
                      refine lv_iconst (v := 0) hx hb dn_d_Mod_judged_143 (by decide) ?_
                      refine lv_istore_n hx hb dn_d_Mod_judged_144 rfl hl (by decide) rfl (fun ls hl => ?_)
                      have hl : lv_has ls 4 [(2, .int 0), (3, .int 0), (1, .int (dc_sgn GF fn fo fe sk)), (0, .ref mo)] := hl
                      refine lv_iinc (k := 1) (v := 1) hx hb dn_d_Mod_judged_145 hl rfl rfl (by decide) rfl (fun ls hl => ?_)
                      have hl : lv_has ls 4 [(3, .int 1), (2, .int 0), (1, .int (dc_sgn GF fn fo fe sk)), (0, .ref mo)] := hl
                      refine lv_goto (tgt := 112) hx hb dn_d_Mod_judged_148 (by decide) ?_
                      refine lv_iload_n hx hb dn_d_Mod_judged_112 rfl (lv_at hl 0 rfl) ?_
                      refine lv_iconst (v := 3) hx hb dn_d_Mod_judged_113 (by decide) ?_
                      refine lv_icmp_ge (tgt := 151) hx hb dn_d_Mod_judged_114 (by decide) (fun h114_2 => ?_) (fun h114_2 => ?_)
                      · exact absurd h114_2 (by decide)
                      · -- 114: ¬ 3 ≤ 1
                        refine lv_iload_n hx hb dn_d_Mod_judged_117 rfl (lv_at hl 1 rfl) ?_
                        refine lv_if_eq (tgt := 143) hx hb dn_d_Mod_judged_118 (by decide) (fun h118_2 => ?_) (fun h118_2 => ?_)
                        · -- 118: 0 = 0
                          refine lv_iconst (v := 0) hx hb dn_d_Mod_judged_143 (by decide) ?_
                          refine lv_istore_n hx hb dn_d_Mod_judged_144 rfl hl (by decide) rfl (fun ls hl => ?_)
                          have hl : lv_has ls 4 [(2, .int 0), (3, .int 1), (1, .int (dc_sgn GF fn fo fe sk)), (0, .ref mo)] := hl
                          refine lv_iinc (k := 1) (v := 2) hx hb dn_d_Mod_judged_145 hl rfl rfl (by decide) rfl (fun ls hl => ?_)
                          have hl : lv_has ls 4 [(3, .int 2), (2, .int 0), (1, .int (dc_sgn GF fn fo fe sk)), (0, .ref mo)] := hl
                          refine lv_goto (tgt := 112) hx hb dn_d_Mod_judged_148 (by decide) ?_
                          refine lv_iload_n hx hb dn_d_Mod_judged_112 rfl (lv_at hl 0 rfl) ?_
                          refine lv_iconst (v := 3) hx hb dn_d_Mod_judged_113 (by decide) ?_
                          refine lv_icmp_ge (tgt := 151) hx hb dn_d_Mod_judged_114 (by decide) (fun h114_3 => ?_) (fun h114_3 => ?_)
                          · exact absurd h114_3 (by decide)
                          · -- 114: ¬ 3 ≤ 2
                            refine lv_iload_n hx hb dn_d_Mod_judged_117 rfl (lv_at hl 1 rfl) ?_
                            refine lv_if_eq (tgt := 143) hx hb dn_d_Mod_judged_118 (by decide) (fun h118_3 => ?_) (fun h118_3 => ?_)
                            · -- 118: 0 = 0
                              refine lv_iconst (v := 0) hx hb dn_d_Mod_judged_143 (by decide) ?_
                              refine lv_istore_n hx hb dn_d_Mod_judged_144 rfl hl (by decide) rfl (fun ls hl => ?_)
                              have hl : lv_has ls 4 [(2, .int 0), (3, .int 2), (1, .int (dc_sgn GF fn fo fe sk)), (0, .ref mo)] := hl
                              refine lv_iinc (k := 1) (v := 3) hx hb dn_d_Mod_judged_145 hl rfl rfl (by decide) rfl (fun ls hl => ?_)
                              have hl : lv_has ls 4 [(3, .int 3), (2, .int 0), (1, .int (dc_sgn GF fn fo fe sk)), (0, .ref mo)] := hl
                              refine lv_goto (tgt := 112) hx hb dn_d_Mod_judged_148 (by decide) ?_
                              refine lv_iload_n hx hb dn_d_Mod_judged_112 rfl (lv_at hl 0 rfl) ?_
                              refine lv_iconst (v := 3) hx hb dn_d_Mod_judged_113 (by decide) ?_
                              refine lv_icmp_ge (tgt := 151) hx hb dn_d_Mod_judged_114 (by decide) (fun h114_4 => ?_) (fun h114_4 => ?_)
                              · -- 114: 3 ≤ 3
                                refine lv_iload_n hx hb dn_d_Mod_judged_151 rfl (lv_at hl 1 rfl) ?_
                                refine lv_if_eq (tgt := 159) hx hb dn_d_Mod_judged_152 (by decide) (fun h152 => ?_) (fun h152 => ?_)
                                · -- 152: 0 = 0
                                  refine lv_bipush (v := 10) hx hb dn_d_Mod_judged_159 (by decide) ?_
                                  have hP9 := hP.sub (ws' := [(mo, .inr (9, [.ref mf, .ref m1, .ref m2, .int (dc_bI so), .long se, .long sm, .long sc, .int (dc_dn sv), .int (dc_bI ak), .long cw, .int dn, .int (nI an), .ref m3, .ref m4, .ref m5, .int (nI sk), .ref m6, .ref m7, .ref m8, .ref m9, .int (nI t), .ref ma, .ref mb, .ref mc, .long ee, .long em, .long ec, .ref mg, .ref mz, .int (dc_bI gn), .int c, .ref mr, .ref mi, .int th])), (m4, .inl (cA 0, 3, .inl fv)), (m5, .inl (cA 0, 3, .inl fd)), (m6, .inl (cA 1, 4, .inr (.inl fn))), (m7, .inl (cA 0, 4, .inl fo)), (m8, .inl (cA 0, 4, .inl fe)), (mg, .inl (cA 1, 80, .inr (.inl GF))), (mz, .inl (cA 0, 4, .inl gz)), (mr, .inl (cA 1, 24, .inr (.inl q3)))]) [3, 0, 1, 4, 5, 6, 7, 2, 8] rfl
                                  have hD9 := hD.sub (ws' := [(mo, .inr (9, [.ref mf, .ref m1, .ref m2, .int (dc_bI so), .long se, .long sm, .long sc, .int (dc_dn sv), .int (dc_bI ak), .long cw, .int dn, .int (nI an), .ref m3, .ref m4, .ref m5, .int (nI sk), .ref m6, .ref m7, .ref m8, .ref m9, .int (nI t), .ref ma, .ref mb, .ref mc, .long ee, .long em, .long ec, .ref mg, .ref mz, .int (dc_bI gn), .int c, .ref mr, .ref mi, .int th])), (m4, .inl (cA 0, 3, .inl fv)), (m5, .inl (cA 0, 3, .inl fd)), (m6, .inl (cA 1, 4, .inr (.inl fn))), (m7, .inl (cA 0, 4, .inl fo)), (m8, .inl (cA 0, 4, .inl fe)), (mg, .inl (cA 1, 80, .inr (.inl GF))), (mz, .inl (cA 0, 4, .inl gz)), (mr, .inl (cA 1, 24, .inr (.inl q3)))]) [3, 0, 1, 4, 5, 6, 7, 2, 8] (by decide) rfl
                                  exact W.iret (v := 10) hx hb hr (fun t ht hW => ⟨⟨_, q3, rfl, (by rw [dc_jdE hF]; unfold dc_jd; rw [if_pos ⟨h7, h20, h30⟩, if_pos ⟨h55, h77⟩, if_pos h89, if_neg (fun z9 => h136 z9.2.1)]), by rw [ht]; exact hP9, hD9⟩, hS.F ht⟩) hS.2.2 dn_d_Mod_judged_161
                                · exact absurd h152 (by decide)
                              · exact absurd h114_4 (by decide)
                            · exact absurd h118_3 (by decide)
                        · exact absurd h118_2 (by decide)
                    · -- 136: (GF 20) = (dc_word fv fd 0)
                      have h136 : (GF 20) = (dc_word fv fd 0) := (lg_cmp_eq (GF 20) (dc_word fv fd 0)).1 h136
                      refine lv_iconst (v := 1) hx hb dn_d_Mod_judged_139 (by decide) ?_
                      refine lv_goto (tgt := 144) hx hb dn_d_Mod_judged_140 (by decide) ?_
                      refine lv_istore_n hx hb dn_d_Mod_judged_144 rfl hl (by decide) rfl (fun ls hl => ?_)
                      have hl : lv_has ls 4 [(2, .int 1), (3, .int 0), (1, .int (dc_sgn GF fn fo fe sk)), (0, .ref mo)] := hl
                      refine lv_iinc (k := 1) (v := 1) hx hb dn_d_Mod_judged_145 hl rfl rfl (by decide) rfl (fun ls hl => ?_)
                      have hl : lv_has ls 4 [(3, .int 1), (2, .int 1), (1, .int (dc_sgn GF fn fo fe sk)), (0, .ref mo)] := hl
                      refine lv_goto (tgt := 112) hx hb dn_d_Mod_judged_148 (by decide) ?_
                      refine lv_iload_n hx hb dn_d_Mod_judged_112 rfl (lv_at hl 0 rfl) ?_
                      refine lv_iconst (v := 3) hx hb dn_d_Mod_judged_113 (by decide) ?_
                      refine lv_icmp_ge (tgt := 151) hx hb dn_d_Mod_judged_114 (by decide) (fun h114_2 => ?_) (fun h114_2 => ?_)
                      · exact absurd h114_2 (by decide)
                      · -- 114: ¬ 3 ≤ 1
                        refine lv_iload_n hx hb dn_d_Mod_judged_117 rfl (lv_at hl 1 rfl) ?_
                        refine lv_if_eq (tgt := 143) hx hb dn_d_Mod_judged_118 (by decide) (fun h118_2 => ?_) (fun h118_2 => ?_)
                        · exact absurd h118_2 (by decide)
                        · -- 118: ¬ 1 = 0
                          refine lv_aload_n hx hb dn_d_Mod_judged_121 rfl (lv_at hl 3 rfl) ?_
                          refine va_get (D := G) (ci := 9) (v := .ref mg) (C := dn_R_Mod) (T := dn_T_Mod) (N := 34) hx hb hts (dn_u_Mod) hown hK hP 3 rfl rfl 27 (by decide) (hts _ dn_w_885) (fun _ h9 => h9) rfl dn_d_Mod_judged_122 ?_
                          refine lv_bipush (v := 20) hx hb dn_d_Mod_judged_125 (by decide) ?_
                          refine lv_iload_n hx hb dn_d_Mod_judged_127 rfl (lv_at hl 0 rfl) ?_
                          refine lv_iadd hx hb dn_d_Mod_judged_128 ?_
                          rw [show (20 : Int32) + (1 : Int32) = (21 : Int32) from rfl]
                          refine dc_lald (k := 21) hx hb hK hP 7 rfl (by omega) (by omega) dn_d_Mod_judged_129 ?_
                          refine lv_aload_n hx hb dn_d_Mod_judged_130 rfl (lv_at hl 3 rfl) ?_
                          refine lv_iload_n hx hb dn_d_Mod_judged_131 rfl (lv_at hl 0 rfl) ?_
                          refine vp_callSl (va_Run.run (va_runV (b := mo) (As := [.int 1]) (rest := [.long (GF 21)]) ⟨hx, hb, hml, hown, hts⟩ (rr_printed l G cA mo mf m1 m2 so se sm sc sv ak cw dn an m3 m4 m5 sk m6 m7 m8 m9 t ma mb mc ee em ec mg mz gn c mr mi th fv fd 1 (by first | assumption | omega)) ⟨(callB_of 1 hts (dc_good dn_w_1123) rfl rfl rfl (hts _ dn_w_12) (hts _ dn_w_1120) (by decide +kernel) ⟨Nat.le_of_ble_eq_true rfl, Nat.le_of_ble_eq_true rfl⟩), (hts _ dn_w_1122), (hts _ dn_s_Mod_printed)⟩ (dc_preVR (hP.sub [3, 0, 1] rfl) hK0 (q0 := 0) rfl rfl) rfl rfl hl.1 rfl (lv_room (Nat.le_of_ble_eq_true rfl)) dn_d_Mod_judged_132 ⟨Nat.le_of_ble_eq_true rfl, Nat.le_of_ble_eq_true rfl⟩)) (fun r9 hr9 => ?_)
                          subst hr9
                          refine W.lcmp hx hb dn_d_Mod_judged_135 ?_
                          refine lv_if_ne (tgt := 143) hx hb dn_d_Mod_judged_136 (by decide) (fun h136_2 => ?_) (fun h136_2 => ?_)
                          · -- 136: ¬ (GF 21) = (dc_word fv fd 1)
                            have h136_2 : ¬ (GF 21) = (dc_word fv fd 1) := fun z => h136_2 ((lg_cmp_eq (GF 21) (dc_word fv fd 1)).2 z)
                            refine lv_iconst (v := 0) hx hb dn_d_Mod_judged_143 (by decide) ?_
                            refine lv_istore_n hx hb dn_d_Mod_judged_144 rfl hl (by decide) rfl (fun ls hl => ?_)
                            have hl : lv_has ls 4 [(2, .int 0), (3, .int 1), (1, .int (dc_sgn GF fn fo fe sk)), (0, .ref mo)] := hl
                            refine lv_iinc (k := 1) (v := 2) hx hb dn_d_Mod_judged_145 hl rfl rfl (by decide) rfl (fun ls hl => ?_)
                            have hl : lv_has ls 4 [(3, .int 2), (2, .int 0), (1, .int (dc_sgn GF fn fo fe sk)), (0, .ref mo)] := hl
                            refine lv_goto (tgt := 112) hx hb dn_d_Mod_judged_148 (by decide) ?_
                            refine lv_iload_n hx hb dn_d_Mod_judged_112 rfl (lv_at hl 0 rfl) ?_
                            refine lv_iconst (v := 3) hx hb dn_d_Mod_judged_113 (by decide) ?_
                            refine lv_icmp_ge (tgt := 151) hx hb dn_d_Mod_judged_114 (by decide) (fun h114_3 => ?_) (fun h114_3 => ?_)
                            · exact absurd h114_3 (by decide)
                            · -- 114: ¬ 3 ≤ 2
                              refine lv_iload_n hx hb dn_d_Mod_judged_117 rfl (lv_at hl 1 rfl) ?_
                              refine lv_if_eq (tgt := 143) hx hb dn_d_Mod_judged_118 (by decide) (fun h118_3 => ?_) (fun h118_3 => ?_)
                              · -- 118: 0 = 0
                                refine lv_iconst (v := 0) hx hb dn_d_Mod_judged_143 (by decide) ?_
                                refine lv_istore_n hx hb dn_d_Mod_judged_144 rfl hl (by decide) rfl (fun ls hl => ?_)
                                have hl : lv_has ls 4 [(2, .int 0), (3, .int 2), (1, .int (dc_sgn GF fn fo fe sk)), (0, .ref mo)] := hl
                                refine lv_iinc (k := 1) (v := 3) hx hb dn_d_Mod_judged_145 hl rfl rfl (by decide) rfl (fun ls hl => ?_)
                                have hl : lv_has ls 4 [(3, .int 3), (2, .int 0), (1, .int (dc_sgn GF fn fo fe sk)), (0, .ref mo)] := hl
                                refine lv_goto (tgt := 112) hx hb dn_d_Mod_judged_148 (by decide) ?_
                                refine lv_iload_n hx hb dn_d_Mod_judged_112 rfl (lv_at hl 0 rfl) ?_
                                refine lv_iconst (v := 3) hx hb dn_d_Mod_judged_113 (by decide) ?_
                                refine lv_icmp_ge (tgt := 151) hx hb dn_d_Mod_judged_114 (by decide) (fun h114_4 => ?_) (fun h114_4 => ?_)
                                · -- 114: 3 ≤ 3
                                  refine lv_iload_n hx hb dn_d_Mod_judged_151 rfl (lv_at hl 1 rfl) ?_
                                  refine lv_if_eq (tgt := 159) hx hb dn_d_Mod_judged_152 (by decide) (fun h152 => ?_) (fun h152 => ?_)
                                  · -- 152: 0 = 0
                                    refine lv_bipush (v := 10) hx hb dn_d_Mod_judged_159 (by decide) ?_
                                    have hP9 := hP.sub (ws' := [(mo, .inr (9, [.ref mf, .ref m1, .ref m2, .int (dc_bI so), .long se, .long sm, .long sc, .int (dc_dn sv), .int (dc_bI ak), .long cw, .int dn, .int (nI an), .ref m3, .ref m4, .ref m5, .int (nI sk), .ref m6, .ref m7, .ref m8, .ref m9, .int (nI t), .ref ma, .ref mb, .ref mc, .long ee, .long em, .long ec, .ref mg, .ref mz, .int (dc_bI gn), .int c, .ref mr, .ref mi, .int th])), (m4, .inl (cA 0, 3, .inl fv)), (m5, .inl (cA 0, 3, .inl fd)), (m6, .inl (cA 1, 4, .inr (.inl fn))), (m7, .inl (cA 0, 4, .inl fo)), (m8, .inl (cA 0, 4, .inl fe)), (mg, .inl (cA 1, 80, .inr (.inl GF))), (mz, .inl (cA 0, 4, .inl gz)), (mr, .inl (cA 1, 24, .inr (.inl q3)))]) [3, 0, 1, 4, 5, 6, 7, 2, 8] rfl
                                    have hD9 := hD.sub (ws' := [(mo, .inr (9, [.ref mf, .ref m1, .ref m2, .int (dc_bI so), .long se, .long sm, .long sc, .int (dc_dn sv), .int (dc_bI ak), .long cw, .int dn, .int (nI an), .ref m3, .ref m4, .ref m5, .int (nI sk), .ref m6, .ref m7, .ref m8, .ref m9, .int (nI t), .ref ma, .ref mb, .ref mc, .long ee, .long em, .long ec, .ref mg, .ref mz, .int (dc_bI gn), .int c, .ref mr, .ref mi, .int th])), (m4, .inl (cA 0, 3, .inl fv)), (m5, .inl (cA 0, 3, .inl fd)), (m6, .inl (cA 1, 4, .inr (.inl fn))), (m7, .inl (cA 0, 4, .inl fo)), (m8, .inl (cA 0, 4, .inl fe)), (mg, .inl (cA 1, 80, .inr (.inl GF))), (mz, .inl (cA 0, 4, .inl gz)), (mr, .inl (cA 1, 24, .inr (.inl q3)))]) [3, 0, 1, 4, 5, 6, 7, 2, 8] (by decide) rfl
                                    exact W.iret (v := 10) hx hb hr (fun t ht hW => ⟨⟨_, q3, rfl, (by rw [dc_jdE hF]; unfold dc_jd; rw [if_pos ⟨h7, h20, h30⟩, if_pos ⟨h55, h77⟩, if_pos h89, if_neg (fun z9 => h136_2 z9.2.2.1)]), by rw [ht]; exact hP9, hD9⟩, hS.F ht⟩) hS.2.2 dn_d_Mod_judged_161
                                  · exact absurd h152 (by decide)
                                · exact absurd h114_4 (by decide)
                              · exact absurd h118_3 (by decide)
                          · -- 136: (GF 21) = (dc_word fv fd 1)
                            have h136_2 : (GF 21) = (dc_word fv fd 1) := (lg_cmp_eq (GF 21) (dc_word fv fd 1)).1 h136_2
                            refine lv_iconst (v := 1) hx hb dn_d_Mod_judged_139 (by decide) ?_
                            refine lv_goto (tgt := 144) hx hb dn_d_Mod_judged_140 (by decide) ?_
                            refine lv_istore_n hx hb dn_d_Mod_judged_144 rfl hl (by decide) rfl (fun ls hl => ?_)
                            have hl : lv_has ls 4 [(2, .int 1), (3, .int 1), (1, .int (dc_sgn GF fn fo fe sk)), (0, .ref mo)] := hl
                            refine lv_iinc (k := 1) (v := 2) hx hb dn_d_Mod_judged_145 hl rfl rfl (by decide) rfl (fun ls hl => ?_)
                            have hl : lv_has ls 4 [(3, .int 2), (2, .int 1), (1, .int (dc_sgn GF fn fo fe sk)), (0, .ref mo)] := hl
                            refine lv_goto (tgt := 112) hx hb dn_d_Mod_judged_148 (by decide) ?_
                            refine lv_iload_n hx hb dn_d_Mod_judged_112 rfl (lv_at hl 0 rfl) ?_
                            refine lv_iconst (v := 3) hx hb dn_d_Mod_judged_113 (by decide) ?_
                            refine lv_icmp_ge (tgt := 151) hx hb dn_d_Mod_judged_114 (by decide) (fun h114_3 => ?_) (fun h114_3 => ?_)
                            · exact absurd h114_3 (by decide)
                            · -- 114: ¬ 3 ≤ 2
                              refine lv_iload_n hx hb dn_d_Mod_judged_117 rfl (lv_at hl 1 rfl) ?_
                              refine lv_if_eq (tgt := 143) hx hb dn_d_Mod_judged_118 (by decide) (fun h118_3 => ?_) (fun h118_3 => ?_)
                              · exact absurd h118_3 (by decide)
                              · -- 118: ¬ 1 = 0
                                refine lv_aload_n hx hb dn_d_Mod_judged_121 rfl (lv_at hl 3 rfl) ?_
                                refine va_get (D := G) (ci := 9) (v := .ref mg) (C := dn_R_Mod) (T := dn_T_Mod) (N := 34) hx hb hts (dn_u_Mod) hown hK hP 3 rfl rfl 27 (by decide) (hts _ dn_w_885) (fun _ h9 => h9) rfl dn_d_Mod_judged_122 ?_
                                refine lv_bipush (v := 20) hx hb dn_d_Mod_judged_125 (by decide) ?_
                                refine lv_iload_n hx hb dn_d_Mod_judged_127 rfl (lv_at hl 0 rfl) ?_
                                refine lv_iadd hx hb dn_d_Mod_judged_128 ?_
                                rw [show (20 : Int32) + (2 : Int32) = (22 : Int32) from rfl]
                                refine dc_lald (k := 22) hx hb hK hP 7 rfl (by omega) (by omega) dn_d_Mod_judged_129 ?_
                                refine lv_aload_n hx hb dn_d_Mod_judged_130 rfl (lv_at hl 3 rfl) ?_
                                refine lv_iload_n hx hb dn_d_Mod_judged_131 rfl (lv_at hl 0 rfl) ?_
                                refine vp_callSl (va_Run.run (va_runV (b := mo) (As := [.int 2]) (rest := [.long (GF 22)]) ⟨hx, hb, hml, hown, hts⟩ (rr_printed l G cA mo mf m1 m2 so se sm sc sv ak cw dn an m3 m4 m5 sk m6 m7 m8 m9 t ma mb mc ee em ec mg mz gn c mr mi th fv fd 2 (by first | assumption | omega)) ⟨(callB_of 1 hts (dc_good dn_w_1123) rfl rfl rfl (hts _ dn_w_12) (hts _ dn_w_1120) (by decide +kernel) ⟨Nat.le_of_ble_eq_true rfl, Nat.le_of_ble_eq_true rfl⟩), (hts _ dn_w_1122), (hts _ dn_s_Mod_printed)⟩ (dc_preVR (hP.sub [3, 0, 1] rfl) hK0 (q0 := 0) rfl rfl) rfl rfl hl.1 rfl (lv_room (Nat.le_of_ble_eq_true rfl)) dn_d_Mod_judged_132 ⟨Nat.le_of_ble_eq_true rfl, Nat.le_of_ble_eq_true rfl⟩)) (fun r9 hr9 => ?_)
                                subst hr9
                                refine W.lcmp hx hb dn_d_Mod_judged_135 ?_
                                refine lv_if_ne (tgt := 143) hx hb dn_d_Mod_judged_136 (by decide) (fun h136_3 => ?_) (fun h136_3 => ?_)
                                · -- 136: ¬ (GF 22) = (dc_word fv fd 2)
                                  have h136_3 : ¬ (GF 22) = (dc_word fv fd 2) := fun z => h136_3 ((lg_cmp_eq (GF 22) (dc_word fv fd 2)).2 z)
                                  refine lv_iconst (v := 0) hx hb dn_d_Mod_judged_143 (by decide) ?_
                                  refine lv_istore_n hx hb dn_d_Mod_judged_144 rfl hl (by decide) rfl (fun ls hl => ?_)
                                  have hl : lv_has ls 4 [(2, .int 0), (3, .int 2), (1, .int (dc_sgn GF fn fo fe sk)), (0, .ref mo)] := hl
                                  refine lv_iinc (k := 1) (v := 3) hx hb dn_d_Mod_judged_145 hl rfl rfl (by decide) rfl (fun ls hl => ?_)
                                  have hl : lv_has ls 4 [(3, .int 3), (2, .int 0), (1, .int (dc_sgn GF fn fo fe sk)), (0, .ref mo)] := hl
                                  refine lv_goto (tgt := 112) hx hb dn_d_Mod_judged_148 (by decide) ?_
                                  refine lv_iload_n hx hb dn_d_Mod_judged_112 rfl (lv_at hl 0 rfl) ?_
                                  refine lv_iconst (v := 3) hx hb dn_d_Mod_judged_113 (by decide) ?_
                                  refine lv_icmp_ge (tgt := 151) hx hb dn_d_Mod_judged_114 (by decide) (fun h114_4 => ?_) (fun h114_4 => ?_)
                                  · -- 114: 3 ≤ 3
                                    refine lv_iload_n hx hb dn_d_Mod_judged_151 rfl (lv_at hl 1 rfl) ?_
                                    refine lv_if_eq (tgt := 159) hx hb dn_d_Mod_judged_152 (by decide) (fun h152 => ?_) (fun h152 => ?_)
                                    · -- 152: 0 = 0
                                      refine lv_bipush (v := 10) hx hb dn_d_Mod_judged_159 (by decide) ?_
                                      have hP9 := hP.sub (ws' := [(mo, .inr (9, [.ref mf, .ref m1, .ref m2, .int (dc_bI so), .long se, .long sm, .long sc, .int (dc_dn sv), .int (dc_bI ak), .long cw, .int dn, .int (nI an), .ref m3, .ref m4, .ref m5, .int (nI sk), .ref m6, .ref m7, .ref m8, .ref m9, .int (nI t), .ref ma, .ref mb, .ref mc, .long ee, .long em, .long ec, .ref mg, .ref mz, .int (dc_bI gn), .int c, .ref mr, .ref mi, .int th])), (m4, .inl (cA 0, 3, .inl fv)), (m5, .inl (cA 0, 3, .inl fd)), (m6, .inl (cA 1, 4, .inr (.inl fn))), (m7, .inl (cA 0, 4, .inl fo)), (m8, .inl (cA 0, 4, .inl fe)), (mg, .inl (cA 1, 80, .inr (.inl GF))), (mz, .inl (cA 0, 4, .inl gz)), (mr, .inl (cA 1, 24, .inr (.inl q3)))]) [3, 0, 1, 4, 5, 6, 7, 2, 8] rfl
                                      have hD9 := hD.sub (ws' := [(mo, .inr (9, [.ref mf, .ref m1, .ref m2, .int (dc_bI so), .long se, .long sm, .long sc, .int (dc_dn sv), .int (dc_bI ak), .long cw, .int dn, .int (nI an), .ref m3, .ref m4, .ref m5, .int (nI sk), .ref m6, .ref m7, .ref m8, .ref m9, .int (nI t), .ref ma, .ref mb, .ref mc, .long ee, .long em, .long ec, .ref mg, .ref mz, .int (dc_bI gn), .int c, .ref mr, .ref mi, .int th])), (m4, .inl (cA 0, 3, .inl fv)), (m5, .inl (cA 0, 3, .inl fd)), (m6, .inl (cA 1, 4, .inr (.inl fn))), (m7, .inl (cA 0, 4, .inl fo)), (m8, .inl (cA 0, 4, .inl fe)), (mg, .inl (cA 1, 80, .inr (.inl GF))), (mz, .inl (cA 0, 4, .inl gz)), (mr, .inl (cA 1, 24, .inr (.inl q3)))]) [3, 0, 1, 4, 5, 6, 7, 2, 8] (by decide) rfl
                                      exact W.iret (v := 10) hx hb hr (fun t ht hW => ⟨⟨_, q3, rfl, (by rw [dc_jdE hF]; unfold dc_jd; rw [if_pos ⟨h7, h20, h30⟩, if_pos ⟨h55, h77⟩, if_pos h89, if_neg (fun z9 => h136_3 z9.2.2.2)]), by rw [ht]; exact hP9, hD9⟩, hS.F ht⟩) hS.2.2 dn_d_Mod_judged_161
                                    · exact absurd h152 (by decide)
                                  · exact absurd h114_4 (by decide)
                                · -- 136: (GF 22) = (dc_word fv fd 2)
                                  have h136_3 : (GF 22) = (dc_word fv fd 2) := (lg_cmp_eq (GF 22) (dc_word fv fd 2)).1 h136_3
                                  refine lv_iconst (v := 1) hx hb dn_d_Mod_judged_139 (by decide) ?_
                                  refine lv_goto (tgt := 144) hx hb dn_d_Mod_judged_140 (by decide) ?_
                                  refine lv_istore_n hx hb dn_d_Mod_judged_144 rfl hl (by decide) rfl (fun ls hl => ?_)
                                  have hl : lv_has ls 4 [(2, .int 1), (3, .int 2), (1, .int (dc_sgn GF fn fo fe sk)), (0, .ref mo)] := hl
                                  refine lv_iinc (k := 1) (v := 3) hx hb dn_d_Mod_judged_145 hl rfl rfl (by decide) rfl (fun ls hl => ?_)
                                  have hl : lv_has ls 4 [(3, .int 3), (2, .int 1), (1, .int (dc_sgn GF fn fo fe sk)), (0, .ref mo)] := hl
                                  refine lv_goto (tgt := 112) hx hb dn_d_Mod_judged_148 (by decide) ?_
                                  refine lv_iload_n hx hb dn_d_Mod_judged_112 rfl (lv_at hl 0 rfl) ?_
                                  refine lv_iconst (v := 3) hx hb dn_d_Mod_judged_113 (by decide) ?_
                                  refine lv_icmp_ge (tgt := 151) hx hb dn_d_Mod_judged_114 (by decide) (fun h114_4 => ?_) (fun h114_4 => ?_)
                                  · -- 114: 3 ≤ 3
                                    refine lv_iload_n hx hb dn_d_Mod_judged_151 rfl (lv_at hl 1 rfl) ?_
                                    refine lv_if_eq (tgt := 159) hx hb dn_d_Mod_judged_152 (by decide) (fun h152 => ?_) (fun h152 => ?_)
                                    · exact absurd h152 (by decide)
                                    · -- 152: ¬ 1 = 0
                                      refine lv_iconst (v := 0) hx hb dn_d_Mod_judged_155 (by decide) ?_
                                      refine lv_goto (tgt := 161) hx hb dn_d_Mod_judged_156 (by decide) ?_
                                      have hP9 := hP.sub (ws' := [(mo, .inr (9, [.ref mf, .ref m1, .ref m2, .int (dc_bI so), .long se, .long sm, .long sc, .int (dc_dn sv), .int (dc_bI ak), .long cw, .int dn, .int (nI an), .ref m3, .ref m4, .ref m5, .int (nI sk), .ref m6, .ref m7, .ref m8, .ref m9, .int (nI t), .ref ma, .ref mb, .ref mc, .long ee, .long em, .long ec, .ref mg, .ref mz, .int (dc_bI gn), .int c, .ref mr, .ref mi, .int th])), (m4, .inl (cA 0, 3, .inl fv)), (m5, .inl (cA 0, 3, .inl fd)), (m6, .inl (cA 1, 4, .inr (.inl fn))), (m7, .inl (cA 0, 4, .inl fo)), (m8, .inl (cA 0, 4, .inl fe)), (mg, .inl (cA 1, 80, .inr (.inl GF))), (mz, .inl (cA 0, 4, .inl gz)), (mr, .inl (cA 1, 24, .inr (.inl q3)))]) [3, 0, 1, 4, 5, 6, 7, 2, 8] rfl
                                      have hD9 := hD.sub (ws' := [(mo, .inr (9, [.ref mf, .ref m1, .ref m2, .int (dc_bI so), .long se, .long sm, .long sc, .int (dc_dn sv), .int (dc_bI ak), .long cw, .int dn, .int (nI an), .ref m3, .ref m4, .ref m5, .int (nI sk), .ref m6, .ref m7, .ref m8, .ref m9, .int (nI t), .ref ma, .ref mb, .ref mc, .long ee, .long em, .long ec, .ref mg, .ref mz, .int (dc_bI gn), .int c, .ref mr, .ref mi, .int th])), (m4, .inl (cA 0, 3, .inl fv)), (m5, .inl (cA 0, 3, .inl fd)), (m6, .inl (cA 1, 4, .inr (.inl fn))), (m7, .inl (cA 0, 4, .inl fo)), (m8, .inl (cA 0, 4, .inl fe)), (mg, .inl (cA 1, 80, .inr (.inl GF))), (mz, .inl (cA 0, 4, .inl gz)), (mr, .inl (cA 1, 24, .inr (.inl q3)))]) [3, 0, 1, 4, 5, 6, 7, 2, 8] (by decide) rfl
                                      exact W.iret (v := 0) hx hb hr (fun t ht hW => ⟨⟨_, q3, rfl, (by rw [dc_jdE hF]; unfold dc_jd; rw [if_pos ⟨h7, h20, h30⟩, if_pos ⟨h55, h77⟩, if_pos h89, if_pos ⟨h101, h136, h136_2, h136_3⟩]), by rw [ht]; exact hP9, hD9⟩, hS.F ht⟩) hS.2.2 dn_d_Mod_judged_161
                                  · exact absurd h114_4 (by decide)
            · -- 89: ¬ (dc_sgn GF fn fo fe sk) = 0
              refine lv_iload_n hx hb dn_d_Mod_judged_92 rfl (lv_at hl 0 rfl) ?_
              have hP9 := hP.sub (ws' := [(mo, .inr (9, [.ref mf, .ref m1, .ref m2, .int (dc_bI so), .long se, .long sm, .long sc, .int (dc_dn sv), .int (dc_bI ak), .long cw, .int dn, .int (nI an), .ref m3, .ref m4, .ref m5, .int (nI sk), .ref m6, .ref m7, .ref m8, .ref m9, .int (nI t), .ref ma, .ref mb, .ref mc, .long ee, .long em, .long ec, .ref mg, .ref mz, .int (dc_bI gn), .int c, .ref mr, .ref mi, .int th])), (m4, .inl (cA 0, 3, .inl fv)), (m5, .inl (cA 0, 3, .inl fd)), (m6, .inl (cA 1, 4, .inr (.inl fn))), (m7, .inl (cA 0, 4, .inl fo)), (m8, .inl (cA 0, 4, .inl fe)), (mg, .inl (cA 1, 80, .inr (.inl GF))), (mz, .inl (cA 0, 4, .inl gz)), (mr, .inl (cA 1, 24, .inr (.inl q3)))]) [3, 0, 1, 4, 5, 6, 7, 2, 8] rfl
              have hD9 := hD.sub (ws' := [(mo, .inr (9, [.ref mf, .ref m1, .ref m2, .int (dc_bI so), .long se, .long sm, .long sc, .int (dc_dn sv), .int (dc_bI ak), .long cw, .int dn, .int (nI an), .ref m3, .ref m4, .ref m5, .int (nI sk), .ref m6, .ref m7, .ref m8, .ref m9, .int (nI t), .ref ma, .ref mb, .ref mc, .long ee, .long em, .long ec, .ref mg, .ref mz, .int (dc_bI gn), .int c, .ref mr, .ref mi, .int th])), (m4, .inl (cA 0, 3, .inl fv)), (m5, .inl (cA 0, 3, .inl fd)), (m6, .inl (cA 1, 4, .inr (.inl fn))), (m7, .inl (cA 0, 4, .inl fo)), (m8, .inl (cA 0, 4, .inl fe)), (mg, .inl (cA 1, 80, .inr (.inl GF))), (mz, .inl (cA 0, 4, .inl gz)), (mr, .inl (cA 1, 24, .inr (.inl q3)))]) [3, 0, 1, 4, 5, 6, 7, 2, 8] (by decide) rfl
              exact W.iret (v := (dc_sgn GF fn fo fe sk)) hx hb hr (fun t ht hW => ⟨⟨_, q3, rfl, (by rw [dc_jdE hF]; unfold dc_jd; rw [if_pos ⟨h7, h20, h30⟩, if_pos ⟨h55, h77⟩, if_neg h89]), by rw [ht]; exact hP9, hD9⟩, hS.F ht⟩) hS.2.2 dn_d_Mod_judged_93
          · -- 77: ¬ (dc_digN (fun p => GF (20 * 2 + p)) y2) = (GF 61)
            have h77 : ¬ (dc_digN (fun p => GF (20 * 2 + p)) y2) = (GF 61) := fun z => h77 ((lg_cmp_eq (dc_digN (fun p => GF (20 * 2 + p)) y2) (GF 61)).2 z)
            refine lv_bipush (v := 7) hx hb dn_d_Mod_judged_80 (by decide) ?_
            have hP9 := hP.sub (ws' := [(mo, .inr (9, [.ref mf, .ref m1, .ref m2, .int (dc_bI so), .long se, .long sm, .long sc, .int (dc_dn sv), .int (dc_bI ak), .long cw, .int dn, .int (nI an), .ref m3, .ref m4, .ref m5, .int (nI sk), .ref m6, .ref m7, .ref m8, .ref m9, .int (nI t), .ref ma, .ref mb, .ref mc, .long ee, .long em, .long ec, .ref mg, .ref mz, .int (dc_bI gn), .int c, .ref mr, .ref mi, .int th])), (m4, .inl (cA 0, 3, .inl fv)), (m5, .inl (cA 0, 3, .inl fd)), (m6, .inl (cA 1, 4, .inr (.inl fn))), (m7, .inl (cA 0, 4, .inl fo)), (m8, .inl (cA 0, 4, .inl fe)), (mg, .inl (cA 1, 80, .inr (.inl GF))), (mz, .inl (cA 0, 4, .inl gz)), (mr, .inl (cA 1, 24, .inr (.inl q2)))]) [6, 0, 1, 2, 3, 4, 7, 5, 8] rfl
            have hD9 := hD.sub (ws' := [(mo, .inr (9, [.ref mf, .ref m1, .ref m2, .int (dc_bI so), .long se, .long sm, .long sc, .int (dc_dn sv), .int (dc_bI ak), .long cw, .int dn, .int (nI an), .ref m3, .ref m4, .ref m5, .int (nI sk), .ref m6, .ref m7, .ref m8, .ref m9, .int (nI t), .ref ma, .ref mb, .ref mc, .long ee, .long em, .long ec, .ref mg, .ref mz, .int (dc_bI gn), .int c, .ref mr, .ref mi, .int th])), (m4, .inl (cA 0, 3, .inl fv)), (m5, .inl (cA 0, 3, .inl fd)), (m6, .inl (cA 1, 4, .inr (.inl fn))), (m7, .inl (cA 0, 4, .inl fo)), (m8, .inl (cA 0, 4, .inl fe)), (mg, .inl (cA 1, 80, .inr (.inl GF))), (mz, .inl (cA 0, 4, .inl gz)), (mr, .inl (cA 1, 24, .inr (.inl q2)))]) [6, 0, 1, 2, 3, 4, 7, 5, 8] (by decide) rfl
            exact W.iret (v := 7) hx hb hr (fun t ht hW => ⟨⟨_, q2, rfl, (by rw [dc_jdE hF]; unfold dc_jd; rw [if_pos ⟨h7, h20, h30⟩, if_neg (fun z9 => h77 z9.2)]), by rw [ht]; exact hP9, hD9⟩, hS.F ht⟩) hS.2.2 dn_d_Mod_judged_82
      · -- 30: ¬ y3 = 4
        have h30 : ¬ y3 = 4 := fun z => h30 ((nI_eq (a := y3) (b := 4) (by omega) (by omega)).2 z)
        refine lv_bipush (v := 6) hx hb dn_d_Mod_judged_33 (by decide) ?_
        have hP9 := hP.sub (ws' := [(mo, .inr (9, [.ref mf, .ref m1, .ref m2, .int (dc_bI so), .long se, .long sm, .long sc, .int (dc_dn sv), .int (dc_bI ak), .long cw, .int dn, .int (nI an), .ref m3, .ref m4, .ref m5, .int (nI sk), .ref m6, .ref m7, .ref m8, .ref m9, .int (nI t), .ref ma, .ref mb, .ref mc, .long ee, .long em, .long ec, .ref mg, .ref mz, .int (dc_bI gn), .int c, .ref mr, .ref mi, .int th])), (m4, .inl (cA 0, 3, .inl fv)), (m5, .inl (cA 0, 3, .inl fd)), (m6, .inl (cA 1, 4, .inr (.inl fn))), (m7, .inl (cA 0, 4, .inl fo)), (m8, .inl (cA 0, 4, .inl fe)), (mg, .inl (cA 1, 80, .inr (.inl GF))), (mz, .inl (cA 0, 4, .inl gz)), (mr, .inl (cA 1, 24, .inr (.inl rw)))]) [0, 1, 2, 3, 4, 5, 6, 7, 8] rfl
        have hD9 := hD.sub (ws' := [(mo, .inr (9, [.ref mf, .ref m1, .ref m2, .int (dc_bI so), .long se, .long sm, .long sc, .int (dc_dn sv), .int (dc_bI ak), .long cw, .int dn, .int (nI an), .ref m3, .ref m4, .ref m5, .int (nI sk), .ref m6, .ref m7, .ref m8, .ref m9, .int (nI t), .ref ma, .ref mb, .ref mc, .long ee, .long em, .long ec, .ref mg, .ref mz, .int (dc_bI gn), .int c, .ref mr, .ref mi, .int th])), (m4, .inl (cA 0, 3, .inl fv)), (m5, .inl (cA 0, 3, .inl fd)), (m6, .inl (cA 1, 4, .inr (.inl fn))), (m7, .inl (cA 0, 4, .inl fo)), (m8, .inl (cA 0, 4, .inl fe)), (mg, .inl (cA 1, 80, .inr (.inl GF))), (mz, .inl (cA 0, 4, .inl gz)), (mr, .inl (cA 1, 24, .inr (.inl rw)))]) [0, 1, 2, 3, 4, 5, 6, 7, 8] (by decide) rfl
        exact W.iret (v := 6) hx hb hr (fun t ht hW => ⟨⟨_, rw, rfl, (by rw [dc_jdE hF]; unfold dc_jd; rw [if_neg (fun z9 => h30 z9.2.2)]), by rw [ht]; exact hP9, hD9⟩, hS.F ht⟩) hS.2.2 dn_d_Mod_judged_35
